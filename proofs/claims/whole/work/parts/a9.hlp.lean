/-! ===== the law's helpers ===== -/
/-- two classes that aren't the third -/
def p_Zn (G : p_G) : Prop := ∀ s, p_S G s → va_Nc "java/lang/IllegalStateException" "java/lang/IndexOutOfBoundsException" s ∧ va_Nc "java/lang/IllegalArgumentException" "java/lang/IndexOutOfBoundsException" s
def cvI : Value → Option Int64 := fun v => match v with
  | .int x => some x.toInt64
  | _ => none
def cvZ : Value → Option Int64 := fun v => match v with
  | .int x => some (if x = 0 then 0 else 1)
  | _ => none
def cvJ : Value → Option Int64 := fun v => match v with
  | .long x => some x
  | _ => none
theorem v01 : vp_in 0 1 := by
  unfold vp_in
  decide
/-- what a helper makes of an end: 0 and the answer in its row, or the place of what was thrown -/
def p_HI (P : p_P) (out : Nat) (cv : Value → Option Int64) (Es : List String) : p_P := fun o h => match o with
  | .inl none => False
  | .inl (some v) => ∃ z f, cv v = some z ∧ h out = some (.inl (1, (1, .inr (.inl f)))) ∧ P (.inl (some (.int 0))) (p_up h out (.inl (1, (1, .inr (.inl (vp_updL f (0 : Int32).toNatClampNeg z))))))
  | .inr E => ∃ j, Es[j]? = some E ∧ P (.inl (some (.int (Int32.ofNat (j + 1))))) h
/-- the same for an answer of kind double -/
def p_HD (P : p_P) (out : Nat) (Es : List String) : p_P := fun o h => match o with
  | .inl (some (.double z)) => ∃ f, h out = some (.inl (4, (1, .inr (.inr (.inr (.inl f)))))) ∧ P (.inl (some (.int 0))) (p_up h out (.inl (4, (1, .inr (.inr (.inr (.inl (vf_upd f (0 : Int32).toNatClampNeg z))))))))
  | .inl _ => False
  | .inr E => ∃ j, Es[j]? = some E ∧ P (.inl (some (.int (Int32.ofNat (j + 1))))) h
theorem SMX.of2 {hh : List (Nat × Nat × Nat × Nat)} {G : p_G} {M : p_M} {P : p_P} {d k n : Nat} {h : p_H} {L : p_LL} {As : List Value} {na : Nat} (hc : p_cfX hh M na) (hL : p_ini As M.2.2.1 = L) (hl : (lg_sl As).length ≤ M.2.2.1) (kk : SX hh G M P d k n h 0 L []) : SMX hh G M h As d k n P := SMX.of hc hl (fun i v hi => p_ini_at (by rw [hL]; exact hi)) kk
theorem kL_13 : Cond.classLink RL 13 "java/lang/IllegalArgumentException" ∈ p_ws := p_in (p_t3 (List.mem_of_getElem? (i := 233) (by decide +kernel))) rfl
theorem kL_18 : Cond.classLink RL 18 "java/lang/IndexOutOfBoundsException" ∈ p_ws := p_in (p_t4 (List.mem_of_getElem? (i := 69) (by decide +kernel))) rfl
theorem kL_26 : Cond.classLink RL 26 "java/lang/IllegalStateException" ∈ p_ws := p_in (p_t4 (List.mem_of_getElem? (i := 118) (by decide +kernel))) rfl
theorem kL_49 : Cond.classLink RL 49 "java/util/NoSuchElementException" ∈ p_ws := p_in (p_t4 (List.mem_of_getElem? (i := 220) (by decide +kernel))) rfl
theorem ca_IllegalArgumentException : Cond.castable "java/lang/IllegalArgumentException" "java/lang/IllegalArgumentException" ∈ lw_tbl := p_t4 (List.mem_of_getElem? (i := 0) (by decide +kernel))
theorem ca_IndexOutOfBoundsException : Cond.castable "java/lang/IndexOutOfBoundsException" "java/lang/IndexOutOfBoundsException" ∈ lw_tbl := p_t4 (List.mem_of_getElem? (i := 79) (by decide +kernel))
theorem ca_IllegalStateException : Cond.castable "java/lang/IllegalStateException" "java/lang/IllegalStateException" ∈ lw_tbl := p_t4 (List.mem_of_getElem? (i := 125) (by decide +kernel))
theorem ca_NoSuchElementException : Cond.castable "java/util/NoSuchElementException" "java/util/NoSuchElementException" ∈ lw_tbl := p_t4 (List.mem_of_getElem? (i := 227) (by decide +kernel))
section A9
variable {G : p_G} {P : p_P} {d mc ms : Nat} {h : p_H} {x out : Nat} {fs : List Value}
abbrev mL_truncateInput : p_M := (yL_truncateInput, cL_truncateInput, 4, some .int)
theorem cfL_truncateInput : p_cfX [(0, 9, 12, 13)] mL_truncateInput 3 := ⟨p_in (p_t3 (List.mem_of_getElem? (i := 232) rfl)) rfl, p_in (p_t1 (List.mem_of_getElem? (i := 0) (by decide +kernel))) rfl, ⟨by decide +kernel, by decide +kernel⟩, by decide +kernel, by decide, by decide +kernel⟩
theorem stL_truncateInput : Cond.static yL_truncateInput ∈ p_ws := p_in (p_t3 (List.mem_of_getElem? (i := 231) (by decide +kernel))) rfl
theorem h_truncateInput {p0 : Int32} (hx : h x = some (.inr (10, fs))) (kk : SM G mX10_truncateInput h [.ref x, .int p0] d mc ms (p_HI P out cvI ["java/lang/IllegalArgumentException"])) : SMX [(0, 9, 12, 13)] G mL_truncateInput h [.ref x, .int p0, .ref out] (d + 1) mc ms P := by
  refine SMX.of2 (L := [some (.ref x), some (.int p0), some (.ref out), none]) cfL_truncateInput rfl (Nat.le_of_ble_eq_true rfl) ?_
  refine x_aload_n dL_truncateInput_0 rfl ?_
  refine x_iconst (v := 0) dL_truncateInput_1 rfl ?_
  refine x_aload_n dL_truncateInput_2 rfl ?_
  refine x_iload_n dL_truncateInput_3 rfl ?_
  refine x_callV (As := [.int p0]) (mc := mc) (ms := ms) (k' := 0) (n' := 0) dL_truncateInput_4 cfX10_truncateInput imX10_truncateInput seX10_truncateInput lL_7 hx rfl rfl rfl rfl (Nat.le_of_ble_eq_true rfl) rfl rfl ?_
  refine kk.mono (fun o h' hq => ?_)
  rcases o with (_ | v) | E'
  · exact hq.elim
  · cases v with
    | long z => obtain ⟨_, _, e, _⟩ := hq; cases e
    | float z => obtain ⟨_, _, e, _⟩ := hq; cases e
    | double z => obtain ⟨_, _, e, _⟩ := hq; cases e
    | null => obtain ⟨_, _, e, _⟩ := hq; cases e
    | ref z => obtain ⟨_, _, e, _⟩ := hq; cases e
    | retAddr z => obtain ⟨_, _, e, _⟩ := hq; cases e
    | int v =>
      obtain ⟨z, f, e, ho, hP⟩ := hq
      obtain rfl := Option.some.inj e
      refine (show SX _ G mL_truncateInput P (d + 1) 0 0 h' 7 [some (.ref x), some (.int p0), some (.ref out), none] [.int v, .int 0, .ref out] from ?_)
      refine x_i2l dL_truncateInput_7 ?_
      refine x_lastore dL_truncateInput_8 ho v01 ?_
      refine x_goto (tgt := 15) dL_truncateInput_9 (by decide) ?_
      refine x_iconst (v := 0) dL_truncateInput_15 rfl ?_
      exact x_ireturn dL_truncateInput_16 rfl rfl hP
  · obtain ⟨j, hE, hP⟩ := hq
    match j, hE with
    | 0, hE =>
      obtain rfl := Option.some.inj hE
      refine ⟨12, ⟨[], ⟨0, 9, 12, 13⟩, _, rfl, (fun z hz => nomatch hz), rfl, by decide, rfl, _, kL_13, ca_IllegalArgumentException⟩, fun q => ?_⟩
      refine x_astore_n dL_truncateInput_12 (L' := [some _, some _, some _, some _]) (by decide) rfl ?_
      refine x_iconst (v := 1) dL_truncateInput_13 rfl ?_
      exact x_ireturn dL_truncateInput_14 rfl rfl hP
    | j + 1, hE => cases hE
abbrev mL_compile : p_M := (yL_compile, cL_compile, 4, some .int)
theorem cfL_compile : p_cfX [(0, 9, 12, 18)] mL_compile 3 := ⟨p_in (p_t4 (List.mem_of_getElem? (i := 68) rfl)) rfl, p_in (p_t1 (List.mem_of_getElem? (i := 0) (by decide +kernel))) rfl, ⟨by decide +kernel, by decide +kernel⟩, by decide +kernel, by decide, by decide +kernel⟩
theorem stL_compile : Cond.static yL_compile ∈ p_ws := p_in (p_t4 (List.mem_of_getElem? (i := 67) (by decide +kernel))) rfl
theorem h_compile {p0 : Int32} (hx : h x = some (.inr (10, fs))) (kk : SM G mX10_compile h [.ref x, .int p0] d mc ms (p_HI P out cvI ["java/lang/IndexOutOfBoundsException"])) : SMX [(0, 9, 12, 18)] G mL_compile h [.ref x, .int p0, .ref out] (d + 1) mc ms P := by
  refine SMX.of2 (L := [some (.ref x), some (.int p0), some (.ref out), none]) cfL_compile rfl (Nat.le_of_ble_eq_true rfl) ?_
  refine x_aload_n dL_compile_0 rfl ?_
  refine x_iconst (v := 0) dL_compile_1 rfl ?_
  refine x_aload_n dL_compile_2 rfl ?_
  refine x_iload_n dL_compile_3 rfl ?_
  refine x_callV (As := [.int p0]) (mc := mc) (ms := ms) (k' := 0) (n' := 0) dL_compile_4 cfX10_compile imX10_compile seX10_compile lL_15 hx rfl rfl rfl rfl (Nat.le_of_ble_eq_true rfl) rfl rfl ?_
  refine kk.mono (fun o h' hq => ?_)
  rcases o with (_ | v) | E'
  · exact hq.elim
  · cases v with
    | long z => obtain ⟨_, _, e, _⟩ := hq; cases e
    | float z => obtain ⟨_, _, e, _⟩ := hq; cases e
    | double z => obtain ⟨_, _, e, _⟩ := hq; cases e
    | null => obtain ⟨_, _, e, _⟩ := hq; cases e
    | ref z => obtain ⟨_, _, e, _⟩ := hq; cases e
    | retAddr z => obtain ⟨_, _, e, _⟩ := hq; cases e
    | int v =>
      obtain ⟨z, f, e, ho, hP⟩ := hq
      obtain rfl := Option.some.inj e
      refine (show SX _ G mL_compile P (d + 1) 0 0 h' 7 [some (.ref x), some (.int p0), some (.ref out), none] [.int v, .int 0, .ref out] from ?_)
      refine x_i2l dL_compile_7 ?_
      refine x_lastore dL_compile_8 ho v01 ?_
      refine x_goto (tgt := 15) dL_compile_9 (by decide) ?_
      refine x_iconst (v := 0) dL_compile_15 rfl ?_
      exact x_ireturn dL_compile_16 rfl rfl hP
  · obtain ⟨j, hE, hP⟩ := hq
    match j, hE with
    | 0, hE =>
      obtain rfl := Option.some.inj hE
      refine ⟨12, ⟨[], ⟨0, 9, 12, 18⟩, _, rfl, (fun z hz => nomatch hz), rfl, by decide, rfl, _, kL_18, ca_IndexOutOfBoundsException⟩, fun q => ?_⟩
      refine x_astore_n dL_compile_12 (L' := [some _, some _, some _, some _]) (by decide) rfl ?_
      refine x_iconst (v := 1) dL_compile_13 rfl ?_
      exact x_ireturn dL_compile_14 rfl rfl hP
    | j + 1, hE => cases hE
abbrev mL_copyPattern : p_M := (yL_copyPattern, cL_copyPattern, 4, some .int)
theorem cfL_copyPattern : p_cfX [(0, 9, 12, 18)] mL_copyPattern 3 := ⟨p_in (p_t4 (List.mem_of_getElem? (i := 107) rfl)) rfl, p_in (p_t1 (List.mem_of_getElem? (i := 0) (by decide +kernel))) rfl, ⟨by decide +kernel, by decide +kernel⟩, by decide +kernel, by decide, by decide +kernel⟩
theorem stL_copyPattern : Cond.static yL_copyPattern ∈ p_ws := p_in (p_t4 (List.mem_of_getElem? (i := 106) (by decide +kernel))) rfl
theorem h_copyPattern {p0 : Int32} (hx : h x = some (.inr (10, fs))) (kk : SM G mX10_copyPattern h [.ref x, .int p0] d mc ms (p_HI P out cvI ["java/lang/IndexOutOfBoundsException"])) : SMX [(0, 9, 12, 18)] G mL_copyPattern h [.ref x, .int p0, .ref out] (d + 1) mc ms P := by
  refine SMX.of2 (L := [some (.ref x), some (.int p0), some (.ref out), none]) cfL_copyPattern rfl (Nat.le_of_ble_eq_true rfl) ?_
  refine x_aload_n dL_copyPattern_0 rfl ?_
  refine x_iconst (v := 0) dL_copyPattern_1 rfl ?_
  refine x_aload_n dL_copyPattern_2 rfl ?_
  refine x_iload_n dL_copyPattern_3 rfl ?_
  refine x_callV (As := [.int p0]) (mc := mc) (ms := ms) (k' := 0) (n' := 0) dL_copyPattern_4 cfX10_copyPattern imX10_copyPattern seX10_copyPattern lL_20 hx rfl rfl rfl rfl (Nat.le_of_ble_eq_true rfl) rfl rfl ?_
  refine kk.mono (fun o h' hq => ?_)
  rcases o with (_ | v) | E'
  · exact hq.elim
  · cases v with
    | long z => obtain ⟨_, _, e, _⟩ := hq; cases e
    | float z => obtain ⟨_, _, e, _⟩ := hq; cases e
    | double z => obtain ⟨_, _, e, _⟩ := hq; cases e
    | null => obtain ⟨_, _, e, _⟩ := hq; cases e
    | ref z => obtain ⟨_, _, e, _⟩ := hq; cases e
    | retAddr z => obtain ⟨_, _, e, _⟩ := hq; cases e
    | int v =>
      obtain ⟨z, f, e, ho, hP⟩ := hq
      obtain rfl := Option.some.inj e
      refine (show SX _ G mL_copyPattern P (d + 1) 0 0 h' 7 [some (.ref x), some (.int p0), some (.ref out), none] [.int v, .int 0, .ref out] from ?_)
      refine x_i2l dL_copyPattern_7 ?_
      refine x_lastore dL_copyPattern_8 ho v01 ?_
      refine x_goto (tgt := 15) dL_copyPattern_9 (by decide) ?_
      refine x_iconst (v := 0) dL_copyPattern_15 rfl ?_
      exact x_ireturn dL_copyPattern_16 rfl rfl hP
  · obtain ⟨j, hE, hP⟩ := hq
    match j, hE with
    | 0, hE =>
      obtain rfl := Option.some.inj hE
      refine ⟨12, ⟨[], ⟨0, 9, 12, 18⟩, _, rfl, (fun z hz => nomatch hz), rfl, by decide, rfl, _, kL_18, ca_IndexOutOfBoundsException⟩, fun q => ?_⟩
      refine x_astore_n dL_copyPattern_12 (L' := [some _, some _, some _, some _]) (by decide) rfl ?_
      refine x_iconst (v := 1) dL_copyPattern_13 rfl ?_
      exact x_ireturn dL_copyPattern_14 rfl rfl hP
    | j + 1, hE => cases hE
abbrev mL_addWalker : p_M := (yL_addWalker, cL_addWalker, 4, some .int)
theorem cfL_addWalker : p_cfX [(0, 9, 12, 18), (0, 9, 15, 26)] mL_addWalker 3 := ⟨p_in (p_t4 (List.mem_of_getElem? (i := 117) rfl)) rfl, p_in (p_t1 (List.mem_of_getElem? (i := 0) (by decide +kernel))) rfl, ⟨by decide +kernel, by decide +kernel⟩, by decide +kernel, by decide, by decide +kernel⟩
theorem stL_addWalker : Cond.static yL_addWalker ∈ p_ws := p_in (p_t4 (List.mem_of_getElem? (i := 116) (by decide +kernel))) rfl
theorem h_addWalker {p0 : Int32} (hZn : p_Zn G) (hx : h x = some (.inr (10, fs))) (kk : SM G mX10_addWalker h [.ref x, .int p0] d mc ms (p_HI P out cvI ["java/lang/IndexOutOfBoundsException", "java/lang/IllegalStateException"])) : SMX [(0, 9, 12, 18), (0, 9, 15, 26)] G mL_addWalker h [.ref x, .int p0, .ref out] (d + 1) mc ms P := by
  refine SMX.of2 (L := [some (.ref x), some (.int p0), some (.ref out), none]) cfL_addWalker rfl (Nat.le_of_ble_eq_true rfl) ?_
  refine x_aload_n dL_addWalker_0 rfl ?_
  refine x_iconst (v := 0) dL_addWalker_1 rfl ?_
  refine x_aload_n dL_addWalker_2 rfl ?_
  refine x_iload_n dL_addWalker_3 rfl ?_
  refine x_callV (As := [.int p0]) (mc := mc) (ms := ms) (k' := 0) (n' := 0) dL_addWalker_4 cfX10_addWalker imX10_addWalker seX10_addWalker lL_23 hx rfl rfl rfl rfl (Nat.le_of_ble_eq_true rfl) rfl rfl ?_
  refine kk.mono (fun o h' hq => ?_)
  rcases o with (_ | v) | E'
  · exact hq.elim
  · cases v with
    | long z => obtain ⟨_, _, e, _⟩ := hq; cases e
    | float z => obtain ⟨_, _, e, _⟩ := hq; cases e
    | double z => obtain ⟨_, _, e, _⟩ := hq; cases e
    | null => obtain ⟨_, _, e, _⟩ := hq; cases e
    | ref z => obtain ⟨_, _, e, _⟩ := hq; cases e
    | retAddr z => obtain ⟨_, _, e, _⟩ := hq; cases e
    | int v =>
      obtain ⟨z, f, e, ho, hP⟩ := hq
      obtain rfl := Option.some.inj e
      refine (show SX _ G mL_addWalker P (d + 1) 0 0 h' 7 [some (.ref x), some (.int p0), some (.ref out), none] [.int v, .int 0, .ref out] from ?_)
      refine x_i2l dL_addWalker_7 ?_
      refine x_lastore dL_addWalker_8 ho v01 ?_
      refine x_goto (tgt := 18) dL_addWalker_9 (by decide) ?_
      refine x_iconst (v := 0) dL_addWalker_18 rfl ?_
      exact x_ireturn dL_addWalker_19 rfl rfl hP
  · obtain ⟨j, hE, hP⟩ := hq
    match j, hE with
    | 0, hE =>
      obtain rfl := Option.some.inj hE
      refine ⟨12, ⟨[], ⟨0, 9, 12, 18⟩, _, rfl, (fun z hz => nomatch hz), rfl, by decide, rfl, _, kL_18, ca_IndexOutOfBoundsException⟩, fun q => ?_⟩
      refine x_astore_n dL_addWalker_12 (L' := [some _, some _, some _, some _]) (by decide) rfl ?_
      refine x_iconst (v := 1) dL_addWalker_13 rfl ?_
      exact x_ireturn dL_addWalker_14 rfl rfl hP
    | 1, hE =>
      obtain rfl := Option.some.inj hE
      refine ⟨15, ⟨[⟨0, 9, 12, 18⟩], ⟨0, 9, 15, 26⟩, _, rfl, (fun z hz => Or.inr (by obtain rfl := List.mem_singleton.mp hz; exact ⟨by decide, _, kL_18, fun s hs => (hZn s hs).1⟩)), rfl, by decide, rfl, _, kL_26, ca_IllegalStateException⟩, fun q => ?_⟩
      refine x_astore_n dL_addWalker_15 (L' := [some _, some _, some _, some _]) (by decide) rfl ?_
      refine x_iconst (v := 2) dL_addWalker_16 rfl ?_
      exact x_ireturn dL_addWalker_17 rfl rfl hP
    | j + 2, hE => cases hE
abbrev mL_removeWalker : p_M := (yL_removeWalker, cL_removeWalker, 4, some .int)
theorem cfL_removeWalker : p_cfX [(0, 9, 12, 18)] mL_removeWalker 3 := ⟨p_in (p_t4 (List.mem_of_getElem? (i := 145) rfl)) rfl, p_in (p_t1 (List.mem_of_getElem? (i := 0) (by decide +kernel))) rfl, ⟨by decide +kernel, by decide +kernel⟩, by decide +kernel, by decide, by decide +kernel⟩
theorem stL_removeWalker : Cond.static yL_removeWalker ∈ p_ws := p_in (p_t4 (List.mem_of_getElem? (i := 144) (by decide +kernel))) rfl
theorem h_removeWalker {p0 : Int32} (hx : h x = some (.inr (10, fs))) (kk : SM G mX10_removeWalker h [.ref x, .int p0] d mc ms (p_HI P out cvI ["java/lang/IndexOutOfBoundsException"])) : SMX [(0, 9, 12, 18)] G mL_removeWalker h [.ref x, .int p0, .ref out] (d + 1) mc ms P := by
  refine SMX.of2 (L := [some (.ref x), some (.int p0), some (.ref out), none]) cfL_removeWalker rfl (Nat.le_of_ble_eq_true rfl) ?_
  refine x_aload_n dL_removeWalker_0 rfl ?_
  refine x_iconst (v := 0) dL_removeWalker_1 rfl ?_
  refine x_aload_n dL_removeWalker_2 rfl ?_
  refine x_iload_n dL_removeWalker_3 rfl ?_
  refine x_callV (As := [.int p0]) (mc := mc) (ms := ms) (k' := 0) (n' := 0) dL_removeWalker_4 cfX10_removeWalker imX10_removeWalker seX10_removeWalker lL_28 hx rfl rfl rfl rfl (Nat.le_of_ble_eq_true rfl) rfl rfl ?_
  refine kk.mono (fun o h' hq => ?_)
  rcases o with (_ | v) | E'
  · exact hq.elim
  · cases v with
    | long z => obtain ⟨_, _, e, _⟩ := hq; cases e
    | float z => obtain ⟨_, _, e, _⟩ := hq; cases e
    | double z => obtain ⟨_, _, e, _⟩ := hq; cases e
    | null => obtain ⟨_, _, e, _⟩ := hq; cases e
    | ref z => obtain ⟨_, _, e, _⟩ := hq; cases e
    | retAddr z => obtain ⟨_, _, e, _⟩ := hq; cases e
    | int v =>
      obtain ⟨z, f, e, ho, hP⟩ := hq
      obtain rfl := Option.some.inj e
      refine (show SX _ G mL_removeWalker P (d + 1) 0 0 h' 7 [some (.ref x), some (.int p0), some (.ref out), none] [.int v, .int 0, .ref out] from ?_)
      refine x_i2l dL_removeWalker_7 ?_
      refine x_lastore dL_removeWalker_8 ho v01 ?_
      refine x_goto (tgt := 15) dL_removeWalker_9 (by decide) ?_
      refine x_iconst (v := 0) dL_removeWalker_15 rfl ?_
      exact x_ireturn dL_removeWalker_16 rfl rfl hP
  · obtain ⟨j, hE, hP⟩ := hq
    match j, hE with
    | 0, hE =>
      obtain rfl := Option.some.inj hE
      refine ⟨12, ⟨[], ⟨0, 9, 12, 18⟩, _, rfl, (fun z hz => nomatch hz), rfl, by decide, rfl, _, kL_18, ca_IndexOutOfBoundsException⟩, fun q => ?_⟩
      refine x_astore_n dL_removeWalker_12 (L' := [some _, some _, some _, some _]) (by decide) rfl ?_
      refine x_iconst (v := 1) dL_removeWalker_13 rfl ?_
      exact x_ireturn dL_removeWalker_14 rfl rfl hP
    | j + 1, hE => cases hE
abbrev mL_step : p_M := (yL_step, cL_step, 5, some .int)
theorem cfL_step : p_cfX [(0, 10, 13, 18), (0, 10, 17, 26)] mL_step 4 := ⟨p_in (p_t4 (List.mem_of_getElem? (i := 165) rfl)) rfl, p_in (p_t1 (List.mem_of_getElem? (i := 0) (by decide +kernel))) rfl, ⟨by decide +kernel, by decide +kernel⟩, by decide +kernel, by decide, by decide +kernel⟩
theorem stL_step : Cond.static yL_step ∈ p_ws := p_in (p_t4 (List.mem_of_getElem? (i := 164) (by decide +kernel))) rfl
theorem h_step {p0 : Int32} {p1 : Int32} (hZn : p_Zn G) (hx : h x = some (.inr (10, fs))) (kk : SM G mX10_step h [.ref x, .int p0, .int p1] d mc ms (p_HI P out cvI ["java/lang/IndexOutOfBoundsException", "java/lang/IllegalStateException"])) : SMX [(0, 10, 13, 18), (0, 10, 17, 26)] G mL_step h [.ref x, .int p0, .int p1, .ref out] (d + 1) mc ms P := by
  refine SMX.of2 (L := [some (.ref x), some (.int p0), some (.int p1), some (.ref out), none]) cfL_step rfl (Nat.le_of_ble_eq_true rfl) ?_
  refine x_aload_n dL_step_0 rfl ?_
  refine x_iconst (v := 0) dL_step_1 rfl ?_
  refine x_aload_n dL_step_2 rfl ?_
  refine x_iload_n dL_step_3 rfl ?_
  refine x_iload_n dL_step_4 rfl ?_
  refine x_callV (As := [.int p0, .int p1]) (mc := mc) (ms := ms) (k' := 0) (n' := 0) dL_step_5 cfX10_step imX10_step seX10_step lL_31 hx rfl rfl rfl rfl (Nat.le_of_ble_eq_true rfl) rfl rfl ?_
  refine kk.mono (fun o h' hq => ?_)
  rcases o with (_ | v) | E'
  · exact hq.elim
  · cases v with
    | long z => obtain ⟨_, _, e, _⟩ := hq; cases e
    | float z => obtain ⟨_, _, e, _⟩ := hq; cases e
    | double z => obtain ⟨_, _, e, _⟩ := hq; cases e
    | null => obtain ⟨_, _, e, _⟩ := hq; cases e
    | ref z => obtain ⟨_, _, e, _⟩ := hq; cases e
    | retAddr z => obtain ⟨_, _, e, _⟩ := hq; cases e
    | int v =>
      obtain ⟨z, f, e, ho, hP⟩ := hq
      obtain rfl := Option.some.inj e
      refine (show SX _ G mL_step P (d + 1) 0 0 h' 8 [some (.ref x), some (.int p0), some (.int p1), some (.ref out), none] [.int v, .int 0, .ref out] from ?_)
      refine x_i2l dL_step_8 ?_
      refine x_lastore dL_step_9 ho v01 ?_
      refine x_goto (tgt := 21) dL_step_10 (by decide) ?_
      refine x_iconst (v := 0) dL_step_21 rfl ?_
      exact x_ireturn dL_step_22 rfl rfl hP
  · obtain ⟨j, hE, hP⟩ := hq
    match j, hE with
    | 0, hE =>
      obtain rfl := Option.some.inj hE
      refine ⟨13, ⟨[], ⟨0, 10, 13, 18⟩, _, rfl, (fun z hz => nomatch hz), rfl, by decide, rfl, _, kL_18, ca_IndexOutOfBoundsException⟩, fun q => ?_⟩
      refine x_astore dL_step_13 (L' := [some _, some _, some _, some _, some _]) (by decide) rfl ?_
      refine x_iconst (v := 1) dL_step_15 rfl ?_
      exact x_ireturn dL_step_16 rfl rfl hP
    | 1, hE =>
      obtain rfl := Option.some.inj hE
      refine ⟨17, ⟨[⟨0, 10, 13, 18⟩], ⟨0, 10, 17, 26⟩, _, rfl, (fun z hz => Or.inr (by obtain rfl := List.mem_singleton.mp hz; exact ⟨by decide, _, kL_18, fun s hs => (hZn s hs).1⟩)), rfl, by decide, rfl, _, kL_26, ca_IllegalStateException⟩, fun q => ?_⟩
      refine x_astore dL_step_17 (L' := [some _, some _, some _, some _, some _]) (by decide) rfl ?_
      refine x_iconst (v := 2) dL_step_19 rfl ?_
      exact x_ireturn dL_step_20 rfl rfl hP
    | j + 2, hE => cases hE
abbrev mL_walkWord : p_M := (yL_walkWord, cL_walkWord, 4, some .int)
theorem cfL_walkWord : p_cfX [(0, 9, 12, 18)] mL_walkWord 3 := ⟨p_in (p_t4 (List.mem_of_getElem? (i := 188) rfl)) rfl, p_in (p_t1 (List.mem_of_getElem? (i := 0) (by decide +kernel))) rfl, ⟨by decide +kernel, by decide +kernel⟩, by decide +kernel, by decide, by decide +kernel⟩
theorem stL_walkWord : Cond.static yL_walkWord ∈ p_ws := p_in (p_t4 (List.mem_of_getElem? (i := 187) (by decide +kernel))) rfl
theorem h_walkWord {p0 : Int32} (hx : h x = some (.inr (10, fs))) (kk : SM G mX10_walkWord h [.ref x, .int p0] d mc ms (p_HI P out cvI ["java/lang/IndexOutOfBoundsException"])) : SMX [(0, 9, 12, 18)] G mL_walkWord h [.ref x, .int p0, .ref out] (d + 1) mc ms P := by
  refine SMX.of2 (L := [some (.ref x), some (.int p0), some (.ref out), none]) cfL_walkWord rfl (Nat.le_of_ble_eq_true rfl) ?_
  refine x_aload_n dL_walkWord_0 rfl ?_
  refine x_iconst (v := 0) dL_walkWord_1 rfl ?_
  refine x_aload_n dL_walkWord_2 rfl ?_
  refine x_iload_n dL_walkWord_3 rfl ?_
  refine x_callV (As := [.int p0]) (mc := mc) (ms := ms) (k' := 0) (n' := 0) dL_walkWord_4 cfX10_walkWord imX10_walkWord seX10_walkWord lL_35 hx rfl rfl rfl rfl (Nat.le_of_ble_eq_true rfl) rfl rfl ?_
  refine kk.mono (fun o h' hq => ?_)
  rcases o with (_ | v) | E'
  · exact hq.elim
  · cases v with
    | long z => obtain ⟨_, _, e, _⟩ := hq; cases e
    | float z => obtain ⟨_, _, e, _⟩ := hq; cases e
    | double z => obtain ⟨_, _, e, _⟩ := hq; cases e
    | null => obtain ⟨_, _, e, _⟩ := hq; cases e
    | ref z => obtain ⟨_, _, e, _⟩ := hq; cases e
    | retAddr z => obtain ⟨_, _, e, _⟩ := hq; cases e
    | int v =>
      obtain ⟨z, f, e, ho, hP⟩ := hq
      obtain rfl := Option.some.inj e
      refine (show SX _ G mL_walkWord P (d + 1) 0 0 h' 7 [some (.ref x), some (.int p0), some (.ref out), none] [.int v, .int 0, .ref out] from ?_)
      refine x_i2l dL_walkWord_7 ?_
      refine x_lastore dL_walkWord_8 ho v01 ?_
      refine x_goto (tgt := 15) dL_walkWord_9 (by decide) ?_
      refine x_iconst (v := 0) dL_walkWord_15 rfl ?_
      exact x_ireturn dL_walkWord_16 rfl rfl hP
  · obtain ⟨j, hE, hP⟩ := hq
    match j, hE with
    | 0, hE =>
      obtain rfl := Option.some.inj hE
      refine ⟨12, ⟨[], ⟨0, 9, 12, 18⟩, _, rfl, (fun z hz => nomatch hz), rfl, by decide, rfl, _, kL_18, ca_IndexOutOfBoundsException⟩, fun q => ?_⟩
      refine x_astore_n dL_walkWord_12 (L' := [some _, some _, some _, some _]) (by decide) rfl ?_
      refine x_iconst (v := 1) dL_walkWord_13 rfl ?_
      exact x_ireturn dL_walkWord_14 rfl rfl hP
    | j + 1, hE => cases hE
abbrev mL_restartWalker : p_M := (yL_restartWalker, cL_restartWalker, 4, some .int)
theorem cfL_restartWalker : p_cfX [(0, 9, 12, 18)] mL_restartWalker 3 := ⟨p_in (p_t4 (List.mem_of_getElem? (i := 200) rfl)) rfl, p_in (p_t1 (List.mem_of_getElem? (i := 0) (by decide +kernel))) rfl, ⟨by decide +kernel, by decide +kernel⟩, by decide +kernel, by decide, by decide +kernel⟩
theorem stL_restartWalker : Cond.static yL_restartWalker ∈ p_ws := p_in (p_t4 (List.mem_of_getElem? (i := 199) (by decide +kernel))) rfl
theorem h_restartWalker {p0 : Int32} (hx : h x = some (.inr (10, fs))) (kk : SM G mX10_restartWalker h [.ref x, .int p0] d mc ms (p_HI P out cvI ["java/lang/IndexOutOfBoundsException"])) : SMX [(0, 9, 12, 18)] G mL_restartWalker h [.ref x, .int p0, .ref out] (d + 1) mc ms P := by
  refine SMX.of2 (L := [some (.ref x), some (.int p0), some (.ref out), none]) cfL_restartWalker rfl (Nat.le_of_ble_eq_true rfl) ?_
  refine x_aload_n dL_restartWalker_0 rfl ?_
  refine x_iconst (v := 0) dL_restartWalker_1 rfl ?_
  refine x_aload_n dL_restartWalker_2 rfl ?_
  refine x_iload_n dL_restartWalker_3 rfl ?_
  refine x_callV (As := [.int p0]) (mc := mc) (ms := ms) (k' := 0) (n' := 0) dL_restartWalker_4 cfX10_restartWalker imX10_restartWalker seX10_restartWalker lL_38 hx rfl rfl rfl rfl (Nat.le_of_ble_eq_true rfl) rfl rfl ?_
  refine kk.mono (fun o h' hq => ?_)
  rcases o with (_ | v) | E'
  · exact hq.elim
  · cases v with
    | long z => obtain ⟨_, _, e, _⟩ := hq; cases e
    | float z => obtain ⟨_, _, e, _⟩ := hq; cases e
    | double z => obtain ⟨_, _, e, _⟩ := hq; cases e
    | null => obtain ⟨_, _, e, _⟩ := hq; cases e
    | ref z => obtain ⟨_, _, e, _⟩ := hq; cases e
    | retAddr z => obtain ⟨_, _, e, _⟩ := hq; cases e
    | int v =>
      obtain ⟨z, f, e, ho, hP⟩ := hq
      obtain rfl := Option.some.inj e
      refine (show SX _ G mL_restartWalker P (d + 1) 0 0 h' 7 [some (.ref x), some (.int p0), some (.ref out), none] [.int v, .int 0, .ref out] from ?_)
      refine x_i2l dL_restartWalker_7 ?_
      refine x_lastore dL_restartWalker_8 ho v01 ?_
      refine x_goto (tgt := 15) dL_restartWalker_9 (by decide) ?_
      refine x_iconst (v := 0) dL_restartWalker_15 rfl ?_
      exact x_ireturn dL_restartWalker_16 rfl rfl hP
  · obtain ⟨j, hE, hP⟩ := hq
    match j, hE with
    | 0, hE =>
      obtain rfl := Option.some.inj hE
      refine ⟨12, ⟨[], ⟨0, 9, 12, 18⟩, _, rfl, (fun z hz => nomatch hz), rfl, by decide, rfl, _, kL_18, ca_IndexOutOfBoundsException⟩, fun q => ?_⟩
      refine x_astore_n dL_restartWalker_12 (L' := [some _, some _, some _, some _]) (by decide) rfl ?_
      refine x_iconst (v := 1) dL_restartWalker_13 rfl ?_
      exact x_ireturn dL_restartWalker_14 rfl rfl hP
    | j + 1, hE => cases hE
abbrev mL_setGate : p_M := (yL_setGate, cL_setGate, 6, some .int)
theorem cfL_setGate : p_cfX [(0, 19, 22, 18)] mL_setGate 5 := ⟨p_in (p_t4 (List.mem_of_getElem? (i := 208) rfl)) rfl, p_in (p_t1 (List.mem_of_getElem? (i := 0) (by decide +kernel))) rfl, ⟨by decide +kernel, by decide +kernel⟩, by decide +kernel, by decide, by decide +kernel⟩
theorem stL_setGate : Cond.static yL_setGate ∈ p_ws := p_in (p_t4 (List.mem_of_getElem? (i := 207) (by decide +kernel))) rfl
theorem h_setGate {p0 : Int32} {p1 : Int32} {p2 : Int32} (hx : h x = some (.inr (10, fs))) (kk : SM G mX10_setGate h [.ref x, .int p0, .int p1, .int p2] d mc ms (p_HI P out cvZ ["java/lang/IndexOutOfBoundsException"])) : SMX [(0, 19, 22, 18)] G mL_setGate h [.ref x, .int p0, .int p1, .int p2, .ref out] (d + 1) mc ms P := by
  refine SMX.of2 (L := [some (.ref x), some (.int p0), some (.int p1), some (.int p2), some (.ref out), none]) cfL_setGate rfl (Nat.le_of_ble_eq_true rfl) ?_
  refine x_aload dL_setGate_0 rfl ?_
  refine x_iconst (v := 0) dL_setGate_2 rfl ?_
  refine x_aload_n dL_setGate_3 rfl ?_
  refine x_iload_n dL_setGate_4 rfl ?_
  refine x_iload_n dL_setGate_5 rfl ?_
  refine x_iload_n dL_setGate_6 rfl ?_
  refine x_callV (As := [.int p0, .int p1, .int p2]) (mc := mc) (ms := ms) (k' := 0) (n' := 0) dL_setGate_7 cfX10_setGate imX10_setGate seX10_setGate lL_41 hx rfl rfl rfl rfl (Nat.le_of_ble_eq_true rfl) rfl rfl ?_
  refine kk.mono (fun o h' hq => ?_)
  rcases o with (_ | v) | E'
  · exact hq.elim
  · cases v with
    | long z => obtain ⟨_, _, e, _⟩ := hq; cases e
    | float z => obtain ⟨_, _, e, _⟩ := hq; cases e
    | double z => obtain ⟨_, _, e, _⟩ := hq; cases e
    | null => obtain ⟨_, _, e, _⟩ := hq; cases e
    | ref z => obtain ⟨_, _, e, _⟩ := hq; cases e
    | retAddr z => obtain ⟨_, _, e, _⟩ := hq; cases e
    | int v =>
      obtain ⟨z, f, e, ho, hP⟩ := hq
      obtain rfl := Option.some.inj e
      refine (show SX _ G mL_setGate P (d + 1) 0 0 h' 10 [some (.ref x), some (.int p0), some (.int p1), some (.int p2), some (.ref out), none] [.int v, .int 0, .ref out] from ?_)
      refine x_if_eq (tgt := 17) dL_setGate_10 (by decide) (fun c0 => ?_) (fun c0 => ?_)
      · rw [if_pos c0] at hP
        refine x_lconst (v := 0) dL_setGate_17 rfl ?_
        refine x_lastore dL_setGate_18 ho v01 ?_
        refine x_goto (tgt := 26) dL_setGate_19 (by decide) ?_
        refine x_iconst (v := 0) dL_setGate_26 rfl ?_
        exact x_ireturn dL_setGate_27 rfl rfl hP
      · rw [if_neg c0] at hP
        refine x_lconst (v := 1) dL_setGate_13 rfl ?_
        refine x_goto (tgt := 18) dL_setGate_14 (by decide) ?_
        refine x_lastore dL_setGate_18 ho v01 ?_
        refine x_goto (tgt := 26) dL_setGate_19 (by decide) ?_
        refine x_iconst (v := 0) dL_setGate_26 rfl ?_
        exact x_ireturn dL_setGate_27 rfl rfl hP
  · obtain ⟨j, hE, hP⟩ := hq
    match j, hE with
    | 0, hE =>
      obtain rfl := Option.some.inj hE
      refine ⟨22, ⟨[], ⟨0, 19, 22, 18⟩, _, rfl, (fun z hz => nomatch hz), rfl, by decide, rfl, _, kL_18, ca_IndexOutOfBoundsException⟩, fun q => ?_⟩
      refine x_astore dL_setGate_22 (L' := [some _, some _, some _, some _, some _, some _]) (by decide) rfl ?_
      refine x_iconst (v := 1) dL_setGate_24 rfl ?_
      exact x_ireturn dL_setGate_25 rfl rfl hP
    | j + 1, hE => cases hE
abbrev mL_restoreSnapshot : p_M := (yL_restoreSnapshot, cL_restoreSnapshot, 3, some .int)
theorem cfL_restoreSnapshot : p_cfX [(0, 8, 11, 49)] mL_restoreSnapshot 2 := ⟨p_in (p_t4 (List.mem_of_getElem? (i := 219) rfl)) rfl, p_in (p_t1 (List.mem_of_getElem? (i := 0) (by decide +kernel))) rfl, ⟨by decide +kernel, by decide +kernel⟩, by decide +kernel, by decide, by decide +kernel⟩
theorem stL_restoreSnapshot : Cond.static yL_restoreSnapshot ∈ p_ws := p_in (p_t4 (List.mem_of_getElem? (i := 218) (by decide +kernel))) rfl
theorem h_restoreSnapshot  (hx : h x = some (.inr (10, fs))) (kk : SM G mX10_restoreSnapshot h [.ref x] d mc ms (p_HI P out cvI ["java/util/NoSuchElementException"])) : SMX [(0, 8, 11, 49)] G mL_restoreSnapshot h [.ref x, .ref out] (d + 1) mc ms P := by
  refine SMX.of2 (L := [some (.ref x), some (.ref out), none]) cfL_restoreSnapshot rfl (Nat.le_of_ble_eq_true rfl) ?_
  refine x_aload_n dL_restoreSnapshot_0 rfl ?_
  refine x_iconst (v := 0) dL_restoreSnapshot_1 rfl ?_
  refine x_aload_n dL_restoreSnapshot_2 rfl ?_
  refine x_callV (As := []) (mc := mc) (ms := ms) (k' := 0) (n' := 0) dL_restoreSnapshot_3 cfX10_restoreSnapshot imX10_restoreSnapshot seX10_restoreSnapshot lL_45 hx rfl rfl rfl rfl (Nat.le_of_ble_eq_true rfl) rfl rfl ?_
  refine kk.mono (fun o h' hq => ?_)
  rcases o with (_ | v) | E'
  · exact hq.elim
  · cases v with
    | long z => obtain ⟨_, _, e, _⟩ := hq; cases e
    | float z => obtain ⟨_, _, e, _⟩ := hq; cases e
    | double z => obtain ⟨_, _, e, _⟩ := hq; cases e
    | null => obtain ⟨_, _, e, _⟩ := hq; cases e
    | ref z => obtain ⟨_, _, e, _⟩ := hq; cases e
    | retAddr z => obtain ⟨_, _, e, _⟩ := hq; cases e
    | int v =>
      obtain ⟨z, f, e, ho, hP⟩ := hq
      obtain rfl := Option.some.inj e
      refine (show SX _ G mL_restoreSnapshot P (d + 1) 0 0 h' 6 [some (.ref x), some (.ref out), none] [.int v, .int 0, .ref out] from ?_)
      refine x_i2l dL_restoreSnapshot_6 ?_
      refine x_lastore dL_restoreSnapshot_7 ho v01 ?_
      refine x_goto (tgt := 14) dL_restoreSnapshot_8 (by decide) ?_
      refine x_iconst (v := 0) dL_restoreSnapshot_14 rfl ?_
      exact x_ireturn dL_restoreSnapshot_15 rfl rfl hP
  · obtain ⟨j, hE, hP⟩ := hq
    match j, hE with
    | 0, hE =>
      obtain rfl := Option.some.inj hE
      refine ⟨11, ⟨[], ⟨0, 8, 11, 49⟩, _, rfl, (fun z hz => nomatch hz), rfl, by decide, rfl, _, kL_49, ca_NoSuchElementException⟩, fun q => ?_⟩
      refine x_astore_n dL_restoreSnapshot_11 (L' := [some _, some _, some _]) (by decide) rfl ?_
      refine x_iconst (v := 1) dL_restoreSnapshot_12 rfl ?_
      exact x_ireturn dL_restoreSnapshot_13 rfl rfl hP
    | j + 1, hE => cases hE
abbrev mL_positionCount : p_M := (yL_positionCount, cL_positionCount, 4, some .int)
theorem cfL_positionCount : p_cfX [(0, 9, 12, 18)] mL_positionCount 3 := ⟨p_in (p_t5 (List.mem_of_getElem? (i := 7) rfl)) rfl, p_in (p_t1 (List.mem_of_getElem? (i := 0) (by decide +kernel))) rfl, ⟨by decide +kernel, by decide +kernel⟩, by decide +kernel, by decide, by decide +kernel⟩
theorem stL_positionCount : Cond.static yL_positionCount ∈ p_ws := p_in (p_t5 (List.mem_of_getElem? (i := 6) (by decide +kernel))) rfl
theorem h_positionCount {p0 : Int32} (hx : h x = some (.inr (10, fs))) (kk : SM G mX10_positionCount h [.ref x, .int p0] d mc ms (p_HI P out cvI ["java/lang/IndexOutOfBoundsException"])) : SMX [(0, 9, 12, 18)] G mL_positionCount h [.ref x, .int p0, .ref out] (d + 1) mc ms P := by
  refine SMX.of2 (L := [some (.ref x), some (.int p0), some (.ref out), none]) cfL_positionCount rfl (Nat.le_of_ble_eq_true rfl) ?_
  refine x_aload_n dL_positionCount_0 rfl ?_
  refine x_iconst (v := 0) dL_positionCount_1 rfl ?_
  refine x_aload_n dL_positionCount_2 rfl ?_
  refine x_iload_n dL_positionCount_3 rfl ?_
  refine x_callV (As := [.int p0]) (mc := mc) (ms := ms) (k' := 0) (n' := 0) dL_positionCount_4 cfX10_positionCount imX10_positionCount seX10_positionCount lL_51 hx rfl rfl rfl rfl (Nat.le_of_ble_eq_true rfl) rfl rfl ?_
  refine kk.mono (fun o h' hq => ?_)
  rcases o with (_ | v) | E'
  · exact hq.elim
  · cases v with
    | long z => obtain ⟨_, _, e, _⟩ := hq; cases e
    | float z => obtain ⟨_, _, e, _⟩ := hq; cases e
    | double z => obtain ⟨_, _, e, _⟩ := hq; cases e
    | null => obtain ⟨_, _, e, _⟩ := hq; cases e
    | ref z => obtain ⟨_, _, e, _⟩ := hq; cases e
    | retAddr z => obtain ⟨_, _, e, _⟩ := hq; cases e
    | int v =>
      obtain ⟨z, f, e, ho, hP⟩ := hq
      obtain rfl := Option.some.inj e
      refine (show SX _ G mL_positionCount P (d + 1) 0 0 h' 7 [some (.ref x), some (.int p0), some (.ref out), none] [.int v, .int 0, .ref out] from ?_)
      refine x_i2l dL_positionCount_7 ?_
      refine x_lastore dL_positionCount_8 ho v01 ?_
      refine x_goto (tgt := 15) dL_positionCount_9 (by decide) ?_
      refine x_iconst (v := 0) dL_positionCount_15 rfl ?_
      exact x_ireturn dL_positionCount_16 rfl rfl hP
  · obtain ⟨j, hE, hP⟩ := hq
    match j, hE with
    | 0, hE =>
      obtain rfl := Option.some.inj hE
      refine ⟨12, ⟨[], ⟨0, 9, 12, 18⟩, _, rfl, (fun z hz => nomatch hz), rfl, by decide, rfl, _, kL_18, ca_IndexOutOfBoundsException⟩, fun q => ?_⟩
      refine x_astore_n dL_positionCount_12 (L' := [some _, some _, some _, some _]) (by decide) rfl ?_
      refine x_iconst (v := 1) dL_positionCount_13 rfl ?_
      exact x_ireturn dL_positionCount_14 rfl rfl hP
    | j + 1, hE => cases hE
abbrev mL_streetAt : p_M := (yL_streetAt, cL_streetAt, 5, some .int)
theorem cfL_streetAt : p_cfX [(0, 10, 13, 18)] mL_streetAt 4 := ⟨p_in (p_t5 (List.mem_of_getElem? (i := 18) rfl)) rfl, p_in (p_t1 (List.mem_of_getElem? (i := 0) (by decide +kernel))) rfl, ⟨by decide +kernel, by decide +kernel⟩, by decide +kernel, by decide, by decide +kernel⟩
theorem stL_streetAt : Cond.static yL_streetAt ∈ p_ws := p_in (p_t5 (List.mem_of_getElem? (i := 17) (by decide +kernel))) rfl
theorem h_streetAt {p0 : Int32} {p1 : Int32} (hx : h x = some (.inr (10, fs))) (kk : SM G mX10_streetAt h [.ref x, .int p0, .int p1] d mc ms (p_HI P out cvI ["java/lang/IndexOutOfBoundsException"])) : SMX [(0, 10, 13, 18)] G mL_streetAt h [.ref x, .int p0, .int p1, .ref out] (d + 1) mc ms P := by
  refine SMX.of2 (L := [some (.ref x), some (.int p0), some (.int p1), some (.ref out), none]) cfL_streetAt rfl (Nat.le_of_ble_eq_true rfl) ?_
  refine x_aload_n dL_streetAt_0 rfl ?_
  refine x_iconst (v := 0) dL_streetAt_1 rfl ?_
  refine x_aload_n dL_streetAt_2 rfl ?_
  refine x_iload_n dL_streetAt_3 rfl ?_
  refine x_iload_n dL_streetAt_4 rfl ?_
  refine x_callV (As := [.int p0, .int p1]) (mc := mc) (ms := ms) (k' := 0) (n' := 0) dL_streetAt_5 cfX10_streetAt imX10_streetAt seX10_streetAt lL_54 hx rfl rfl rfl rfl (Nat.le_of_ble_eq_true rfl) rfl rfl ?_
  refine kk.mono (fun o h' hq => ?_)
  rcases o with (_ | v) | E'
  · exact hq.elim
  · cases v with
    | long z => obtain ⟨_, _, e, _⟩ := hq; cases e
    | float z => obtain ⟨_, _, e, _⟩ := hq; cases e
    | double z => obtain ⟨_, _, e, _⟩ := hq; cases e
    | null => obtain ⟨_, _, e, _⟩ := hq; cases e
    | ref z => obtain ⟨_, _, e, _⟩ := hq; cases e
    | retAddr z => obtain ⟨_, _, e, _⟩ := hq; cases e
    | int v =>
      obtain ⟨z, f, e, ho, hP⟩ := hq
      obtain rfl := Option.some.inj e
      refine (show SX _ G mL_streetAt P (d + 1) 0 0 h' 8 [some (.ref x), some (.int p0), some (.int p1), some (.ref out), none] [.int v, .int 0, .ref out] from ?_)
      refine x_i2l dL_streetAt_8 ?_
      refine x_lastore dL_streetAt_9 ho v01 ?_
      refine x_goto (tgt := 17) dL_streetAt_10 (by decide) ?_
      refine x_iconst (v := 0) dL_streetAt_17 rfl ?_
      exact x_ireturn dL_streetAt_18 rfl rfl hP
  · obtain ⟨j, hE, hP⟩ := hq
    match j, hE with
    | 0, hE =>
      obtain rfl := Option.some.inj hE
      refine ⟨13, ⟨[], ⟨0, 10, 13, 18⟩, _, rfl, (fun z hz => nomatch hz), rfl, by decide, rfl, _, kL_18, ca_IndexOutOfBoundsException⟩, fun q => ?_⟩
      refine x_astore dL_streetAt_13 (L' := [some _, some _, some _, some _, some _]) (by decide) rfl ?_
      refine x_iconst (v := 1) dL_streetAt_15 rfl ?_
      exact x_ireturn dL_streetAt_16 rfl rfl hP
    | j + 1, hE => cases hE
abbrev mL_acceptsEmptyWord : p_M := (yL_acceptsEmptyWord, cL_acceptsEmptyWord, 4, some .int)
theorem cfL_acceptsEmptyWord : p_cfX [(0, 16, 19, 18)] mL_acceptsEmptyWord 3 := ⟨p_in (p_t5 (List.mem_of_getElem? (i := 33) rfl)) rfl, p_in (p_t1 (List.mem_of_getElem? (i := 0) (by decide +kernel))) rfl, ⟨by decide +kernel, by decide +kernel⟩, by decide +kernel, by decide, by decide +kernel⟩
theorem stL_acceptsEmptyWord : Cond.static yL_acceptsEmptyWord ∈ p_ws := p_in (p_t5 (List.mem_of_getElem? (i := 32) (by decide +kernel))) rfl
theorem h_acceptsEmptyWord {p0 : Int32} (hx : h x = some (.inr (10, fs))) (kk : SM G mX10_acceptsEmptyWord h [.ref x, .int p0] d mc ms (p_HI P out cvZ ["java/lang/IndexOutOfBoundsException"])) : SMX [(0, 16, 19, 18)] G mL_acceptsEmptyWord h [.ref x, .int p0, .ref out] (d + 1) mc ms P := by
  refine SMX.of2 (L := [some (.ref x), some (.int p0), some (.ref out), none]) cfL_acceptsEmptyWord rfl (Nat.le_of_ble_eq_true rfl) ?_
  refine x_aload_n dL_acceptsEmptyWord_0 rfl ?_
  refine x_iconst (v := 0) dL_acceptsEmptyWord_1 rfl ?_
  refine x_aload_n dL_acceptsEmptyWord_2 rfl ?_
  refine x_iload_n dL_acceptsEmptyWord_3 rfl ?_
  refine x_callV (As := [.int p0]) (mc := mc) (ms := ms) (k' := 0) (n' := 0) dL_acceptsEmptyWord_4 cfX10_acceptsEmptyWord imX10_acceptsEmptyWord seX10_acceptsEmptyWord lL_57 hx rfl rfl rfl rfl (Nat.le_of_ble_eq_true rfl) rfl rfl ?_
  refine kk.mono (fun o h' hq => ?_)
  rcases o with (_ | v) | E'
  · exact hq.elim
  · cases v with
    | long z => obtain ⟨_, _, e, _⟩ := hq; cases e
    | float z => obtain ⟨_, _, e, _⟩ := hq; cases e
    | double z => obtain ⟨_, _, e, _⟩ := hq; cases e
    | null => obtain ⟨_, _, e, _⟩ := hq; cases e
    | ref z => obtain ⟨_, _, e, _⟩ := hq; cases e
    | retAddr z => obtain ⟨_, _, e, _⟩ := hq; cases e
    | int v =>
      obtain ⟨z, f, e, ho, hP⟩ := hq
      obtain rfl := Option.some.inj e
      refine (show SX _ G mL_acceptsEmptyWord P (d + 1) 0 0 h' 7 [some (.ref x), some (.int p0), some (.ref out), none] [.int v, .int 0, .ref out] from ?_)
      refine x_if_eq (tgt := 14) dL_acceptsEmptyWord_7 (by decide) (fun c0 => ?_) (fun c0 => ?_)
      · rw [if_pos c0] at hP
        refine x_lconst (v := 0) dL_acceptsEmptyWord_14 rfl ?_
        refine x_lastore dL_acceptsEmptyWord_15 ho v01 ?_
        refine x_goto (tgt := 22) dL_acceptsEmptyWord_16 (by decide) ?_
        refine x_iconst (v := 0) dL_acceptsEmptyWord_22 rfl ?_
        exact x_ireturn dL_acceptsEmptyWord_23 rfl rfl hP
      · rw [if_neg c0] at hP
        refine x_lconst (v := 1) dL_acceptsEmptyWord_10 rfl ?_
        refine x_goto (tgt := 15) dL_acceptsEmptyWord_11 (by decide) ?_
        refine x_lastore dL_acceptsEmptyWord_15 ho v01 ?_
        refine x_goto (tgt := 22) dL_acceptsEmptyWord_16 (by decide) ?_
        refine x_iconst (v := 0) dL_acceptsEmptyWord_22 rfl ?_
        exact x_ireturn dL_acceptsEmptyWord_23 rfl rfl hP
  · obtain ⟨j, hE, hP⟩ := hq
    match j, hE with
    | 0, hE =>
      obtain rfl := Option.some.inj hE
      refine ⟨19, ⟨[], ⟨0, 16, 19, 18⟩, _, rfl, (fun z hz => nomatch hz), rfl, by decide, rfl, _, kL_18, ca_IndexOutOfBoundsException⟩, fun q => ?_⟩
      refine x_astore_n dL_acceptsEmptyWord_19 (L' := [some _, some _, some _, some _]) (by decide) rfl ?_
      refine x_iconst (v := 1) dL_acceptsEmptyWord_20 rfl ?_
      exact x_ireturn dL_acceptsEmptyWord_21 rfl rfl hP
    | j + 1, hE => cases hE
abbrev mL_firstPositions : p_M := (yL_firstPositions, cL_firstPositions, 4, some .int)
theorem cfL_firstPositions : p_cfX [(0, 9, 12, 18)] mL_firstPositions 3 := ⟨p_in (p_t5 (List.mem_of_getElem? (i := 40) rfl)) rfl, p_in (p_t1 (List.mem_of_getElem? (i := 0) (by decide +kernel))) rfl, ⟨by decide +kernel, by decide +kernel⟩, by decide +kernel, by decide, by decide +kernel⟩
theorem stL_firstPositions : Cond.static yL_firstPositions ∈ p_ws := p_in (p_t5 (List.mem_of_getElem? (i := 39) (by decide +kernel))) rfl
theorem h_firstPositions {p0 : Int32} (hx : h x = some (.inr (10, fs))) (kk : SM G mX10_firstPositions h [.ref x, .int p0] d mc ms (p_HI P out cvI ["java/lang/IndexOutOfBoundsException"])) : SMX [(0, 9, 12, 18)] G mL_firstPositions h [.ref x, .int p0, .ref out] (d + 1) mc ms P := by
  refine SMX.of2 (L := [some (.ref x), some (.int p0), some (.ref out), none]) cfL_firstPositions rfl (Nat.le_of_ble_eq_true rfl) ?_
  refine x_aload_n dL_firstPositions_0 rfl ?_
  refine x_iconst (v := 0) dL_firstPositions_1 rfl ?_
  refine x_aload_n dL_firstPositions_2 rfl ?_
  refine x_iload_n dL_firstPositions_3 rfl ?_
  refine x_callV (As := [.int p0]) (mc := mc) (ms := ms) (k' := 0) (n' := 0) dL_firstPositions_4 cfX10_firstPositions imX10_firstPositions seX10_firstPositions lL_61 hx rfl rfl rfl rfl (Nat.le_of_ble_eq_true rfl) rfl rfl ?_
  refine kk.mono (fun o h' hq => ?_)
  rcases o with (_ | v) | E'
  · exact hq.elim
  · cases v with
    | long z => obtain ⟨_, _, e, _⟩ := hq; cases e
    | float z => obtain ⟨_, _, e, _⟩ := hq; cases e
    | double z => obtain ⟨_, _, e, _⟩ := hq; cases e
    | null => obtain ⟨_, _, e, _⟩ := hq; cases e
    | ref z => obtain ⟨_, _, e, _⟩ := hq; cases e
    | retAddr z => obtain ⟨_, _, e, _⟩ := hq; cases e
    | int v =>
      obtain ⟨z, f, e, ho, hP⟩ := hq
      obtain rfl := Option.some.inj e
      refine (show SX _ G mL_firstPositions P (d + 1) 0 0 h' 7 [some (.ref x), some (.int p0), some (.ref out), none] [.int v, .int 0, .ref out] from ?_)
      refine x_i2l dL_firstPositions_7 ?_
      refine x_lastore dL_firstPositions_8 ho v01 ?_
      refine x_goto (tgt := 15) dL_firstPositions_9 (by decide) ?_
      refine x_iconst (v := 0) dL_firstPositions_15 rfl ?_
      exact x_ireturn dL_firstPositions_16 rfl rfl hP
  · obtain ⟨j, hE, hP⟩ := hq
    match j, hE with
    | 0, hE =>
      obtain rfl := Option.some.inj hE
      refine ⟨12, ⟨[], ⟨0, 9, 12, 18⟩, _, rfl, (fun z hz => nomatch hz), rfl, by decide, rfl, _, kL_18, ca_IndexOutOfBoundsException⟩, fun q => ?_⟩
      refine x_astore_n dL_firstPositions_12 (L' := [some _, some _, some _, some _]) (by decide) rfl ?_
      refine x_iconst (v := 1) dL_firstPositions_13 rfl ?_
      exact x_ireturn dL_firstPositions_14 rfl rfl hP
    | j + 1, hE => cases hE
abbrev mL_lastPositions : p_M := (yL_lastPositions, cL_lastPositions, 4, some .int)
theorem cfL_lastPositions : p_cfX [(0, 9, 12, 18)] mL_lastPositions 3 := ⟨p_in (p_t5 (List.mem_of_getElem? (i := 47) rfl)) rfl, p_in (p_t1 (List.mem_of_getElem? (i := 0) (by decide +kernel))) rfl, ⟨by decide +kernel, by decide +kernel⟩, by decide +kernel, by decide, by decide +kernel⟩
theorem stL_lastPositions : Cond.static yL_lastPositions ∈ p_ws := p_in (p_t5 (List.mem_of_getElem? (i := 46) (by decide +kernel))) rfl
theorem h_lastPositions {p0 : Int32} (hx : h x = some (.inr (10, fs))) (kk : SM G mX10_lastPositions h [.ref x, .int p0] d mc ms (p_HI P out cvI ["java/lang/IndexOutOfBoundsException"])) : SMX [(0, 9, 12, 18)] G mL_lastPositions h [.ref x, .int p0, .ref out] (d + 1) mc ms P := by
  refine SMX.of2 (L := [some (.ref x), some (.int p0), some (.ref out), none]) cfL_lastPositions rfl (Nat.le_of_ble_eq_true rfl) ?_
  refine x_aload_n dL_lastPositions_0 rfl ?_
  refine x_iconst (v := 0) dL_lastPositions_1 rfl ?_
  refine x_aload_n dL_lastPositions_2 rfl ?_
  refine x_iload_n dL_lastPositions_3 rfl ?_
  refine x_callV (As := [.int p0]) (mc := mc) (ms := ms) (k' := 0) (n' := 0) dL_lastPositions_4 cfX10_lastPositions imX10_lastPositions seX10_lastPositions lL_64 hx rfl rfl rfl rfl (Nat.le_of_ble_eq_true rfl) rfl rfl ?_
  refine kk.mono (fun o h' hq => ?_)
  rcases o with (_ | v) | E'
  · exact hq.elim
  · cases v with
    | long z => obtain ⟨_, _, e, _⟩ := hq; cases e
    | float z => obtain ⟨_, _, e, _⟩ := hq; cases e
    | double z => obtain ⟨_, _, e, _⟩ := hq; cases e
    | null => obtain ⟨_, _, e, _⟩ := hq; cases e
    | ref z => obtain ⟨_, _, e, _⟩ := hq; cases e
    | retAddr z => obtain ⟨_, _, e, _⟩ := hq; cases e
    | int v =>
      obtain ⟨z, f, e, ho, hP⟩ := hq
      obtain rfl := Option.some.inj e
      refine (show SX _ G mL_lastPositions P (d + 1) 0 0 h' 7 [some (.ref x), some (.int p0), some (.ref out), none] [.int v, .int 0, .ref out] from ?_)
      refine x_i2l dL_lastPositions_7 ?_
      refine x_lastore dL_lastPositions_8 ho v01 ?_
      refine x_goto (tgt := 15) dL_lastPositions_9 (by decide) ?_
      refine x_iconst (v := 0) dL_lastPositions_15 rfl ?_
      exact x_ireturn dL_lastPositions_16 rfl rfl hP
  · obtain ⟨j, hE, hP⟩ := hq
    match j, hE with
    | 0, hE =>
      obtain rfl := Option.some.inj hE
      refine ⟨12, ⟨[], ⟨0, 9, 12, 18⟩, _, rfl, (fun z hz => nomatch hz), rfl, by decide, rfl, _, kL_18, ca_IndexOutOfBoundsException⟩, fun q => ?_⟩
      refine x_astore_n dL_lastPositions_12 (L' := [some _, some _, some _, some _]) (by decide) rfl ?_
      refine x_iconst (v := 1) dL_lastPositions_13 rfl ?_
      exact x_ireturn dL_lastPositions_14 rfl rfl hP
    | j + 1, hE => cases hE
abbrev mL_followPositions : p_M := (yL_followPositions, cL_followPositions, 5, some .int)
theorem cfL_followPositions : p_cfX [(0, 10, 13, 18)] mL_followPositions 4 := ⟨p_in (p_t5 (List.mem_of_getElem? (i := 54) rfl)) rfl, p_in (p_t1 (List.mem_of_getElem? (i := 0) (by decide +kernel))) rfl, ⟨by decide +kernel, by decide +kernel⟩, by decide +kernel, by decide, by decide +kernel⟩
theorem stL_followPositions : Cond.static yL_followPositions ∈ p_ws := p_in (p_t5 (List.mem_of_getElem? (i := 53) (by decide +kernel))) rfl
theorem h_followPositions {p0 : Int32} {p1 : Int32} (hx : h x = some (.inr (10, fs))) (kk : SM G mX10_followPositions h [.ref x, .int p0, .int p1] d mc ms (p_HI P out cvI ["java/lang/IndexOutOfBoundsException"])) : SMX [(0, 10, 13, 18)] G mL_followPositions h [.ref x, .int p0, .int p1, .ref out] (d + 1) mc ms P := by
  refine SMX.of2 (L := [some (.ref x), some (.int p0), some (.int p1), some (.ref out), none]) cfL_followPositions rfl (Nat.le_of_ble_eq_true rfl) ?_
  refine x_aload_n dL_followPositions_0 rfl ?_
  refine x_iconst (v := 0) dL_followPositions_1 rfl ?_
  refine x_aload_n dL_followPositions_2 rfl ?_
  refine x_iload_n dL_followPositions_3 rfl ?_
  refine x_iload_n dL_followPositions_4 rfl ?_
  refine x_callV (As := [.int p0, .int p1]) (mc := mc) (ms := ms) (k' := 0) (n' := 0) dL_followPositions_5 cfX10_followPositions imX10_followPositions seX10_followPositions lL_67 hx rfl rfl rfl rfl (Nat.le_of_ble_eq_true rfl) rfl rfl ?_
  refine kk.mono (fun o h' hq => ?_)
  rcases o with (_ | v) | E'
  · exact hq.elim
  · cases v with
    | long z => obtain ⟨_, _, e, _⟩ := hq; cases e
    | float z => obtain ⟨_, _, e, _⟩ := hq; cases e
    | double z => obtain ⟨_, _, e, _⟩ := hq; cases e
    | null => obtain ⟨_, _, e, _⟩ := hq; cases e
    | ref z => obtain ⟨_, _, e, _⟩ := hq; cases e
    | retAddr z => obtain ⟨_, _, e, _⟩ := hq; cases e
    | int v =>
      obtain ⟨z, f, e, ho, hP⟩ := hq
      obtain rfl := Option.some.inj e
      refine (show SX _ G mL_followPositions P (d + 1) 0 0 h' 8 [some (.ref x), some (.int p0), some (.int p1), some (.ref out), none] [.int v, .int 0, .ref out] from ?_)
      refine x_i2l dL_followPositions_8 ?_
      refine x_lastore dL_followPositions_9 ho v01 ?_
      refine x_goto (tgt := 17) dL_followPositions_10 (by decide) ?_
      refine x_iconst (v := 0) dL_followPositions_17 rfl ?_
      exact x_ireturn dL_followPositions_18 rfl rfl hP
  · obtain ⟨j, hE, hP⟩ := hq
    match j, hE with
    | 0, hE =>
      obtain rfl := Option.some.inj hE
      refine ⟨13, ⟨[], ⟨0, 10, 13, 18⟩, _, rfl, (fun z hz => nomatch hz), rfl, by decide, rfl, _, kL_18, ca_IndexOutOfBoundsException⟩, fun q => ?_⟩
      refine x_astore dL_followPositions_13 (L' := [some _, some _, some _, some _, some _]) (by decide) rfl ?_
      refine x_iconst (v := 1) dL_followPositions_15 rfl ?_
      exact x_ireturn dL_followPositions_16 rfl rfl hP
    | j + 1, hE => cases hE
abbrev mL_loopCount : p_M := (yL_loopCount, cL_loopCount, 4, some .int)
theorem cfL_loopCount : p_cfX [(0, 9, 12, 18)] mL_loopCount 3 := ⟨p_in (p_t5 (List.mem_of_getElem? (i := 65) rfl)) rfl, p_in (p_t1 (List.mem_of_getElem? (i := 0) (by decide +kernel))) rfl, ⟨by decide +kernel, by decide +kernel⟩, by decide +kernel, by decide, by decide +kernel⟩
theorem stL_loopCount : Cond.static yL_loopCount ∈ p_ws := p_in (p_t5 (List.mem_of_getElem? (i := 64) (by decide +kernel))) rfl
theorem h_loopCount {p0 : Int32} (hx : h x = some (.inr (10, fs))) (kk : SM G mX10_loopCount h [.ref x, .int p0] d mc ms (p_HI P out cvI ["java/lang/IndexOutOfBoundsException"])) : SMX [(0, 9, 12, 18)] G mL_loopCount h [.ref x, .int p0, .ref out] (d + 1) mc ms P := by
  refine SMX.of2 (L := [some (.ref x), some (.int p0), some (.ref out), none]) cfL_loopCount rfl (Nat.le_of_ble_eq_true rfl) ?_
  refine x_aload_n dL_loopCount_0 rfl ?_
  refine x_iconst (v := 0) dL_loopCount_1 rfl ?_
  refine x_aload_n dL_loopCount_2 rfl ?_
  refine x_iload_n dL_loopCount_3 rfl ?_
  refine x_callV (As := [.int p0]) (mc := mc) (ms := ms) (k' := 0) (n' := 0) dL_loopCount_4 cfX10_loopCount imX10_loopCount seX10_loopCount lL_70 hx rfl rfl rfl rfl (Nat.le_of_ble_eq_true rfl) rfl rfl ?_
  refine kk.mono (fun o h' hq => ?_)
  rcases o with (_ | v) | E'
  · exact hq.elim
  · cases v with
    | long z => obtain ⟨_, _, e, _⟩ := hq; cases e
    | float z => obtain ⟨_, _, e, _⟩ := hq; cases e
    | double z => obtain ⟨_, _, e, _⟩ := hq; cases e
    | null => obtain ⟨_, _, e, _⟩ := hq; cases e
    | ref z => obtain ⟨_, _, e, _⟩ := hq; cases e
    | retAddr z => obtain ⟨_, _, e, _⟩ := hq; cases e
    | int v =>
      obtain ⟨z, f, e, ho, hP⟩ := hq
      obtain rfl := Option.some.inj e
      refine (show SX _ G mL_loopCount P (d + 1) 0 0 h' 7 [some (.ref x), some (.int p0), some (.ref out), none] [.int v, .int 0, .ref out] from ?_)
      refine x_i2l dL_loopCount_7 ?_
      refine x_lastore dL_loopCount_8 ho v01 ?_
      refine x_goto (tgt := 15) dL_loopCount_9 (by decide) ?_
      refine x_iconst (v := 0) dL_loopCount_15 rfl ?_
      exact x_ireturn dL_loopCount_16 rfl rfl hP
  · obtain ⟨j, hE, hP⟩ := hq
    match j, hE with
    | 0, hE =>
      obtain rfl := Option.some.inj hE
      refine ⟨12, ⟨[], ⟨0, 9, 12, 18⟩, _, rfl, (fun z hz => nomatch hz), rfl, by decide, rfl, _, kL_18, ca_IndexOutOfBoundsException⟩, fun q => ?_⟩
      refine x_astore_n dL_loopCount_12 (L' := [some _, some _, some _, some _]) (by decide) rfl ?_
      refine x_iconst (v := 1) dL_loopCount_13 rfl ?_
      exact x_ireturn dL_loopCount_14 rfl rfl hP
    | j + 1, hE => cases hE
abbrev mL_isDeterministicAt : p_M := (yL_isDeterministicAt, cL_isDeterministicAt, 5, some .int)
theorem cfL_isDeterministicAt : p_cfX [(0, 17, 20, 18)] mL_isDeterministicAt 4 := ⟨p_in (p_t5 (List.mem_of_getElem? (i := 72) rfl)) rfl, p_in (p_t1 (List.mem_of_getElem? (i := 0) (by decide +kernel))) rfl, ⟨by decide +kernel, by decide +kernel⟩, by decide +kernel, by decide, by decide +kernel⟩
theorem stL_isDeterministicAt : Cond.static yL_isDeterministicAt ∈ p_ws := p_in (p_t5 (List.mem_of_getElem? (i := 71) (by decide +kernel))) rfl
theorem h_isDeterministicAt {p0 : Int32} {p1 : Int32} (hx : h x = some (.inr (10, fs))) (kk : SM G mX10_isDeterministicAt h [.ref x, .int p0, .int p1] d mc ms (p_HI P out cvZ ["java/lang/IndexOutOfBoundsException"])) : SMX [(0, 17, 20, 18)] G mL_isDeterministicAt h [.ref x, .int p0, .int p1, .ref out] (d + 1) mc ms P := by
  refine SMX.of2 (L := [some (.ref x), some (.int p0), some (.int p1), some (.ref out), none]) cfL_isDeterministicAt rfl (Nat.le_of_ble_eq_true rfl) ?_
  refine x_aload_n dL_isDeterministicAt_0 rfl ?_
  refine x_iconst (v := 0) dL_isDeterministicAt_1 rfl ?_
  refine x_aload_n dL_isDeterministicAt_2 rfl ?_
  refine x_iload_n dL_isDeterministicAt_3 rfl ?_
  refine x_iload_n dL_isDeterministicAt_4 rfl ?_
  refine x_callV (As := [.int p0, .int p1]) (mc := mc) (ms := ms) (k' := 0) (n' := 0) dL_isDeterministicAt_5 cfX10_isDeterministicAt imX10_isDeterministicAt seX10_isDeterministicAt lL_73 hx rfl rfl rfl rfl (Nat.le_of_ble_eq_true rfl) rfl rfl ?_
  refine kk.mono (fun o h' hq => ?_)
  rcases o with (_ | v) | E'
  · exact hq.elim
  · cases v with
    | long z => obtain ⟨_, _, e, _⟩ := hq; cases e
    | float z => obtain ⟨_, _, e, _⟩ := hq; cases e
    | double z => obtain ⟨_, _, e, _⟩ := hq; cases e
    | null => obtain ⟨_, _, e, _⟩ := hq; cases e
    | ref z => obtain ⟨_, _, e, _⟩ := hq; cases e
    | retAddr z => obtain ⟨_, _, e, _⟩ := hq; cases e
    | int v =>
      obtain ⟨z, f, e, ho, hP⟩ := hq
      obtain rfl := Option.some.inj e
      refine (show SX _ G mL_isDeterministicAt P (d + 1) 0 0 h' 8 [some (.ref x), some (.int p0), some (.int p1), some (.ref out), none] [.int v, .int 0, .ref out] from ?_)
      refine x_if_eq (tgt := 15) dL_isDeterministicAt_8 (by decide) (fun c0 => ?_) (fun c0 => ?_)
      · rw [if_pos c0] at hP
        refine x_lconst (v := 0) dL_isDeterministicAt_15 rfl ?_
        refine x_lastore dL_isDeterministicAt_16 ho v01 ?_
        refine x_goto (tgt := 24) dL_isDeterministicAt_17 (by decide) ?_
        refine x_iconst (v := 0) dL_isDeterministicAt_24 rfl ?_
        exact x_ireturn dL_isDeterministicAt_25 rfl rfl hP
      · rw [if_neg c0] at hP
        refine x_lconst (v := 1) dL_isDeterministicAt_11 rfl ?_
        refine x_goto (tgt := 16) dL_isDeterministicAt_12 (by decide) ?_
        refine x_lastore dL_isDeterministicAt_16 ho v01 ?_
        refine x_goto (tgt := 24) dL_isDeterministicAt_17 (by decide) ?_
        refine x_iconst (v := 0) dL_isDeterministicAt_24 rfl ?_
        exact x_ireturn dL_isDeterministicAt_25 rfl rfl hP
  · obtain ⟨j, hE, hP⟩ := hq
    match j, hE with
    | 0, hE =>
      obtain rfl := Option.some.inj hE
      refine ⟨20, ⟨[], ⟨0, 17, 20, 18⟩, _, rfl, (fun z hz => nomatch hz), rfl, by decide, rfl, _, kL_18, ca_IndexOutOfBoundsException⟩, fun q => ?_⟩
      refine x_astore dL_isDeterministicAt_20 (L' := [some _, some _, some _, some _, some _]) (by decide) rfl ?_
      refine x_iconst (v := 1) dL_isDeterministicAt_22 rfl ?_
      exact x_ireturn dL_isDeterministicAt_23 rfl rfl hP
    | j + 1, hE => cases hE
abbrev mL_stateCount : p_M := (yL_stateCount, cL_stateCount, 4, some .int)
theorem cfL_stateCount : p_cfX [(0, 9, 12, 18)] mL_stateCount 3 := ⟨p_in (p_t5 (List.mem_of_getElem? (i := 83) rfl)) rfl, p_in (p_t1 (List.mem_of_getElem? (i := 0) (by decide +kernel))) rfl, ⟨by decide +kernel, by decide +kernel⟩, by decide +kernel, by decide, by decide +kernel⟩
theorem stL_stateCount : Cond.static yL_stateCount ∈ p_ws := p_in (p_t5 (List.mem_of_getElem? (i := 82) (by decide +kernel))) rfl
theorem h_stateCount {p0 : Int32} (hx : h x = some (.inr (10, fs))) (kk : SM G mX10_stateCount h [.ref x, .int p0] d mc ms (p_HI P out cvI ["java/lang/IndexOutOfBoundsException"])) : SMX [(0, 9, 12, 18)] G mL_stateCount h [.ref x, .int p0, .ref out] (d + 1) mc ms P := by
  refine SMX.of2 (L := [some (.ref x), some (.int p0), some (.ref out), none]) cfL_stateCount rfl (Nat.le_of_ble_eq_true rfl) ?_
  refine x_aload_n dL_stateCount_0 rfl ?_
  refine x_iconst (v := 0) dL_stateCount_1 rfl ?_
  refine x_aload_n dL_stateCount_2 rfl ?_
  refine x_iload_n dL_stateCount_3 rfl ?_
  refine x_callV (As := [.int p0]) (mc := mc) (ms := ms) (k' := 0) (n' := 0) dL_stateCount_4 cfX10_stateCount imX10_stateCount seX10_stateCount lL_77 hx rfl rfl rfl rfl (Nat.le_of_ble_eq_true rfl) rfl rfl ?_
  refine kk.mono (fun o h' hq => ?_)
  rcases o with (_ | v) | E'
  · exact hq.elim
  · cases v with
    | long z => obtain ⟨_, _, e, _⟩ := hq; cases e
    | float z => obtain ⟨_, _, e, _⟩ := hq; cases e
    | double z => obtain ⟨_, _, e, _⟩ := hq; cases e
    | null => obtain ⟨_, _, e, _⟩ := hq; cases e
    | ref z => obtain ⟨_, _, e, _⟩ := hq; cases e
    | retAddr z => obtain ⟨_, _, e, _⟩ := hq; cases e
    | int v =>
      obtain ⟨z, f, e, ho, hP⟩ := hq
      obtain rfl := Option.some.inj e
      refine (show SX _ G mL_stateCount P (d + 1) 0 0 h' 7 [some (.ref x), some (.int p0), some (.ref out), none] [.int v, .int 0, .ref out] from ?_)
      refine x_i2l dL_stateCount_7 ?_
      refine x_lastore dL_stateCount_8 ho v01 ?_
      refine x_goto (tgt := 15) dL_stateCount_9 (by decide) ?_
      refine x_iconst (v := 0) dL_stateCount_15 rfl ?_
      exact x_ireturn dL_stateCount_16 rfl rfl hP
  · obtain ⟨j, hE, hP⟩ := hq
    match j, hE with
    | 0, hE =>
      obtain rfl := Option.some.inj hE
      refine ⟨12, ⟨[], ⟨0, 9, 12, 18⟩, _, rfl, (fun z hz => nomatch hz), rfl, by decide, rfl, _, kL_18, ca_IndexOutOfBoundsException⟩, fun q => ?_⟩
      refine x_astore_n dL_stateCount_12 (L' := [some _, some _, some _, some _]) (by decide) rfl ?_
      refine x_iconst (v := 1) dL_stateCount_13 rfl ?_
      exact x_ireturn dL_stateCount_14 rfl rfl hP
    | j + 1, hE => cases hE
abbrev mL_transition : p_M := (yL_transition, cL_transition, 6, some .int)
theorem cfL_transition : p_cfX [(0, 12, 15, 18)] mL_transition 5 := ⟨p_in (p_t5 (List.mem_of_getElem? (i := 90) rfl)) rfl, p_in (p_t1 (List.mem_of_getElem? (i := 0) (by decide +kernel))) rfl, ⟨by decide +kernel, by decide +kernel⟩, by decide +kernel, by decide, by decide +kernel⟩
theorem stL_transition : Cond.static yL_transition ∈ p_ws := p_in (p_t5 (List.mem_of_getElem? (i := 89) (by decide +kernel))) rfl
theorem h_transition {p0 : Int32} {p1 : Int32} {p2 : Int32} (hx : h x = some (.inr (10, fs))) (kk : SM G mX10_transition h [.ref x, .int p0, .int p1, .int p2] d mc ms (p_HI P out cvI ["java/lang/IndexOutOfBoundsException"])) : SMX [(0, 12, 15, 18)] G mL_transition h [.ref x, .int p0, .int p1, .int p2, .ref out] (d + 1) mc ms P := by
  refine SMX.of2 (L := [some (.ref x), some (.int p0), some (.int p1), some (.int p2), some (.ref out), none]) cfL_transition rfl (Nat.le_of_ble_eq_true rfl) ?_
  refine x_aload dL_transition_0 rfl ?_
  refine x_iconst (v := 0) dL_transition_2 rfl ?_
  refine x_aload_n dL_transition_3 rfl ?_
  refine x_iload_n dL_transition_4 rfl ?_
  refine x_iload_n dL_transition_5 rfl ?_
  refine x_iload_n dL_transition_6 rfl ?_
  refine x_callV (As := [.int p0, .int p1, .int p2]) (mc := mc) (ms := ms) (k' := 0) (n' := 0) dL_transition_7 cfX10_transition imX10_transition seX10_transition lL_80 hx rfl rfl rfl rfl (Nat.le_of_ble_eq_true rfl) rfl rfl ?_
  refine kk.mono (fun o h' hq => ?_)
  rcases o with (_ | v) | E'
  · exact hq.elim
  · cases v with
    | long z => obtain ⟨_, _, e, _⟩ := hq; cases e
    | float z => obtain ⟨_, _, e, _⟩ := hq; cases e
    | double z => obtain ⟨_, _, e, _⟩ := hq; cases e
    | null => obtain ⟨_, _, e, _⟩ := hq; cases e
    | ref z => obtain ⟨_, _, e, _⟩ := hq; cases e
    | retAddr z => obtain ⟨_, _, e, _⟩ := hq; cases e
    | int v =>
      obtain ⟨z, f, e, ho, hP⟩ := hq
      obtain rfl := Option.some.inj e
      refine (show SX _ G mL_transition P (d + 1) 0 0 h' 10 [some (.ref x), some (.int p0), some (.int p1), some (.int p2), some (.ref out), none] [.int v, .int 0, .ref out] from ?_)
      refine x_i2l dL_transition_10 ?_
      refine x_lastore dL_transition_11 ho v01 ?_
      refine x_goto (tgt := 19) dL_transition_12 (by decide) ?_
      refine x_iconst (v := 0) dL_transition_19 rfl ?_
      exact x_ireturn dL_transition_20 rfl rfl hP
  · obtain ⟨j, hE, hP⟩ := hq
    match j, hE with
    | 0, hE =>
      obtain rfl := Option.some.inj hE
      refine ⟨15, ⟨[], ⟨0, 12, 15, 18⟩, _, rfl, (fun z hz => nomatch hz), rfl, by decide, rfl, _, kL_18, ca_IndexOutOfBoundsException⟩, fun q => ?_⟩
      refine x_astore dL_transition_15 (L' := [some _, some _, some _, some _, some _, some _]) (by decide) rfl ?_
      refine x_iconst (v := 1) dL_transition_17 rfl ?_
      exact x_ireturn dL_transition_18 rfl rfl hP
    | j + 1, hE => cases hE
abbrev mL_isAccepting : p_M := (yL_isAccepting, cL_isAccepting, 5, some .int)
theorem cfL_isAccepting : p_cfX [(0, 17, 20, 18)] mL_isAccepting 4 := ⟨p_in (p_t5 (List.mem_of_getElem? (i := 102) rfl)) rfl, p_in (p_t1 (List.mem_of_getElem? (i := 0) (by decide +kernel))) rfl, ⟨by decide +kernel, by decide +kernel⟩, by decide +kernel, by decide, by decide +kernel⟩
theorem stL_isAccepting : Cond.static yL_isAccepting ∈ p_ws := p_in (p_t5 (List.mem_of_getElem? (i := 101) (by decide +kernel))) rfl
theorem h_isAccepting {p0 : Int32} {p1 : Int32} (hx : h x = some (.inr (10, fs))) (kk : SM G mX10_isAccepting h [.ref x, .int p0, .int p1] d mc ms (p_HI P out cvZ ["java/lang/IndexOutOfBoundsException"])) : SMX [(0, 17, 20, 18)] G mL_isAccepting h [.ref x, .int p0, .int p1, .ref out] (d + 1) mc ms P := by
  refine SMX.of2 (L := [some (.ref x), some (.int p0), some (.int p1), some (.ref out), none]) cfL_isAccepting rfl (Nat.le_of_ble_eq_true rfl) ?_
  refine x_aload_n dL_isAccepting_0 rfl ?_
  refine x_iconst (v := 0) dL_isAccepting_1 rfl ?_
  refine x_aload_n dL_isAccepting_2 rfl ?_
  refine x_iload_n dL_isAccepting_3 rfl ?_
  refine x_iload_n dL_isAccepting_4 rfl ?_
  refine x_callV (As := [.int p0, .int p1]) (mc := mc) (ms := ms) (k' := 0) (n' := 0) dL_isAccepting_5 cfX10_isAccepting imX10_isAccepting seX10_isAccepting lL_84 hx rfl rfl rfl rfl (Nat.le_of_ble_eq_true rfl) rfl rfl ?_
  refine kk.mono (fun o h' hq => ?_)
  rcases o with (_ | v) | E'
  · exact hq.elim
  · cases v with
    | long z => obtain ⟨_, _, e, _⟩ := hq; cases e
    | float z => obtain ⟨_, _, e, _⟩ := hq; cases e
    | double z => obtain ⟨_, _, e, _⟩ := hq; cases e
    | null => obtain ⟨_, _, e, _⟩ := hq; cases e
    | ref z => obtain ⟨_, _, e, _⟩ := hq; cases e
    | retAddr z => obtain ⟨_, _, e, _⟩ := hq; cases e
    | int v =>
      obtain ⟨z, f, e, ho, hP⟩ := hq
      obtain rfl := Option.some.inj e
      refine (show SX _ G mL_isAccepting P (d + 1) 0 0 h' 8 [some (.ref x), some (.int p0), some (.int p1), some (.ref out), none] [.int v, .int 0, .ref out] from ?_)
      refine x_if_eq (tgt := 15) dL_isAccepting_8 (by decide) (fun c0 => ?_) (fun c0 => ?_)
      · rw [if_pos c0] at hP
        refine x_lconst (v := 0) dL_isAccepting_15 rfl ?_
        refine x_lastore dL_isAccepting_16 ho v01 ?_
        refine x_goto (tgt := 24) dL_isAccepting_17 (by decide) ?_
        refine x_iconst (v := 0) dL_isAccepting_24 rfl ?_
        exact x_ireturn dL_isAccepting_25 rfl rfl hP
      · rw [if_neg c0] at hP
        refine x_lconst (v := 1) dL_isAccepting_11 rfl ?_
        refine x_goto (tgt := 16) dL_isAccepting_12 (by decide) ?_
        refine x_lastore dL_isAccepting_16 ho v01 ?_
        refine x_goto (tgt := 24) dL_isAccepting_17 (by decide) ?_
        refine x_iconst (v := 0) dL_isAccepting_24 rfl ?_
        exact x_ireturn dL_isAccepting_25 rfl rfl hP
  · obtain ⟨j, hE, hP⟩ := hq
    match j, hE with
    | 0, hE =>
      obtain rfl := Option.some.inj hE
      refine ⟨20, ⟨[], ⟨0, 17, 20, 18⟩, _, rfl, (fun z hz => nomatch hz), rfl, by decide, rfl, _, kL_18, ca_IndexOutOfBoundsException⟩, fun q => ?_⟩
      refine x_astore dL_isAccepting_20 (L' := [some _, some _, some _, some _, some _]) (by decide) rfl ?_
      refine x_iconst (v := 1) dL_isAccepting_22 rfl ?_
      exact x_ireturn dL_isAccepting_23 rfl rfl hP
    | j + 1, hE => cases hE
abbrev mL_statePositions : p_M := (yL_statePositions, cL_statePositions, 5, some .int)
theorem cfL_statePositions : p_cfX [(0, 10, 13, 18)] mL_statePositions 4 := ⟨p_in (p_t5 (List.mem_of_getElem? (i := 109) rfl)) rfl, p_in (p_t1 (List.mem_of_getElem? (i := 0) (by decide +kernel))) rfl, ⟨by decide +kernel, by decide +kernel⟩, by decide +kernel, by decide, by decide +kernel⟩
theorem stL_statePositions : Cond.static yL_statePositions ∈ p_ws := p_in (p_t5 (List.mem_of_getElem? (i := 108) (by decide +kernel))) rfl
theorem h_statePositions {p0 : Int32} {p1 : Int32} (hx : h x = some (.inr (10, fs))) (kk : SM G mX10_statePositions h [.ref x, .int p0, .int p1] d mc ms (p_HI P out cvI ["java/lang/IndexOutOfBoundsException"])) : SMX [(0, 10, 13, 18)] G mL_statePositions h [.ref x, .int p0, .int p1, .ref out] (d + 1) mc ms P := by
  refine SMX.of2 (L := [some (.ref x), some (.int p0), some (.int p1), some (.ref out), none]) cfL_statePositions rfl (Nat.le_of_ble_eq_true rfl) ?_
  refine x_aload_n dL_statePositions_0 rfl ?_
  refine x_iconst (v := 0) dL_statePositions_1 rfl ?_
  refine x_aload_n dL_statePositions_2 rfl ?_
  refine x_iload_n dL_statePositions_3 rfl ?_
  refine x_iload_n dL_statePositions_4 rfl ?_
  refine x_callV (As := [.int p0, .int p1]) (mc := mc) (ms := ms) (k' := 0) (n' := 0) dL_statePositions_5 cfX10_statePositions imX10_statePositions seX10_statePositions lL_87 hx rfl rfl rfl rfl (Nat.le_of_ble_eq_true rfl) rfl rfl ?_
  refine kk.mono (fun o h' hq => ?_)
  rcases o with (_ | v) | E'
  · exact hq.elim
  · cases v with
    | long z => obtain ⟨_, _, e, _⟩ := hq; cases e
    | float z => obtain ⟨_, _, e, _⟩ := hq; cases e
    | double z => obtain ⟨_, _, e, _⟩ := hq; cases e
    | null => obtain ⟨_, _, e, _⟩ := hq; cases e
    | ref z => obtain ⟨_, _, e, _⟩ := hq; cases e
    | retAddr z => obtain ⟨_, _, e, _⟩ := hq; cases e
    | int v =>
      obtain ⟨z, f, e, ho, hP⟩ := hq
      obtain rfl := Option.some.inj e
      refine (show SX _ G mL_statePositions P (d + 1) 0 0 h' 8 [some (.ref x), some (.int p0), some (.int p1), some (.ref out), none] [.int v, .int 0, .ref out] from ?_)
      refine x_i2l dL_statePositions_8 ?_
      refine x_lastore dL_statePositions_9 ho v01 ?_
      refine x_goto (tgt := 17) dL_statePositions_10 (by decide) ?_
      refine x_iconst (v := 0) dL_statePositions_17 rfl ?_
      exact x_ireturn dL_statePositions_18 rfl rfl hP
  · obtain ⟨j, hE, hP⟩ := hq
    match j, hE with
    | 0, hE =>
      obtain rfl := Option.some.inj hE
      refine ⟨13, ⟨[], ⟨0, 10, 13, 18⟩, _, rfl, (fun z hz => nomatch hz), rfl, by decide, rfl, _, kL_18, ca_IndexOutOfBoundsException⟩, fun q => ?_⟩
      refine x_astore dL_statePositions_13 (L' := [some _, some _, some _, some _, some _]) (by decide) rfl ?_
      refine x_iconst (v := 1) dL_statePositions_15 rfl ?_
      exact x_ireturn dL_statePositions_16 rfl rfl hP
    | j + 1, hE => cases hE
abbrev mL_deadState : p_M := (yL_deadState, cL_deadState, 4, some .int)
theorem cfL_deadState : p_cfX [(0, 9, 12, 18)] mL_deadState 3 := ⟨p_in (p_t5 (List.mem_of_getElem? (i := 117) rfl)) rfl, p_in (p_t1 (List.mem_of_getElem? (i := 0) (by decide +kernel))) rfl, ⟨by decide +kernel, by decide +kernel⟩, by decide +kernel, by decide, by decide +kernel⟩
theorem stL_deadState : Cond.static yL_deadState ∈ p_ws := p_in (p_t5 (List.mem_of_getElem? (i := 116) (by decide +kernel))) rfl
theorem h_deadState {p0 : Int32} (hx : h x = some (.inr (10, fs))) (kk : SM G mX10_deadState h [.ref x, .int p0] d mc ms (p_HI P out cvI ["java/lang/IndexOutOfBoundsException"])) : SMX [(0, 9, 12, 18)] G mL_deadState h [.ref x, .int p0, .ref out] (d + 1) mc ms P := by
  refine SMX.of2 (L := [some (.ref x), some (.int p0), some (.ref out), none]) cfL_deadState rfl (Nat.le_of_ble_eq_true rfl) ?_
  refine x_aload_n dL_deadState_0 rfl ?_
  refine x_iconst (v := 0) dL_deadState_1 rfl ?_
  refine x_aload_n dL_deadState_2 rfl ?_
  refine x_iload_n dL_deadState_3 rfl ?_
  refine x_callV (As := [.int p0]) (mc := mc) (ms := ms) (k' := 0) (n' := 0) dL_deadState_4 cfX10_deadState imX10_deadState seX10_deadState lL_90 hx rfl rfl rfl rfl (Nat.le_of_ble_eq_true rfl) rfl rfl ?_
  refine kk.mono (fun o h' hq => ?_)
  rcases o with (_ | v) | E'
  · exact hq.elim
  · cases v with
    | long z => obtain ⟨_, _, e, _⟩ := hq; cases e
    | float z => obtain ⟨_, _, e, _⟩ := hq; cases e
    | double z => obtain ⟨_, _, e, _⟩ := hq; cases e
    | null => obtain ⟨_, _, e, _⟩ := hq; cases e
    | ref z => obtain ⟨_, _, e, _⟩ := hq; cases e
    | retAddr z => obtain ⟨_, _, e, _⟩ := hq; cases e
    | int v =>
      obtain ⟨z, f, e, ho, hP⟩ := hq
      obtain rfl := Option.some.inj e
      refine (show SX _ G mL_deadState P (d + 1) 0 0 h' 7 [some (.ref x), some (.int p0), some (.ref out), none] [.int v, .int 0, .ref out] from ?_)
      refine x_i2l dL_deadState_7 ?_
      refine x_lastore dL_deadState_8 ho v01 ?_
      refine x_goto (tgt := 15) dL_deadState_9 (by decide) ?_
      refine x_iconst (v := 0) dL_deadState_15 rfl ?_
      exact x_ireturn dL_deadState_16 rfl rfl hP
  · obtain ⟨j, hE, hP⟩ := hq
    match j, hE with
    | 0, hE =>
      obtain rfl := Option.some.inj hE
      refine ⟨12, ⟨[], ⟨0, 9, 12, 18⟩, _, rfl, (fun z hz => nomatch hz), rfl, by decide, rfl, _, kL_18, ca_IndexOutOfBoundsException⟩, fun q => ?_⟩
      refine x_astore_n dL_deadState_12 (L' := [some _, some _, some _, some _]) (by decide) rfl ?_
      refine x_iconst (v := 1) dL_deadState_13 rfl ?_
      exact x_ireturn dL_deadState_14 rfl rfl hP
    | j + 1, hE => cases hE
abbrev mL_distanceToAccepting : p_M := (yL_distanceToAccepting, cL_distanceToAccepting, 5, some .int)
theorem cfL_distanceToAccepting : p_cfX [(0, 10, 13, 18)] mL_distanceToAccepting 4 := ⟨p_in (p_t5 (List.mem_of_getElem? (i := 128) rfl)) rfl, p_in (p_t1 (List.mem_of_getElem? (i := 0) (by decide +kernel))) rfl, ⟨by decide +kernel, by decide +kernel⟩, by decide +kernel, by decide, by decide +kernel⟩
theorem stL_distanceToAccepting : Cond.static yL_distanceToAccepting ∈ p_ws := p_in (p_t5 (List.mem_of_getElem? (i := 127) (by decide +kernel))) rfl
theorem h_distanceToAccepting {p0 : Int32} {p1 : Int32} (hx : h x = some (.inr (10, fs))) (kk : SM G mX10_distanceToAccepting h [.ref x, .int p0, .int p1] d mc ms (p_HI P out cvI ["java/lang/IndexOutOfBoundsException"])) : SMX [(0, 10, 13, 18)] G mL_distanceToAccepting h [.ref x, .int p0, .int p1, .ref out] (d + 1) mc ms P := by
  refine SMX.of2 (L := [some (.ref x), some (.int p0), some (.int p1), some (.ref out), none]) cfL_distanceToAccepting rfl (Nat.le_of_ble_eq_true rfl) ?_
  refine x_aload_n dL_distanceToAccepting_0 rfl ?_
  refine x_iconst (v := 0) dL_distanceToAccepting_1 rfl ?_
  refine x_aload_n dL_distanceToAccepting_2 rfl ?_
  refine x_iload_n dL_distanceToAccepting_3 rfl ?_
  refine x_iload_n dL_distanceToAccepting_4 rfl ?_
  refine x_callV (As := [.int p0, .int p1]) (mc := mc) (ms := ms) (k' := 0) (n' := 0) dL_distanceToAccepting_5 cfX10_distanceToAccepting imX10_distanceToAccepting seX10_distanceToAccepting lL_93 hx rfl rfl rfl rfl (Nat.le_of_ble_eq_true rfl) rfl rfl ?_
  refine kk.mono (fun o h' hq => ?_)
  rcases o with (_ | v) | E'
  · exact hq.elim
  · cases v with
    | long z => obtain ⟨_, _, e, _⟩ := hq; cases e
    | float z => obtain ⟨_, _, e, _⟩ := hq; cases e
    | double z => obtain ⟨_, _, e, _⟩ := hq; cases e
    | null => obtain ⟨_, _, e, _⟩ := hq; cases e
    | ref z => obtain ⟨_, _, e, _⟩ := hq; cases e
    | retAddr z => obtain ⟨_, _, e, _⟩ := hq; cases e
    | int v =>
      obtain ⟨z, f, e, ho, hP⟩ := hq
      obtain rfl := Option.some.inj e
      refine (show SX _ G mL_distanceToAccepting P (d + 1) 0 0 h' 8 [some (.ref x), some (.int p0), some (.int p1), some (.ref out), none] [.int v, .int 0, .ref out] from ?_)
      refine x_i2l dL_distanceToAccepting_8 ?_
      refine x_lastore dL_distanceToAccepting_9 ho v01 ?_
      refine x_goto (tgt := 17) dL_distanceToAccepting_10 (by decide) ?_
      refine x_iconst (v := 0) dL_distanceToAccepting_17 rfl ?_
      exact x_ireturn dL_distanceToAccepting_18 rfl rfl hP
  · obtain ⟨j, hE, hP⟩ := hq
    match j, hE with
    | 0, hE =>
      obtain rfl := Option.some.inj hE
      refine ⟨13, ⟨[], ⟨0, 10, 13, 18⟩, _, rfl, (fun z hz => nomatch hz), rfl, by decide, rfl, _, kL_18, ca_IndexOutOfBoundsException⟩, fun q => ?_⟩
      refine x_astore dL_distanceToAccepting_13 (L' := [some _, some _, some _, some _, some _]) (by decide) rfl ?_
      refine x_iconst (v := 1) dL_distanceToAccepting_15 rfl ?_
      exact x_ireturn dL_distanceToAccepting_16 rfl rfl hP
    | j + 1, hE => cases hE
abbrev mL_areEquivalentStates : p_M := (yL_areEquivalentStates, cL_areEquivalentStates, 6, some .int)
theorem cfL_areEquivalentStates : p_cfX [(0, 19, 22, 18)] mL_areEquivalentStates 5 := ⟨p_in (p_t5 (List.mem_of_getElem? (i := 140) rfl)) rfl, p_in (p_t1 (List.mem_of_getElem? (i := 0) (by decide +kernel))) rfl, ⟨by decide +kernel, by decide +kernel⟩, by decide +kernel, by decide, by decide +kernel⟩
theorem stL_areEquivalentStates : Cond.static yL_areEquivalentStates ∈ p_ws := p_in (p_t5 (List.mem_of_getElem? (i := 139) (by decide +kernel))) rfl
theorem h_areEquivalentStates {p0 : Int32} {p1 : Int32} {p2 : Int32} (hx : h x = some (.inr (10, fs))) (kk : SM G mX10_areEquivalentStates h [.ref x, .int p0, .int p1, .int p2] d mc ms (p_HI P out cvZ ["java/lang/IndexOutOfBoundsException"])) : SMX [(0, 19, 22, 18)] G mL_areEquivalentStates h [.ref x, .int p0, .int p1, .int p2, .ref out] (d + 1) mc ms P := by
  refine SMX.of2 (L := [some (.ref x), some (.int p0), some (.int p1), some (.int p2), some (.ref out), none]) cfL_areEquivalentStates rfl (Nat.le_of_ble_eq_true rfl) ?_
  refine x_aload dL_areEquivalentStates_0 rfl ?_
  refine x_iconst (v := 0) dL_areEquivalentStates_2 rfl ?_
  refine x_aload_n dL_areEquivalentStates_3 rfl ?_
  refine x_iload_n dL_areEquivalentStates_4 rfl ?_
  refine x_iload_n dL_areEquivalentStates_5 rfl ?_
  refine x_iload_n dL_areEquivalentStates_6 rfl ?_
  refine x_callV (As := [.int p0, .int p1, .int p2]) (mc := mc) (ms := ms) (k' := 0) (n' := 0) dL_areEquivalentStates_7 cfX10_areEquivalentStates imX10_areEquivalentStates seX10_areEquivalentStates lL_96 hx rfl rfl rfl rfl (Nat.le_of_ble_eq_true rfl) rfl rfl ?_
  refine kk.mono (fun o h' hq => ?_)
  rcases o with (_ | v) | E'
  · exact hq.elim
  · cases v with
    | long z => obtain ⟨_, _, e, _⟩ := hq; cases e
    | float z => obtain ⟨_, _, e, _⟩ := hq; cases e
    | double z => obtain ⟨_, _, e, _⟩ := hq; cases e
    | null => obtain ⟨_, _, e, _⟩ := hq; cases e
    | ref z => obtain ⟨_, _, e, _⟩ := hq; cases e
    | retAddr z => obtain ⟨_, _, e, _⟩ := hq; cases e
    | int v =>
      obtain ⟨z, f, e, ho, hP⟩ := hq
      obtain rfl := Option.some.inj e
      refine (show SX _ G mL_areEquivalentStates P (d + 1) 0 0 h' 10 [some (.ref x), some (.int p0), some (.int p1), some (.int p2), some (.ref out), none] [.int v, .int 0, .ref out] from ?_)
      refine x_if_eq (tgt := 17) dL_areEquivalentStates_10 (by decide) (fun c0 => ?_) (fun c0 => ?_)
      · rw [if_pos c0] at hP
        refine x_lconst (v := 0) dL_areEquivalentStates_17 rfl ?_
        refine x_lastore dL_areEquivalentStates_18 ho v01 ?_
        refine x_goto (tgt := 26) dL_areEquivalentStates_19 (by decide) ?_
        refine x_iconst (v := 0) dL_areEquivalentStates_26 rfl ?_
        exact x_ireturn dL_areEquivalentStates_27 rfl rfl hP
      · rw [if_neg c0] at hP
        refine x_lconst (v := 1) dL_areEquivalentStates_13 rfl ?_
        refine x_goto (tgt := 18) dL_areEquivalentStates_14 (by decide) ?_
        refine x_lastore dL_areEquivalentStates_18 ho v01 ?_
        refine x_goto (tgt := 26) dL_areEquivalentStates_19 (by decide) ?_
        refine x_iconst (v := 0) dL_areEquivalentStates_26 rfl ?_
        exact x_ireturn dL_areEquivalentStates_27 rfl rfl hP
  · obtain ⟨j, hE, hP⟩ := hq
    match j, hE with
    | 0, hE =>
      obtain rfl := Option.some.inj hE
      refine ⟨22, ⟨[], ⟨0, 19, 22, 18⟩, _, rfl, (fun z hz => nomatch hz), rfl, by decide, rfl, _, kL_18, ca_IndexOutOfBoundsException⟩, fun q => ?_⟩
      refine x_astore dL_areEquivalentStates_22 (L' := [some _, some _, some _, some _, some _, some _]) (by decide) rfl ?_
      refine x_iconst (v := 1) dL_areEquivalentStates_24 rfl ?_
      exact x_ireturn dL_areEquivalentStates_25 rfl rfl hP
    | j + 1, hE => cases hE
abbrev mL_minimalStateCount : p_M := (yL_minimalStateCount, cL_minimalStateCount, 4, some .int)
theorem cfL_minimalStateCount : p_cfX [(0, 9, 12, 18)] mL_minimalStateCount 3 := ⟨p_in (p_t5 (List.mem_of_getElem? (i := 175) rfl)) rfl, p_in (p_t1 (List.mem_of_getElem? (i := 0) (by decide +kernel))) rfl, ⟨by decide +kernel, by decide +kernel⟩, by decide +kernel, by decide, by decide +kernel⟩
theorem stL_minimalStateCount : Cond.static yL_minimalStateCount ∈ p_ws := p_in (p_t5 (List.mem_of_getElem? (i := 174) (by decide +kernel))) rfl
theorem h_minimalStateCount {p0 : Int32} (hx : h x = some (.inr (10, fs))) (kk : SM G mX10_minimalStateCount h [.ref x, .int p0] d mc ms (p_HI P out cvI ["java/lang/IndexOutOfBoundsException"])) : SMX [(0, 9, 12, 18)] G mL_minimalStateCount h [.ref x, .int p0, .ref out] (d + 1) mc ms P := by
  refine SMX.of2 (L := [some (.ref x), some (.int p0), some (.ref out), none]) cfL_minimalStateCount rfl (Nat.le_of_ble_eq_true rfl) ?_
  refine x_aload_n dL_minimalStateCount_0 rfl ?_
  refine x_iconst (v := 0) dL_minimalStateCount_1 rfl ?_
  refine x_aload_n dL_minimalStateCount_2 rfl ?_
  refine x_iload_n dL_minimalStateCount_3 rfl ?_
  refine x_callV (As := [.int p0]) (mc := mc) (ms := ms) (k' := 0) (n' := 0) dL_minimalStateCount_4 cfX10_minimalStateCount imX10_minimalStateCount seX10_minimalStateCount lL_100 hx rfl rfl rfl rfl (Nat.le_of_ble_eq_true rfl) rfl rfl ?_
  refine kk.mono (fun o h' hq => ?_)
  rcases o with (_ | v) | E'
  · exact hq.elim
  · cases v with
    | long z => obtain ⟨_, _, e, _⟩ := hq; cases e
    | float z => obtain ⟨_, _, e, _⟩ := hq; cases e
    | double z => obtain ⟨_, _, e, _⟩ := hq; cases e
    | null => obtain ⟨_, _, e, _⟩ := hq; cases e
    | ref z => obtain ⟨_, _, e, _⟩ := hq; cases e
    | retAddr z => obtain ⟨_, _, e, _⟩ := hq; cases e
    | int v =>
      obtain ⟨z, f, e, ho, hP⟩ := hq
      obtain rfl := Option.some.inj e
      refine (show SX _ G mL_minimalStateCount P (d + 1) 0 0 h' 7 [some (.ref x), some (.int p0), some (.ref out), none] [.int v, .int 0, .ref out] from ?_)
      refine x_i2l dL_minimalStateCount_7 ?_
      refine x_lastore dL_minimalStateCount_8 ho v01 ?_
      refine x_goto (tgt := 15) dL_minimalStateCount_9 (by decide) ?_
      refine x_iconst (v := 0) dL_minimalStateCount_15 rfl ?_
      exact x_ireturn dL_minimalStateCount_16 rfl rfl hP
  · obtain ⟨j, hE, hP⟩ := hq
    match j, hE with
    | 0, hE =>
      obtain rfl := Option.some.inj hE
      refine ⟨12, ⟨[], ⟨0, 9, 12, 18⟩, _, rfl, (fun z hz => nomatch hz), rfl, by decide, rfl, _, kL_18, ca_IndexOutOfBoundsException⟩, fun q => ?_⟩
      refine x_astore_n dL_minimalStateCount_12 (L' := [some _, some _, some _, some _]) (by decide) rfl ?_
      refine x_iconst (v := 1) dL_minimalStateCount_13 rfl ?_
      exact x_ireturn dL_minimalStateCount_14 rfl rfl hP
    | j + 1, hE => cases hE
abbrev mL_acceptsInput : p_M := (yL_acceptsInput, cL_acceptsInput, 4, some .int)
theorem cfL_acceptsInput : p_cfX [(0, 16, 19, 18)] mL_acceptsInput 3 := ⟨p_in (p_t5 (List.mem_of_getElem? (i := 186) rfl)) rfl, p_in (p_t1 (List.mem_of_getElem? (i := 0) (by decide +kernel))) rfl, ⟨by decide +kernel, by decide +kernel⟩, by decide +kernel, by decide, by decide +kernel⟩
theorem stL_acceptsInput : Cond.static yL_acceptsInput ∈ p_ws := p_in (p_t5 (List.mem_of_getElem? (i := 185) (by decide +kernel))) rfl
theorem h_acceptsInput {p0 : Int32} (hx : h x = some (.inr (10, fs))) (kk : SM G mX10_acceptsInput h [.ref x, .int p0] d mc ms (p_HI P out cvZ ["java/lang/IndexOutOfBoundsException"])) : SMX [(0, 16, 19, 18)] G mL_acceptsInput h [.ref x, .int p0, .ref out] (d + 1) mc ms P := by
  refine SMX.of2 (L := [some (.ref x), some (.int p0), some (.ref out), none]) cfL_acceptsInput rfl (Nat.le_of_ble_eq_true rfl) ?_
  refine x_aload_n dL_acceptsInput_0 rfl ?_
  refine x_iconst (v := 0) dL_acceptsInput_1 rfl ?_
  refine x_aload_n dL_acceptsInput_2 rfl ?_
  refine x_iload_n dL_acceptsInput_3 rfl ?_
  refine x_callV (As := [.int p0]) (mc := mc) (ms := ms) (k' := 0) (n' := 0) dL_acceptsInput_4 cfX10_acceptsInput imX10_acceptsInput seX10_acceptsInput lL_103 hx rfl rfl rfl rfl (Nat.le_of_ble_eq_true rfl) rfl rfl ?_
  refine kk.mono (fun o h' hq => ?_)
  rcases o with (_ | v) | E'
  · exact hq.elim
  · cases v with
    | long z => obtain ⟨_, _, e, _⟩ := hq; cases e
    | float z => obtain ⟨_, _, e, _⟩ := hq; cases e
    | double z => obtain ⟨_, _, e, _⟩ := hq; cases e
    | null => obtain ⟨_, _, e, _⟩ := hq; cases e
    | ref z => obtain ⟨_, _, e, _⟩ := hq; cases e
    | retAddr z => obtain ⟨_, _, e, _⟩ := hq; cases e
    | int v =>
      obtain ⟨z, f, e, ho, hP⟩ := hq
      obtain rfl := Option.some.inj e
      refine (show SX _ G mL_acceptsInput P (d + 1) 0 0 h' 7 [some (.ref x), some (.int p0), some (.ref out), none] [.int v, .int 0, .ref out] from ?_)
      refine x_if_eq (tgt := 14) dL_acceptsInput_7 (by decide) (fun c0 => ?_) (fun c0 => ?_)
      · rw [if_pos c0] at hP
        refine x_lconst (v := 0) dL_acceptsInput_14 rfl ?_
        refine x_lastore dL_acceptsInput_15 ho v01 ?_
        refine x_goto (tgt := 22) dL_acceptsInput_16 (by decide) ?_
        refine x_iconst (v := 0) dL_acceptsInput_22 rfl ?_
        exact x_ireturn dL_acceptsInput_23 rfl rfl hP
      · rw [if_neg c0] at hP
        refine x_lconst (v := 1) dL_acceptsInput_10 rfl ?_
        refine x_goto (tgt := 15) dL_acceptsInput_11 (by decide) ?_
        refine x_lastore dL_acceptsInput_15 ho v01 ?_
        refine x_goto (tgt := 22) dL_acceptsInput_16 (by decide) ?_
        refine x_iconst (v := 0) dL_acceptsInput_22 rfl ?_
        exact x_ireturn dL_acceptsInput_23 rfl rfl hP
  · obtain ⟨j, hE, hP⟩ := hq
    match j, hE with
    | 0, hE =>
      obtain rfl := Option.some.inj hE
      refine ⟨19, ⟨[], ⟨0, 16, 19, 18⟩, _, rfl, (fun z hz => nomatch hz), rfl, by decide, rfl, _, kL_18, ca_IndexOutOfBoundsException⟩, fun q => ?_⟩
      refine x_astore_n dL_acceptsInput_19 (L' := [some _, some _, some _, some _]) (by decide) rfl ?_
      refine x_iconst (v := 1) dL_acceptsInput_20 rfl ?_
      exact x_ireturn dL_acceptsInput_21 rfl rfl hP
    | j + 1, hE => cases hE
abbrev mL_wordCount : p_M := (yL_wordCount, cL_wordCount, 5, some .int)
theorem cfL_wordCount : p_cfX [(0, 9, 12, 18), (0, 9, 16, 13)] mL_wordCount 4 := ⟨p_in (p_t5 (List.mem_of_getElem? (i := 197) rfl)) rfl, p_in (p_t1 (List.mem_of_getElem? (i := 0) (by decide +kernel))) rfl, ⟨by decide +kernel, by decide +kernel⟩, by decide +kernel, by decide, by decide +kernel⟩
theorem stL_wordCount : Cond.static yL_wordCount ∈ p_ws := p_in (p_t5 (List.mem_of_getElem? (i := 196) (by decide +kernel))) rfl
theorem h_wordCount {p0 : Int32} {p1 : Int32} (hZn : p_Zn G) (hx : h x = some (.inr (10, fs))) (kk : SM G mX10_wordCount h [.ref x, .int p0, .int p1] d mc ms (p_HI P out cvJ ["java/lang/IndexOutOfBoundsException", "java/lang/IllegalArgumentException"])) : SMX [(0, 9, 12, 18), (0, 9, 16, 13)] G mL_wordCount h [.ref x, .int p0, .int p1, .ref out] (d + 1) mc ms P := by
  refine SMX.of2 (L := [some (.ref x), some (.int p0), some (.int p1), some (.ref out), none]) cfL_wordCount rfl (Nat.le_of_ble_eq_true rfl) ?_
  refine x_aload_n dL_wordCount_0 rfl ?_
  refine x_iconst (v := 0) dL_wordCount_1 rfl ?_
  refine x_aload_n dL_wordCount_2 rfl ?_
  refine x_iload_n dL_wordCount_3 rfl ?_
  refine x_iload_n dL_wordCount_4 rfl ?_
  refine x_callV (As := [.int p0, .int p1]) (mc := mc) (ms := ms) (k' := 0) (n' := 0) dL_wordCount_5 cfX10_wordCount imX10_wordCount seX10_wordCount lL_106 hx rfl rfl rfl rfl (Nat.le_of_ble_eq_true rfl) rfl rfl ?_
  refine kk.mono (fun o h' hq => ?_)
  rcases o with (_ | v) | E'
  · exact hq.elim
  · cases v with
    | int z => obtain ⟨_, _, e, _⟩ := hq; cases e
    | float z => obtain ⟨_, _, e, _⟩ := hq; cases e
    | double z => obtain ⟨_, _, e, _⟩ := hq; cases e
    | null => obtain ⟨_, _, e, _⟩ := hq; cases e
    | ref z => obtain ⟨_, _, e, _⟩ := hq; cases e
    | retAddr z => obtain ⟨_, _, e, _⟩ := hq; cases e
    | long v =>
      obtain ⟨z, f, e, ho, hP⟩ := hq
      obtain rfl := Option.some.inj e
      refine (show SX _ G mL_wordCount P (d + 1) 0 0 h' 8 [some (.ref x), some (.int p0), some (.int p1), some (.ref out), none] [.long v, .int 0, .ref out] from ?_)
      refine x_lastore dL_wordCount_8 ho v01 ?_
      refine x_goto (tgt := 20) dL_wordCount_9 (by decide) ?_
      refine x_iconst (v := 0) dL_wordCount_20 rfl ?_
      exact x_ireturn dL_wordCount_21 rfl rfl hP
  · obtain ⟨j, hE, hP⟩ := hq
    match j, hE with
    | 0, hE =>
      obtain rfl := Option.some.inj hE
      refine ⟨12, ⟨[], ⟨0, 9, 12, 18⟩, _, rfl, (fun z hz => nomatch hz), rfl, by decide, rfl, _, kL_18, ca_IndexOutOfBoundsException⟩, fun q => ?_⟩
      refine x_astore dL_wordCount_12 (L' := [some _, some _, some _, some _, some _]) (by decide) rfl ?_
      refine x_iconst (v := 1) dL_wordCount_14 rfl ?_
      exact x_ireturn dL_wordCount_15 rfl rfl hP
    | 1, hE =>
      obtain rfl := Option.some.inj hE
      refine ⟨16, ⟨[⟨0, 9, 12, 18⟩], ⟨0, 9, 16, 13⟩, _, rfl, (fun z hz => Or.inr (by obtain rfl := List.mem_singleton.mp hz; exact ⟨by decide, _, kL_18, fun s hs => (hZn s hs).2⟩)), rfl, by decide, rfl, _, kL_13, ca_IllegalArgumentException⟩, fun q => ?_⟩
      refine x_astore dL_wordCount_16 (L' := [some _, some _, some _, some _, some _]) (by decide) rfl ?_
      refine x_iconst (v := 2) dL_wordCount_18 rfl ?_
      exact x_ireturn dL_wordCount_19 rfl rfl hP
    | j + 2, hE => cases hE
abbrev mL_wordCountWithPrefix : p_M := (yL_wordCountWithPrefix, cL_wordCountWithPrefix, 5, some .int)
theorem cfL_wordCountWithPrefix : p_cfX [(0, 9, 12, 18), (0, 9, 16, 13)] mL_wordCountWithPrefix 4 := ⟨p_in (p_t5 (List.mem_of_getElem? (i := 228) rfl)) rfl, p_in (p_t1 (List.mem_of_getElem? (i := 0) (by decide +kernel))) rfl, ⟨by decide +kernel, by decide +kernel⟩, by decide +kernel, by decide, by decide +kernel⟩
theorem stL_wordCountWithPrefix : Cond.static yL_wordCountWithPrefix ∈ p_ws := p_in (p_t5 (List.mem_of_getElem? (i := 227) (by decide +kernel))) rfl
theorem h_wordCountWithPrefix {p0 : Int32} {p1 : Int32} (hZn : p_Zn G) (hx : h x = some (.inr (10, fs))) (kk : SM G mX10_wordCountWithPrefix h [.ref x, .int p0, .int p1] d mc ms (p_HI P out cvJ ["java/lang/IndexOutOfBoundsException", "java/lang/IllegalArgumentException"])) : SMX [(0, 9, 12, 18), (0, 9, 16, 13)] G mL_wordCountWithPrefix h [.ref x, .int p0, .int p1, .ref out] (d + 1) mc ms P := by
  refine SMX.of2 (L := [some (.ref x), some (.int p0), some (.int p1), some (.ref out), none]) cfL_wordCountWithPrefix rfl (Nat.le_of_ble_eq_true rfl) ?_
  refine x_aload_n dL_wordCountWithPrefix_0 rfl ?_
  refine x_iconst (v := 0) dL_wordCountWithPrefix_1 rfl ?_
  refine x_aload_n dL_wordCountWithPrefix_2 rfl ?_
  refine x_iload_n dL_wordCountWithPrefix_3 rfl ?_
  refine x_iload_n dL_wordCountWithPrefix_4 rfl ?_
  refine x_callV (As := [.int p0, .int p1]) (mc := mc) (ms := ms) (k' := 0) (n' := 0) dL_wordCountWithPrefix_5 cfX10_wordCountWithPrefix imX10_wordCountWithPrefix seX10_wordCountWithPrefix lL_110 hx rfl rfl rfl rfl (Nat.le_of_ble_eq_true rfl) rfl rfl ?_
  refine kk.mono (fun o h' hq => ?_)
  rcases o with (_ | v) | E'
  · exact hq.elim
  · cases v with
    | int z => obtain ⟨_, _, e, _⟩ := hq; cases e
    | float z => obtain ⟨_, _, e, _⟩ := hq; cases e
    | double z => obtain ⟨_, _, e, _⟩ := hq; cases e
    | null => obtain ⟨_, _, e, _⟩ := hq; cases e
    | ref z => obtain ⟨_, _, e, _⟩ := hq; cases e
    | retAddr z => obtain ⟨_, _, e, _⟩ := hq; cases e
    | long v =>
      obtain ⟨z, f, e, ho, hP⟩ := hq
      obtain rfl := Option.some.inj e
      refine (show SX _ G mL_wordCountWithPrefix P (d + 1) 0 0 h' 8 [some (.ref x), some (.int p0), some (.int p1), some (.ref out), none] [.long v, .int 0, .ref out] from ?_)
      refine x_lastore dL_wordCountWithPrefix_8 ho v01 ?_
      refine x_goto (tgt := 20) dL_wordCountWithPrefix_9 (by decide) ?_
      refine x_iconst (v := 0) dL_wordCountWithPrefix_20 rfl ?_
      exact x_ireturn dL_wordCountWithPrefix_21 rfl rfl hP
  · obtain ⟨j, hE, hP⟩ := hq
    match j, hE with
    | 0, hE =>
      obtain rfl := Option.some.inj hE
      refine ⟨12, ⟨[], ⟨0, 9, 12, 18⟩, _, rfl, (fun z hz => nomatch hz), rfl, by decide, rfl, _, kL_18, ca_IndexOutOfBoundsException⟩, fun q => ?_⟩
      refine x_astore dL_wordCountWithPrefix_12 (L' := [some _, some _, some _, some _, some _]) (by decide) rfl ?_
      refine x_iconst (v := 1) dL_wordCountWithPrefix_14 rfl ?_
      exact x_ireturn dL_wordCountWithPrefix_15 rfl rfl hP
    | 1, hE =>
      obtain rfl := Option.some.inj hE
      refine ⟨16, ⟨[⟨0, 9, 12, 18⟩], ⟨0, 9, 16, 13⟩, _, rfl, (fun z hz => Or.inr (by obtain rfl := List.mem_singleton.mp hz; exact ⟨by decide, _, kL_18, fun s hs => (hZn s hs).2⟩)), rfl, by decide, rfl, _, kL_13, ca_IllegalArgumentException⟩, fun q => ?_⟩
      refine x_astore dL_wordCountWithPrefix_16 (L' := [some _, some _, some _, some _, some _]) (by decide) rfl ?_
      refine x_iconst (v := 2) dL_wordCountWithPrefix_18 rfl ?_
      exact x_ireturn dL_wordCountWithPrefix_19 rfl rfl hP
    | j + 2, hE => cases hE
abbrev mL_shortestLength : p_M := (yL_shortestLength, cL_shortestLength, 4, some .int)
theorem cfL_shortestLength : p_cfX [(0, 9, 12, 18)] mL_shortestLength 3 := ⟨p_in (p_t5 (List.mem_of_getElem? (i := 235) rfl)) rfl, p_in (p_t1 (List.mem_of_getElem? (i := 0) (by decide +kernel))) rfl, ⟨by decide +kernel, by decide +kernel⟩, by decide +kernel, by decide, by decide +kernel⟩
theorem stL_shortestLength : Cond.static yL_shortestLength ∈ p_ws := p_in (p_t5 (List.mem_of_getElem? (i := 234) (by decide +kernel))) rfl
theorem h_shortestLength {p0 : Int32} (hx : h x = some (.inr (10, fs))) (kk : SM G mX10_shortestLength h [.ref x, .int p0] d mc ms (p_HI P out cvI ["java/lang/IndexOutOfBoundsException"])) : SMX [(0, 9, 12, 18)] G mL_shortestLength h [.ref x, .int p0, .ref out] (d + 1) mc ms P := by
  refine SMX.of2 (L := [some (.ref x), some (.int p0), some (.ref out), none]) cfL_shortestLength rfl (Nat.le_of_ble_eq_true rfl) ?_
  refine x_aload_n dL_shortestLength_0 rfl ?_
  refine x_iconst (v := 0) dL_shortestLength_1 rfl ?_
  refine x_aload_n dL_shortestLength_2 rfl ?_
  refine x_iload_n dL_shortestLength_3 rfl ?_
  refine x_callV (As := [.int p0]) (mc := mc) (ms := ms) (k' := 0) (n' := 0) dL_shortestLength_4 cfX10_shortestLength imX10_shortestLength seX10_shortestLength lL_113 hx rfl rfl rfl rfl (Nat.le_of_ble_eq_true rfl) rfl rfl ?_
  refine kk.mono (fun o h' hq => ?_)
  rcases o with (_ | v) | E'
  · exact hq.elim
  · cases v with
    | long z => obtain ⟨_, _, e, _⟩ := hq; cases e
    | float z => obtain ⟨_, _, e, _⟩ := hq; cases e
    | double z => obtain ⟨_, _, e, _⟩ := hq; cases e
    | null => obtain ⟨_, _, e, _⟩ := hq; cases e
    | ref z => obtain ⟨_, _, e, _⟩ := hq; cases e
    | retAddr z => obtain ⟨_, _, e, _⟩ := hq; cases e
    | int v =>
      obtain ⟨z, f, e, ho, hP⟩ := hq
      obtain rfl := Option.some.inj e
      refine (show SX _ G mL_shortestLength P (d + 1) 0 0 h' 7 [some (.ref x), some (.int p0), some (.ref out), none] [.int v, .int 0, .ref out] from ?_)
      refine x_i2l dL_shortestLength_7 ?_
      refine x_lastore dL_shortestLength_8 ho v01 ?_
      refine x_goto (tgt := 15) dL_shortestLength_9 (by decide) ?_
      refine x_iconst (v := 0) dL_shortestLength_15 rfl ?_
      exact x_ireturn dL_shortestLength_16 rfl rfl hP
  · obtain ⟨j, hE, hP⟩ := hq
    match j, hE with
    | 0, hE =>
      obtain rfl := Option.some.inj hE
      refine ⟨12, ⟨[], ⟨0, 9, 12, 18⟩, _, rfl, (fun z hz => nomatch hz), rfl, by decide, rfl, _, kL_18, ca_IndexOutOfBoundsException⟩, fun q => ?_⟩
      refine x_astore_n dL_shortestLength_12 (L' := [some _, some _, some _, some _]) (by decide) rfl ?_
      refine x_iconst (v := 1) dL_shortestLength_13 rfl ?_
      exact x_ireturn dL_shortestLength_14 rfl rfl hP
    | j + 1, hE => cases hE
abbrev mL_isFinite : p_M := (yL_isFinite, cL_isFinite, 4, some .int)
theorem cfL_isFinite : p_cfX [(0, 16, 19, 18)] mL_isFinite 3 := ⟨p_in (p_t6 (List.mem_of_getElem? (i := 2) rfl)) rfl, p_in (p_t1 (List.mem_of_getElem? (i := 0) (by decide +kernel))) rfl, ⟨by decide +kernel, by decide +kernel⟩, by decide +kernel, by decide, by decide +kernel⟩
theorem stL_isFinite : Cond.static yL_isFinite ∈ p_ws := p_in (p_t6 (List.mem_of_getElem? (i := 1) (by decide +kernel))) rfl
theorem h_isFinite {p0 : Int32} (hx : h x = some (.inr (10, fs))) (kk : SM G mX10_isFinite h [.ref x, .int p0] d mc ms (p_HI P out cvZ ["java/lang/IndexOutOfBoundsException"])) : SMX [(0, 16, 19, 18)] G mL_isFinite h [.ref x, .int p0, .ref out] (d + 1) mc ms P := by
  refine SMX.of2 (L := [some (.ref x), some (.int p0), some (.ref out), none]) cfL_isFinite rfl (Nat.le_of_ble_eq_true rfl) ?_
  refine x_aload_n dL_isFinite_0 rfl ?_
  refine x_iconst (v := 0) dL_isFinite_1 rfl ?_
  refine x_aload_n dL_isFinite_2 rfl ?_
  refine x_iload_n dL_isFinite_3 rfl ?_
  refine x_callV (As := [.int p0]) (mc := mc) (ms := ms) (k' := 0) (n' := 0) dL_isFinite_4 cfX10_isFinite imX10_isFinite seX10_isFinite lL_116 hx rfl rfl rfl rfl (Nat.le_of_ble_eq_true rfl) rfl rfl ?_
  refine kk.mono (fun o h' hq => ?_)
  rcases o with (_ | v) | E'
  · exact hq.elim
  · cases v with
    | long z => obtain ⟨_, _, e, _⟩ := hq; cases e
    | float z => obtain ⟨_, _, e, _⟩ := hq; cases e
    | double z => obtain ⟨_, _, e, _⟩ := hq; cases e
    | null => obtain ⟨_, _, e, _⟩ := hq; cases e
    | ref z => obtain ⟨_, _, e, _⟩ := hq; cases e
    | retAddr z => obtain ⟨_, _, e, _⟩ := hq; cases e
    | int v =>
      obtain ⟨z, f, e, ho, hP⟩ := hq
      obtain rfl := Option.some.inj e
      refine (show SX _ G mL_isFinite P (d + 1) 0 0 h' 7 [some (.ref x), some (.int p0), some (.ref out), none] [.int v, .int 0, .ref out] from ?_)
      refine x_if_eq (tgt := 14) dL_isFinite_7 (by decide) (fun c0 => ?_) (fun c0 => ?_)
      · rw [if_pos c0] at hP
        refine x_lconst (v := 0) dL_isFinite_14 rfl ?_
        refine x_lastore dL_isFinite_15 ho v01 ?_
        refine x_goto (tgt := 22) dL_isFinite_16 (by decide) ?_
        refine x_iconst (v := 0) dL_isFinite_22 rfl ?_
        exact x_ireturn dL_isFinite_23 rfl rfl hP
      · rw [if_neg c0] at hP
        refine x_lconst (v := 1) dL_isFinite_10 rfl ?_
        refine x_goto (tgt := 15) dL_isFinite_11 (by decide) ?_
        refine x_lastore dL_isFinite_15 ho v01 ?_
        refine x_goto (tgt := 22) dL_isFinite_16 (by decide) ?_
        refine x_iconst (v := 0) dL_isFinite_22 rfl ?_
        exact x_ireturn dL_isFinite_23 rfl rfl hP
  · obtain ⟨j, hE, hP⟩ := hq
    match j, hE with
    | 0, hE =>
      obtain rfl := Option.some.inj hE
      refine ⟨19, ⟨[], ⟨0, 16, 19, 18⟩, _, rfl, (fun z hz => nomatch hz), rfl, by decide, rfl, _, kL_18, ca_IndexOutOfBoundsException⟩, fun q => ?_⟩
      refine x_astore_n dL_isFinite_19 (L' := [some _, some _, some _, some _]) (by decide) rfl ?_
      refine x_iconst (v := 1) dL_isFinite_20 rfl ?_
      exact x_ireturn dL_isFinite_21 rfl rfl hP
    | j + 1, hE => cases hE
abbrev mL_longestLength : p_M := (yL_longestLength, cL_longestLength, 4, some .int)
theorem cfL_longestLength : p_cfX [(0, 9, 12, 18)] mL_longestLength 3 := ⟨p_in (p_t6 (List.mem_of_getElem? (i := 27) rfl)) rfl, p_in (p_t1 (List.mem_of_getElem? (i := 0) (by decide +kernel))) rfl, ⟨by decide +kernel, by decide +kernel⟩, by decide +kernel, by decide, by decide +kernel⟩
theorem stL_longestLength : Cond.static yL_longestLength ∈ p_ws := p_in (p_t6 (List.mem_of_getElem? (i := 26) (by decide +kernel))) rfl
theorem h_longestLength {p0 : Int32} (hx : h x = some (.inr (10, fs))) (kk : SM G mX10_longestLength h [.ref x, .int p0] d mc ms (p_HI P out cvI ["java/lang/IndexOutOfBoundsException"])) : SMX [(0, 9, 12, 18)] G mL_longestLength h [.ref x, .int p0, .ref out] (d + 1) mc ms P := by
  refine SMX.of2 (L := [some (.ref x), some (.int p0), some (.ref out), none]) cfL_longestLength rfl (Nat.le_of_ble_eq_true rfl) ?_
  refine x_aload_n dL_longestLength_0 rfl ?_
  refine x_iconst (v := 0) dL_longestLength_1 rfl ?_
  refine x_aload_n dL_longestLength_2 rfl ?_
  refine x_iload_n dL_longestLength_3 rfl ?_
  refine x_callV (As := [.int p0]) (mc := mc) (ms := ms) (k' := 0) (n' := 0) dL_longestLength_4 cfX10_longestLength imX10_longestLength seX10_longestLength lL_119 hx rfl rfl rfl rfl (Nat.le_of_ble_eq_true rfl) rfl rfl ?_
  refine kk.mono (fun o h' hq => ?_)
  rcases o with (_ | v) | E'
  · exact hq.elim
  · cases v with
    | long z => obtain ⟨_, _, e, _⟩ := hq; cases e
    | float z => obtain ⟨_, _, e, _⟩ := hq; cases e
    | double z => obtain ⟨_, _, e, _⟩ := hq; cases e
    | null => obtain ⟨_, _, e, _⟩ := hq; cases e
    | ref z => obtain ⟨_, _, e, _⟩ := hq; cases e
    | retAddr z => obtain ⟨_, _, e, _⟩ := hq; cases e
    | int v =>
      obtain ⟨z, f, e, ho, hP⟩ := hq
      obtain rfl := Option.some.inj e
      refine (show SX _ G mL_longestLength P (d + 1) 0 0 h' 7 [some (.ref x), some (.int p0), some (.ref out), none] [.int v, .int 0, .ref out] from ?_)
      refine x_i2l dL_longestLength_7 ?_
      refine x_lastore dL_longestLength_8 ho v01 ?_
      refine x_goto (tgt := 15) dL_longestLength_9 (by decide) ?_
      refine x_iconst (v := 0) dL_longestLength_15 rfl ?_
      exact x_ireturn dL_longestLength_16 rfl rfl hP
  · obtain ⟨j, hE, hP⟩ := hq
    match j, hE with
    | 0, hE =>
      obtain rfl := Option.some.inj hE
      refine ⟨12, ⟨[], ⟨0, 9, 12, 18⟩, _, rfl, (fun z hz => nomatch hz), rfl, by decide, rfl, _, kL_18, ca_IndexOutOfBoundsException⟩, fun q => ?_⟩
      refine x_astore_n dL_longestLength_12 (L' := [some _, some _, some _, some _]) (by decide) rfl ?_
      refine x_iconst (v := 1) dL_longestLength_13 rfl ?_
      exact x_ireturn dL_longestLength_14 rfl rfl hP
    | j + 1, hE => cases hE
abbrev mL_isSubset : p_M := (yL_isSubset, cL_isSubset, 4, some .int)
theorem cfL_isSubset : p_cfX [(0, 16, 19, 18)] mL_isSubset 3 := ⟨p_in (p_t6 (List.mem_of_getElem? (i := 34) rfl)) rfl, p_in (p_t1 (List.mem_of_getElem? (i := 0) (by decide +kernel))) rfl, ⟨by decide +kernel, by decide +kernel⟩, by decide +kernel, by decide, by decide +kernel⟩
theorem stL_isSubset : Cond.static yL_isSubset ∈ p_ws := p_in (p_t6 (List.mem_of_getElem? (i := 33) (by decide +kernel))) rfl
theorem h_isSubset {p0 : Int32} (hx : h x = some (.inr (10, fs))) (kk : SM G mX10_isSubset h [.ref x, .int p0] d mc ms (p_HI P out cvZ ["java/lang/IndexOutOfBoundsException"])) : SMX [(0, 16, 19, 18)] G mL_isSubset h [.ref x, .int p0, .ref out] (d + 1) mc ms P := by
  refine SMX.of2 (L := [some (.ref x), some (.int p0), some (.ref out), none]) cfL_isSubset rfl (Nat.le_of_ble_eq_true rfl) ?_
  refine x_aload_n dL_isSubset_0 rfl ?_
  refine x_iconst (v := 0) dL_isSubset_1 rfl ?_
  refine x_aload_n dL_isSubset_2 rfl ?_
  refine x_iload_n dL_isSubset_3 rfl ?_
  refine x_callV (As := [.int p0]) (mc := mc) (ms := ms) (k' := 0) (n' := 0) dL_isSubset_4 cfX10_isSubset imX10_isSubset seX10_isSubset lL_122 hx rfl rfl rfl rfl (Nat.le_of_ble_eq_true rfl) rfl rfl ?_
  refine kk.mono (fun o h' hq => ?_)
  rcases o with (_ | v) | E'
  · exact hq.elim
  · cases v with
    | long z => obtain ⟨_, _, e, _⟩ := hq; cases e
    | float z => obtain ⟨_, _, e, _⟩ := hq; cases e
    | double z => obtain ⟨_, _, e, _⟩ := hq; cases e
    | null => obtain ⟨_, _, e, _⟩ := hq; cases e
    | ref z => obtain ⟨_, _, e, _⟩ := hq; cases e
    | retAddr z => obtain ⟨_, _, e, _⟩ := hq; cases e
    | int v =>
      obtain ⟨z, f, e, ho, hP⟩ := hq
      obtain rfl := Option.some.inj e
      refine (show SX _ G mL_isSubset P (d + 1) 0 0 h' 7 [some (.ref x), some (.int p0), some (.ref out), none] [.int v, .int 0, .ref out] from ?_)
      refine x_if_eq (tgt := 14) dL_isSubset_7 (by decide) (fun c0 => ?_) (fun c0 => ?_)
      · rw [if_pos c0] at hP
        refine x_lconst (v := 0) dL_isSubset_14 rfl ?_
        refine x_lastore dL_isSubset_15 ho v01 ?_
        refine x_goto (tgt := 22) dL_isSubset_16 (by decide) ?_
        refine x_iconst (v := 0) dL_isSubset_22 rfl ?_
        exact x_ireturn dL_isSubset_23 rfl rfl hP
      · rw [if_neg c0] at hP
        refine x_lconst (v := 1) dL_isSubset_10 rfl ?_
        refine x_goto (tgt := 15) dL_isSubset_11 (by decide) ?_
        refine x_lastore dL_isSubset_15 ho v01 ?_
        refine x_goto (tgt := 22) dL_isSubset_16 (by decide) ?_
        refine x_iconst (v := 0) dL_isSubset_22 rfl ?_
        exact x_ireturn dL_isSubset_23 rfl rfl hP
  · obtain ⟨j, hE, hP⟩ := hq
    match j, hE with
    | 0, hE =>
      obtain rfl := Option.some.inj hE
      refine ⟨19, ⟨[], ⟨0, 16, 19, 18⟩, _, rfl, (fun z hz => nomatch hz), rfl, by decide, rfl, _, kL_18, ca_IndexOutOfBoundsException⟩, fun q => ?_⟩
      refine x_astore_n dL_isSubset_19 (L' := [some _, some _, some _, some _]) (by decide) rfl ?_
      refine x_iconst (v := 1) dL_isSubset_20 rfl ?_
      exact x_ireturn dL_isSubset_21 rfl rfl hP
    | j + 1, hE => cases hE
abbrev mL_isPassable : p_M := (yL_isPassable, cL_isPassable, 4, some .int)
theorem cfL_isPassable : p_cfX [(0, 16, 19, 18)] mL_isPassable 3 := ⟨p_in (p_t6 (List.mem_of_getElem? (i := 41) rfl)) rfl, p_in (p_t1 (List.mem_of_getElem? (i := 0) (by decide +kernel))) rfl, ⟨by decide +kernel, by decide +kernel⟩, by decide +kernel, by decide, by decide +kernel⟩
theorem stL_isPassable : Cond.static yL_isPassable ∈ p_ws := p_in (p_t6 (List.mem_of_getElem? (i := 40) (by decide +kernel))) rfl
theorem h_isPassable {p0 : Int32} (hx : h x = some (.inr (10, fs))) (kk : SM G mX10_isPassable h [.ref x, .int p0] d mc ms (p_HI P out cvZ ["java/lang/IndexOutOfBoundsException"])) : SMX [(0, 16, 19, 18)] G mL_isPassable h [.ref x, .int p0, .ref out] (d + 1) mc ms P := by
  refine SMX.of2 (L := [some (.ref x), some (.int p0), some (.ref out), none]) cfL_isPassable rfl (Nat.le_of_ble_eq_true rfl) ?_
  refine x_aload_n dL_isPassable_0 rfl ?_
  refine x_iconst (v := 0) dL_isPassable_1 rfl ?_
  refine x_aload_n dL_isPassable_2 rfl ?_
  refine x_iload_n dL_isPassable_3 rfl ?_
  refine x_callV (As := [.int p0]) (mc := mc) (ms := ms) (k' := 0) (n' := 0) dL_isPassable_4 cfX10_isPassable imX10_isPassable seX10_isPassable lL_125 hx rfl rfl rfl rfl (Nat.le_of_ble_eq_true rfl) rfl rfl ?_
  refine kk.mono (fun o h' hq => ?_)
  rcases o with (_ | v) | E'
  · exact hq.elim
  · cases v with
    | long z => obtain ⟨_, _, e, _⟩ := hq; cases e
    | float z => obtain ⟨_, _, e, _⟩ := hq; cases e
    | double z => obtain ⟨_, _, e, _⟩ := hq; cases e
    | null => obtain ⟨_, _, e, _⟩ := hq; cases e
    | ref z => obtain ⟨_, _, e, _⟩ := hq; cases e
    | retAddr z => obtain ⟨_, _, e, _⟩ := hq; cases e
    | int v =>
      obtain ⟨z, f, e, ho, hP⟩ := hq
      obtain rfl := Option.some.inj e
      refine (show SX _ G mL_isPassable P (d + 1) 0 0 h' 7 [some (.ref x), some (.int p0), some (.ref out), none] [.int v, .int 0, .ref out] from ?_)
      refine x_if_eq (tgt := 14) dL_isPassable_7 (by decide) (fun c0 => ?_) (fun c0 => ?_)
      · rw [if_pos c0] at hP
        refine x_lconst (v := 0) dL_isPassable_14 rfl ?_
        refine x_lastore dL_isPassable_15 ho v01 ?_
        refine x_goto (tgt := 22) dL_isPassable_16 (by decide) ?_
        refine x_iconst (v := 0) dL_isPassable_22 rfl ?_
        exact x_ireturn dL_isPassable_23 rfl rfl hP
      · rw [if_neg c0] at hP
        refine x_lconst (v := 1) dL_isPassable_10 rfl ?_
        refine x_goto (tgt := 15) dL_isPassable_11 (by decide) ?_
        refine x_lastore dL_isPassable_15 ho v01 ?_
        refine x_goto (tgt := 22) dL_isPassable_16 (by decide) ?_
        refine x_iconst (v := 0) dL_isPassable_22 rfl ?_
        exact x_ireturn dL_isPassable_23 rfl rfl hP
  · obtain ⟨j, hE, hP⟩ := hq
    match j, hE with
    | 0, hE =>
      obtain rfl := Option.some.inj hE
      refine ⟨19, ⟨[], ⟨0, 16, 19, 18⟩, _, rfl, (fun z hz => nomatch hz), rfl, by decide, rfl, _, kL_18, ca_IndexOutOfBoundsException⟩, fun q => ?_⟩
      refine x_astore_n dL_isPassable_19 (L' := [some _, some _, some _, some _]) (by decide) rfl ?_
      refine x_iconst (v := 1) dL_isPassable_20 rfl ?_
      exact x_ireturn dL_isPassable_21 rfl rfl hP
    | j + 1, hE => cases hE
abbrev mL_walkerSlot : p_M := (yL_walkerSlot, cL_walkerSlot, 4, some .int)
theorem cfL_walkerSlot : p_cfX [(0, 9, 12, 18)] mL_walkerSlot 3 := ⟨p_in (p_t6 (List.mem_of_getElem? (i := 48) rfl)) rfl, p_in (p_t1 (List.mem_of_getElem? (i := 0) (by decide +kernel))) rfl, ⟨by decide +kernel, by decide +kernel⟩, by decide +kernel, by decide, by decide +kernel⟩
theorem stL_walkerSlot : Cond.static yL_walkerSlot ∈ p_ws := p_in (p_t6 (List.mem_of_getElem? (i := 47) (by decide +kernel))) rfl
theorem h_walkerSlot {p0 : Int32} (hx : h x = some (.inr (10, fs))) (kk : SM G mX10_walkerSlot h [.ref x, .int p0] d mc ms (p_HI P out cvI ["java/lang/IndexOutOfBoundsException"])) : SMX [(0, 9, 12, 18)] G mL_walkerSlot h [.ref x, .int p0, .ref out] (d + 1) mc ms P := by
  refine SMX.of2 (L := [some (.ref x), some (.int p0), some (.ref out), none]) cfL_walkerSlot rfl (Nat.le_of_ble_eq_true rfl) ?_
  refine x_aload_n dL_walkerSlot_0 rfl ?_
  refine x_iconst (v := 0) dL_walkerSlot_1 rfl ?_
  refine x_aload_n dL_walkerSlot_2 rfl ?_
  refine x_iload_n dL_walkerSlot_3 rfl ?_
  refine x_callV (As := [.int p0]) (mc := mc) (ms := ms) (k' := 0) (n' := 0) dL_walkerSlot_4 cfX10_walkerSlot imX10_walkerSlot seX10_walkerSlot lL_128 hx rfl rfl rfl rfl (Nat.le_of_ble_eq_true rfl) rfl rfl ?_
  refine kk.mono (fun o h' hq => ?_)
  rcases o with (_ | v) | E'
  · exact hq.elim
  · cases v with
    | long z => obtain ⟨_, _, e, _⟩ := hq; cases e
    | float z => obtain ⟨_, _, e, _⟩ := hq; cases e
    | double z => obtain ⟨_, _, e, _⟩ := hq; cases e
    | null => obtain ⟨_, _, e, _⟩ := hq; cases e
    | ref z => obtain ⟨_, _, e, _⟩ := hq; cases e
    | retAddr z => obtain ⟨_, _, e, _⟩ := hq; cases e
    | int v =>
      obtain ⟨z, f, e, ho, hP⟩ := hq
      obtain rfl := Option.some.inj e
      refine (show SX _ G mL_walkerSlot P (d + 1) 0 0 h' 7 [some (.ref x), some (.int p0), some (.ref out), none] [.int v, .int 0, .ref out] from ?_)
      refine x_i2l dL_walkerSlot_7 ?_
      refine x_lastore dL_walkerSlot_8 ho v01 ?_
      refine x_goto (tgt := 15) dL_walkerSlot_9 (by decide) ?_
      refine x_iconst (v := 0) dL_walkerSlot_15 rfl ?_
      exact x_ireturn dL_walkerSlot_16 rfl rfl hP
  · obtain ⟨j, hE, hP⟩ := hq
    match j, hE with
    | 0, hE =>
      obtain rfl := Option.some.inj hE
      refine ⟨12, ⟨[], ⟨0, 9, 12, 18⟩, _, rfl, (fun z hz => nomatch hz), rfl, by decide, rfl, _, kL_18, ca_IndexOutOfBoundsException⟩, fun q => ?_⟩
      refine x_astore_n dL_walkerSlot_12 (L' := [some _, some _, some _, some _]) (by decide) rfl ?_
      refine x_iconst (v := 1) dL_walkerSlot_13 rfl ?_
      exact x_ireturn dL_walkerSlot_14 rfl rfl hP
    | j + 1, hE => cases hE
abbrev mL_walkerState : p_M := (yL_walkerState, cL_walkerState, 4, some .int)
theorem cfL_walkerState : p_cfX [(0, 9, 12, 18)] mL_walkerState 3 := ⟨p_in (p_t6 (List.mem_of_getElem? (i := 56) rfl)) rfl, p_in (p_t1 (List.mem_of_getElem? (i := 0) (by decide +kernel))) rfl, ⟨by decide +kernel, by decide +kernel⟩, by decide +kernel, by decide, by decide +kernel⟩
theorem stL_walkerState : Cond.static yL_walkerState ∈ p_ws := p_in (p_t6 (List.mem_of_getElem? (i := 55) (by decide +kernel))) rfl
theorem h_walkerState {p0 : Int32} (hx : h x = some (.inr (10, fs))) (kk : SM G mX10_walkerState h [.ref x, .int p0] d mc ms (p_HI P out cvI ["java/lang/IndexOutOfBoundsException"])) : SMX [(0, 9, 12, 18)] G mL_walkerState h [.ref x, .int p0, .ref out] (d + 1) mc ms P := by
  refine SMX.of2 (L := [some (.ref x), some (.int p0), some (.ref out), none]) cfL_walkerState rfl (Nat.le_of_ble_eq_true rfl) ?_
  refine x_aload_n dL_walkerState_0 rfl ?_
  refine x_iconst (v := 0) dL_walkerState_1 rfl ?_
  refine x_aload_n dL_walkerState_2 rfl ?_
  refine x_iload_n dL_walkerState_3 rfl ?_
  refine x_callV (As := [.int p0]) (mc := mc) (ms := ms) (k' := 0) (n' := 0) dL_walkerState_4 cfX10_walkerState imX10_walkerState seX10_walkerState lL_131 hx rfl rfl rfl rfl (Nat.le_of_ble_eq_true rfl) rfl rfl ?_
  refine kk.mono (fun o h' hq => ?_)
  rcases o with (_ | v) | E'
  · exact hq.elim
  · cases v with
    | long z => obtain ⟨_, _, e, _⟩ := hq; cases e
    | float z => obtain ⟨_, _, e, _⟩ := hq; cases e
    | double z => obtain ⟨_, _, e, _⟩ := hq; cases e
    | null => obtain ⟨_, _, e, _⟩ := hq; cases e
    | ref z => obtain ⟨_, _, e, _⟩ := hq; cases e
    | retAddr z => obtain ⟨_, _, e, _⟩ := hq; cases e
    | int v =>
      obtain ⟨z, f, e, ho, hP⟩ := hq
      obtain rfl := Option.some.inj e
      refine (show SX _ G mL_walkerState P (d + 1) 0 0 h' 7 [some (.ref x), some (.int p0), some (.ref out), none] [.int v, .int 0, .ref out] from ?_)
      refine x_i2l dL_walkerState_7 ?_
      refine x_lastore dL_walkerState_8 ho v01 ?_
      refine x_goto (tgt := 15) dL_walkerState_9 (by decide) ?_
      refine x_iconst (v := 0) dL_walkerState_15 rfl ?_
      exact x_ireturn dL_walkerState_16 rfl rfl hP
  · obtain ⟨j, hE, hP⟩ := hq
    match j, hE with
    | 0, hE =>
      obtain rfl := Option.some.inj hE
      refine ⟨12, ⟨[], ⟨0, 9, 12, 18⟩, _, rfl, (fun z hz => nomatch hz), rfl, by decide, rfl, _, kL_18, ca_IndexOutOfBoundsException⟩, fun q => ?_⟩
      refine x_astore_n dL_walkerState_12 (L' := [some _, some _, some _, some _]) (by decide) rfl ?_
      refine x_iconst (v := 1) dL_walkerState_13 rfl ?_
      exact x_ireturn dL_walkerState_14 rfl rfl hP
    | j + 1, hE => cases hE
abbrev mL_walkerSteps : p_M := (yL_walkerSteps, cL_walkerSteps, 4, some .int)
theorem cfL_walkerSteps : p_cfX [(0, 9, 12, 18)] mL_walkerSteps 3 := ⟨p_in (p_t6 (List.mem_of_getElem? (i := 63) rfl)) rfl, p_in (p_t1 (List.mem_of_getElem? (i := 0) (by decide +kernel))) rfl, ⟨by decide +kernel, by decide +kernel⟩, by decide +kernel, by decide, by decide +kernel⟩
theorem stL_walkerSteps : Cond.static yL_walkerSteps ∈ p_ws := p_in (p_t6 (List.mem_of_getElem? (i := 62) (by decide +kernel))) rfl
theorem h_walkerSteps {p0 : Int32} (hx : h x = some (.inr (10, fs))) (kk : SM G mX10_walkerSteps h [.ref x, .int p0] d mc ms (p_HI P out cvI ["java/lang/IndexOutOfBoundsException"])) : SMX [(0, 9, 12, 18)] G mL_walkerSteps h [.ref x, .int p0, .ref out] (d + 1) mc ms P := by
  refine SMX.of2 (L := [some (.ref x), some (.int p0), some (.ref out), none]) cfL_walkerSteps rfl (Nat.le_of_ble_eq_true rfl) ?_
  refine x_aload_n dL_walkerSteps_0 rfl ?_
  refine x_iconst (v := 0) dL_walkerSteps_1 rfl ?_
  refine x_aload_n dL_walkerSteps_2 rfl ?_
  refine x_iload_n dL_walkerSteps_3 rfl ?_
  refine x_callV (As := [.int p0]) (mc := mc) (ms := ms) (k' := 0) (n' := 0) dL_walkerSteps_4 cfX10_walkerSteps imX10_walkerSteps seX10_walkerSteps lL_134 hx rfl rfl rfl rfl (Nat.le_of_ble_eq_true rfl) rfl rfl ?_
  refine kk.mono (fun o h' hq => ?_)
  rcases o with (_ | v) | E'
  · exact hq.elim
  · cases v with
    | long z => obtain ⟨_, _, e, _⟩ := hq; cases e
    | float z => obtain ⟨_, _, e, _⟩ := hq; cases e
    | double z => obtain ⟨_, _, e, _⟩ := hq; cases e
    | null => obtain ⟨_, _, e, _⟩ := hq; cases e
    | ref z => obtain ⟨_, _, e, _⟩ := hq; cases e
    | retAddr z => obtain ⟨_, _, e, _⟩ := hq; cases e
    | int v =>
      obtain ⟨z, f, e, ho, hP⟩ := hq
      obtain rfl := Option.some.inj e
      refine (show SX _ G mL_walkerSteps P (d + 1) 0 0 h' 7 [some (.ref x), some (.int p0), some (.ref out), none] [.int v, .int 0, .ref out] from ?_)
      refine x_i2l dL_walkerSteps_7 ?_
      refine x_lastore dL_walkerSteps_8 ho v01 ?_
      refine x_goto (tgt := 15) dL_walkerSteps_9 (by decide) ?_
      refine x_iconst (v := 0) dL_walkerSteps_15 rfl ?_
      exact x_ireturn dL_walkerSteps_16 rfl rfl hP
  · obtain ⟨j, hE, hP⟩ := hq
    match j, hE with
    | 0, hE =>
      obtain rfl := Option.some.inj hE
      refine ⟨12, ⟨[], ⟨0, 9, 12, 18⟩, _, rfl, (fun z hz => nomatch hz), rfl, by decide, rfl, _, kL_18, ca_IndexOutOfBoundsException⟩, fun q => ?_⟩
      refine x_astore_n dL_walkerSteps_12 (L' := [some _, some _, some _, some _]) (by decide) rfl ?_
      refine x_iconst (v := 1) dL_walkerSteps_13 rfl ?_
      exact x_ireturn dL_walkerSteps_14 rfl rfl hP
    | j + 1, hE => cases hE
abbrev mL_stepsHome : p_M := (yL_stepsHome, cL_stepsHome, 4, some .int)
theorem cfL_stepsHome : p_cfX [(0, 9, 12, 18)] mL_stepsHome 3 := ⟨p_in (p_t6 (List.mem_of_getElem? (i := 70) rfl)) rfl, p_in (p_t1 (List.mem_of_getElem? (i := 0) (by decide +kernel))) rfl, ⟨by decide +kernel, by decide +kernel⟩, by decide +kernel, by decide, by decide +kernel⟩
theorem stL_stepsHome : Cond.static yL_stepsHome ∈ p_ws := p_in (p_t6 (List.mem_of_getElem? (i := 69) (by decide +kernel))) rfl
theorem h_stepsHome {p0 : Int32} (hx : h x = some (.inr (10, fs))) (kk : SM G mX10_stepsHome h [.ref x, .int p0] d mc ms (p_HI P out cvI ["java/lang/IndexOutOfBoundsException"])) : SMX [(0, 9, 12, 18)] G mL_stepsHome h [.ref x, .int p0, .ref out] (d + 1) mc ms P := by
  refine SMX.of2 (L := [some (.ref x), some (.int p0), some (.ref out), none]) cfL_stepsHome rfl (Nat.le_of_ble_eq_true rfl) ?_
  refine x_aload_n dL_stepsHome_0 rfl ?_
  refine x_iconst (v := 0) dL_stepsHome_1 rfl ?_
  refine x_aload_n dL_stepsHome_2 rfl ?_
  refine x_iload_n dL_stepsHome_3 rfl ?_
  refine x_callV (As := [.int p0]) (mc := mc) (ms := ms) (k' := 0) (n' := 0) dL_stepsHome_4 cfX10_stepsHome imX10_stepsHome seX10_stepsHome lL_137 hx rfl rfl rfl rfl (Nat.le_of_ble_eq_true rfl) rfl rfl ?_
  refine kk.mono (fun o h' hq => ?_)
  rcases o with (_ | v) | E'
  · exact hq.elim
  · cases v with
    | long z => obtain ⟨_, _, e, _⟩ := hq; cases e
    | float z => obtain ⟨_, _, e, _⟩ := hq; cases e
    | double z => obtain ⟨_, _, e, _⟩ := hq; cases e
    | null => obtain ⟨_, _, e, _⟩ := hq; cases e
    | ref z => obtain ⟨_, _, e, _⟩ := hq; cases e
    | retAddr z => obtain ⟨_, _, e, _⟩ := hq; cases e
    | int v =>
      obtain ⟨z, f, e, ho, hP⟩ := hq
      obtain rfl := Option.some.inj e
      refine (show SX _ G mL_stepsHome P (d + 1) 0 0 h' 7 [some (.ref x), some (.int p0), some (.ref out), none] [.int v, .int 0, .ref out] from ?_)
      refine x_i2l dL_stepsHome_7 ?_
      refine x_lastore dL_stepsHome_8 ho v01 ?_
      refine x_goto (tgt := 15) dL_stepsHome_9 (by decide) ?_
      refine x_iconst (v := 0) dL_stepsHome_15 rfl ?_
      exact x_ireturn dL_stepsHome_16 rfl rfl hP
  · obtain ⟨j, hE, hP⟩ := hq
    match j, hE with
    | 0, hE =>
      obtain rfl := Option.some.inj hE
      refine ⟨12, ⟨[], ⟨0, 9, 12, 18⟩, _, rfl, (fun z hz => nomatch hz), rfl, by decide, rfl, _, kL_18, ca_IndexOutOfBoundsException⟩, fun q => ?_⟩
      refine x_astore_n dL_stepsHome_12 (L' := [some _, some _, some _, some _]) (by decide) rfl ?_
      refine x_iconst (v := 1) dL_stepsHome_13 rfl ?_
      exact x_ireturn dL_stepsHome_14 rfl rfl hP
    | j + 1, hE => cases hE
abbrev mL_streetHome : p_M := (yL_streetHome, cL_streetHome, 4, some .int)
theorem cfL_streetHome : p_cfX [(0, 9, 12, 18)] mL_streetHome 3 := ⟨p_in (p_t6 (List.mem_of_getElem? (i := 81) rfl)) rfl, p_in (p_t1 (List.mem_of_getElem? (i := 0) (by decide +kernel))) rfl, ⟨by decide +kernel, by decide +kernel⟩, by decide +kernel, by decide, by decide +kernel⟩
theorem stL_streetHome : Cond.static yL_streetHome ∈ p_ws := p_in (p_t6 (List.mem_of_getElem? (i := 80) (by decide +kernel))) rfl
theorem h_streetHome {p0 : Int32} (hx : h x = some (.inr (10, fs))) (kk : SM G mX10_streetHome h [.ref x, .int p0] d mc ms (p_HI P out cvI ["java/lang/IndexOutOfBoundsException"])) : SMX [(0, 9, 12, 18)] G mL_streetHome h [.ref x, .int p0, .ref out] (d + 1) mc ms P := by
  refine SMX.of2 (L := [some (.ref x), some (.int p0), some (.ref out), none]) cfL_streetHome rfl (Nat.le_of_ble_eq_true rfl) ?_
  refine x_aload_n dL_streetHome_0 rfl ?_
  refine x_iconst (v := 0) dL_streetHome_1 rfl ?_
  refine x_aload_n dL_streetHome_2 rfl ?_
  refine x_iload_n dL_streetHome_3 rfl ?_
  refine x_callV (As := [.int p0]) (mc := mc) (ms := ms) (k' := 0) (n' := 0) dL_streetHome_4 cfX10_streetHome imX10_streetHome seX10_streetHome lL_140 hx rfl rfl rfl rfl (Nat.le_of_ble_eq_true rfl) rfl rfl ?_
  refine kk.mono (fun o h' hq => ?_)
  rcases o with (_ | v) | E'
  · exact hq.elim
  · cases v with
    | long z => obtain ⟨_, _, e, _⟩ := hq; cases e
    | float z => obtain ⟨_, _, e, _⟩ := hq; cases e
    | double z => obtain ⟨_, _, e, _⟩ := hq; cases e
    | null => obtain ⟨_, _, e, _⟩ := hq; cases e
    | ref z => obtain ⟨_, _, e, _⟩ := hq; cases e
    | retAddr z => obtain ⟨_, _, e, _⟩ := hq; cases e
    | int v =>
      obtain ⟨z, f, e, ho, hP⟩ := hq
      obtain rfl := Option.some.inj e
      refine (show SX _ G mL_streetHome P (d + 1) 0 0 h' 7 [some (.ref x), some (.int p0), some (.ref out), none] [.int v, .int 0, .ref out] from ?_)
      refine x_i2l dL_streetHome_7 ?_
      refine x_lastore dL_streetHome_8 ho v01 ?_
      refine x_goto (tgt := 15) dL_streetHome_9 (by decide) ?_
      refine x_iconst (v := 0) dL_streetHome_15 rfl ?_
      exact x_ireturn dL_streetHome_16 rfl rfl hP
  · obtain ⟨j, hE, hP⟩ := hq
    match j, hE with
    | 0, hE =>
      obtain rfl := Option.some.inj hE
      refine ⟨12, ⟨[], ⟨0, 9, 12, 18⟩, _, rfl, (fun z hz => nomatch hz), rfl, by decide, rfl, _, kL_18, ca_IndexOutOfBoundsException⟩, fun q => ?_⟩
      refine x_astore_n dL_streetHome_12 (L' := [some _, some _, some _, some _]) (by decide) rfl ?_
      refine x_iconst (v := 1) dL_streetHome_13 rfl ?_
      exact x_ireturn dL_streetHome_14 rfl rfl hP
    | j + 1, hE => cases hE
abbrev mL_walkersInState : p_M := (yL_walkersInState, cL_walkersInState, 5, some .int)
theorem cfL_walkersInState : p_cfX [(0, 10, 13, 18)] mL_walkersInState 4 := ⟨p_in (p_t6 (List.mem_of_getElem? (i := 93) rfl)) rfl, p_in (p_t1 (List.mem_of_getElem? (i := 0) (by decide +kernel))) rfl, ⟨by decide +kernel, by decide +kernel⟩, by decide +kernel, by decide, by decide +kernel⟩
theorem stL_walkersInState : Cond.static yL_walkersInState ∈ p_ws := p_in (p_t6 (List.mem_of_getElem? (i := 92) (by decide +kernel))) rfl
theorem h_walkersInState {p0 : Int32} {p1 : Int32} (hx : h x = some (.inr (10, fs))) (kk : SM G mX10_walkersInState h [.ref x, .int p0, .int p1] d mc ms (p_HI P out cvI ["java/lang/IndexOutOfBoundsException"])) : SMX [(0, 10, 13, 18)] G mL_walkersInState h [.ref x, .int p0, .int p1, .ref out] (d + 1) mc ms P := by
  refine SMX.of2 (L := [some (.ref x), some (.int p0), some (.int p1), some (.ref out), none]) cfL_walkersInState rfl (Nat.le_of_ble_eq_true rfl) ?_
  refine x_aload_n dL_walkersInState_0 rfl ?_
  refine x_iconst (v := 0) dL_walkersInState_1 rfl ?_
  refine x_aload_n dL_walkersInState_2 rfl ?_
  refine x_iload_n dL_walkersInState_3 rfl ?_
  refine x_iload_n dL_walkersInState_4 rfl ?_
  refine x_callV (As := [.int p0, .int p1]) (mc := mc) (ms := ms) (k' := 0) (n' := 0) dL_walkersInState_5 cfX10_walkersInState imX10_walkersInState seX10_walkersInState lL_143 hx rfl rfl rfl rfl (Nat.le_of_ble_eq_true rfl) rfl rfl ?_
  refine kk.mono (fun o h' hq => ?_)
  rcases o with (_ | v) | E'
  · exact hq.elim
  · cases v with
    | long z => obtain ⟨_, _, e, _⟩ := hq; cases e
    | float z => obtain ⟨_, _, e, _⟩ := hq; cases e
    | double z => obtain ⟨_, _, e, _⟩ := hq; cases e
    | null => obtain ⟨_, _, e, _⟩ := hq; cases e
    | ref z => obtain ⟨_, _, e, _⟩ := hq; cases e
    | retAddr z => obtain ⟨_, _, e, _⟩ := hq; cases e
    | int v =>
      obtain ⟨z, f, e, ho, hP⟩ := hq
      obtain rfl := Option.some.inj e
      refine (show SX _ G mL_walkersInState P (d + 1) 0 0 h' 8 [some (.ref x), some (.int p0), some (.int p1), some (.ref out), none] [.int v, .int 0, .ref out] from ?_)
      refine x_i2l dL_walkersInState_8 ?_
      refine x_lastore dL_walkersInState_9 ho v01 ?_
      refine x_goto (tgt := 17) dL_walkersInState_10 (by decide) ?_
      refine x_iconst (v := 0) dL_walkersInState_17 rfl ?_
      exact x_ireturn dL_walkersInState_18 rfl rfl hP
  · obtain ⟨j, hE, hP⟩ := hq
    match j, hE with
    | 0, hE =>
      obtain rfl := Option.some.inj hE
      refine ⟨13, ⟨[], ⟨0, 10, 13, 18⟩, _, rfl, (fun z hz => nomatch hz), rfl, by decide, rfl, _, kL_18, ca_IndexOutOfBoundsException⟩, fun q => ?_⟩
      refine x_astore dL_walkersInState_13 (L' := [some _, some _, some _, some _, some _]) (by decide) rfl ?_
      refine x_iconst (v := 1) dL_walkersInState_15 rfl ?_
      exact x_ireturn dL_walkersInState_16 rfl rfl hP
    | j + 1, hE => cases hE
abbrev mL_meetingSteps : p_M := (yL_meetingSteps, cL_meetingSteps, 5, some .int)
theorem cfL_meetingSteps : p_cfX [(0, 10, 13, 18)] mL_meetingSteps 4 := ⟨p_in (p_t6 (List.mem_of_getElem? (i := 100) rfl)) rfl, p_in (p_t1 (List.mem_of_getElem? (i := 0) (by decide +kernel))) rfl, ⟨by decide +kernel, by decide +kernel⟩, by decide +kernel, by decide, by decide +kernel⟩
theorem stL_meetingSteps : Cond.static yL_meetingSteps ∈ p_ws := p_in (p_t6 (List.mem_of_getElem? (i := 99) (by decide +kernel))) rfl
theorem h_meetingSteps {p0 : Int32} {p1 : Int32} (hx : h x = some (.inr (10, fs))) (kk : SM G mX10_meetingSteps h [.ref x, .int p0, .int p1] d mc ms (p_HI P out cvI ["java/lang/IndexOutOfBoundsException"])) : SMX [(0, 10, 13, 18)] G mL_meetingSteps h [.ref x, .int p0, .int p1, .ref out] (d + 1) mc ms P := by
  refine SMX.of2 (L := [some (.ref x), some (.int p0), some (.int p1), some (.ref out), none]) cfL_meetingSteps rfl (Nat.le_of_ble_eq_true rfl) ?_
  refine x_aload_n dL_meetingSteps_0 rfl ?_
  refine x_iconst (v := 0) dL_meetingSteps_1 rfl ?_
  refine x_aload_n dL_meetingSteps_2 rfl ?_
  refine x_iload_n dL_meetingSteps_3 rfl ?_
  refine x_iload_n dL_meetingSteps_4 rfl ?_
  refine x_callV (As := [.int p0, .int p1]) (mc := mc) (ms := ms) (k' := 0) (n' := 0) dL_meetingSteps_5 cfX10_meetingSteps imX10_meetingSteps seX10_meetingSteps lL_146 hx rfl rfl rfl rfl (Nat.le_of_ble_eq_true rfl) rfl rfl ?_
  refine kk.mono (fun o h' hq => ?_)
  rcases o with (_ | v) | E'
  · exact hq.elim
  · cases v with
    | long z => obtain ⟨_, _, e, _⟩ := hq; cases e
    | float z => obtain ⟨_, _, e, _⟩ := hq; cases e
    | double z => obtain ⟨_, _, e, _⟩ := hq; cases e
    | null => obtain ⟨_, _, e, _⟩ := hq; cases e
    | ref z => obtain ⟨_, _, e, _⟩ := hq; cases e
    | retAddr z => obtain ⟨_, _, e, _⟩ := hq; cases e
    | int v =>
      obtain ⟨z, f, e, ho, hP⟩ := hq
      obtain rfl := Option.some.inj e
      refine (show SX _ G mL_meetingSteps P (d + 1) 0 0 h' 8 [some (.ref x), some (.int p0), some (.int p1), some (.ref out), none] [.int v, .int 0, .ref out] from ?_)
      refine x_i2l dL_meetingSteps_8 ?_
      refine x_lastore dL_meetingSteps_9 ho v01 ?_
      refine x_goto (tgt := 17) dL_meetingSteps_10 (by decide) ?_
      refine x_iconst (v := 0) dL_meetingSteps_17 rfl ?_
      exact x_ireturn dL_meetingSteps_18 rfl rfl hP
  · obtain ⟨j, hE, hP⟩ := hq
    match j, hE with
    | 0, hE =>
      obtain rfl := Option.some.inj hE
      refine ⟨13, ⟨[], ⟨0, 10, 13, 18⟩, _, rfl, (fun z hz => nomatch hz), rfl, by decide, rfl, _, kL_18, ca_IndexOutOfBoundsException⟩, fun q => ?_⟩
      refine x_astore dL_meetingSteps_13 (L' := [some _, some _, some _, some _, some _]) (by decide) rfl ?_
      refine x_iconst (v := 1) dL_meetingSteps_15 rfl ?_
      exact x_ireturn dL_meetingSteps_16 rfl rfl hP
    | j + 1, hE => cases hE
abbrev mL_meanSetSize : p_M := (yL_meanSetSize, cL_meanSetSize, 4, some .int)
theorem cfL_meanSetSize : p_cfX [(0, 8, 11, 18)] mL_meanSetSize 3 := ⟨p_in (p_t6 (List.mem_of_getElem? (i := 107) rfl)) rfl, p_in (p_t1 (List.mem_of_getElem? (i := 0) (by decide +kernel))) rfl, ⟨by decide +kernel, by decide +kernel⟩, by decide +kernel, by decide, by decide +kernel⟩
theorem stL_meanSetSize : Cond.static yL_meanSetSize ∈ p_ws := p_in (p_t6 (List.mem_of_getElem? (i := 106) (by decide +kernel))) rfl
theorem h_meanSetSize {p0 : Int32} (hx : h x = some (.inr (10, fs))) (kk : SM G mX10_meanSetSize h [.ref x, .int p0] d mc ms (p_HD P out ["java/lang/IndexOutOfBoundsException"])) : SMX [(0, 8, 11, 18)] G mL_meanSetSize h [.ref x, .int p0, .ref out] (d + 1) mc ms P := by
  refine SMX.of2 (L := [some (.ref x), some (.int p0), some (.ref out), none]) cfL_meanSetSize rfl (Nat.le_of_ble_eq_true rfl) ?_
  refine x_aload_n dL_meanSetSize_0 rfl ?_
  refine x_iconst (v := 0) dL_meanSetSize_1 rfl ?_
  refine x_aload_n dL_meanSetSize_2 rfl ?_
  refine x_iload_n dL_meanSetSize_3 rfl ?_
  refine x_callV (As := [.int p0]) (mc := mc) (ms := ms) (k' := 0) (n' := 0) dL_meanSetSize_4 cfX10_meanSetSize imX10_meanSetSize seX10_meanSetSize lL_149 hx rfl rfl rfl rfl (Nat.le_of_ble_eq_true rfl) rfl rfl ?_
  refine kk.mono (fun o h' hq => ?_)
  rcases o with (_ | v) | E'
  · exact hq.elim
  · cases v with
    | int z => exact hq.elim
    | long z => exact hq.elim
    | float z => exact hq.elim
    | null => exact hq.elim
    | ref z => exact hq.elim
    | retAddr z => exact hq.elim
    | double v =>
      obtain ⟨f, ho, hP⟩ := hq
      refine (show SX _ G mL_meanSetSize P (d + 1) 0 0 h' 7 [some (.ref x), some (.int p0), some (.ref out), none] [.double v, .int 0, .ref out] from ?_)
      refine x_dastore dL_meanSetSize_7 ho v01 ?_
      refine x_goto (tgt := 14) dL_meanSetSize_8 (by decide) ?_
      refine x_iconst (v := 0) dL_meanSetSize_14 rfl ?_
      exact x_ireturn dL_meanSetSize_15 rfl rfl hP
  · obtain ⟨j, hE, hP⟩ := hq
    match j, hE with
    | 0, hE =>
      obtain rfl := Option.some.inj hE
      refine ⟨11, ⟨[], ⟨0, 8, 11, 18⟩, _, rfl, (fun z hz => nomatch hz), rfl, by decide, rfl, _, kL_18, ca_IndexOutOfBoundsException⟩, fun q => ?_⟩
      refine x_astore_n dL_meanSetSize_11 (L' := [some _, some _, some _, some _]) (by decide) rfl ?_
      refine x_iconst (v := 1) dL_meanSetSize_12 rfl ?_
      exact x_ireturn dL_meanSetSize_13 rfl rfl hP
    | j + 1, hE => cases hE
abbrev mL_writeWord : p_M := (yL_writeWord, cL_writeWord, 7, some .int)
theorem cfL_writeWord : p_cfX [(0, 12, 15, 18), (0, 12, 19, 13)] mL_writeWord 5 := ⟨p_in (p_t6 (List.mem_of_getElem? (i := 114) rfl)) rfl, p_in (p_t1 (List.mem_of_getElem? (i := 0) (by decide +kernel))) rfl, ⟨by decide +kernel, by decide +kernel⟩, by decide +kernel, by decide, by decide +kernel⟩
theorem stL_writeWord : Cond.static yL_writeWord ∈ p_ws := p_in (p_t6 (List.mem_of_getElem? (i := 113) (by decide +kernel))) rfl
theorem h_writeWord {p0 : Int32} {p1 : Int32} {p2 : Int64} (hZn : p_Zn G) (hx : h x = some (.inr (10, fs))) (kk : SM G mX10_writeWord h [.ref x, .int p0, .int p1, .long p2] d mc ms (p_HI P out cvI ["java/lang/IndexOutOfBoundsException", "java/lang/IllegalArgumentException"])) : SMX [(0, 12, 15, 18), (0, 12, 19, 13)] G mL_writeWord h [.ref x, .int p0, .int p1, .long p2, .ref out] (d + 1) mc ms P := by
  refine SMX.of2 (L := [some (.ref x), some (.int p0), some (.int p1), some (.long p2), none, some (.ref out), none]) cfL_writeWord rfl (Nat.le_of_ble_eq_true rfl) ?_
  refine x_aload dL_writeWord_0 rfl ?_
  refine x_iconst (v := 0) dL_writeWord_2 rfl ?_
  refine x_aload_n dL_writeWord_3 rfl ?_
  refine x_iload_n dL_writeWord_4 rfl ?_
  refine x_iload_n dL_writeWord_5 rfl ?_
  refine x_lload_n dL_writeWord_6 rfl ?_
  refine x_callV (As := [.int p0, .int p1, .long p2]) (mc := mc) (ms := ms) (k' := 0) (n' := 0) dL_writeWord_7 cfX10_writeWord imX10_writeWord seX10_writeWord lL_153 hx rfl rfl rfl rfl (Nat.le_of_ble_eq_true rfl) rfl rfl ?_
  refine kk.mono (fun o h' hq => ?_)
  rcases o with (_ | v) | E'
  · exact hq.elim
  · cases v with
    | long z => obtain ⟨_, _, e, _⟩ := hq; cases e
    | float z => obtain ⟨_, _, e, _⟩ := hq; cases e
    | double z => obtain ⟨_, _, e, _⟩ := hq; cases e
    | null => obtain ⟨_, _, e, _⟩ := hq; cases e
    | ref z => obtain ⟨_, _, e, _⟩ := hq; cases e
    | retAddr z => obtain ⟨_, _, e, _⟩ := hq; cases e
    | int v =>
      obtain ⟨z, f, e, ho, hP⟩ := hq
      obtain rfl := Option.some.inj e
      refine (show SX _ G mL_writeWord P (d + 1) 0 0 h' 10 [some (.ref x), some (.int p0), some (.int p1), some (.long p2), none, some (.ref out), none] [.int v, .int 0, .ref out] from ?_)
      refine x_i2l dL_writeWord_10 ?_
      refine x_lastore dL_writeWord_11 ho v01 ?_
      refine x_goto (tgt := 23) dL_writeWord_12 (by decide) ?_
      refine x_iconst (v := 0) dL_writeWord_23 rfl ?_
      exact x_ireturn dL_writeWord_24 rfl rfl hP
  · obtain ⟨j, hE, hP⟩ := hq
    match j, hE with
    | 0, hE =>
      obtain rfl := Option.some.inj hE
      refine ⟨15, ⟨[], ⟨0, 12, 15, 18⟩, _, rfl, (fun z hz => nomatch hz), rfl, by decide, rfl, _, kL_18, ca_IndexOutOfBoundsException⟩, fun q => ?_⟩
      refine x_astore dL_writeWord_15 (L' := [some _, some _, some _, some _, none, some _, some _]) (by decide) rfl ?_
      refine x_iconst (v := 1) dL_writeWord_17 rfl ?_
      exact x_ireturn dL_writeWord_18 rfl rfl hP
    | 1, hE =>
      obtain rfl := Option.some.inj hE
      refine ⟨19, ⟨[⟨0, 12, 15, 18⟩], ⟨0, 12, 19, 13⟩, _, rfl, (fun z hz => Or.inr (by obtain rfl := List.mem_singleton.mp hz; exact ⟨by decide, _, kL_18, fun s hs => (hZn s hs).2⟩)), rfl, by decide, rfl, _, kL_13, ca_IllegalArgumentException⟩, fun q => ?_⟩
      refine x_astore dL_writeWord_19 (L' := [some _, some _, some _, some _, none, some _, some _]) (by decide) rfl ?_
      refine x_iconst (v := 2) dL_writeWord_21 rfl ?_
      exact x_ireturn dL_writeWord_22 rfl rfl hP
    | j + 2, hE => cases hE
end A9
