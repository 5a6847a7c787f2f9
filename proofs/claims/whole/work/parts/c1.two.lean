/-! ===== both objects in one heap ===== -/
abbrev mL_law : p_M := (yL_law, cL_law, 10, some .boolean)
def rs (F : List Nat) (h : p_H) : p_H := fun q => if q ∈ F then h q else none
/-- the cells that aren't the class's -/
def lF (Ym : Nat → Nat) (o1 o2 : Nat) : List Nat := o1 :: o2 :: m_ix.map Ym
abbrev e_L (f : Nat → Int64) : p_E := .inl (1, (1, .inr (.inl f)))
abbrev e_D (f : Nat → UInt64) : p_E := .inl (4, (1, .inr (.inr (.inr (.inl f)))))
/-- the class's cells and patterns, the reference's cells, two rows of the law's -/
def lHp (Yc Ym : Nat → Nat) (o1 o2 : Nat) (X : c_X) (Xm : m_X) (h : p_H) : Prop :=
  c_I Yc (rs (lF Ym o1 o2) h) X h ∧ (∀ q ∈ lF Ym o1 o2, ∀ i, c_ok i → q ≠ Yc i) ∧ m_At Ym Xm h ∧ ((∃ f, h o1 = some (e_L f)) ∧ ∃ f, h o2 = some (e_D f)) ∧ (∀ j ∈ m_ix, Ym j ≠ o1 ∧ Ym j ≠ o2) ∧ o1 ≠ o2
section C1a
variable {Yc Ym : Nat → Nat} {o1 o2 : Nat} {X X' : c_X} {Xm Xm' : m_X} {h h' : p_H} {F : List Nat}
theorem lF_m {j : Nat} (hj : j ∈ m_ix) : Ym j ∈ lF Ym o1 o2 := List.mem_cons_of_mem _ (List.mem_cons_of_mem _ (List.mem_map_of_mem hj))
theorem lF_1 : o1 ∈ lF Ym o1 o2 := List.mem_cons_self
theorem lF_2 : o2 ∈ lF Ym o1 o2 := List.mem_cons_of_mem _ List.mem_cons_self
theorem lF_c {q : Nat} (hq : q ∈ lF Ym o1 o2) : q = o1 ∨ q = o2 ∨ ∃ j, j ∈ m_ix ∧ q = Ym j := by
  rcases List.mem_cons.mp hq with e | hq
  · exact Or.inl e
  · rcases List.mem_cons.mp hq with e | hq
    · exact Or.inr (Or.inl e)
    · obtain ⟨j, h1, h2⟩ := List.mem_map.mp hq
      exact Or.inr (Or.inr ⟨j, h1, h2.symm⟩)
theorem lHp.nn (hL : lHp Yc Ym o1 o2 X Xm h) : ∀ q ∈ lF Ym o1 o2, h q ≠ none := fun q hq => by
  obtain ⟨-, -, a, ⟨⟨f, b⟩, f', c⟩, -, -⟩ := hL
  rcases lF_c hq with rfl | rfl | ⟨j, hj, rfl⟩
  · rw [b]; exact fun z => nomatch z
  · rw [c]; exact fun z => nomatch z
  · rw [a.1 j hj]; exact fun z => nomatch z
theorem c_I.fo (h1 : c_I Yc (rs F h) X h) (hF : ∀ q ∈ F, ∀ i, c_ok i → q ≠ Yc i) (hn : ∀ q ∈ F, h q ≠ none) (ho : ∀ q, q ∉ F → h' q = h q) : c_I Yc (rs F h') X h' := by
  obtain ⟨⟨a1, a2⟩, b, c⟩ := h1
  have nt : ∀ q, q ∈ F → c_nt X.2.2.2.2 q := fun q hq => (c q (by unfold rs; rw [if_pos hq]; exact hn q hq) (fun i hi => hF q hq i hi)).2
  refine ⟨⟨fun i hi => by rw [ho _ (fun z => hF _ z i hi rfl)]; exact a1 i hi, a2⟩, fun a p ha => ?_, fun q q0 q1 => ?_⟩
  · obtain ⟨k1, k2, k3⟩ := b a p ha
    exact ⟨by rw [ho a (fun z => (nt a z a p ha).1 rfl)]; exact k1, fun k hk => by rw [ho _ (fun z => (nt _ z a p ha).2 k hk rfl)]; exact k2 k hk, k3⟩
  · have qF : q ∈ F := Decidable.byContradiction (fun z => q0 (by unfold rs; exact if_neg z))
    exact ⟨by unfold rs; rw [if_pos qF], nt q qF⟩
theorem lHp.cls (hL : lHp Yc Ym o1 o2 X Xm h) (hI : c_I Yc (rs (lF Ym o1 o2) h) X' h') : lHp Yc Ym o1 o2 X' Xm h' ∧ h' o1 = h o1 ∧ h' o2 = h o2 := by
  have nn := hL.nn
  obtain ⟨-, hF, a, ⟨⟨f, b⟩, f', c⟩, d, e⟩ := hL
  have eq : ∀ q, q ∈ lF Ym o1 o2 → h' q = h q := fun q hq => by
    have q0 : rs (lF Ym o1 o2) h q = h q := if_pos hq
    rw [(hI.2.2 q (by rw [q0]; exact nn q hq) (fun i hi => hF q hq i hi)).1, q0]
  have er : rs (lF Ym o1 o2) h' = rs (lF Ym o1 o2) h := by
    funext q
    unfold rs
    by_cases z : q ∈ lF Ym o1 o2
    · rw [if_pos z, if_pos z, eq q z]
    · rw [if_neg z, if_neg z]
  have e1 := eq o1 lF_1
  have e2 := eq o2 lF_2
  exact ⟨⟨by rw [er]; exact hI, hF, ⟨fun j hj => by rw [eq _ (lF_m hj)]; exact a.1 j hj, a.2⟩, ⟨⟨f, by rw [e1]; exact b⟩, f', by rw [e2]; exact c⟩, d, e⟩, e1, e2⟩
theorem lHp.ref (hL : lHp Yc Ym o1 o2 X Xm h) (hI : m_I Ym h Xm' h') : lHp Yc Ym o1 o2 X Xm' h' ∧ h' o1 = h o1 ∧ h' o2 = h o2 := by
  have nn := hL.nn
  obtain ⟨h1, hF, a, ⟨⟨f, b⟩, f', c⟩, d, e⟩ := hL
  have e1 : h' o1 = h o1 := hI.2 o1 (fun j hj z => (d j hj).1 z.symm)
  have e2 : h' o2 = h o2 := hI.2 o2 (fun j hj z => (d j hj).2 z.symm)
  exact ⟨⟨h1.fo hF nn (fun q hq => hI.2 q (fun j hj z => hq (by rw [z]; exact lF_m hj))), hF, hI.1, ⟨⟨f, by rw [e1]; exact b⟩, f', by rw [e2]; exact c⟩, d, e⟩, e1, e2⟩
theorem lHp.oL {f : Nat → Int64} (hL : lHp Yc Ym o1 o2 X Xm h) : lHp Yc Ym o1 o2 X Xm (p_up h o1 (e_L f)) := by
  have nn := hL.nn
  obtain ⟨h1, hF, a, ⟨-, f', c⟩, d, e⟩ := hL
  exact ⟨h1.fo hF nn (fun q hq => p_up_ne (fun z => hq (by rw [z]; exact lF_1))), hF, ⟨fun j hj => by rw [p_up_ne (d j hj).1]; exact a.1 j hj, a.2⟩, ⟨⟨f, p_up_eq⟩, f', by rw [p_up_ne (fun z => e z.symm)]; exact c⟩, d, e⟩
theorem lHp.oD {f : Nat → UInt64} (hL : lHp Yc Ym o1 o2 X Xm h) : lHp Yc Ym o1 o2 X Xm (p_up h o2 (e_D f)) := by
  have nn := hL.nn
  obtain ⟨h1, hF, a, ⟨⟨f', c⟩, -⟩, d, e⟩ := hL
  exact ⟨h1.fo hF nn (fun q hq => p_up_ne (fun z => hq (by rw [z]; exact lF_2))), hF, ⟨fun j hj => by rw [p_up_ne (d j hj).2]; exact a.1 j hj, a.2⟩, ⟨⟨f', by rw [p_up_ne e]; exact c⟩, f, p_up_eq⟩, d, e⟩
theorem lHp.x (hL : lHp Yc Ym o1 o2 X Xm h) : ∃ fs, h (Yc 0) = some (.inr (10, fs)) := ⟨_, hL.1.1.1 0 (Or.inl (by decide))⟩
end C1a
/-! what a call of the class and the same call of the reference answer -/
def lS (X : c_X) (Xm : m_X) : Prop := lSm X.1 X.2.1 X.2.2 Xm.1 Xm.2.1
def kI (v : Value) : Prop := ∃ x : Int32, v = .int x
def kJ (v : Value) : Prop := ∃ x : Int64, v = .long x
def kD (v : Value) : Prop := ∃ x : UInt64, v = .double x
def kF (v : Value) : Prop := ∃ x : UInt32, v = .float x ∧ vf_n64 (FP.f2d x)
abbrev l_Q : Type := (Option Value) ⊕ String → m_X → Prop
def lR (G : p_G) (Mr : p_M) (As : List Value) (Xm : m_X) (Q : l_Q) : Prop := ∀ Ym h0, RM G Mr (m_I Ym h0) (.ref (Ym 38) :: As) 99 0 0 Q Xm
/-- the reference answers v, all is the same behind it -/
def lA (X' : c_X) (v : Value) : l_Q := fun o Xm' => o = .inl (some v) ∧ Xm'.1 12 = 0 ∧ lS X' Xm'
/-- the reference throws -/
def lT (kd : Value → Prop) (t : Int) (X' : c_X) : l_Q := fun o Xm' => (∃ v', o = .inl (some v') ∧ kd v') ∧ Xm'.1 12 = t ∧ lS X' Xm'
def lP (G : p_G) (kd : Value → Prop) (Es : List String) (Mr : p_M) (As : List Value) (Xm : m_X) : (Option Value) ⊕ String → c_X → Prop := fun o X' => match o with
  | .inl none => False
  | .inl (some v) => kd v ∧ lR G Mr As Xm (lA X' v)
  | .inr E => ∃ j : Nat, Es[j]? = some E ∧ lR G Mr As Xm (lT kd ((j : Int) + 1) X')
/-- the reference's end where the helper answered k, the row's cell holding e -/
def lK (kd : Value → Prop) (g : Value → Prop) (k : Int32) (X' : c_X) : l_Q := fun o Xm' => ∃ v, o = .inl (some v) ∧ kd v ∧ iI (Xm'.1 12) = k ∧ lS X' Xm' ∧ (k = 0 → g v)
def gL (cv : Value → Option Int64) (e : Option p_E) (v : Value) : Prop := ∃ z f, cv v = some z ∧ e = some (e_L f) ∧ f 0 = z
def gD (e : Option p_E) (v : Value) : Prop := ∃ z f, v = .double z ∧ e = some (e_D f) ∧ f 0 = z
theorem lR.mono {G : p_G} {Mr : p_M} {As : List Value} {Xm : m_X} {Q Q' : l_Q} (hR : lR G Mr As Xm Q) (hQ : ∀ o y, Q o y → Q' o y) : lR G Mr As Xm Q' := fun Ym h0 => (hR Ym h0).mono hQ
section C1b
variable {G : p_G} {P : p_Zt} {k n : Nat} {h : p_H} {pc : Nat} {L : p_LL} {st : List Value} {Yc Ym : Nat → Nat} {o1 o2 : Nat} {X : c_X} {Xm : m_X}
theorem lEs {Es : List String} {E : String} {j : Nat} (h2 : Es.length ≤ 2) (hj : Es[j]? = some E) : iI ((j : Int) + 1) = Int32.ofNat (j + 1) ∧ Int32.ofNat (j + 1) ≠ 0 := by
  have := (List.getElem?_eq_some_iff.mp hj).1
  rcases (by omega : j = 0 ∨ j = 1) with rfl | rfl
  · exact ⟨rfl, by decide⟩
  · exact ⟨rfl, by decide⟩
theorem y_cls {hh' : List (Nat × Nat × Nat × Nat)} {M' Mc Mr : p_M} {na mc ms k' n' idx : Nat} {As : List Value} {Es : List String} {cv : Value → Option Int64} {kd : Value → Prop} (hL : lHp Yc Ym o1 o2 X Xm h) (hcv : ∀ v, kd v → ∃ z, cv v = some z) (h2 : Es.length ≤ 2)
    (hd : decode mL_law.2.1 pc = .ok (.invokestatic idx, 3)) (hc : p_cfX hh' M' na) (hs : Cond.static M'.1 ∈ p_ws) (hl : Cond.methodLink RL idx M'.1 ∈ p_ws) (hn : (Value.ref (Yc 0) :: (As ++ [.ref o1])).length = na) (he : st = (Value.ref (Yc 0) :: (As ++ [.ref o1])).reverse ++ []) (hk : k = mc + k') (hk2 : n = ms + n')
    (hH : ∀ {P' : p_P} {fs : List Value}, h (Yc 0) = some (.inr (10, fs)) → SM G Mc h (.ref (Yc 0) :: As) 98 mc ms (p_HI P' o1 cv Es) → SMX hh' G M' h (.ref (Yc 0) :: (As ++ [.ref o1])) 99 mc ms P')
    (hE : RM G Mc (c_I Yc (rs (lF Ym o1 o2) h)) (.ref (Yc 0) :: As) 98 mc ms (lP G kd Es Mr As Xm) X)
    (kk : ∀ X' h' k0, lHp Yc Ym o1 o2 X' Xm h' → lR G Mr As Xm (lK kd (gL cv (h' o1)) k0 X') → SL G mL_law P 100 k' n' h' (pc + 3) L [.int k0]) : SL G mL_law P 100 k n h pc L st := by
  obtain ⟨fs, hx⟩ := hL.x
  refine y_callSX (d' := 99) hd hc hs hl hn he (Nat.zero_le _) hk hk2 (hH hx (RM.sm hL.1 (hE.mono (fun o X' hP h' hI => ?_))))
  obtain ⟨hL', e1, e2⟩ := hL.cls hI
  match o, hP with
  | .inl none, hP => exact hP.elim
  | .inl (some v), hP =>
    obtain ⟨hv, hR⟩ := hP
    obtain ⟨z, hz⟩ := hcv v hv
    obtain ⟨f, hf⟩ := hL'.2.2.2.1.1
    refine ⟨z, f, hz, hf, kk X' _ 0 hL'.oL (hR.mono (fun o' y hq => ?_))⟩
    obtain ⟨q1, q2, q3⟩ := hq
    exact ⟨v, q1, hv, by rw [q2]; rfl, q3, fun _ => ⟨z, _, hz, p_up_eq, if_pos rfl⟩⟩
  | .inr E, hP =>
    obtain ⟨j, hj, hR⟩ := hP
    obtain ⟨j1, j2⟩ := lEs h2 hj
    refine ⟨j, hj, kk X' h' _ hL' (hR.mono (fun o' y hq => ?_))⟩
    obtain ⟨⟨v', q1, q0⟩, q2, q3⟩ := hq
    exact ⟨v', q1, q0, by rw [q2]; exact j1, q3, fun e => absurd e j2⟩
theorem y_clsD {hh' : List (Nat × Nat × Nat × Nat)} {M' Mc Mr : p_M} {na mc ms k' n' idx : Nat} {As : List Value} {Es : List String} (hL : lHp Yc Ym o1 o2 X Xm h) (h2 : Es.length ≤ 2)
    (hd : decode mL_law.2.1 pc = .ok (.invokestatic idx, 3)) (hc : p_cfX hh' M' na) (hs : Cond.static M'.1 ∈ p_ws) (hl : Cond.methodLink RL idx M'.1 ∈ p_ws) (hn : (Value.ref (Yc 0) :: (As ++ [.ref o2])).length = na) (he : st = (Value.ref (Yc 0) :: (As ++ [.ref o2])).reverse ++ []) (hk : k = mc + k') (hk2 : n = ms + n')
    (hH : ∀ {P' : p_P} {fs : List Value}, h (Yc 0) = some (.inr (10, fs)) → SM G Mc h (.ref (Yc 0) :: As) 98 mc ms (p_HD P' o2 Es) → SMX hh' G M' h (.ref (Yc 0) :: (As ++ [.ref o2])) 99 mc ms P')
    (hE : RM G Mc (c_I Yc (rs (lF Ym o1 o2) h)) (.ref (Yc 0) :: As) 98 mc ms (lP G kD Es Mr As Xm) X)
    (kk : ∀ X' h' k0, lHp Yc Ym o1 o2 X' Xm h' → lR G Mr As Xm (lK kD (gD (h' o2)) k0 X') → SL G mL_law P 100 k' n' h' (pc + 3) L [.int k0]) : SL G mL_law P 100 k n h pc L st := by
  obtain ⟨fs, hx⟩ := hL.x
  refine y_callSX (d' := 99) hd hc hs hl hn he (Nat.zero_le _) hk hk2 (hH hx (RM.sm hL.1 (hE.mono (fun o X' hP h' hI => ?_))))
  obtain ⟨hL', e1, e2⟩ := hL.cls hI
  match o, hP with
  | .inl none, hP => exact hP.elim
  | .inl (some v), hP =>
    obtain ⟨⟨z, rfl⟩, hR⟩ := hP
    obtain ⟨f, hf⟩ := hL'.2.2.2.1.2
    refine ⟨f, hf, kk X' _ 0 hL'.oD (hR.mono (fun o' y hq => ?_))⟩
    obtain ⟨q1, q2, q3⟩ := hq
    exact ⟨_, q1, ⟨z, rfl⟩, by rw [q2]; rfl, q3, fun _ => ⟨z, _, rfl, p_up_eq, if_pos rfl⟩⟩
  | .inr E, hP =>
    obtain ⟨j, hj, hR⟩ := hP
    obtain ⟨j1, j2⟩ := lEs h2 hj
    refine ⟨j, hj, kk X' h' _ hL' (hR.mono (fun o' y hq => ?_))⟩
    obtain ⟨⟨v', q1, q0⟩, q2, q3⟩ := hq
    exact ⟨v', q1, q0, by rw [q2]; exact j1, q3, fun e => absurd e j2⟩
/-- a call of the class itself -/
theorem y_clv {Mc Mr : p_M} {na idx : Nat} {As : List Value} {kd : Value → Prop} (hL : lHp Yc Ym o1 o2 X Xm h)
    (hd : decode mL_law.2.1 pc = .ok (.invokevirtual idx, 3)) (hc : p_cf Mc na) (hi : Cond.instanceMethod Mc.1 ∈ p_ws) (hse : Cond.selects Mc.1.cls Mc.1 Mc.1 ∈ p_ws) (hl : Cond.methodLink RL idx Mc.1 ∈ p_ws) (hq1 : RX10 = Mc.1.cls) (hn : As.length = na) (he : st = As.reverse ++ .ref (Yc 0) :: [])
    (hE : RM G Mc (c_I Yc (rs (lF Ym o1 o2) h)) (.ref (Yc 0) :: As) 99 0 0 (lP G kd [] Mr As Xm) X)
    (kk : ∀ X' h' v, lHp Yc Ym o1 o2 X' Xm h' → kd v → lR G Mr As Xm (lA X' v) → SL G mL_law P 100 k n h' (pc + 3) L [v]) : SL G mL_law P 100 k n h pc L st := by
  obtain ⟨fs, hx⟩ := hL.x
  refine y_callV (d' := 99) (mc := 0) (ms := 0) hd hc hi hse hl hx rfl hq1 hn he (Nat.zero_le _) (Nat.zero_add _).symm (Nat.zero_add _).symm (RM.sm hL.1 (hE.mono (fun o X' hP h' hI => ?_)))
  obtain ⟨hL', e1, e2⟩ := hL.cls hI
  match o, hP with
  | .inl none, hP => exact hP.elim
  | .inl (some v), hP => exact kk X' h' v hL' hP.1 hP.2
  | .inr E, hP =>
    obtain ⟨j, hj, -⟩ := hP
    cases hj
/-- a call of the reference -/
theorem y_mcl {Mr : p_M} {na idx : Nat} {As rest : List Value} {Q : l_Q} (hL : lHp Yc Ym o1 o2 X Xm h) (hR : lR G Mr As Xm Q)
    (hd : decode mL_law.2.1 pc = .ok (.invokevirtual idx, 3)) (hc : p_cf Mr na) (hi : Cond.instanceMethod Mr.1 ∈ p_ws) (hse : Cond.selects Mr.1.cls Mr.1 Mr.1 ∈ p_ws) (hl : Cond.methodLink RL idx Mr.1 ∈ p_ws) (hq1 : RX11 = Mr.1.cls) (hn : As.length = na) (he : st = As.reverse ++ .ref (Ym 38) :: rest) (hr : (rest.map fun v => v.category).sum ≤ 8)
    (kk : ∀ o Xm' h', Q o Xm' → lHp Yc Ym o1 o2 X Xm' h' → h' o1 = h o1 → h' o2 = h o2 → p_KL G mL_law P 100 k n (pc + 3) L rest o h') : SL G mL_law P 100 k n h pc L st := by
  refine y_callV (d' := 99) (mc := 0) (ms := 0) hd hc hi hse hl (hL.2.2.1.1 38 (by decide)) rfl hq1 hn he hr (Nat.zero_add _).symm (Nat.zero_add _).symm (RM.sm (⟨hL.2.2.1, fun q _ => rfl⟩ : m_I Ym h Xm h) ((hR Ym h).mono (fun o Xm' hQ h' hI => ?_)))
  obtain ⟨hL', e1, e2⟩ := hL.ref hI
  exact kk o Xm' h' hQ hL' e1 e2
theorem y_ldc2 {idx : Nat} {v : Int64} (hd : decode mL_law.2.1 pc = .ok (.ldc2_w idx, 3)) (hw : Cond.constantLong RL idx v ∈ p_ws) (kk : SL G mL_law P 100 k n h (pc + 3) L (.long v :: st)) : SL G mL_law P 100 k n h pc L st := by
  intro p e R s m args below meth c H locs cells slots ls C B hS hR hL
  obtain ⟨hx, hb, hml, hret, hlk, hown, hnam, hE, hU⟩ := id C
  exact W.ldc2 hx hb hown (hU.word hw args) rfl hd (kk p e R s m args below meth c H locs cells slots ls C B hS hR hL)
/-- an int of the script -/
theorem y_arg {b N : Nat} {xs : Nat → Int32} {z q : Int} (hX : p_Scr G b N xs) (hN : N ≤ 3072) (hz : 0 ≤ z ∧ z + 6 ≤ N) (hq : 0 ≤ q ∧ q ≤ 5) (h0 : L[0]? = some (some (.ref b))) (h5 : L[5]? = some (some (.int (iI z))))
    (d0 : decode mL_law.2.1 pc = .ok (.aload_n 0, 1)) (d1 : decode mL_law.2.1 (pc + 1) = .ok (.iload 5, 2)) (d2 : decode mL_law.2.1 (pc + 3) = .ok (.iconst q, 1)) (d3 : decode mL_law.2.1 (pc + 4) = .ok (.iadd, 1)) (d4 : decode mL_law.2.1 (pc + 5) = .ok (.iaload, 1))
    (kk : SL G mL_law P 100 k n h (pc + 6) L (.int (iI (xs (z + q).toNat).toInt) :: st)) : SL G mL_law P 100 k n h pc L st := by
  refine y_aload_n d0 h0 ?_
  refine y_iload d1 h5 ?_
  refine y_iconst d2 rfl ?_
  refine y_iadd d3 ?_
  have e : iI z + Int32.ofInt q = iI (z + q) := (Int32.ofInt_add ..).symm
  rw [e]
  refine y_sld hX d4 (iI_in (by omega) (by omega) (by omega)) ?_
  rw [iI_clamp (by omega) (by omega), iI_of (xs (z + q).toNat)]
  exact kk
end C1b
