/-! ===== what the statement tells of the start: statics, string constants ===== -/
theorem p_S.z {G : p_G} {U : State} {C n d : String} {v : Value} (h : va_Z C n d v (p_A G) G.2.1 G.2.1.heap) (hU : p_S G U) : va_Z C n d v (p_A G) U U.heap := (va_Z.moved hU.2.1.alike h).kept (fun a ha _ => hU.2.2.2 a ha)
section B1
variable {G : p_G} {A : Array Value} {T : Cond}
theorem p_A0 : ∀ a : Nat, a < G.2.1.heap.size → ¬ p_A G a := fun a ha h => absurd ha (Nat.not_lt.mpr h)
theorem p_Zk_of (hts : ∀ w ∈ lw_tbl, w.before A G.2.1 = true) (h1 : (Cond.eq (.static RJ0 "COMPACT_STRINGS" "Z") (.int 1)).before A G.2.1 = true) (h2 : (Cond.isRef (.static RJ3 "SIOOBE_FORMATTER" "Ljava/util/function/BiFunction;")).before A G.2.1 = true) : p_Zk G := by
  refine ⟨fun U hU => p_S.z (va_Zof (hts _ (p_t1 (List.mem_of_getElem? (i := 167) (by decide +kernel)))) (hts _ (p_t1 (List.mem_of_getElem? (i := 6) (by decide +kernel)))) (va_eqi h1) p_A0) hU, ?_⟩
  rcases va_Zqof (hts _ (p_t1 (List.mem_of_getElem? (i := 183) (by decide +kernel)))) (hts _ (p_t1 (List.mem_of_getElem? (i := 8) (by decide +kernel)))) h2 p_A0 with h | ⟨t, h⟩
  · exact ⟨.null, Or.inl rfl, fun U hU => p_S.z h hU⟩
  · exact ⟨.ref t, Or.inr ⟨t, rfl⟩, fun U hU => p_S.z h hU⟩
/-- a string constant whose bytes are told -/
theorem p_StrOf {own tx : String} {k N : Nat} {by_ : List Int32} {bs : Int → Int} (hs : ∀ w ∈ flatC T, w.before A G.2.1 = true) (hN : N < 2 ^ 31) (hr : (Cond.stringRef own k tx).before A G.2.1 = true)
    (c1 : Cond.exactly (.string own k) "java/lang/String" ∈ flatC T) (c2 : Cond.eq (.field (.string own k) "java/lang/String" "coder" "B") (.int 0) ∈ flatC T) (c3 : Cond.arrayOf (.field (.string own k) "java/lang/String" "value" "[B") .byte ∈ flatC T) (c4 : Cond.eq (.length (.field (.string own k) "java/lang/String" "value" "[B")) (.int (Int32.ofNat N)) ∈ flatC T)
    (c5 : ∀ j, j < N → Cond.eq (.elem (.field (.string own k) "java/lang/String" "value" "[B") (.int (Int32.ofNat j))) (.int (by_.getD j 0)) ∈ flatC T) (hb : ∀ j, j < N → by_.getD j 0 = iI (bs (j : Int))) : ∃ a v, p_Str G a v N bs ∧ ∀ s, p_S G s → vk_R own k tx a s := by
  obtain ⟨adK, adV, hS, he⟩ := vk_Sof (s := G.2.1) (args := A) (N := 1) (tm := fun _ => .string own k) (len := [N]) (byt := [by_]) (A := p_A G) (fun i hi => by
      obtain rfl : i = 0 := by omega
      exact hN) (fun i _ => hs _ c1) (fun i _ => hs _ c2) (fun i _ => hs _ c3) (fun i hi => by
      obtain rfl : i = 0 := by omega
      exact hs _ c4) (fun i hi j hj => by
      obtain rfl : i = 0 := by omega
      exact hs _ (c5 j hj)) (fun i j hi hj hij => absurd (by omega) hij) p_A0
  refine ⟨adK 0, adV 0, fun U hU => ?_, fun U hU => vk_R.warm hU.2.1 (vk_R.of hr (he 0 (by decide)))⟩
  obtain ⟨b1, b2, b3, b4⟩ := ((vk_S.moved hU.2.1.alike hS).kept (fun a ha _ => hU.2.2.2 a ha)).1 0 (by decide)
  refine ⟨b1, b2, b3, ?_⟩
  obtain ⟨cell, d1, d2, d3, d4, d5, d6, d7⟩ := b4
  exact ⟨cell, d1, d2, d3, d4, d5, fun j hj => (d6 j hj).trans (congrArg (fun z => some (Value.int z)) (hb j hj)), d7⟩
end B1
