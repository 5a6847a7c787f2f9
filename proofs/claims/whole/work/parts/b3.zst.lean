/-! ===== the law's start: the strings of the throws ===== -/
section B3
variable {G : p_G} {A : Array Value}
theorem p_exR {own tx : String} {k : Nat} (hr : (Cond.stringRef own k tx).before A G.2.1 = true) (hx : (Cond.exactly (.string own k) "java/lang/String").before A G.2.1 = true) : ∃ sa, vk_R own k tx sa G.2.1 := by
  obtain ⟨a, c, cA, kA, q1, -⟩ := Cond.exactly_spec (args := A) (first := G.2.1) (o := none) (s := G.2.1) (idx := []) (t := .string own k) (cls := "java/lang/String") hx
  exact ⟨a, vk_R.of hr q1⟩
theorem p_Zs_of (hts : ∀ w ∈ lw_tbl, w.before A G.2.1 = true) (hs : ∀ w ∈ flatC nwT, w.before A G.2.1 = true) : p_Zs G := by
  refine ⟨⟨vx_Zqof (hts _ (p_t4 (List.mem_of_getElem? (i := 25) (by decide +kernel)))) (hts _ (p_t1 (List.mem_of_getElem? (i := 18) (by decide +kernel)))) (hs _ (by decide +kernel)) p_A0, vx_Zqof (hts _ (p_t4 (List.mem_of_getElem? (i := 27) (by decide +kernel)))) (hts _ (p_t1 (List.mem_of_getElem? (i := 18) (by decide +kernel)))) (hs _ (by decide +kernel)) p_A0⟩, fun q hq => ?_⟩
  simp only [List.mem_cons, List.not_mem_nil, or_false] at hq
  rcases hq with rfl | rfl | rfl | rfl | rfl | rfl | rfl | rfl | rfl | rfl
  · exact p_exR (hts _ (p_t4 (List.mem_of_getElem? (i := 40) (by decide +kernel)))) (hs _ (by decide +kernel))
  · exact p_exR (hts _ (p_t4 (List.mem_of_getElem? (i := 86) (by decide +kernel)))) (hs _ (by decide +kernel))
  · exact p_exR (hts _ (p_t4 (List.mem_of_getElem? (i := 132) (by decide +kernel)))) (hs _ (by decide +kernel))
  · exact p_exR (hts _ (p_t4 (List.mem_of_getElem? (i := 154) (by decide +kernel)))) (hs _ (by decide +kernel))
  · exact p_exR (hts _ (p_t4 (List.mem_of_getElem? (i := 173) (by decide +kernel)))) (hs _ (by decide +kernel))
  · exact p_exR (hts _ (p_t4 (List.mem_of_getElem? (i := 179) (by decide +kernel)))) (hs _ (by decide +kernel))
  · exact p_exR (hts _ (p_t4 (List.mem_of_getElem? (i := 234) (by decide +kernel)))) (hs _ (by decide +kernel))
  · exact p_exR (hts _ (p_t5 (List.mem_of_getElem? (i := 26) (by decide +kernel)))) (hs _ (by decide +kernel))
  · exact p_exR (hts _ (p_t5 (List.mem_of_getElem? (i := 98) (by decide +kernel)))) (hs _ (by decide +kernel))
  · exact p_exR (hts _ (p_t5 (List.mem_of_getElem? (i := 205) (by decide +kernel)))) (hs _ (by decide +kernel))
theorem p_Beg_of (hts : ∀ w ∈ lw_tbl, w.before A G.2.1 = true) (hs : ∀ w ∈ flatC nwT, w.before A G.2.1 = true) : p_Beg G :=
  ⟨p_Zk_of hts (hs _ (by decide +kernel)) (hs _ (by decide +kernel)), p_Zn_of (hs _ (by decide +kernel)) (hs _ (by decide +kernel)), p_Zs_of hts hs, p_txa hts hs, p_txb hts hs, p_txc hts hs, p_txd hts hs⟩
end B3
