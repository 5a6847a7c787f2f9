/-! ===== the law's start: the strings of the throws ===== -/
section B3
variable {G : p_G} {A : Array Value}
theorem p_exR {own tx : String} {k : Nat} (hr : (Cond.stringRef own k tx).before A G.2.1 = true) (hx : (Cond.exactly (.string own k) "java/lang/String").before A G.2.1 = true) : ∃ sa, vk_R own k tx sa G.2.1 := by
  obtain ⟨a, c, cA, kA, q1, -⟩ := Cond.exactly_spec (args := A) (first := G.2.1) (o := none) (s := G.2.1) (idx := []) (t := .string own k) (cls := "java/lang/String") hx
  exact ⟨a, vk_R.of hr q1⟩
theorem p_Zs_of (hts : ∀ w ∈ lw_tbl, w.before A G.2.1 = true) (hs : ∀ w ∈ flatC nwT, w.before A G.2.1 = true) : p_Zs G := by
  refine ⟨⟨vx_Zqof (hts _ (p_t3 (List.mem_of_getElem? (i := 67) (by decide +kernel)))) (hts _ (p_t1 (List.mem_of_getElem? (i := 17) (by decide +kernel)))) (hs _ (by decide +kernel)) p_A0, vx_Zqof (hts _ (p_t3 (List.mem_of_getElem? (i := 69) (by decide +kernel)))) (hts _ (p_t1 (List.mem_of_getElem? (i := 17) (by decide +kernel)))) (hs _ (by decide +kernel)) p_A0⟩, fun q hq => ?_⟩
  simp only [List.mem_cons, List.not_mem_nil, or_false] at hq
  rcases hq with rfl | rfl | rfl | rfl | rfl | rfl | rfl | rfl | rfl
  · exact p_exR (hts _ (p_t4 (List.mem_of_getElem? (i := 45) (by decide +kernel)))) (hs _ (by decide +kernel))
  · exact p_exR (hts _ (p_t3 (List.mem_of_getElem? (i := 81) (by decide +kernel)))) (hs _ (by decide +kernel))
  · exact p_exR (hts _ (p_t3 (List.mem_of_getElem? (i := 116) (by decide +kernel)))) (hs _ (by decide +kernel))
  · exact p_exR (hts _ (p_t3 (List.mem_of_getElem? (i := 152) (by decide +kernel)))) (hs _ (by decide +kernel))
  · exact p_exR (hts _ (p_t3 (List.mem_of_getElem? (i := 156) (by decide +kernel)))) (hs _ (by decide +kernel))
  · exact p_exR (hts _ (p_t3 (List.mem_of_getElem? (i := 165) (by decide +kernel)))) (hs _ (by decide +kernel))
  · exact p_exR (hts _ (p_t4 (List.mem_of_getElem? (i := 90) (by decide +kernel)))) (hs _ (by decide +kernel))
  · exact p_exR (hts _ (p_t3 (List.mem_of_getElem? (i := 227) (by decide +kernel)))) (hs _ (by decide +kernel))
  · exact p_exR (hts _ (p_t4 (List.mem_of_getElem? (i := 148) (by decide +kernel)))) (hs _ (by decide +kernel))
theorem p_Beg_of (hts : ∀ w ∈ lw_tbl, w.before A G.2.1 = true) (hs : ∀ w ∈ flatC nwT, w.before A G.2.1 = true) : p_Beg G :=
  ⟨p_Zk_of hts (hs _ (by decide +kernel)) (hs _ (by decide +kernel)), p_Zs_of hts hs, p_txa hts hs, p_txb hts hs⟩
end B3
