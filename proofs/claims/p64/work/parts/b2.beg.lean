/-! ===== the law's start: what is told, gathered ===== -/
abbrev nwT : Cond := Jvm.Cond.and given_1 narrow_1
/-- what the contracts ask of the start -/
def p_Beg (G : p_G) : Prop := p_Zk G ∧ p_Zs G ∧ (∃ a v, p_Str G a v 8 tx1 ∧ ∀ s, p_S G s → vk_R RX10 15 "a(b|c)*d" a s) ∧ (∃ a v, p_Str G a v 10 tx2 ∧ ∀ s, p_S G s → vk_R RX10 30 "(ab|ac)*d?" a s)
section B2
variable {G : p_G} {A : Array Value}
theorem p_txa (hts : ∀ w ∈ lw_tbl, w.before A G.2.1 = true) (hs : ∀ w ∈ flatC nwT, w.before A G.2.1 = true) : ∃ a v, p_Str G a v 8 tx1 ∧ ∀ s, p_S G s → vk_R RX10 15 "a(b|c)*d" a s :=
  p_StrOf (by_ := [97, 40, 98, 124, 99, 41, 42, 100]) hs (by decide) (hts _ (p_t1 (List.mem_of_getElem? (i := 153) (by decide +kernel)))) (by decide +kernel) (by decide +kernel) (by decide +kernel) (by decide +kernel) (by decide +kernel) (by decide +kernel)
theorem p_txb (hts : ∀ w ∈ lw_tbl, w.before A G.2.1 = true) (hs : ∀ w ∈ flatC nwT, w.before A G.2.1 = true) : ∃ a v, p_Str G a v 10 tx2 ∧ ∀ s, p_S G s → vk_R RX10 30 "(ab|ac)*d?" a s :=
  p_StrOf (by_ := [40, 97, 98, 124, 97, 99, 41, 42, 100, 63]) hs (by decide) (hts _ (p_t2 (List.mem_of_getElem? (i := 118) (by decide +kernel)))) (by decide +kernel) (by decide +kernel) (by decide +kernel) (by decide +kernel) (by decide +kernel) (by decide +kernel)
end B2
