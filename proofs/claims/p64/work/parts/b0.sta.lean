/-! ===== the law's start: classes, array classes ===== -/
theorem p_inst {own : String} {idx ci N : Nat} {fs : List Value} (h : p_N own idx ci fs N) {q : vw_C} (hq : vwCl[ci]? = some q) : Cond.instantiable q.1 N ∈ p_ws := by
  obtain ⟨C, T, ty, hc, -, h2, -⟩ := h
  cases Option.some.inj (hc.symm.trans hq)
  exact h2
section B0
variable {s : State} {A : Array Value}
theorem p_arr {ty : FieldType} {cA : ClassId} {kA : Class} {comp : ClassId} (h2 : s.vm.classes[cA]? = some kA) (h3 : kA.kind = .array comp ty) : ArrOfT s cA ty := fun n z => ⟨fun k h => (by cases h), kA, h2, comp, h3⟩
theorem p_start (l : Launch) (hl : l.stackTraces = false) (hts : ∀ w ∈ lw_tbl, w.before A s = true) : ∃ (D : va_G) (cy : Nat → ClassId), p_F0 (l, s, D, cy) := by
  have tw : ∀ {w : Cond}, w ∈ p_ws → w.before A s = true := fun hw => hts _ (List.mem_filter.mp hw).1
  have hcl : ∀ c : Nat, ∃ p : ClassId × (Nat → Nat), ∀ q, vwCl[c]? = some q → u_Kn s q.1 q.2.1 q.2.2 p.1 p.2 := fun c => by
    by_cases hc : c < 11
    · have go : ∀ q : vw_C, vwCl[c]? = some q → (∃ n, Cond.instantiable q.1 n ∈ p_ws) → ∃ p : ClassId × (Nat → Nat), ∀ q, vwCl[c]? = some q → u_Kn s q.1 q.2.1 q.2.2 p.1 p.2 := fun q hq ⟨n, hi⟩ => by
        obtain ⟨cC, iS, h⟩ := u_known (fun w hw => tw hw) (p_inC hq) (tw hi)
        exact ⟨(cC, iS), fun q' hq' => by cases Option.some.inj (hq.symm.trans hq'); exact h⟩
      rcases (by omega : c = 0 ∨ c = 1 ∨ c = 2 ∨ c = 3 ∨ c = 4 ∨ c = 5 ∨ c = 6 ∨ c = 7 ∨ c = 8 ∨ c = 9 ∨ c = 10 ) with rfl | rfl | rfl | rfl | rfl | rfl | rfl | rfl | rfl | rfl | rfl
      · exact go _ rfl ⟨_, p_inst nX10_53 rfl⟩
      · exact go _ rfl ⟨_, p_inst nX10_9 rfl⟩
      · exact go _ rfl ⟨_, p_inst nX2_11 rfl⟩
      · exact go _ rfl ⟨_, p_inst nX10_70 rfl⟩
      · exact go _ rfl ⟨_, p_inst nX2_7 rfl⟩
      · exact go _ rfl ⟨_, p_inst nX10_25 rfl⟩
      · exact go _ rfl ⟨_, p_inst nX10_12 rfl⟩
      · exact go _ rfl ⟨_, p_inst nX10_84 rfl⟩
      · exact go _ rfl ⟨_, p_inst nX10_77 rfl⟩
      · exact go _ rfl ⟨_, p_inst nX10_44 rfl⟩
      · exact go _ rfl ⟨_, p_inst nL_8 rfl⟩
    · refine ⟨(0, fun _ => 0), fun q hq => ?_⟩
      rw [List.getElem?_eq_none (by show 11 ≤ c; omega)] at hq
      cases hq
  obtain ⟨dd, hdd⟩ := Classical.axiomOfChoice hcl
  have w0 : (Cond.arrayClass .int).before A s = true := hts _ (p_t1 (List.mem_of_getElem? (i := 45) (by decide +kernel)))
  have w1 : (Cond.arrayClass .long).before A s = true := hts _ (p_t2 (List.mem_of_getElem? (i := 214) (by decide +kernel)))
  have w2 : (Cond.arrayClass .boolean).before A s = true := hts _ (p_t2 (List.mem_of_getElem? (i := 203) (by decide +kernel)))
  have w5 : (Cond.arrayOver (.object RX9)).before A s = true := hts _ (p_t2 (List.mem_of_getElem? (i := 170) (by decide +kernel)))
  obtain ⟨c0, k0, m0, a0, b0, e0⟩ := Cond.arrayClass_spec w0
  obtain ⟨c1, k1, m1, a1, b1, e1⟩ := Cond.arrayClass_spec w1
  obtain ⟨c2, k2, m2, a2, b2, e2⟩ := Cond.arrayClass_spec w2
  obtain ⟨m5, c5, k5, a5, -, b5, e5, f5⟩ := Cond.arrayOver_spec w5
  refine ⟨(fun c => (dd c).1, fun c => (dd c).2), fun k => if k = 0 then c0 else if k = 1 then c1 else if k = 2 then c2 else if k = 3 then c0 else if k = 4 then c0 else c5, ⟨A, hts⟩, ⟨fun c q hq => hdd c q hq, fun k q hq => ?_⟩, hl⟩
  have hk : k < 6 := (List.getElem?_eq_some_iff.mp hq).1
  rcases (by omega : k = 0 ∨ k = 1 ∨ k = 2 ∨ k = 3 ∨ k = 4 ∨ k = 5) with rfl | rfl | rfl | rfl | rfl | rfl
  · cases hq; exact ⟨p_arr b0 e0, a0⟩
  · cases hq; exact ⟨p_arr b1 e1, a1⟩
  · cases hq; exact ⟨p_arr b2 e2, a2⟩
  · cases hq; exact ⟨p_arr b0 e0, a0⟩
  · cases hq; exact ⟨p_arr b0 e0, a0⟩
  · cases hq; exact ⟨p_arr b5 e5, ⟨k5, m5, b5, e5, a5, f5⟩⟩
end B0
