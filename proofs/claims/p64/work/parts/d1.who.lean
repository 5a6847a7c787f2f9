/-! ===== the law whole ===== -/
theorem l_fresh {s s' : State} {L : List Loc} {k n : Nat} (h : s.sameButNew s' L k n) (hL : ∀ q ∈ L, s.heap.size ≤ q.base) : s.sameButNew s' [] k n := by
  obtain ⟨h1, h2, h3, h4, h5, h6⟩ := h
  refine ⟨h1, h2, h3, h4, h5, fun a c hc => ?_⟩
  obtain ⟨c', q1, q2, q3, q4⟩ := h6 a c hc
  refine ⟨c', q1, q2, q3, fun i _ => q4 i (fun hm => ?_)⟩
  have hb : s.heap.size ≤ a := hL _ hm
  exact absurd (Array.getElem?_eq_some_iff.mp hc).1 (Nat.not_lt.mpr hb)
/-- from the entry, for every script of at most 260 ints, the law comes to its end with true -/
theorem whole_start {p : Program} {e : Env} {s : State} {m : MethodId} {below : List Frame} {meth : Method} {c : Code} (l : Launch) (hflags : l.flags = flags0) {b L : Nat} {xs : Nat → Int32} (hL : L ≤ 260) (hnm : meth.name = yL_law.name) (hex : ∀ x ∈ c.exceptionTable.toList, False) (C0 : lw_At p s m meth c b L xs) : W p l e room_1 s m #[Value.ref b] below meth c s.heap [] 0 0 (lw_Z below #[Value.ref b] s) (entryFrame m ([Value.ref b] : List Value).toArray 16) := by
  obtain ⟨hx, hb, hr, hml, hown, hts, hX, hbl, hlocks, hgv⟩ := C0
  have hlf : l.stackTraces = false := by rw [Launch.stackTraces, hflags]; decide +kernel
  obtain ⟨D, cy, hF0⟩ := p_start l hlf hts
  have main := l_start (G := (l, s, D, cy)) (p_Beg_of hts (flat_of_before _ hgv)) (⟨hX, hbl⟩ : p_Scr (l, s, D, cy) b L xs) (by omega)
  have hS : p_S (l, s, D, cy) s := ⟨hF0, ⟨rfl, rfl, fun _ k hk => ⟨k, hk, rfl, rfl, fun _ => Or.inl rfl, Or.inl ⟨rfl, rfl⟩⟩⟩, Nat.le_refl _, fun _ _ => rfl⟩
  have hR : p_R (l, s, D, cy) (fun _ => none) s.heap := ⟨[], (fun k q h => by simp at h), ⟨(fun i j p q h => by simp at h), (fun k q h => by simp at h)⟩, fun a e h => nomatch h⟩
  have h2 := lv_entry [Value.ref b] (n := 16) (Nat.le_of_ble_eq_true rfl)
  rw [lg_entry_eq]
  generalize (lg_sl [Value.ref b] ++ List.replicate (16 - (lg_sl [Value.ref b]).length) Slot.unset).toArray = ls at h2 ⊢
  intro T hT X
  obtain ⟨t, a, o, q1, q2, q3⟩ := main p e room_1 s m #[Value.ref b] below meth c s.heap [] 0 0 ls ⟨hx, hb, hml, hr, hlocks, hown, hnm, hex, hS⟩ ⟨Nat.le_of_ble_eq_true rfl, Nat.le_of_ble_eq_true rfl, Nat.le_of_ble_eq_true rfl, Nat.le_of_ble_eq_true rfl⟩ va_S.rf hR ⟨h2.1, h2.2.1, fun i v hi => h2.2.2 (i, v) (p_ini_at (As := [Value.ref b]) (n := 16) hi)⟩ T hT X
  rcases q3 with ⟨⟨v, h', hv, hP, -, -⟩, Lc, hF, hfree⟩ | ⟨q, hq, E, ce, Lc, ⟨h', hP, -⟩, -⟩
  · have hv2 : v = some (.int 1) := Sum.inl.inj hP
    subst hv2
    exact ⟨t, a, o, q1, q2, hv, hF.1, hF.2.1, l_fresh hF.2.2 hfree⟩
  · cases hP
