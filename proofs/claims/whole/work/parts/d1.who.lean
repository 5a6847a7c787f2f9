/-! ===== the law's end, and the law whole ===== -/
/-- what is owed -/
def l_Z (G : p_G) (b : Nat) : p_Zt := fun R below args s t => (R = room_1 ∧ args = #[Value.ref b] ∧ s = G.2.1) → lw_Z below #[Value.ref b] s t
theorem l_end {G : p_G} {b : Nat} (k n : Nat) (h : p_H) (L : p_LL) : SL G mL_law (l_Z G b) 100 k n h 3444 L [] := by
  refine y_iconst (v := 1) dL_law_3444 rfl ?_
  intro p e R s m args below meth c H locs cells slots ls C B hS hR hL
  obtain ⟨hx, hb, hml, hret, hlk, hown, hnam, hE, hU⟩ := id C
  by_cases z : R = room_1 ∧ args = #[Value.ref b] ∧ s = G.2.1
  · obtain ⟨z1, z2, z3⟩ := z
    subst z1
    subst z2
    have b1 : cells + k ≤ 601024 := B.2.2.1
    have b2 : slots + n ≤ 7293034 := B.2.2.2
    have w : W p G.1 e room_1 s m #[Value.ref b] below meth c H locs cells slots (lw_Z below #[Value.ref b] s) (F0 m 3445 ls [.int 1]) := by
      refine va_forget (fun q hq => ?_) ?_
      · rw [z3]; exact hS.2.2 q hq
      refine W.widen (k := 601024) (n := 7293034) (by omega) (by omega) ?_
      refine W.base ?_
      exact lw_ret (Drawn.sameBut.refl s.drawn lw_cs) hx hb hret hlk dL_law_3445
    intro T hT X
    obtain ⟨t, a, q⟩ := w T hT X
    exact ⟨t, a, fun _ => q⟩
  · intro T hT X
    exact ⟨_, Steps.refl _, fun y => absurd y z⟩
/-- from the entry, for every script of at most 3072 ints, the law comes to its end with true -/
theorem whole_start {p : Program} {e : Env} {s : State} {m : MethodId} {below : List Frame} {meth : Method} {c : Code} (l : Launch) (hflags : l.flags = flags0) {b L : Nat} {xs : Nat → Int32} (hL : L ≤ 3072) (C0 : lw_At p s m meth c b L xs) : W p l e room_1 s m #[Value.ref b] below meth c s.heap [] 0 0 (lw_Z below #[Value.ref b] s) (entryFrame m ([Value.ref b] : List Value).toArray 10) := by
  obtain ⟨hx, hb, hr, hml, hown, hts, hX, hbl, hlocks, hgv⟩ := C0
  have hlf : l.stackTraces = false := by rw [Launch.stackTraces, hflags]; decide +kernel
  obtain ⟨D, cy, hF0⟩ := p_start l hlf hts
  have main := l_start (G := (l, s, D, cy)) (P := l_Z (l, s, D, cy) b) (p_Beg_of hts (flat_of_before _ hgv)) (⟨hX, hbl⟩ : p_Scr (l, s, D, cy) b L xs) hL (fun k n h L => l_end k n h L)
  have hS : p_S (l, s, D, cy) s := ⟨hF0, ⟨rfl, rfl, fun _ k hk => ⟨k, hk, rfl, rfl, fun _ => Or.inl rfl, Or.inl ⟨rfl, rfl⟩⟩⟩, Nat.le_refl _, fun _ _ => rfl⟩
  have hR : p_R (l, s, D, cy) (fun _ => none) s.heap := ⟨[], (fun k q h => by simp at h), ⟨(fun i j p q h => by simp at h), (fun k q h => by simp at h)⟩, fun a e h => nomatch h⟩
  have h2 := lv_entry [Value.ref b] (n := 10) (Nat.le_of_ble_eq_true rfl)
  rw [lg_entry_eq]
  generalize (lg_sl [Value.ref b] ++ List.replicate (10 - (lg_sl [Value.ref b]).length) Slot.unset).toArray = ls at h2 ⊢
  intro T hT X
  obtain ⟨t, a, q⟩ := main p e room_1 s m #[Value.ref b] below meth c s.heap [] 0 0 ls ⟨hx, hb, hml, hr, hlocks, hown, trivial, trivial, hS⟩ ⟨Nat.le_of_ble_eq_true rfl, Nat.le_of_ble_eq_true rfl, Nat.le_of_ble_eq_true rfl, Nat.le_of_ble_eq_true rfl⟩ va_S.rf hR ⟨h2.1, h2.2.1, fun i v hi => h2.2.2 (i, v) (p_ini_at (As := [Value.ref b]) (n := 10) hi)⟩ T hT X
  exact ⟨t, a, q ⟨rfl, rfl, rfl⟩⟩
