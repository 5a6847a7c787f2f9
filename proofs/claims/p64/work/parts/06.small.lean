/-! ===== small methods ===== -/
def p_b (p : Prop) [Decidable p] : Int32 := if p then 1 else 0
theorem p_b_t {p : Prop} [Decidable p] (h : p) : p_b p = 1 := if_pos h
theorem p_b_f {p : Prop} [Decidable p] (h : ¬ p) : p_b p = 0 := if_neg h
theorem p_b_nar {p : Prop} [Decidable p] : narrow .boolean (.int (p_b p)) = .int (p_b p) := by
  unfold p_b
  split <;> rfl
theorem p_b_0 {p : Prop} [Decidable p] : p_b p = 0 ↔ ¬ p := by
  unfold p_b
  split
  · rename_i h; exact ⟨fun z => absurd z (by decide), fun z => absurd h z⟩
  · rename_i h; exact ⟨fun _ => h, fun _ => rfl⟩
section C06
variable {G : p_G} {M : p_M} {P : p_P} {d k n : Nat} {h : p_H} {pc : Nat} {L : p_LL} {st : List Value}
theorem SW.hp (kk : ∀ h' : p_H, h' = h → SW G M P d k n h' pc L st) : SW G M P d k n h pc L st := kk h rfl
def p_sl (As : List Value) : p_LL := As.flatMap (fun v => if v.category = 2 then [some v, none] else [some v])
theorem p_sl_at : ∀ (As : List Value) (o i : Nat) (v : Value), (p_sl As)[i]? = some (some v) → (o + i, v) ∈ lv_args o As
  | [], _, i, v, h => by simp [p_sl] at h
  | a :: As, o, i, v, h => by
    have e : p_sl (a :: As) = (if a.category = 2 then [some a, none] else [some a]) ++ p_sl As := by simp [p_sl]
    rw [e] at h
    unfold lv_args
    by_cases c : a.category = 2
    · rw [if_pos c] at h
      rw [if_pos c]
      match i, h with
      | 0, h => cases h; exact List.mem_cons_self
      | 1, h => cases h
      | i + 2, h =>
        have h2 := p_sl_at As (o + 2) i v h
        rw [show o + 2 + i = o + (i + 2) by omega] at h2
        exact List.mem_cons_of_mem _ h2
    · rw [if_neg c] at h
      rw [if_neg c]
      match i, h with
      | 0, h => cases h; exact List.mem_cons_self
      | i + 1, h =>
        have h2 := p_sl_at As (o + 1) i v h
        rw [show o + 1 + i = o + (i + 1) by omega] at h2
        exact List.mem_cons_of_mem _ h2
def p_ini (As : List Value) (n : Nat) : p_LL := p_sl As ++ List.replicate (n - (p_sl As).length) none
theorem p_ini_at {As : List Value} {n i : Nat} {v : Value} (h : (p_ini As n)[i]? = some (some v)) : (i, v) ∈ lv_args 0 As := by
  unfold p_ini at h
  rcases Nat.lt_or_ge i (p_sl As).length with q | q
  · rw [List.getElem?_append_left q] at h
    have h2 := p_sl_at As 0 i v h
    rwa [Nat.zero_add] at h2
  · rw [List.getElem?_append_right q, List.getElem?_replicate] at h
    split at h <;> cases h
theorem SM.of2 {As : List Value} {na : Nat} (hc : p_cf M na) (hL : p_ini As M.2.2.1 = L) (hl : (lg_sl As).length ≤ M.2.2.1) (kk : SW G M P d k n h 0 L []) : SM G M h As d k n P := SM.of hc hl (fun i v hi => p_ini_at (by rw [hL]; exact hi)) kk

theorem c_isIndex {i m : Int32} (hp : P (.inl (some (.int (p_b (0 ≤ i ∧ i < m))))) h) : SM G mX10_isIndex h [.int i, .int m] d k n P := by
  refine SM.of2 (L := [some (.int i), some (.int m)]) cfX10_isIndex rfl (Nat.le_of_ble_eq_true rfl) ?_
  refine r_iload_n dX10_isIndex_0 rfl ?_
  refine r_if_lt (tgt := 13) dX10_isIndex_1 (by decide) (fun c1 => ?_) (fun c1 => ?_)
  · -- 1 jumps
    refine r_iconst dX10_isIndex_13 (by decide : _ = (0 : Int32)) ?_
    refine r_ireturn dX10_isIndex_14 rfl rfl ?_
    first | (rw [show p_b (0 ≤ i ∧ i < m) = 1 from p_b_t ⟨Int32.not_lt.mp (by assumption), Int32.not_le.mp (by assumption)⟩] at hp; exact hp) | (rw [show p_b (0 ≤ i ∧ i < m) = 0 from p_b_f (fun z => absurd z.1 (Int32.not_le.mpr (by assumption)))] at hp; exact hp) | (rw [show p_b (0 ≤ i ∧ i < m) = 0 from p_b_f (fun z => absurd z.2 (Int32.not_lt.mpr (by assumption)))] at hp; exact hp)
  · -- 1 goes on
    refine r_iload_n dX10_isIndex_4 rfl ?_
    refine r_iload_n dX10_isIndex_5 rfl ?_
    refine r_icmp_ge (tgt := 13) dX10_isIndex_6 (by decide) (fun c6 => ?_) (fun c6 => ?_)
    · -- 6 jumps
      refine r_iconst dX10_isIndex_13 (by decide : _ = (0 : Int32)) ?_
      refine r_ireturn dX10_isIndex_14 rfl rfl ?_
      first | (rw [show p_b (0 ≤ i ∧ i < m) = 1 from p_b_t ⟨Int32.not_lt.mp (by assumption), Int32.not_le.mp (by assumption)⟩] at hp; exact hp) | (rw [show p_b (0 ≤ i ∧ i < m) = 0 from p_b_f (fun z => absurd z.1 (Int32.not_le.mpr (by assumption)))] at hp; exact hp) | (rw [show p_b (0 ≤ i ∧ i < m) = 0 from p_b_f (fun z => absurd z.2 (Int32.not_lt.mpr (by assumption)))] at hp; exact hp)
    · -- 6 goes on
      refine r_iconst dX10_isIndex_9 (by decide : _ = (1 : Int32)) ?_
      refine r_goto (tgt := 14) dX10_isIndex_10 (by decide) ?_
      refine r_ireturn dX10_isIndex_14 rfl rfl ?_
      first | (rw [show p_b (0 ≤ i ∧ i < m) = 1 from p_b_t ⟨Int32.not_lt.mp (by assumption), Int32.not_le.mp (by assumption)⟩] at hp; exact hp) | (rw [show p_b (0 ≤ i ∧ i < m) = 0 from p_b_f (fun z => absurd z.1 (Int32.not_le.mpr (by assumption)))] at hp; exact hp) | (rw [show p_b (0 ≤ i ∧ i < m) = 0 from p_b_f (fun z => absurd z.2 (Int32.not_lt.mpr (by assumption)))] at hp; exact hp)
end C06
