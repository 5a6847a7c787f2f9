/-! ===== small methods ===== -/
def p_b (p : Prop) [Decidable p] : Int32 := if p then 1 else 0
theorem p_b_t {p : Prop} [Decidable p] (h : p) : p_b p = 1 := if_pos h
theorem p_b_f {p : Prop} [Decidable p] (h : ¬ p) : p_b p = 0 := if_neg h
theorem p_b_nar {p : Prop} [Decidable p] : narrow .boolean (.int (p_b p)) = .int (p_b p) := by
  unfold p_b
  split <;> rfl
theorem p_b_0 {p : Prop} [Decidable p] : p_b p = 0 ↔ ¬ p := by
  unfold p_b
  split
  · rename_i h; exact ⟨fun z => absurd z (by decide), fun z => absurd h z⟩
  · rename_i h; exact ⟨fun _ => h, fun _ => rfl⟩
section C06
variable {G : p_G} {M : p_M} {P : p_P} {d k n : Nat} {h : p_H} {pc : Nat} {L : p_LL} {st : List Value}
theorem SW.hp (kk : ∀ h' : p_H, h' = h → SW G M P d k n h' pc L st) : SW G M P d k n h pc L st := kk h rfl
/-- 0 <= i < n -/
def p_ix (i n : Int32) : Prop := 0 ≤ i ∧ i < n

theorem c_isIndex {i m : Int32} (hp : P (.inl (some (.int (p_b (0 ≤ i ∧ i < m))))) h) : SM G mX10_isIndex h [.int i, .int m] d k n P := by
  refine SM.of (L := [some (.int i), some (.int m)]) cfX10_isIndex (Nat.le_of_ble_eq_true rfl) (fun j v hj => ?_) ?_
  · match j, hj with
    | 0, hj => cases hj; exact List.mem_cons_self
    | 1, hj => cases hj; exact List.mem_cons_of_mem _ List.mem_cons_self
    | j + 2, hj => cases hj
  refine r_iload_n dX10_isIndex_0 rfl ?_
  refine r_if_lt (tgt := 13) dX10_isIndex_1 (by decide) (fun c1 => ?_) (fun c1 => ?_)
  · -- 1 jumps
    refine r_iconst dX10_isIndex_13 (by decide : _ = (0 : Int32)) ?_
    refine r_ireturn dX10_isIndex_14 rfl rfl ?_
    first | (rw [show p_b (0 ≤ i ∧ i < m) = 1 from p_b_t ⟨Int32.not_lt.mp (by assumption), Int32.not_le.mp (by assumption)⟩] at hp; exact hp) | (rw [show p_b (0 ≤ i ∧ i < m) = 0 from p_b_f (fun z => absurd z.1 (Int32.not_le.mpr (by assumption)))] at hp; exact hp) | (rw [show p_b (0 ≤ i ∧ i < m) = 0 from p_b_f (fun z => absurd z.2 (Int32.not_lt.mpr (by assumption)))] at hp; exact hp)
  · -- 1 goes on
    refine r_iload_n dX10_isIndex_4 rfl ?_
    refine r_iload_n dX10_isIndex_5 rfl ?_
    refine r_icmp_ge (tgt := 13) dX10_isIndex_6 (by decide) (fun c6 => ?_) (fun c6 => ?_)
    · -- 6 jumps
      refine r_iconst dX10_isIndex_13 (by decide : _ = (0 : Int32)) ?_
      refine r_ireturn dX10_isIndex_14 rfl rfl ?_
      first | (rw [show p_b (0 ≤ i ∧ i < m) = 1 from p_b_t ⟨Int32.not_lt.mp (by assumption), Int32.not_le.mp (by assumption)⟩] at hp; exact hp) | (rw [show p_b (0 ≤ i ∧ i < m) = 0 from p_b_f (fun z => absurd z.1 (Int32.not_le.mpr (by assumption)))] at hp; exact hp) | (rw [show p_b (0 ≤ i ∧ i < m) = 0 from p_b_f (fun z => absurd z.2 (Int32.not_lt.mpr (by assumption)))] at hp; exact hp)
    · -- 6 goes on
      refine r_iconst dX10_isIndex_9 (by decide : _ = (1 : Int32)) ?_
      refine r_goto (tgt := 14) dX10_isIndex_10 (by decide) ?_
      refine r_ireturn dX10_isIndex_14 rfl rfl ?_
      first | (rw [show p_b (0 ≤ i ∧ i < m) = 1 from p_b_t ⟨Int32.not_lt.mp (by assumption), Int32.not_le.mp (by assumption)⟩] at hp; exact hp) | (rw [show p_b (0 ≤ i ∧ i < m) = 0 from p_b_f (fun z => absurd z.1 (Int32.not_le.mpr (by assumption)))] at hp; exact hp) | (rw [show p_b (0 ≤ i ∧ i < m) = 0 from p_b_f (fun z => absurd z.2 (Int32.not_lt.mpr (by assumption)))] at hp; exact hp)
end C06
