/-! ===== the reference: the deterministic automaton ===== -/
/-- the shape of a pattern's numbers ahead of its states -/
def wRaw (w : Int → Int) (s : Int) : Prop := (0 ≤ w (476 * s + 0) ∧ w (476 * s + 0) ≤ 24) ∧ (∀ k, k = 2 ∨ k = 3 ∨ 6 ≤ k ∧ k ≤ 30 → 0 ≤ w (476 * s + k) ∧ w (476 * s + k) < 33554432) ∧ ∀ p, 1 ≤ p → p ≤ 24 → 0 ≤ w (476 * s + (31 + p)) ∧ w (476 * s + (31 + p)) ≤ 6
/-- the positions behind a set, of the first k -/
def wAft (w : Int → Int) (s y : Int) : Nat → Int
  | 0 => if y % 2 = 1 then w (476 * s + 2) else 0
  | k + 1 => zo (wAft w s y k) (if zt y ((k : Int) + 1) then w (476 * s + (6 + ((k : Int) + 1))) else 0)
/-- those of a street -/
def wThen (w : Int → Int) (s a c : Int) : Nat → Int
  | 0 => 0
  | k + 1 => zo (wThen w s a c k) (if zt a ((k : Int) + 1) ∧ (w (476 * s + (31 + ((k : Int) + 1))) = 6 ∨ w (476 * s + (31 + ((k : Int) + 1))) = c) then zp ((k : Int) + 1) else 0)
def wLead (w : Int → Int) (s y c : Int) : Int := wThen w s (wAft w s y (w (476 * s + 0)).toNat) c (w (476 * s + 0)).toNat
theorem wAft_s {w : Int → Int} {s y p : Int} (h : 1 ≤ p) : wAft w s y p.toNat = zo (wAft w s y (p - 1).toNat) (if zt y p then w (476 * s + (6 + p)) else 0) := by
  obtain ⟨k, rfl⟩ : ∃ k : Nat, p = (k : Int) + 1 := ⟨(p - 1).toNat, by omega⟩
  refine (congrArg (wAft w s y) (show ((k : Int) + 1).toNat = k + 1 by omega)).trans ?_
  rw [show ((k : Int) + 1 - 1).toNat = k by omega]
  rfl
theorem wThen_s {w : Int → Int} {s a c p : Int} (h : 1 ≤ p) : wThen w s a c p.toNat = zo (wThen w s a c (p - 1).toNat) (if zt a p ∧ (w (476 * s + (31 + p)) = 6 ∨ w (476 * s + (31 + p)) = c) then zp p else 0) := by
  obtain ⟨k, rfl⟩ : ∃ k : Nat, p = (k : Int) + 1 := ⟨(p - 1).toNat, by omega⟩
  refine (congrArg (wThen w s a c) (show ((k : Int) + 1).toNat = k + 1 by omega)).trans ?_
  rw [show ((k : Int) + 1 - 1).toNat = k by omega]
  rfl
theorem zo_rg {a b : Int} (ha : 0 ≤ a ∧ a < 33554432) (hb : 0 ≤ b ∧ b < 33554432) : 0 ≤ zo a b ∧ zo a b < 33554432 := by
  have h := @zo_lt a b 25 (by simpa using ha.2) (by simpa using hb.2)
  exact ⟨zo_nn, by simpa using h⟩
theorem zp_rg {p : Int} (h : p ≤ 24) : 0 ≤ zp p ∧ zp p < 33554432 := by
  refine ⟨zp_nn, ?_⟩
  unfold zp
  have : (2 : Nat) ^ p.toNat ≤ 2 ^ 24 := Nat.pow_le_pow_right (by decide) (by omega)
  omega
theorem wAft_rg {w : Int → Int} {s y : Int} (hR : wRaw w s) : ∀ k : Nat, k ≤ 24 → 0 ≤ wAft w s y k ∧ wAft w s y k < 33554432
  | 0, _ => by
    have := hR.2.1 2 (by decide)
    show 0 ≤ (if y % 2 = 1 then w (476 * s + 2) else 0) ∧ (if y % 2 = 1 then w (476 * s + 2) else 0) < 33554432
    split <;> omega
  | k + 1, h => by
    refine zo_rg (wAft_rg hR k (by omega)) ?_
    have := hR.2.1 (6 + ((k : Int) + 1)) (by omega)
    split <;> omega
theorem wThen_rg {w : Int → Int} {s a c : Int} : ∀ k : Nat, k ≤ 24 → 0 ≤ wThen w s a c k ∧ wThen w s a c k < 33554432
  | 0, _ => by
    show 0 ≤ (0 : Int) ∧ (0 : Int) < 33554432
    decide
  | k + 1, h => by
    refine zo_rg (wThen_rg k (by omega)) ?_
    have := @zp_rg ((k : Int) + 1) (by omega)
    split <;> omega
theorem wLead_rg {w : Int → Int} {s y c : Int} (hR : wRaw w s) : 0 ≤ wLead w s y c ∧ wLead w s y c < 33554432 := wThen_rg _ (by have := hR.1; omega)
section M27
variable {G : p_G} {Y : Nat → Nat} {h0 : p_H} {P : (Option Value) ⊕ String → m_X → Prop} {d : Nat} {V : Nat → Int} {C : Nat → Int → Int} {J : Int → Int}
theorem k_ld_l1 {s y c : Int} {w : Int → Int} (hw : C 0 = w) (hR : wRaw w s) (hs : s = 0 ∨ s = 1) (hy : 0 ≤ y ∧ y < 33554432) (hc : 0 ≤ c ∧ c < 6) (kk : ∀ p, RW G mX11_leads (m_I Y h0) P (d + 1) 0 0 68 [some (.ref (Y 38)), some (.int (iI s)), some (.int (iI y)), some (.int (iI c)), some (.int (iI (wAft w s y (w (476 * s + 0)).toNat))), some (.int (iI p)), none, none] [] (V, C, J)) : ∀ (zz : Nat) (p a : Int), zz = (w (476 * s + 0) + 1 - p).toNat → (1 ≤ p) → (p ≤ w (476 * s + 0) + 1) → (a = wAft w s y (p - 1).toNat) → RW G mX11_leads (m_I Y h0) P (d + 1) 0 0 22 [some (.ref (Y 38)), some (.int (iI s)), some (.int (iI y)), some (.int (iI c)), some (.int (iI a)), some (.int (iI p)), none, none] [] (V, C, J) := by
  intro zz
  induction zz using Nat.strongRecOn with
  | _ zz ih =>
    intro p a hzz h1 h2 ha
    have b0 := hR.1
    have b1 := @wAft_rg w s y hR (p - 1).toNat (by omega)
    rw [← ha] at b1
    have b2 := hR.2.1 (6 + p)
    refine i_iload dX11_leads_22 rfl ?_
    refine i_aload_n dX11_leads_24 rfl ?_
    refine i_iload_n dX11_leads_25 rfl ?_
    refine i_const dX11_leads_26 ?_
    refine t_callV (As := [_, _]) dX11_leads_27 cfX11_of imX11_of seX11_of lX11_115 rfl rfl rfl (Nat.le_of_ble_eq_true rfl) ?_
    refine k_of (w := w) hw (by omega) (RK.v ?_)
    refine i_icmp_gt (tgt := 68) dX11_leads_30 (by decide) (by omega) (by omega) (fun c30 => ?_) (fun c30 => ?_)
    · -- jumps
      obtain rfl : p = w (476 * s + 0) + 1 := by omega
      rw [ha, show w (476 * s + 0) + 1 - 1 = w (476 * s + 0) by omega]
      exact kk _
    · -- on
      refine i_iload dX11_leads_33 rfl ?_
      refine i_iload_n dX11_leads_35 rfl ?_
      refine i_iload dX11_leads_36 rfl ?_
      refine i_shr dX11_leads_38 (iI_shr (by omega) (by omega)) ?_
      refine i_const dX11_leads_39 ?_
      refine i_and dX11_leads_40 (zs_nn) (by omega) ?_
      refine RW.ti zs_1 ?_
      refine i_const dX11_leads_41 ?_
      refine i_icmp_ne_b1 (tgt := 58) dX11_leads_42 (by decide) (fun c42 => ?_) (fun c42 => ?_)
      · -- jumps
        refine i_const dX11_leads_58 ?_
        refine i_or dX11_leads_59 (by omega) (by omega) ?_
        refine i_istore dX11_leads_60 (L' := [some _, some _, some _, some _, some _, some _, none, none]) (by decide) rfl ?_
        refine i_iinc dX11_leads_62 rfl (L' := [some _, some _, some _, some _, some _, some _, none, none]) (by decide) rfl ?_
        refine i_goto (tgt := 22) dX11_leads_65 (by decide) ?_
        refine ih _ ?_ (p + 1) _ rfl (by omega) (by omega) ?_
        · omega
        rw [show p + 1 - 1 = p by omega, wAft_s h1, ha]
        first | rw [if_pos (by assumption)] | rw [if_neg (by assumption)]
      · -- on
        refine i_aload_n dX11_leads_45 rfl ?_
        refine i_iload_n dX11_leads_46 rfl ?_
        refine i_bipush dX11_leads_47 (by decide) ?_
        refine i_iload dX11_leads_49 rfl ?_
        refine i_add dX11_leads_51 ?_
        refine t_callV (As := [_, _]) dX11_leads_52 cfX11_of imX11_of seX11_of lX11_115 rfl rfl rfl (Nat.le_of_ble_eq_true rfl) ?_
        refine k_of (w := w) hw (by omega) (RK.v ?_)
        refine i_goto (tgt := 59) dX11_leads_55 (by decide) ?_
        refine i_or dX11_leads_59 (by omega) (by omega) ?_
        refine i_istore dX11_leads_60 (L' := [some _, some _, some _, some _, some _, some _, none, none]) (by decide) rfl ?_
        refine i_iinc dX11_leads_62 rfl (L' := [some _, some _, some _, some _, some _, some _, none, none]) (by decide) rfl ?_
        refine i_goto (tgt := 22) dX11_leads_65 (by decide) ?_
        refine ih _ ?_ (p + 1) _ rfl (by omega) (by omega) ?_
        · omega
        rw [show p + 1 - 1 = p by omega, wAft_s h1, ha]
        first | rw [if_pos (by assumption)] | rw [if_neg (by assumption)]
theorem k_ld_l2 {s y c a : Int} {w : Int → Int} (hw : C 0 = w) (hR : wRaw w s) (hs : s = 0 ∨ s = 1) (hy : 0 ≤ y ∧ y < 33554432) (hc : 0 ≤ c ∧ c < 6) (ha : 0 ≤ a ∧ a < 33554432) (hp : P (.inl (some (.int (iI (wThen w s a c (w (476 * s + 0)).toNat))))) (V, C, J)) : ∀ (zz : Nat) (p x : Int), zz = (w (476 * s + 0) + 1 - p).toNat → (1 ≤ p) → (p ≤ w (476 * s + 0) + 1) → (x = wThen w s a c (p - 1).toNat) → RW G mX11_leads (m_I Y h0) P (d + 1) 0 0 74 [some (.ref (Y 38)), some (.int (iI s)), some (.int (iI y)), some (.int (iI c)), some (.int (iI a)), some (.int (iI x)), some (.int (iI p)), none] [] (V, C, J) := by
  intro zz
  induction zz using Nat.strongRecOn with
  | _ zz ih =>
    intro p x hzz h1 h2 hx
    have b0 := hR.1
    have b1 := @wThen_rg w s a c (p - 1).toNat (by omega)
    rw [← hx] at b1
    have b2 := hR.2.2 p
    refine i_iload dX11_leads_74 rfl ?_
    refine i_aload_n dX11_leads_76 rfl ?_
    refine i_iload_n dX11_leads_77 rfl ?_
    refine i_const dX11_leads_78 ?_
    refine t_callV (As := [_, _]) dX11_leads_79 cfX11_of imX11_of seX11_of lX11_115 rfl rfl rfl (Nat.le_of_ble_eq_true rfl) ?_
    refine k_of (w := w) hw (by omega) (RK.v ?_)
    refine i_icmp_gt (tgt := 140) dX11_leads_82 (by decide) (by omega) (by omega) (fun c82 => ?_) (fun c82 => ?_)
    · -- jumps
      refine i_iload dX11_leads_140 rfl ?_
      refine i_ireturn dX11_leads_142 rfl rfl ?_
      obtain rfl : p = w (476 * s + 0) + 1 := by omega
      rw [hx, show w (476 * s + 0) + 1 - 1 = w (476 * s + 0) by omega]
      exact hp
    · -- on
      refine i_aload_n dX11_leads_85 rfl ?_
      refine i_iload_n dX11_leads_86 rfl ?_
      refine i_bipush dX11_leads_87 (by decide) ?_
      refine i_iload dX11_leads_89 rfl ?_
      refine i_add dX11_leads_91 ?_
      refine t_callV (As := [_, _]) dX11_leads_92 cfX11_of imX11_of seX11_of lX11_115 rfl rfl rfl (Nat.le_of_ble_eq_true rfl) ?_
      refine k_of (w := w) hw (by omega) (RK.v ?_)
      refine i_istore dX11_leads_95 (L' := [some _, some _, some _, some _, some _, some _, some _, some _]) (by decide) rfl ?_
      refine i_iload dX11_leads_97 rfl ?_
      refine i_iload dX11_leads_99 rfl ?_
      refine i_iload dX11_leads_101 rfl ?_
      refine i_shr dX11_leads_103 (iI_shr (by omega) (by omega)) ?_
      refine i_const dX11_leads_104 ?_
      refine i_and dX11_leads_105 (zs_nn) (by omega) ?_
      refine RW.ti zs_1 ?_
      refine i_const dX11_leads_106 ?_
      refine i_icmp_ne_b1 (tgt := 130) dX11_leads_107 (by decide) (fun c107 => ?_) (fun c107 => ?_)
      · -- jumps
        refine i_const dX11_leads_130 ?_
        have b9 := @zp_rg p (by omega)
        refine i_or dX11_leads_131 (by omega) (by omega) ?_
        refine i_istore dX11_leads_132 (L' := [some _, some _, some _, some _, some _, some _, some _, some _]) (by decide) rfl ?_
        refine i_iinc dX11_leads_134 rfl (L' := [some _, some _, some _, some _, some _, some _, some _, some _]) (by decide) rfl ?_
        refine i_goto (tgt := 74) dX11_leads_137 (by decide) ?_
        refine RW.wk (L' := [some _, some _, some _, some _, some _, some _, some _, none]) (p_subL.at (by repeat (first | exact subL_nil | refine subL_s ?_ | refine subL_n ?_))) ?_
        refine ih _ ?_ (p + 1) _ rfl (by omega) (by omega) ?_
        · omega
        rw [show p + 1 - 1 = p by omega, wThen_s h1, hx]
        first | rw [if_pos ⟨by assumption, by omega⟩] | (rw [if_neg]; rintro ⟨z1, z2⟩; first | contradiction | omega)
      · -- on
        refine i_iload dX11_leads_110 rfl ?_
        refine i_bipush dX11_leads_112 (by decide) ?_
        refine i_icmp_eq (tgt := 123) dX11_leads_114 (by decide) (by omega) (by omega) (fun c114 => ?_) (fun c114 => ?_)
        · -- jumps
          refine i_const dX11_leads_123 ?_
          refine i_iload dX11_leads_124 rfl ?_
          refine i_shl dX11_leads_126 (iI_shl1 (by omega)) ?_
          refine i_goto (tgt := 131) dX11_leads_127 (by decide) ?_
          have b9 := @zp_rg p (by omega)
          refine i_or dX11_leads_131 (by omega) (by omega) ?_
          refine i_istore dX11_leads_132 (L' := [some _, some _, some _, some _, some _, some _, some _, some _]) (by decide) rfl ?_
          refine i_iinc dX11_leads_134 rfl (L' := [some _, some _, some _, some _, some _, some _, some _, some _]) (by decide) rfl ?_
          refine i_goto (tgt := 74) dX11_leads_137 (by decide) ?_
          refine RW.wk (L' := [some _, some _, some _, some _, some _, some _, some _, none]) (p_subL.at (by repeat (first | exact subL_nil | refine subL_s ?_ | refine subL_n ?_))) ?_
          refine ih _ ?_ (p + 1) _ rfl (by omega) (by omega) ?_
          · omega
          rw [show p + 1 - 1 = p by omega, wThen_s h1, hx]
          first | rw [if_pos ⟨by assumption, by omega⟩] | (rw [if_neg]; rintro ⟨z1, z2⟩; first | contradiction | omega)
        · -- on
          refine i_iload dX11_leads_117 rfl ?_
          refine i_iload_n dX11_leads_119 rfl ?_
          refine i_icmp_ne (tgt := 130) dX11_leads_120 (by decide) (by omega) (by omega) (fun c120 => ?_) (fun c120 => ?_)
          · -- jumps
            refine i_const dX11_leads_130 ?_
            have b9 := @zp_rg p (by omega)
            refine i_or dX11_leads_131 (by omega) (by omega) ?_
            refine i_istore dX11_leads_132 (L' := [some _, some _, some _, some _, some _, some _, some _, some _]) (by decide) rfl ?_
            refine i_iinc dX11_leads_134 rfl (L' := [some _, some _, some _, some _, some _, some _, some _, some _]) (by decide) rfl ?_
            refine i_goto (tgt := 74) dX11_leads_137 (by decide) ?_
            refine RW.wk (L' := [some _, some _, some _, some _, some _, some _, some _, none]) (p_subL.at (by repeat (first | exact subL_nil | refine subL_s ?_ | refine subL_n ?_))) ?_
            refine ih _ ?_ (p + 1) _ rfl (by omega) (by omega) ?_
            · omega
            rw [show p + 1 - 1 = p by omega, wThen_s h1, hx]
            first | rw [if_pos ⟨by assumption, by omega⟩] | (rw [if_neg]; rintro ⟨z1, z2⟩; first | contradiction | omega)
          · -- on
            refine i_const dX11_leads_123 ?_
            refine i_iload dX11_leads_124 rfl ?_
            refine i_shl dX11_leads_126 (iI_shl1 (by omega)) ?_
            refine i_goto (tgt := 131) dX11_leads_127 (by decide) ?_
            have b9 := @zp_rg p (by omega)
            refine i_or dX11_leads_131 (by omega) (by omega) ?_
            refine i_istore dX11_leads_132 (L' := [some _, some _, some _, some _, some _, some _, some _, some _]) (by decide) rfl ?_
            refine i_iinc dX11_leads_134 rfl (L' := [some _, some _, some _, some _, some _, some _, some _, some _]) (by decide) rfl ?_
            refine i_goto (tgt := 74) dX11_leads_137 (by decide) ?_
            refine RW.wk (L' := [some _, some _, some _, some _, some _, some _, some _, none]) (p_subL.at (by repeat (first | exact subL_nil | refine subL_s ?_ | refine subL_n ?_))) ?_
            refine ih _ ?_ (p + 1) _ rfl (by omega) (by omega) ?_
            · omega
            rw [show p + 1 - 1 = p by omega, wThen_s h1, hx]
            first | rw [if_pos ⟨by assumption, by omega⟩] | (rw [if_neg]; rintro ⟨z1, z2⟩; first | contradiction | omega)
theorem k_leads {s y c : Int} {w : Int → Int} (hw0 : C 0 = w) (hR : wRaw w s) (hs : s = 0 ∨ s = 1) (hy : 0 ≤ y ∧ y < 33554432) (hc : 0 ≤ c ∧ c < 6) (hp : P (.inl (some (.int (iI (wLead w s y c))))) (V, C, J)) : RM G mX11_leads (m_I Y h0) [.ref (Y 38), .int (iI s), .int (iI y), .int (iI c)] (d + 1) 0 0 P (V, C, J) := by
  refine RM.of (L := [some (.ref (Y 38)), some (.int (iI s)), some (.int (iI y)), some (.int (iI c)), none, none, none, none]) cfX11_leads rfl (Nat.le_of_ble_eq_true rfl) ?_
  refine i_iload_n dX11_leads_0 rfl ?_
  refine i_const dX11_leads_1 ?_
  refine i_and dX11_leads_2 (by omega) (by omega) ?_
  refine RW.ti (za_1 (by omega)) ?_
  refine i_const dX11_leads_3 ?_
  refine i_icmp_ne (tgt := 16) dX11_leads_4 (by decide) (by omega) (by omega) (fun c4 => ?_) (fun c4 => ?_)
  · -- jumps
    refine i_const dX11_leads_16 ?_
    refine i_istore dX11_leads_17 (L' := [some _, some _, some _, some _, some _, none, none, none]) (by decide) rfl ?_
    refine i_const dX11_leads_19 ?_
    refine i_istore dX11_leads_20 (L' := [some _, some _, some _, some _, some _, some _, none, none]) (by decide) rfl ?_
    have b0 := hR.1
    refine k_ld_l1 hw0 hR hs hy hc (fun p2 => ?_) _ 1 _ rfl (by omega) (by omega) ?_
    · skip
      refine i_const dX11_leads_68 ?_
      refine i_istore dX11_leads_69 (L' := [some _, some _, some _, some _, some _, some _, none, none]) (by decide) rfl ?_
      refine i_const dX11_leads_71 ?_
      refine i_istore dX11_leads_72 (L' := [some _, some _, some _, some _, some _, some _, some _, none]) (by decide) rfl ?_
      exact k_ld_l2 hw0 hR hs hy hc (wAft_rg hR _ (by omega)) hp _ 1 0 rfl (by omega) (by omega) rfl
    · first | (show _ = (if y % 2 = 1 then w (476 * s + 2) else 0); first | (rw [if_pos (by omega)]) | (rw [if_neg (by omega)]))
  · -- on
    refine i_aload_n dX11_leads_7 rfl ?_
    refine i_iload_n dX11_leads_8 rfl ?_
    refine i_const dX11_leads_9 ?_
    refine t_callV (As := [_, _]) dX11_leads_10 cfX11_of imX11_of seX11_of lX11_115 rfl rfl rfl (Nat.le_of_ble_eq_true rfl) ?_
    refine k_of (w := w) hw0 (by omega) (RK.v ?_)
    refine i_goto (tgt := 17) dX11_leads_13 (by decide) ?_
    refine i_istore dX11_leads_17 (L' := [some _, some _, some _, some _, some _, none, none, none]) (by decide) rfl ?_
    refine i_const dX11_leads_19 ?_
    refine i_istore dX11_leads_20 (L' := [some _, some _, some _, some _, some _, some _, none, none]) (by decide) rfl ?_
    have b0 := hR.1
    refine k_ld_l1 hw0 hR hs hy hc (fun p2 => ?_) _ 1 _ rfl (by omega) (by omega) ?_
    · skip
      refine i_const dX11_leads_68 ?_
      refine i_istore dX11_leads_69 (L' := [some _, some _, some _, some _, some _, some _, none, none]) (by decide) rfl ?_
      refine i_const dX11_leads_71 ?_
      refine i_istore dX11_leads_72 (L' := [some _, some _, some _, some _, some _, some _, some _, none]) (by decide) rfl ?_
      exact k_ld_l2 hw0 hR hs hy hc (wAft_rg hR _ (by omega)) hp _ 1 0 rfl (by omega) (by omega) rfl
    · first | (show _ = (if y % 2 = 1 then w (476 * s + 2) else 0); first | (rw [if_pos (by omega)]) | (rw [if_neg (by omega)]))
theorem k_so_l {s y : Int} {w : Int → Int} (hw : C 0 = w) (hs : s = 0 ∨ s = 1) (hm : 0 ≤ w (476 * s + 5) ∧ w (476 * s + 5) ≤ 60) (hy : 0 ≤ y ∧ y < 33554432) (hr : ∀ j, 0 ≤ j → j < w (476 * s + 5) → 0 ≤ w (476 * s + (56 + j)) ∧ w (476 * s + (56 + j)) < 33554432) (hp1 : ∀ r, 0 ≤ r → r < w (476 * s + 5) → w (476 * s + (56 + r)) = y → (∀ j, 0 ≤ j → j < r → w (476 * s + (56 + j)) ≠ y) → P (.inl (some (.int (iI r)))) (V, C, J)) (hp2 : (∀ j, 0 ≤ j → j < w (476 * s + 5) → w (476 * s + (56 + j)) ≠ y) → w (476 * s + 5) = 60 → P (.inl (some (.int (iI (-1))))) (V, C, J)) (hp3 : (∀ j, 0 ≤ j → j < w (476 * s + 5) → w (476 * s + (56 + j)) ≠ y) → w (476 * s + 5) < 60 → P (.inl (some (.int (iI (w (476 * s + 5)))))) (V, cu C 0 (zu (zu w (476 * s + (56 + w (476 * s + 5))) y) (476 * s + 5) (w (476 * s + 5) + 1)), J)) : ∀ (zz : Nat) (k : Int), zz = (w (476 * s + 5) - k).toNat → (0 ≤ k) → (k ≤ w (476 * s + 5)) → (∀ j, 0 ≤ j → j < k → w (476 * s + (56 + j)) ≠ y) → RW G mX11_stateOf (m_I Y h0) P (d + 1) 0 0 10 [some (.ref (Y 38)), some (.int (iI s)), some (.int (iI y)), some (.int (iI (w (476 * s + 5)))), some (.int (iI k))] [] (V, C, J) := by
  intro zz
  induction zz using Nat.strongRecOn with
  | _ zz ih =>
    intro k hzz h1 h2 hI
    have b2 := fun z => hr k h1 z
    refine i_iload dX11_stateOf_10 rfl ?_
    refine i_iload_n dX11_stateOf_12 rfl ?_
    refine i_icmp_ge (tgt := 39) dX11_stateOf_13 (by decide) (by omega) (by omega) (fun c13 => ?_) (fun c13 => ?_)
    · -- jumps
      refine i_iload_n dX11_stateOf_39 rfl ?_
      refine i_bipush dX11_stateOf_40 (by decide) ?_
      refine i_icmp_ne (tgt := 47) dX11_stateOf_42 (by decide) (by omega) (by omega) (fun c42 => ?_) (fun c42 => ?_)
      · -- jumps
        refine i_aload_n dX11_stateOf_47 rfl ?_
        refine i_iload_n dX11_stateOf_48 rfl ?_
        refine i_bipush dX11_stateOf_49 (by decide) ?_
        refine i_iload_n dX11_stateOf_51 rfl ?_
        refine i_add dX11_stateOf_52 ?_
        refine i_iload_n dX11_stateOf_53 rfl ?_
        refine t_callV (As := [_, _, _]) dX11_stateOf_54 cfX11_to imX11_to seX11_to lX11_172 rfl rfl rfl (Nat.le_of_ble_eq_true rfl) ?_
        refine k_to (by omega) (RK.n0 ?_)
        refine i_aload_n dX11_stateOf_57 rfl ?_
        refine i_iload_n dX11_stateOf_58 rfl ?_
        refine i_const dX11_stateOf_59 ?_
        refine i_iload_n dX11_stateOf_60 rfl ?_
        refine i_const dX11_stateOf_61 ?_
        refine i_add dX11_stateOf_62 ?_
        refine t_callV (As := [_, _, _]) dX11_stateOf_63 cfX11_to imX11_to seX11_to lX11_172 rfl rfl rfl (Nat.le_of_ble_eq_true rfl) ?_
        refine k_to2 (by omega) (RK.n0 ?_)
        refine i_iload_n dX11_stateOf_66 rfl ?_
        refine i_ireturn dX11_stateOf_67 rfl rfl ?_
        subst hw; exact hp3 (fun j j0 j1 => hI j j0 (by omega)) (by omega)
      · -- on
        refine i_const dX11_stateOf_45 ?_
        refine i_ireturn dX11_stateOf_46 rfl rfl ?_
        exact hp2 (fun j j0 j1 => hI j j0 (by omega)) (by omega)
    · -- on
      refine i_aload_n dX11_stateOf_16 rfl ?_
      refine i_iload_n dX11_stateOf_17 rfl ?_
      refine i_bipush dX11_stateOf_18 (by decide) ?_
      refine i_iload dX11_stateOf_20 rfl ?_
      refine i_add dX11_stateOf_22 ?_
      refine t_callV (As := [_, _]) dX11_stateOf_23 cfX11_of imX11_of seX11_of lX11_115 rfl rfl rfl (Nat.le_of_ble_eq_true rfl) ?_
      refine k_of (w := w) hw (by omega) (RK.v ?_)
      have b3 := b2 (by omega)
      refine i_iload_n dX11_stateOf_26 rfl ?_
      refine i_icmp_ne (tgt := 33) dX11_stateOf_27 (by decide) (by omega) (by omega) (fun c27 => ?_) (fun c27 => ?_)
      · -- jumps
        refine i_iinc dX11_stateOf_33 rfl (L' := [some _, some _, some _, some _, some _]) (by decide) rfl ?_
        refine i_goto (tgt := 10) dX11_stateOf_36 (by decide) ?_
        refine ih _ ?_ (k + 1) rfl (by omega) (by omega) (fun j j0 j1 => ?_)
        · omega
        by_cases z : j = k
        · rw [z]; assumption
        · exact hI j j0 (by omega)
      · -- on
        refine i_iload dX11_stateOf_30 rfl ?_
        refine i_ireturn dX11_stateOf_32 rfl rfl ?_
        exact hp1 k h1 (by omega) (by assumption) hI
theorem k_stateOf {s y : Int} {w : Int → Int} (hw0 : C 0 = w) (hs : s = 0 ∨ s = 1) (hm : 0 ≤ w (476 * s + 5) ∧ w (476 * s + 5) ≤ 60) (hy : 0 ≤ y ∧ y < 33554432) (hr : ∀ j, 0 ≤ j → j < w (476 * s + 5) → 0 ≤ w (476 * s + (56 + j)) ∧ w (476 * s + (56 + j)) < 33554432) (hp1 : ∀ r, 0 ≤ r → r < w (476 * s + 5) → w (476 * s + (56 + r)) = y → (∀ j, 0 ≤ j → j < r → w (476 * s + (56 + j)) ≠ y) → P (.inl (some (.int (iI r)))) (V, C, J)) (hp2 : (∀ j, 0 ≤ j → j < w (476 * s + 5) → w (476 * s + (56 + j)) ≠ y) → w (476 * s + 5) = 60 → P (.inl (some (.int (iI (-1))))) (V, C, J)) (hp3 : (∀ j, 0 ≤ j → j < w (476 * s + 5) → w (476 * s + (56 + j)) ≠ y) → w (476 * s + 5) < 60 → P (.inl (some (.int (iI (w (476 * s + 5)))))) (V, cu C 0 (zu (zu w (476 * s + (56 + w (476 * s + 5))) y) (476 * s + 5) (w (476 * s + 5) + 1)), J)) : RM G mX11_stateOf (m_I Y h0) [.ref (Y 38), .int (iI s), .int (iI y)] (d + 1) 0 0 P (V, C, J) := by
  refine RM.of (L := [some (.ref (Y 38)), some (.int (iI s)), some (.int (iI y)), none, none]) cfX11_stateOf rfl (Nat.le_of_ble_eq_true rfl) ?_
  refine i_aload_n dX11_stateOf_0 rfl ?_
  refine i_iload_n dX11_stateOf_1 rfl ?_
  refine i_const dX11_stateOf_2 ?_
  refine t_callV (As := [_, _]) dX11_stateOf_3 cfX11_of imX11_of seX11_of lX11_115 rfl rfl rfl (Nat.le_of_ble_eq_true rfl) ?_
  refine k_of (w := w) hw0 (by omega) (RK.v ?_)
  refine i_istore_n dX11_stateOf_6 (L' := [some _, some _, some _, some _, none]) (by decide) rfl ?_
  refine i_const dX11_stateOf_7 ?_
  refine i_istore dX11_stateOf_8 (L' := [some _, some _, some _, some _, some _]) (by decide) rfl ?_
  exact k_so_l hw0 hs hm hy hr hp1 hp2 hp3 _ 0 rfl (by omega) (by omega) (fun j j0 j1 => by omega)
end M27
