/-! ===== the reference: distances ===== -/
abbrev wGo (w : Int → Int) (s : Int) : Int → Int → Int := fun x c => w (476 * s + (116 + 6 * x + c))
/-- streets: all, or those that are passable -/
abbrev wAl (w : Int → Int) (p : Int) : Int → Prop := fun c => p = 0 ∨ w (971 + 2 * c + w 983) = 1
/-- the length of the least word that leads from a state to an accepting one; -1 -/
def wDist (w : Int → Int) (s t p r : Int) : Prop := (∃ n, zMin (wGo w s) (wAl w p) t (wAcc w s) n ∧ r = (zln n : Int)) ∨ (zNo (wGo w s) (wAl w p) t (wAcc w s) ∧ r = -1)
theorem wDist.ge {w : Int → Int} {s t p r : Int} (h : wDist w s t p r) : -1 ≤ r := by
  rcases h with ⟨n, _, rfl⟩ | ⟨_, rfl⟩ <;> omega
def zun (F : Int → Int) (m : Int) : Int := zsum (fun y => zb (F y = -1)) m.toNat
theorem zun_nn {F : Int → Int} {m : Int} : 0 ≤ zun F m := zsum_ge0 _ (fun j _ _ => by have := @zb_01 (F j = -1) _; omega)
theorem zun_up {F : Int → Int} {m k v : Int} (h0 : 0 ≤ k) (h1 : k < m) (h : F k = -1) (hv : v ≠ -1) : zun (zu F k v) m = zun F m - 1 := by
  unfold zun
  rw [zsum_up (f := fun i => zb (zu F k v i = -1)) (g := fun i => zb (F i = -1)) h0 _ (by omega) (fun j hj => by simp only [zu_ne hj])]
  simp only [zu_at]
  rw [zb_f hv, zb_t h]
  omega
theorem zun_1 {F : Int → Int} {m k : Int} (h0 : 0 ≤ k) (h1 : k < m) (h : F k = -1) : 1 ≤ zun F m := by
  have a := zun_up (F := F) h0 h1 h (v := 0) (by decide)
  have b := @zun_nn (zu F k 0) m
  omega
theorem zsum_1 {f : Int → Int} : ∀ n : Nat, (∀ j : Int, 0 ≤ j → j < n → f j = 1) → zsum f n = n
  | 0, _ => rfl
  | n + 1, h => by
    show zsum f n + f n = ((n + 1 : Nat) : Int)
    rw [zsum_1 n (fun j a b => h j a (by omega)), h n (by omega) (by omega)]
    omega
/-- a search's rows: the queue Q, the lengths F -/
def wQ (nx : Int → Int → Int) (al : Int → Prop) (t m : Int) (Q F : Int → Int) (e k c : Int) (cd : Int → Nat) : Prop := zBfs nx al t Q e k c cd (fun y => (0 ≤ y ∧ y < m) ∧ F y ≠ -1) ∧ (∀ i, 0 ≤ i → i < e → 0 ≤ Q i ∧ Q i < m) ∧ (∀ i, 0 ≤ i → i < e → F (Q i) = (zln (cd i) : Int)) ∧ e + zun F m = m ∧ ∀ y, 0 ≤ y → y < m → -1 ≤ F y ∧ F y < e
section WQ
variable {nx : Int → Int → Int} {al : Int → Prop} {t m : Int} {Q F : Int → Int} {e k c : Int} {cd : Int → Nat}
theorem wQ.init (hm : 0 ≤ t ∧ t < m) (h0 : Q 0 = t) (hF : ∀ y, 0 ≤ y → y < m → F y = if y = t then 0 else -1) : wQ nx al t m Q F 1 0 0 (fun _ => 0) := by
  refine ⟨zBfs.init h0 (fun y => ?_), fun i i0 i1 => ?_, fun i i0 i1 => ?_, ?_, fun y y0 y1 => ?_⟩
  · constructor
    · rintro ⟨⟨y0, y1⟩, z⟩
      rw [hF y y0 y1] at z
      refine Decidable.byContradiction (fun z2 => z (if_neg z2))
    · rintro rfl
      exact ⟨hm, by rw [hF y hm.1 hm.2, if_pos rfl]; decide⟩
  · obtain rfl : i = 0 := by omega
    rw [h0]; exact hm
  · obtain rfl : i = 0 := by omega
    rw [h0, hF t hm.1 hm.2, if_pos rfl, zln_0]; rfl
  · have a : zun F m = zun (zu (fun _ => -1) t 0) m := by
      unfold zun
      refine zsum_cg _ (fun j j0 j1 => ?_)
      rw [hF j j0 (by omega)]
      rfl
    rw [a, zun_up hm.1 hm.2 rfl (by decide)]
    unfold zun
    rw [zsum_1 _ (fun j _ _ => zb_t rfl)]
    omega
  · rw [hF y y0 y1]
    split <;> omega
theorem wQ.skip (h : wQ nx al t m Q F e k c cd) (hk : k < e) (hs : ¬ al c ∨ (0 ≤ nx (Q k) c ∧ nx (Q k) c < m) ∧ F (nx (Q k) c) ≠ -1) : wQ nx al t m Q F e k (c + 1) cd := ⟨h.1.skip hk hs, h.2⟩
theorem wQ.next (h : wQ nx al t m Q F e k 6 cd) (hk : k < e) : wQ nx al t m Q F e (k + 1) 0 cd := ⟨h.1.next hk, h.2⟩
theorem wQ.add (h : wQ nx al t m Q F e k c cd) (hk : k < e) (hc : c < 6) (ha : al c) (hr : 0 ≤ nx (Q k) c ∧ nx (Q k) c < m) (hn : F (nx (Q k) c) = -1) {Q' F' : Int → Int} (hq : ∀ j, Q' j = zu Q e (nx (Q k) c) j) (hf : ∀ j, F' j = zu F (nx (Q k) c) (F (Q k) + 1) j) :
    ∃ cd' : Int → Nat, wQ nx al t m Q' F' (e + 1) k (c + 1) cd' ∧ (∀ i, i ≠ e → cd' i = cd i) ∧ (cd' e : Int) = 6 * cd k + c + 1 := by
  obtain ⟨h1, h2, h3, h4, h5⟩ := h
  have hk0 := h1.1.2.1
  have fk := h3 k hk0 hk
  have nk := h2 k hk0 hk
  have hF : F' = zu F (nx (Q k) c) (F (Q k) + 1) := funext hf
  obtain ⟨cd', a1, a2, a3⟩ := h1.add hk hc ha (fun z => z.2 hn) (q' := Q') (seen' := fun y => (0 ≤ y ∧ y < m) ∧ F' y ≠ -1) hq (fun y => by
    by_cases z : y = nx (Q k) c
    · rw [hf, z, zu_at]
      exact ⟨fun _ => Or.inr rfl, fun _ => ⟨hr, by omega⟩⟩
    · rw [hf, zu_ne z]
      exact ⟨Or.inl, fun q => q.resolve_right z⟩)
  refine ⟨cd', ⟨a1, fun i i0 i1 => ?_, fun i i0 i1 => ?_, ?_, fun y y0 y1 => ?_⟩, a2, a3⟩
  · by_cases z : i = e
    · rw [hq, z, zu_at]; exact hr
    · rw [hq, zu_ne z]; exact h2 i i0 (by omega)
  · by_cases z : i = e
    · rw [hq, z, zu_at, hf, zu_at, fk]
      have : cd' e = 6 * cd k + c.toNat + 1 := by have := h1.1.2.2.2; omega
      have hc0 := h1.1.2.2.2
      rw [this, zln_s (by omega)]
      rfl
    · have z2 : Q i ≠ nx (Q k) c := fun q => by
        have := h3 i i0 (by omega)
        rw [q, hn] at this
        omega
      rw [hq, zu_ne z, hf, zu_ne z2, a2 i z]
      exact h3 i i0 (by omega)
  · rw [hF, zun_up hr.1 hr.2 hn (by omega)]
    omega
  · rw [hf]
    by_cases z : y = nx (Q k) c
    · have := h5 (Q k) nk.1 nk.2
      rw [z, zu_at]; omega
    · have := h5 y y0 y1
      rw [zu_ne z]; omega
theorem wQ.rm (h : wQ nx al t m Q F e k c cd) : 1 ≤ e ∧ 0 ≤ k ∧ k ≤ e ∧ 0 ≤ c ∧ e ≤ m := by
  have a := h.1.1
  have b := h.2.2.2.1
  have c := @zun_nn F m
  omega
theorem wQ.lt (h : wQ nx al t m Q F e k c cd) {y : Int} (y0 : 0 ≤ y) (y1 : y < m) (hn : F y = -1) : e < m := by
  have b := h.2.2.2.1
  have c := zun_1 y0 y1 hn
  omega
theorem wQ.kp (h : wQ nx al t m Q F e k c cd) {Q' F' : Int → Int} (hq : Q' = Q) (hf : F' = F) : wQ nx al t m Q' F' e k c cd := by
  rw [hq, hf]; exact h
end WQ
section M22
variable {G : p_G} {Y : Nat → Nat} {h0 : p_H} {P : (Option Value) ⊕ String → m_X → Prop} {d : Nat} {V : Nat → Int} {C : Nat → Int → Int} {J : Int → Int}
theorem k_di_l1 {s t p : Int} {w : Int → Int} (hw0 : C 0 = w) (hO : wOK w) (hs : s = 0 ∨ s = 1) (ht : 0 ≤ t ∧ t < w (476 * s + 5)) (hp3 : p = 0 ∨ p = 1) (kk : ∀ k C', sC [23, 26] C C' → (∀ y, 0 ≤ y → y < w (476 * s + 5) → C' 26 y = -1) → RW G mX11_distance (m_I Y h0) P (d) 0 0 32 [some (.ref (Y 38)), some (.int (iI s)), some (.int (iI t)), some (.int (iI p)), some (.int (iI (w (476 * s + 5)))), some (.int (iI k)), none, none, none, none] [] (V, C', J)) : ∀ (zz : Nat) (k : Int) (C' : Nat → Int → Int), zz = (w (476 * s + 5) - k).toNat → (0 ≤ k) → (k ≤ w (476 * s + 5)) → (sC [23, 26] C C') → (∀ y, 0 ≤ y → y < k → C' 26 y = -1) → RW G mX11_distance (m_I Y h0) P (d) 0 0 11 [some (.ref (Y 38)), some (.int (iI s)), some (.int (iI t)), some (.int (iI p)), some (.int (iI (w (476 * s + 5)))), some (.int (iI k)), none, none, none, none] [] (V, C', J) := by
  intro zz
  induction zz using Nat.strongRecOn with
  | _ zz ih =>
    intro k C' hzz h1 h2 hC hI
    have hw : C' 0 = w := (hC 0 (by decide)).trans hw0
    have b1 := hO.sts hs
    refine i_iload dX11_distance_11 rfl ?_
    refine i_iload dX11_distance_13 rfl ?_
    refine i_icmp_ge (tgt := 32) dX11_distance_15 (by decide) (by omega) (by omega) (fun c15 => ?_) (fun c15 => ?_)
    · -- jumps
      exact kk k _ hC (fun y y0 y1 => hI y y0 (by omega))
    · -- on
      refine i_aload_n dX11_distance_18 rfl ?_
      refine t_getA dX11_distance_19 fX11_63.o rfl ?_
      refine i_iload dX11_distance_22 rfl ?_
      refine i_const dX11_distance_24 ?_
      refine t_iast (N := 3600) dX11_distance_25 (by decide) (by decide) rfl (by omega) ?_
      refine i_iinc dX11_distance_26 rfl (L' := [some _, some _, some _, some _, some _, some _, none, none, none, none]) (by decide) rfl ?_
      refine i_goto (tgt := 11) dX11_distance_29 (by decide) ?_
      refine ih _ ?_ (k + 1) _ rfl (by omega) (by omega) (hC.cu (by decide)) (fun y y0 y1 => ?_)
      · omega
      show zu (C' 26) _ _ _ = -1
      by_cases e : y = k
      · rw [e, zu_at]
      · rw [zu_ne e]; exact hI y y0 (by omega)
theorem k_di_l2 {s t p : Int} {w : Int → Int} {k : Int} (hw0 : C 0 = w) (hO : wOK w) (hs : s = 0 ∨ s = 1) (ht : 0 ≤ t ∧ t < w (476 * s + 5)) (hp3 : p = 0 ∨ p = 1) (kk : ∀ e cd C', k < e → sC [23, 26] C C' → wQ (wGo w s) (wAl w p) t (w (476 * s + 5)) (C' 23) (C' 26) e k 6 cd → (∀ i, 0 ≤ i → i ≤ k → ¬ wAcc w s (C' 23 i)) → RW G mX11_distance (m_I Y h0) P (d + 2) 0 0 165 [some (.ref (Y 38)), some (.int (iI s)), some (.int (iI t)), some (.int (iI p)), some (.int (iI (w (476 * s + 5)))), some (.int (iI e)), some (.int (iI k)), none, none, none] [] (V, C', J)) : ∀ (zz : Nat) (c e : Int) (cd : Int → Nat) (C' : Nat → Int → Int), zz = (6 - c).toNat → (0 ≤ c) → (c ≤ 6) → (k < e) → (sC [23, 26] C C') → (wQ (wGo w s) (wAl w p) t (w (476 * s + 5)) (C' 23) (C' 26) e k c cd) → (∀ i, 0 ≤ i → i ≤ k → ¬ wAcc w s (C' 23 i)) → RW G mX11_distance (m_I Y h0) P (d + 2) 0 0 89 [some (.ref (Y 38)), some (.int (iI s)), some (.int (iI t)), some (.int (iI p)), some (.int (iI (w (476 * s + 5)))), some (.int (iI e)), some (.int (iI k)), some (.int (iI (C' 23 k))), some (.int (iI c)), none] [] (V, C', J) := by
  intro zz
  induction zz using Nat.strongRecOn with
  | _ zz ih =>
    intro c e cd C' hzz h1 h2 hk hC hQ hn
    have hw : C' 0 = w := (hC 0 (by decide)).trans hw0
    have b1 := hO.sts hs
    have b2 := hQ.rm
    have b3 := hQ.2.1 k b2.2.1 hk
    refine i_iload dX11_distance_89 rfl ?_
    refine i_bipush dX11_distance_91 (by decide) ?_
    refine i_icmp_ge (tgt := 165) dX11_distance_93 (by decide) (by omega) (by omega) (fun c93 => ?_) (fun c93 => ?_)
    · -- jumps
      refine RW.wk (L' := [some _, some _, some _, some _, some _, some _, some _, none, none, none]) (p_subL.at (by repeat (first | exact subL_nil | refine subL_s ?_ | refine subL_n ?_))) ?_
      obtain rfl : c = 6 := by omega
      exact kk e cd _ hk hC hQ hn
    · -- on
      have b4 := hO.nxt hs b3.1 b3.2 h1 (by omega)
      have b5 := hQ.2.2.2.2 (w (476 * s + (116 + 6 * C' 23 k + c))) b4.1 b4.2
      have b6 := hQ.2.2.2.2 _ b3.1 b3.2
      refine i_aload_n dX11_distance_96 rfl ?_
      refine i_iload_n dX11_distance_97 rfl ?_
      refine i_iload dX11_distance_98 rfl ?_
      refine i_iload dX11_distance_100 rfl ?_
      refine t_callV (As := [_, _, _]) dX11_distance_102 cfX11_goes imX11_goes seX11_goes lX11_231 rfl rfl rfl (Nat.le_of_ble_eq_true rfl) ?_
      refine k_goes (w := w) hw (by omega) (by omega) (by omega) (RK.v ?_)
      refine i_istore dX11_distance_105 (L' := [some _, some _, some _, some _, some _, some _, some _, some _, some _, some _]) (by decide) rfl ?_
      refine i_aload_n dX11_distance_107 rfl ?_
      refine t_getA dX11_distance_108 fX11_63.o rfl ?_
      refine i_iload dX11_distance_111 rfl ?_
      refine t_iald (N := 3600) dX11_distance_113 (by decide) (by decide) rfl (by omega) rfl ?_
      refine i_const dX11_distance_114 ?_
      refine i_icmp_ne (tgt := 159) dX11_distance_115 (by decide) (by omega) (by omega) (fun c115 => ?_) (fun c115 => ?_)
      · -- jumps
        refine i_iinc dX11_distance_159 rfl (L' := [some _, some _, some _, some _, some _, some _, some _, some _, some _, some _]) (by decide) rfl ?_
        refine i_goto (tgt := 89) dX11_distance_162 (by decide) ?_
        refine RW.wk (L' := [some _, some _, some _, some _, some _, some _, some _, some _, some _, none]) (p_subL.at (by repeat (first | exact subL_nil | refine subL_s ?_ | refine subL_n ?_))) ?_
        refine ih _ ?_ (c + 1) e cd _ rfl (by omega) (by omega) hk hC (hQ.skip hk (by first | exact Or.inr ⟨b4, by assumption⟩ | (refine Or.inl (fun z => ?_); rcases z with z | z <;> first | omega | contradiction))) hn
        omega
      · -- on
        refine i_iload_n dX11_distance_118 rfl ?_
        refine i_if_eq (tgt := 131) dX11_distance_119 (by decide) (by omega) (fun c119 => ?_) (fun c119 => ?_)
        · -- jumps
          have b7 := hQ.lt b4.1 b4.2 (by assumption)
          refine i_aload_n dX11_distance_131 rfl ?_
          refine t_getA dX11_distance_132 fX11_63.o rfl ?_
          refine i_iload dX11_distance_135 rfl ?_
          refine i_aload_n dX11_distance_137 rfl ?_
          refine t_getA dX11_distance_138 fX11_63.o rfl ?_
          refine i_iload dX11_distance_141 rfl ?_
          refine t_iald (N := 3600) dX11_distance_143 (by decide) (by decide) rfl (by omega) rfl ?_
          refine i_const dX11_distance_144 ?_
          refine i_add dX11_distance_145 ?_
          refine t_iast (N := 3600) dX11_distance_146 (by decide) (by decide) rfl (by omega) ?_
          refine i_aload_n dX11_distance_147 rfl ?_
          refine t_getA dX11_distance_148 fX11_54.o rfl ?_
          refine i_iload dX11_distance_151 rfl ?_
          refine i_iload dX11_distance_153 rfl ?_
          refine t_iast (N := 3600) dX11_distance_155 (by decide) (by decide) rfl (by omega) ?_
          refine i_iinc dX11_distance_156 rfl (L' := [some _, some _, some _, some _, some _, some _, some _, some _, some _, some _]) (by decide) rfl ?_
          refine i_iinc dX11_distance_159 rfl (L' := [some _, some _, some _, some _, some _, some _, some _, some _, some _, some _]) (by decide) rfl ?_
          refine i_goto (tgt := 89) dX11_distance_162 (by decide) ?_
          refine RW.wk (L' := [some _, some _, some _, some _, some _, some _, some _, some _, some _, none]) (p_subL.at (by repeat (first | exact subL_nil | refine subL_s ?_ | refine subL_n ?_))) ?_
          obtain ⟨cd', a1, a2, a3⟩ := hQ.add hk (by omega) (by first | exact Or.inl (by assumption) | exact Or.inr (by assumption)) b4 (by assumption) (Q' := zu (C' 23) e (wGo w s (C' 23 k) c)) (F' := zu (C' 26) (wGo w s (C' 23 k) c) (C' 26 (C' 23 k) + 1)) (fun _ => rfl) (fun _ => rfl)
          refine RW.lk (L' := [some _, some _, some _, some _, some _, some _, some _, some (.int (iI (zu (C' 23) e (wGo w s (C' 23 k) c) k))), some _, none]) (by rw [zu_ne (by omega)]) ?_
          refine ih _ ?_ (c + 1) (e + 1) cd' _ rfl (by omega) (by omega) (by omega) ((hC.cu (by decide)).cu (by decide)) (a1.kp rfl rfl) (fun i i0 i1 => ?_)
          · omega
          · show ¬ wAcc w s (zu (C' 23) e _ i); rw [zu_ne (by omega)]; exact hn i i0 i1
        · -- on
          refine i_aload_n dX11_distance_122 rfl ?_
          refine i_iload dX11_distance_123 rfl ?_
          refine t_callV (As := [_]) dX11_distance_125 cfX11_passes imX11_passes seX11_passes lX11_237 rfl rfl rfl (Nat.le_of_ble_eq_true rfl) ?_
          refine k_passes (w := w) hw (by omega) hO (RK.v ?_)
          refine i_ifeq_b (tgt := 159) dX11_distance_128 (by decide) (fun c128 => ?_) (fun c128 => ?_)
          · -- jumps
            refine i_iinc dX11_distance_159 rfl (L' := [some _, some _, some _, some _, some _, some _, some _, some _, some _, some _]) (by decide) rfl ?_
            refine i_goto (tgt := 89) dX11_distance_162 (by decide) ?_
            refine RW.wk (L' := [some _, some _, some _, some _, some _, some _, some _, some _, some _, none]) (p_subL.at (by repeat (first | exact subL_nil | refine subL_s ?_ | refine subL_n ?_))) ?_
            refine ih _ ?_ (c + 1) e cd _ rfl (by omega) (by omega) hk hC (hQ.skip hk (by first | exact Or.inr ⟨b4, by assumption⟩ | (refine Or.inl (fun z => ?_); rcases z with z | z <;> first | omega | contradiction))) hn
            omega
          · -- on
            have b7 := hQ.lt b4.1 b4.2 (by assumption)
            refine i_aload_n dX11_distance_131 rfl ?_
            refine t_getA dX11_distance_132 fX11_63.o rfl ?_
            refine i_iload dX11_distance_135 rfl ?_
            refine i_aload_n dX11_distance_137 rfl ?_
            refine t_getA dX11_distance_138 fX11_63.o rfl ?_
            refine i_iload dX11_distance_141 rfl ?_
            refine t_iald (N := 3600) dX11_distance_143 (by decide) (by decide) rfl (by omega) rfl ?_
            refine i_const dX11_distance_144 ?_
            refine i_add dX11_distance_145 ?_
            refine t_iast (N := 3600) dX11_distance_146 (by decide) (by decide) rfl (by omega) ?_
            refine i_aload_n dX11_distance_147 rfl ?_
            refine t_getA dX11_distance_148 fX11_54.o rfl ?_
            refine i_iload dX11_distance_151 rfl ?_
            refine i_iload dX11_distance_153 rfl ?_
            refine t_iast (N := 3600) dX11_distance_155 (by decide) (by decide) rfl (by omega) ?_
            refine i_iinc dX11_distance_156 rfl (L' := [some _, some _, some _, some _, some _, some _, some _, some _, some _, some _]) (by decide) rfl ?_
            refine i_iinc dX11_distance_159 rfl (L' := [some _, some _, some _, some _, some _, some _, some _, some _, some _, some _]) (by decide) rfl ?_
            refine i_goto (tgt := 89) dX11_distance_162 (by decide) ?_
            refine RW.wk (L' := [some _, some _, some _, some _, some _, some _, some _, some _, some _, none]) (p_subL.at (by repeat (first | exact subL_nil | refine subL_s ?_ | refine subL_n ?_))) ?_
            obtain ⟨cd', a1, a2, a3⟩ := hQ.add hk (by omega) (by first | exact Or.inl (by assumption) | exact Or.inr (by assumption)) b4 (by assumption) (Q' := zu (C' 23) e (wGo w s (C' 23 k) c)) (F' := zu (C' 26) (wGo w s (C' 23 k) c) (C' 26 (C' 23 k) + 1)) (fun _ => rfl) (fun _ => rfl)
            refine RW.lk (L' := [some _, some _, some _, some _, some _, some _, some _, some (.int (iI (zu (C' 23) e (wGo w s (C' 23 k) c) k))), some _, none]) (by rw [zu_ne (by omega)]) ?_
            refine ih _ ?_ (c + 1) (e + 1) cd' _ rfl (by omega) (by omega) (by omega) ((hC.cu (by decide)).cu (by decide)) (a1.kp rfl rfl) (fun i i0 i1 => ?_)
            · omega
            · show ¬ wAcc w s (zu (C' 23) e _ i); rw [zu_ne (by omega)]; exact hn i i0 i1
theorem k_di_l3 {s t p : Int} {w : Int → Int} (hw0 : C 0 = w) (hO : wOK w) (hs : s = 0 ∨ s = 1) (ht : 0 ≤ t ∧ t < w (476 * s + 5)) (hp3 : p = 0 ∨ p = 1) (hp : ∀ C', sC [23, 26] C C' → ∀ r, wDist w s t p r → r ≤ 60 → P (.inl (some (.int (iI r)))) (V, C', J)) : ∀ (zz : Nat) (k e : Int) (cd : Int → Nat) (C' : Nat → Int → Int), zz = (w (476 * s + 5) - k).toNat → (sC [23, 26] C C') → (wQ (wGo w s) (wAl w p) t (w (476 * s + 5)) (C' 23) (C' 26) e k 0 cd) → (∀ i, 0 ≤ i → i < k → ¬ wAcc w s (C' 23 i)) → RW G mX11_distance (m_I Y h0) P (d + 2) 0 0 52 [some (.ref (Y 38)), some (.int (iI s)), some (.int (iI t)), some (.int (iI p)), some (.int (iI (w (476 * s + 5)))), some (.int (iI e)), some (.int (iI k)), none, none, none] [] (V, C', J) := by
  intro zz
  induction zz using Nat.strongRecOn with
  | _ zz ih =>
    intro k e cd C' hzz hC hQ hn
    have hw : C' 0 = w := (hC 0 (by decide)).trans hw0
    have b1 := hO.sts hs
    have b2 := hQ.rm
    have b3 := fun z => hQ.2.1 k b2.2.1 z
    refine i_iload dX11_distance_52 rfl ?_
    refine i_iload dX11_distance_54 rfl ?_
    refine i_icmp_ge (tgt := 171) dX11_distance_56 (by decide) (by omega) (by omega) (fun c56 => ?_) (fun c56 => ?_)
    · -- jumps
      refine i_const dX11_distance_171 ?_
      refine i_ireturn dX11_distance_172 rfl rfl ?_
      obtain rfl : k = e := by omega
      exact hp _ hC _ (Or.inr ⟨hQ.1.no hn, rfl⟩) (by decide)
    · -- on
      have b3 := b3 (by omega)
      refine i_aload_n dX11_distance_59 rfl ?_
      refine t_getA dX11_distance_60 fX11_54.o rfl ?_
      refine i_iload dX11_distance_63 rfl ?_
      refine t_iald (N := 3600) dX11_distance_65 (by decide) (by decide) rfl (by omega) rfl ?_
      refine i_istore dX11_distance_66 (L' := [some _, some _, some _, some _, some _, some _, some _, some _, none, none]) (by decide) rfl ?_
      refine i_aload_n dX11_distance_68 rfl ?_
      refine i_iload_n dX11_distance_69 rfl ?_
      refine i_iload dX11_distance_70 rfl ?_
      refine t_callV (As := [_, _]) dX11_distance_72 cfX11_accepts imX11_accepts seX11_accepts lX11_257 rfl rfl rfl (Nat.le_of_ble_eq_true rfl) ?_
      refine k_accepts (w := w) hw (by omega) (by omega) (hO.1 _ (by omega)) (RK.v ?_)
      refine i_ifeq_b (tgt := 86) dX11_distance_75 (by decide) (fun c75 => ?_) (fun c75 => ?_)
      · -- jumps
        refine i_const dX11_distance_86 ?_
        refine i_istore dX11_distance_87 (L' := [some _, some _, some _, some _, some _, some _, some _, some _, some _, none]) (by decide) rfl ?_
        refine k_di_l2 hw0 hO hs ht hp3 (fun e2 cd2 C2 hk2 hC2 hQ2 hn2 => ?_) _ 0 e cd _ rfl (by omega) (by omega) (by omega) hC hQ (fun i i0 i1 => ?_)
        · skip
          refine i_iinc dX11_distance_165 rfl (L' := [some _, some _, some _, some _, some _, some _, some _, none, none, none]) (by decide) rfl ?_
          refine i_goto (tgt := 52) dX11_distance_168 (by decide) ?_
          have b5 := hQ2.rm
          refine ih _ ?_ (k + 1) e2 cd2 _ rfl hC2 (hQ2.next hk2) (fun i i0 i1 => hn2 i i0 (by omega))
          omega
        · by_cases z : i = k
          · rw [z]; assumption
          · exact hn i i0 (by omega)
      · -- on
        refine i_aload_n dX11_distance_78 rfl ?_
        refine t_getA dX11_distance_79 fX11_63.o rfl ?_
        refine i_iload dX11_distance_82 rfl ?_
        refine t_iald (N := 3600) dX11_distance_84 (by decide) (by decide) rfl (by omega) rfl ?_
        refine i_ireturn dX11_distance_85 rfl rfl ?_
        have b6 := hQ.2.2.2.2 _ b3.1 b3.2
        exact hp _ hC _ (Or.inl ⟨cd k, hQ.1.hit (by omega) (by assumption) hn, hQ.2.2.1 k b2.2.1 (by omega)⟩) (by omega)
theorem k_distance {s t p : Int} {w : Int → Int} (hw0 : C 0 = w) (hO : wOK w) (hs : s = 0 ∨ s = 1) (ht : 0 ≤ t ∧ t < w (476 * s + 5)) (hp3 : p = 0 ∨ p = 1) (hp : ∀ C', sC [23, 26] C C' → ∀ r, wDist w s t p r → r ≤ 60 → P (.inl (some (.int (iI r)))) (V, C', J)) : RM G mX11_distance (m_I Y h0) [.ref (Y 38), .int (iI s), .int (iI t), .int (iI p)] (d + 2) 0 0 P (V, C, J) := by
  refine RM.of (L := [some (.ref (Y 38)), some (.int (iI s)), some (.int (iI t)), some (.int (iI p)), none, none, none, none, none, none]) cfX11_distance rfl (Nat.le_of_ble_eq_true rfl) ?_
  refine i_aload_n dX11_distance_0 rfl ?_
  refine i_iload_n dX11_distance_1 rfl ?_
  refine i_const dX11_distance_2 ?_
  refine t_callV (As := [_, _]) dX11_distance_3 cfX11_of imX11_of seX11_of lX11_115 rfl rfl rfl (Nat.le_of_ble_eq_true rfl) ?_
  refine k_of (w := w) hw0 (by omega) (RK.v ?_)
  refine i_istore dX11_distance_6 (L' := [some _, some _, some _, some _, some _, none, none, none, none, none]) (by decide) rfl ?_
  refine i_const dX11_distance_8 ?_
  refine i_istore dX11_distance_9 (L' := [some _, some _, some _, some _, some _, some _, none, none, none, none]) (by decide) rfl ?_
  have b1 := hO.sts hs
  refine k_di_l1 hw0 hO hs ht hp3 (fun k2 C2 hC2 hI2 => ?_) _ 0 _ rfl (by omega) (by omega) sC.rfl (fun y y0 y1 => by omega)
  refine i_aload_n dX11_distance_32 rfl ?_
  refine t_getA dX11_distance_33 fX11_63.o rfl ?_
  refine i_iload_n dX11_distance_36 rfl ?_
  refine i_const dX11_distance_37 ?_
  refine t_iast (N := 3600) dX11_distance_38 (by decide) (by decide) rfl (by omega) ?_
  refine i_aload_n dX11_distance_39 rfl ?_
  refine t_getA dX11_distance_40 fX11_54.o rfl ?_
  refine i_const dX11_distance_43 ?_
  refine i_iload_n dX11_distance_44 rfl ?_
  refine t_iast (N := 3600) dX11_distance_45 (by decide) (by decide) rfl (by omega) ?_
  refine i_const dX11_distance_46 ?_
  refine i_istore dX11_distance_47 (L' := [some _, some _, some _, some _, some _, some _, none, none, none, none]) (by decide) rfl ?_
  refine i_const dX11_distance_49 ?_
  refine i_istore dX11_distance_50 (L' := [some _, some _, some _, some _, some _, some _, some _, none, none, none]) (by decide) rfl ?_
  refine k_di_l3 hw0 hO hs ht hp3 hp _ 0 1 (fun _ => 0) _ rfl ((hC2.cu (by decide)).cu (by decide)) (wQ.init ht (by show zu (C2 23) 0 t 0 = t; exact zu_at) (fun y y0 y1 => ?_)) (fun i i0 i1 => by omega)
  show zu (C2 26) t 0 y = _
  by_cases z : y = t
  · rw [z, zu_at, if_pos rfl]
  · rw [zu_ne z, if_neg z]; exact hI2 y y0 y1
theorem k_distanceToAccepting {s t : Int} (hO : wOK (C 0)) (h_s : -2147483648 ≤ s ∧ s < 2147483648) (h_t : -2147483648 ≤ t ∧ t < 2147483648) (hp1 : ¬ ((s = 0 ∨ s = 1) ∧ 0 ≤ t ∧ t < C 0 (476 * s + 5)) → P (.inl (some (.int (iI 0)))) (vu V 12 1, C, J)) (hp0 : ((s = 0 ∨ s = 1) ∧ 0 ≤ t ∧ t < C 0 (476 * s + 5)) → ∀ C', sC [23, 26] C C' → ∀ r, wDist (C 0) s t 0 r → r ≤ 60 → P (.inl (some (.int (iI r)))) (vu V 12 0, C', J)) : RM G mX11_distanceToAccepting (m_I Y h0) [.ref (Y 38), .int (iI s), .int (iI t)] (d + 3) 0 0 P (V, C, J) := by
  refine RM.of (L := [some (.ref (Y 38)), some (.int (iI s)), some (.int (iI t))]) cfX11_distanceToAccepting rfl (Nat.le_of_ble_eq_true rfl) ?_
  refine i_aload_n dX11_distanceToAccepting_0 rfl ?_
  refine i_aload_n dX11_distanceToAccepting_1 rfl ?_
  refine i_iload_n dX11_distanceToAccepting_2 rfl ?_
  refine i_iload_n dX11_distanceToAccepting_3 rfl ?_
  refine t_callV (As := [_, _]) dX11_distanceToAccepting_4 cfX11_isState imX11_isState seX11_isState lX11_254 rfl rfl rfl (Nat.le_of_ble_eq_true rfl) ?_
  refine k_isState (w := C 0) rfl (by omega) (by omega) hO (RK.v ?_)
  refine i_ifne_b (tgt := 14) dX11_distanceToAccepting_7 (by decide) (fun c7 => ?_) (fun c7 => ?_)
  · -- jumps
    refine i_const dX11_distanceToAccepting_14 ?_
    refine t_callV (As := [_]) dX11_distanceToAccepting_15 cfX11_throwsOne imX11_throwsOne seX11_throwsOne lX11_209 rfl rfl rfl (Nat.le_of_ble_eq_true rfl) ?_
    refine k_throwsOne (by first | exact zb_or | omega) (RK.v ?_)
    refine i_if_eq (tgt := 25) dX11_distanceToAccepting_18 (by decide) (by decide) (fun c18 => ?_) (fun c18 => by omega)
    refine i_aload_n dX11_distanceToAccepting_25 rfl ?_
    refine i_iload_n dX11_distanceToAccepting_26 rfl ?_
    refine i_iload_n dX11_distanceToAccepting_27 rfl ?_
    refine i_const dX11_distanceToAccepting_28 ?_
    refine t_callV (As := [_, _, _]) dX11_distanceToAccepting_29 cfX11_distance imX11_distance seX11_distance lX11_260 rfl rfl rfl (Nat.le_of_ble_eq_true rfl) ?_
    refine k_distance (w := C 0) rfl hO (by omega) (by omega) (by omega) (fun C1 hC1 r1 hr1 hs1 => RK.v ?_)
    have rr1 := hr1.ge
    refine i_ireturn dX11_distanceToAccepting_32 rfl rfl ?_
    exact hp0 (by omega) _ hC1 _ hr1 hs1
  · -- on
    refine i_const dX11_distanceToAccepting_10 ?_
    refine i_goto (tgt := 15) dX11_distanceToAccepting_11 (by decide) ?_
    refine t_callV (As := [_]) dX11_distanceToAccepting_15 cfX11_throwsOne imX11_throwsOne seX11_throwsOne lX11_209 rfl rfl rfl (Nat.le_of_ble_eq_true rfl) ?_
    refine k_throwsOne (by first | exact zb_or | omega) (RK.v ?_)
    refine i_if_eq (tgt := 25) dX11_distanceToAccepting_18 (by decide) (by decide) (fun c18 => by omega) (fun c18 => ?_)
    refine i_const dX11_distanceToAccepting_21 ?_
    refine i_goto (tgt := 32) dX11_distanceToAccepting_22 (by decide) ?_
    refine i_ireturn dX11_distanceToAccepting_32 rfl rfl ?_
    exact hp1 (by omega)
theorem k_shortestLength {s : Int} (hO : wOK (C 0)) (h_s : -2147483648 ≤ s ∧ s < 2147483648) (hp1 : ¬ (s = 0 ∨ s = 1) → P (.inl (some (.int (iI 0)))) (vu V 12 1, C, J)) (hp0 : (s = 0 ∨ s = 1) → ∀ C', sC [23, 26] C C' → ∀ r, wDist (C 0) s 0 0 r → r ≤ 60 → P (.inl (some (.int (iI r)))) (vu V 12 0, C', J)) : RM G mX11_shortestLength (m_I Y h0) [.ref (Y 38), .int (iI s)] (d + 3) 0 0 P (V, C, J) := by
  refine RM.of (L := [some (.ref (Y 38)), some (.int (iI s))]) cfX11_shortestLength rfl (Nat.le_of_ble_eq_true rfl) ?_
  refine i_aload_n dX11_shortestLength_0 rfl ?_
  refine i_iload_n dX11_shortestLength_1 rfl ?_
  refine t_callS (As := [_]) dX11_shortestLength_2 cfX11_isSlot stX11_isSlot lX11_112 rfl rfl (Nat.le_of_ble_eq_true rfl) ?_
  refine k_isSlot (by omega) (RK.v ?_)
  refine i_ifne_b (tgt := 12) dX11_shortestLength_5 (by decide) (fun c5 => ?_) (fun c5 => ?_)
  · -- jumps
    refine i_const dX11_shortestLength_12 ?_
    refine t_callV (As := [_]) dX11_shortestLength_13 cfX11_throwsOne imX11_throwsOne seX11_throwsOne lX11_209 rfl rfl rfl (Nat.le_of_ble_eq_true rfl) ?_
    refine k_throwsOne (by first | exact zb_or | omega) (RK.v ?_)
    refine i_if_eq (tgt := 23) dX11_shortestLength_16 (by decide) (by decide) (fun c16 => ?_) (fun c16 => by omega)
    refine i_aload_n dX11_shortestLength_23 rfl ?_
    refine i_iload_n dX11_shortestLength_24 rfl ?_
    refine i_const dX11_shortestLength_25 ?_
    refine i_const dX11_shortestLength_26 ?_
    have b1 := hO.sts (s := s) (by omega)
    refine t_callV (As := [_, _, _]) dX11_shortestLength_27 cfX11_distance imX11_distance seX11_distance lX11_260 rfl rfl rfl (Nat.le_of_ble_eq_true rfl) ?_
    refine k_distance (w := C 0) rfl hO (by omega) (by omega) (by omega) (fun C1 hC1 r1 hr1 hs1 => RK.v ?_)
    have rr1 := hr1.ge
    refine i_ireturn dX11_shortestLength_30 rfl rfl ?_
    exact hp0 (by omega) _ hC1 _ hr1 hs1
  · -- on
    refine i_const dX11_shortestLength_8 ?_
    refine i_goto (tgt := 13) dX11_shortestLength_9 (by decide) ?_
    refine t_callV (As := [_]) dX11_shortestLength_13 cfX11_throwsOne imX11_throwsOne seX11_throwsOne lX11_209 rfl rfl rfl (Nat.le_of_ble_eq_true rfl) ?_
    refine k_throwsOne (by first | exact zb_or | omega) (RK.v ?_)
    refine i_if_eq (tgt := 23) dX11_shortestLength_16 (by decide) (by decide) (fun c16 => by omega) (fun c16 => ?_)
    refine i_const dX11_shortestLength_19 ?_
    refine i_goto (tgt := 30) dX11_shortestLength_20 (by decide) ?_
    refine i_ireturn dX11_shortestLength_30 rfl rfl ?_
    exact hp1 (by omega)
theorem k_stepsHome {p : Int} (hO : wOK (C 0)) (h_p : -2147483648 ≤ p ∧ p < 2147483648) (hp1 : ¬ (0 ≤ p ∧ p < C 0 952) → P (.inl (some (.int (iI 0)))) (vu V 12 1, C, J)) (hp0 : (0 ≤ p ∧ p < C 0 952) → ∀ C', sC [23, 26] C C' → ∀ r, wDist (C 0) (C 0 (953 + 3 * p + 0)) (C 0 (953 + 3 * p + 1)) 1 r → r ≤ 60 → P (.inl (some (.int (iI r)))) (vu V 12 0, C', J)) : RM G mX11_stepsHome (m_I Y h0) [.ref (Y 38), .int (iI p)] (d + 3) 0 0 P (V, C, J) := by
  refine RM.of (L := [some (.ref (Y 38)), some (.int (iI p))]) cfX11_stepsHome rfl (Nat.le_of_ble_eq_true rfl) ?_
  refine i_aload_n dX11_stepsHome_0 rfl ?_
  refine i_aload_n dX11_stepsHome_1 rfl ?_
  refine i_iload_n dX11_stepsHome_2 rfl ?_
  refine t_callV (As := [_]) dX11_stepsHome_3 cfX11_isWalker imX11_isWalker seX11_isWalker lX11_228 rfl rfl rfl (Nat.le_of_ble_eq_true rfl) ?_
  refine k_isWalker (w := C 0) rfl (by omega) hO (RK.v ?_)
  refine i_ifne_b (tgt := 13) dX11_stepsHome_6 (by decide) (fun c6 => ?_) (fun c6 => ?_)
  · -- jumps
    refine i_const dX11_stepsHome_13 ?_
    refine t_callV (As := [_]) dX11_stepsHome_14 cfX11_throwsOne imX11_throwsOne seX11_throwsOne lX11_209 rfl rfl rfl (Nat.le_of_ble_eq_true rfl) ?_
    refine k_throwsOne (by first | exact zb_or | omega) (RK.v ?_)
    refine i_if_eq (tgt := 24) dX11_stepsHome_17 (by decide) (by decide) (fun c17 => ?_) (fun c17 => by omega)
    have b0 := hO.2.1
    have b1 := hO.wk (k := p) (by omega) (by omega)
    refine i_aload_n dX11_stepsHome_24 rfl ?_
    refine i_aload_n dX11_stepsHome_25 rfl ?_
    refine i_iload_n dX11_stepsHome_26 rfl ?_
    refine i_const dX11_stepsHome_27 ?_
    refine t_callV (As := [_, _]) dX11_stepsHome_28 cfX11_walkerOf imX11_walkerOf seX11_walkerOf lX11_190 rfl rfl rfl (Nat.le_of_ble_eq_true rfl) ?_
    refine k_walkerOf (w := C 0) rfl (by omega) (by omega) (RK.v ?_)
    refine i_aload_n dX11_stepsHome_31 rfl ?_
    refine i_iload_n dX11_stepsHome_32 rfl ?_
    refine i_const dX11_stepsHome_33 ?_
    refine t_callV (As := [_, _]) dX11_stepsHome_34 cfX11_walkerOf imX11_walkerOf seX11_walkerOf lX11_190 rfl rfl rfl (Nat.le_of_ble_eq_true rfl) ?_
    refine k_walkerOf (w := C 0) rfl (by omega) (by omega) (RK.v ?_)
    refine i_const dX11_stepsHome_37 ?_
    refine t_callV (As := [_, _, _]) dX11_stepsHome_38 cfX11_distance imX11_distance seX11_distance lX11_260 rfl rfl rfl (Nat.le_of_ble_eq_true rfl) ?_
    refine k_distance (w := C 0) rfl hO (by omega) (by omega) (by omega) (fun C1 hC1 r1 hr1 hs1 => RK.v ?_)
    have rr1 := hr1.ge
    refine i_ireturn dX11_stepsHome_41 rfl rfl ?_
    exact hp0 (by omega) _ hC1 _ hr1 hs1
  · -- on
    refine i_const dX11_stepsHome_9 ?_
    refine i_goto (tgt := 14) dX11_stepsHome_10 (by decide) ?_
    refine t_callV (As := [_]) dX11_stepsHome_14 cfX11_throwsOne imX11_throwsOne seX11_throwsOne lX11_209 rfl rfl rfl (Nat.le_of_ble_eq_true rfl) ?_
    refine k_throwsOne (by first | exact zb_or | omega) (RK.v ?_)
    refine i_if_eq (tgt := 24) dX11_stepsHome_17 (by decide) (by decide) (fun c17 => by omega) (fun c17 => ?_)
    refine i_const dX11_stepsHome_20 ?_
    refine i_goto (tgt := 41) dX11_stepsHome_21 (by decide) ?_
    refine i_ireturn dX11_stepsHome_41 rfl rfl ?_
    exact hp1 (by omega)
/-- the street that begins a shortest way home -/
def wHome (w : Int → Int) (s t r : Int) : Prop := (∃ n, zMin (wGo w s) (wAl w 1) t (wAcc w s) n ∧ ((n = 0 ∧ r = -1) ∨ (n ≠ 0 ∧ r = (zfst n : Int)))) ∨ (zNo (wGo w s) (wAl w 1) t (wAcc w s) ∧ r = -1)
theorem wHome.no {w : Int → Int} {s t r : Int} (h : wDist w s t 1 r) (h0 : r ≤ 0) : wHome w s t (-1) := by
  rcases h with ⟨n, hn, rfl⟩ | ⟨hn, _⟩
  · exact Or.inl ⟨n, hn, Or.inl ⟨zln_0' (by omega), rfl⟩⟩
  · exact Or.inr ⟨hn, rfl⟩
theorem zfst_lt {n : Nat} (h : n ≠ 0) : zfst n < 6 := by
  obtain ⟨c, u, hc, rfl⟩ := zpre_ex n h
  rw [zpre_fst hc]; exact hc
/-- the first street of those from which it's one step less -/
theorem wHome.of {w : Int → Int} {s t r c : Int} (h : wDist w s t 1 r) (h0 : 0 < r) (c0 : 0 ≤ c) (c1 : c < 6) (ha : w (971 + 2 * c + w 983) = 1) (hc : wDist w s (w (476 * s + (116 + 6 * t + c))) 1 (r - 1)) (hb : ∀ c', 0 ≤ c' → c' < c → w (971 + 2 * c' + w 983) = 1 → ¬ wDist w s (w (476 * s + (116 + 6 * t + c'))) 1 (r - 1)) : wHome w s t c := by
  rcases h with ⟨n, hn, hr⟩ | ⟨_, rfl⟩
  · have n0 : n ≠ 0 := fun z => by rw [z, zln_0] at hr; omega
    refine Or.inl ⟨n, hn, Or.inr ⟨n0, ?_⟩⟩
    obtain ⟨c2, u, hc2, rfl⟩ := zpre_ex n n0
    rw [zpre_fst hc2]
    rw [zpre_ln hc2] at hr
    have hn1 := hn.1
    have hn2 := hn.2.1
    rw [zpre_al hc2] at hn1
    rw [zpre_run hc2] at hn2
    -- what a street c with a least word m of one step less gives
    have key : ∀ (d : Nat), d < 6 → w (971 + 2 * (d : Int) + w 983) = 1 → ∀ m, zMin (wGo w s) (wAl w 1) (wGo w s t (d : Int)) (wAcc w s) m → zpre c2 u ≤ zpre d m := fun d hd hal m hm => by
      refine hn.2.2 _ ?_ ?_
      · rw [zpre_al hd]; exact ⟨Or.inr hal, hm.1⟩
      · rw [zpre_run hd]; exact hm.2.1
    have hlt : ¬ c < (c2 : Int) := fun z => by
      rcases hc with ⟨m, hm, hmr⟩ | ⟨_, q⟩
      · have ec : ((c.toNat : Nat) : Int) = c := Int.toNat_of_nonneg c0
        have k1 := key c.toNat (by omega) (by rw [ec]; exact ha) m (by rw [ec]; exact hm)
        have k2 := zln_near m u (by omega)
        unfold zpre at k1
        have e1 : zln m = zln u := by omega
        rw [e1] at k1 k2
        have e2 : (c.toNat + 2) * 6 ^ zln u ≤ (c2 + 1) * 6 ^ zln u := Nat.mul_le_mul_right _ (by omega)
        rw [show c.toNat + 2 = (c.toNat + 1) + 1 by omega, Nat.add_mul (c.toNat + 1) 1, Nat.one_mul] at e2
        omega
      · omega
    have hgt : ¬ (c2 : Int) < c := fun z => by
      have ha2 : w (971 + 2 * (c2 : Int) + w 983) = 1 := hn1.1.resolve_left (by decide)
      refine hb (c2 : Int) (by omega) z ha2 (Or.inl ?_)
      -- the least word from there is as long as u
      have ex : ∃ m, zMin (wGo w s) (wAl w 1) (wGo w s t (c2 : Int)) (wAcc w s) m := zMin_ex ⟨u, hn1.2, hn2⟩
      obtain ⟨m, hm⟩ := ex
      refine ⟨m, hm, ?_⟩
      have k1 := key c2 hc2 ha2 m hm
      have k2 := hm.2.2 u hn1.2 hn2
      have k3 : zpre c2 u = zpre c2 m := by
        have l1 := zln_mono _ _ k1
        rw [zpre_ln hc2, zpre_ln hc2] at l1
        have l2 := zln_mono _ _ k2
        have l3 : zln m = zln u := by omega
        unfold zpre at k1 ⊢
        rw [l3] at k1 ⊢
        omega
      have l4 : zln (zpre c2 u) = zln (zpre c2 m) := by rw [k3]
      rw [zpre_ln hc2, zpre_ln hc2] at l4
      omega
    omega
  · omega
/-- one of the streets is such -/
theorem wHome.ex {w : Int → Int} {s t r : Int} (h : wDist w s t 1 r) (h0 : 0 < r) : ∃ c, 0 ≤ c ∧ c < 6 ∧ w (971 + 2 * c + w 983) = 1 ∧ wDist w s (w (476 * s + (116 + 6 * t + c))) 1 (r - 1) := by
  rcases h with ⟨n, hn, hr⟩ | ⟨_, rfl⟩
  · have n0 : n ≠ 0 := fun z => by rw [z, zln_0] at hr; omega
    obtain ⟨c2, u, hc2, rfl⟩ := zpre_ex n n0
    rw [zpre_ln hc2] at hr
    have hn1 := hn.1
    have hn2 := hn.2.1
    rw [zpre_al hc2] at hn1
    rw [zpre_run hc2] at hn2
    obtain ⟨m, hm⟩ := zMin_ex (nx := wGo w s) (al := wAl w 1) (s0 := wGo w s t (c2 : Int)) (G := wAcc w s) ⟨u, hn1.2, hn2⟩
    refine ⟨c2, by omega, by omega, hn1.1.resolve_left (by decide), Or.inl ⟨m, hm, ?_⟩⟩
    have k1 : zpre c2 u ≤ zpre c2 m := by
      refine hn.2.2 _ ?_ ?_
      · rw [zpre_al hc2]; exact ⟨hn1.1, hm.1⟩
      · rw [zpre_run hc2]; exact hm.2.1
    have l1 := zln_mono _ _ k1
    rw [zpre_ln hc2, zpre_ln hc2] at l1
    have l2 := zln_mono _ _ (hm.2.2 u hn1.2 hn2)
    omega
  · omega
theorem wDist_uq {w : Int → Int} {s t p r r2 : Int} (h : wDist w s t p r) (h2 : wDist w s t p r2) : r = r2 := by
  rcases h with ⟨n, hn, rfl⟩ | ⟨hn, rfl⟩ <;> rcases h2 with ⟨m, hm, rfl⟩ | ⟨hm, rfl⟩
  · rw [hn.uq hm]
  · exact (hn.no hm).elim
  · exact (hm.no hn).elim
  · rfl
theorem k_sh_l {p s t r : Int} (hO : wOK (C 0)) (hs : s = 0 ∨ s = 1) (ht : 0 ≤ t ∧ t < C 0 (476 * s + 5)) (hd : wDist (C 0) s t 1 r) (hr : r ≤ 60) (hp : ∀ C', sC [23, 26] C C' → ∀ c, wHome (C 0) s t c → P (.inl (some (.int (iI c)))) (V, C', J)) : ∀ (zz : Nat) (c : Int) (C' : Nat → Int → Int), zz = (6 - c).toNat → (0 ≤ c) → (c ≤ 6) → (sC [23, 26] C C') → (∀ c', 0 ≤ c' → c' < c → C 0 (971 + 2 * c' + C 0 983) = 1 → ¬ wDist (C 0) s (C 0 (476 * s + (116 + 6 * t + c'))) 1 (r - 1)) → RW G mX11_streetHome (m_I Y h0) P (d + 3) 0 0 48 [some (.ref (Y 38)), some (.int (iI p)), some (.int (iI s)), some (.int (iI t)), some (.int (iI r)), some (.int (iI c))] [] (V, C', J) := by
  intro zz
  induction zz using Nat.strongRecOn with
  | _ zz ih =>
    intro c C' hzz h1 h2 hC hI
    have hw : C' 0 = C 0 := hC 0 (by decide)
    have b1 := hO.sts hs
    have b2 := hd.ge
    refine i_iload dX11_streetHome_48 rfl ?_
    refine i_bipush dX11_streetHome_50 (by decide) ?_
    refine i_icmp_ge (tgt := 99) dX11_streetHome_52 (by decide) (by omega) (by omega) (fun c52 => ?_) (fun c52 => ?_)
    · -- jumps
      refine i_const dX11_streetHome_99 ?_
      refine i_ireturn dX11_streetHome_100 rfl rfl ?_
      refine hp _ hC _ ?_
      by_cases z : r ≤ 0
      · exact wHome.no hd z
      · obtain ⟨c', y0, y1, y2, y3⟩ := wHome.ex hd (by omega); exact absurd y3 (hI c' y0 (by omega) y2)
    · -- on
      refine i_iload dX11_streetHome_55 rfl ?_
      refine i_if_le (tgt := 99) dX11_streetHome_57 (by decide) (by omega) (fun c57 => ?_) (fun c57 => ?_)
      · -- jumps
        refine i_const dX11_streetHome_99 ?_
        refine i_ireturn dX11_streetHome_100 rfl rfl ?_
        refine hp _ hC _ ?_
        by_cases z : r ≤ 0
        · exact wHome.no hd z
        · obtain ⟨c', y0, y1, y2, y3⟩ := wHome.ex hd (by omega); exact absurd y3 (hI c' y0 (by omega) y2)
      · -- on
        refine i_aload_n dX11_streetHome_60 rfl ?_
        refine i_iload dX11_streetHome_61 rfl ?_
        refine t_callV (As := [_]) dX11_streetHome_63 cfX11_passes imX11_passes seX11_passes lX11_237 rfl rfl rfl (Nat.le_of_ble_eq_true rfl) ?_
        refine k_passes (w := C 0) hw (by omega) hO (RK.v ?_)
        refine i_ifeq_b (tgt := 93) dX11_streetHome_66 (by decide) (fun c66 => ?_) (fun c66 => ?_)
        · -- jumps
          refine i_iinc dX11_streetHome_93 rfl (L' := [some _, some _, some _, some _, some _, some _]) (by decide) rfl ?_
          refine i_goto (tgt := 48) dX11_streetHome_96 (by decide) ?_
          refine ih _ ?_ (c + 1) _ rfl (by omega) (by omega) hC (fun c' y0 y1 y2 => ?_)
          · omega
          by_cases z : c' = c
          · rw [z] at y2; contradiction
          · exact hI c' y0 (by omega) y2
        · -- on
          have b3 := hO.nxt hs ht.1 ht.2 h1 (by omega)
          refine i_aload_n dX11_streetHome_69 rfl ?_
          refine i_iload_n dX11_streetHome_70 rfl ?_
          refine i_aload_n dX11_streetHome_71 rfl ?_
          refine i_iload_n dX11_streetHome_72 rfl ?_
          refine i_iload_n dX11_streetHome_73 rfl ?_
          refine i_iload dX11_streetHome_74 rfl ?_
          refine t_callV (As := [_, _, _]) dX11_streetHome_76 cfX11_goes imX11_goes seX11_goes lX11_231 rfl rfl rfl (Nat.le_of_ble_eq_true rfl) ?_
          refine k_goes (w := C 0) hw (by omega) (by omega) (by omega) (RK.v ?_)
          refine i_const dX11_streetHome_79 ?_
          refine t_callV (As := [_, _, _]) dX11_streetHome_80 cfX11_distance imX11_distance seX11_distance lX11_260 rfl rfl rfl (Nat.le_of_ble_eq_true rfl) ?_
          refine k_distance (w := C 0) hw hO (by omega) (by omega) (by omega) (fun C1 hC1 r1 hr1 hs1 => RK.v ?_)
          have rr1 := hr1.ge
          refine i_iload dX11_streetHome_83 rfl ?_
          refine i_const dX11_streetHome_85 ?_
          refine i_sub dX11_streetHome_86 ?_
          refine i_icmp_ne (tgt := 93) dX11_streetHome_87 (by decide) (by omega) (by omega) (fun c87 => ?_) (fun c87 => ?_)
          · -- jumps
            refine i_iinc dX11_streetHome_93 rfl (L' := [some _, some _, some _, some _, some _, some _]) (by decide) rfl ?_
            refine i_goto (tgt := 48) dX11_streetHome_96 (by decide) ?_
            refine ih _ ?_ (c + 1) _ rfl (by omega) (by omega) (sC.t2 hC hC1 (by decide) (by decide)) (fun c' y0 y1 y2 y3 => ?_)
            · omega
            by_cases z : c' = c
            · rw [z] at y3; have := wDist_uq hr1 y3; omega
            · exact hI c' y0 (by omega) y2 y3
          · -- on
            refine i_iload dX11_streetHome_90 rfl ?_
            refine i_ireturn dX11_streetHome_92 rfl rfl ?_
            exact hp _ (sC.t2 hC hC1 (by decide) (by decide)) _ (wHome.of hd (by omega) h1 (by omega) (by assumption) (by rw [show r - 1 = r1 by omega]; exact hr1) hI)
theorem k_streetHome {p : Int} (hO : wOK (C 0)) (h_p : -2147483648 ≤ p ∧ p < 2147483648) (hp1 : ¬ (0 ≤ p ∧ p < C 0 952) → P (.inl (some (.int (iI 0)))) (vu V 12 1, C, J)) (hp0 : (0 ≤ p ∧ p < C 0 952) → ∀ C', sC [23, 26] C C' → ∀ r, wHome (C 0) (C 0 (953 + 3 * p + 0)) (C 0 (953 + 3 * p + 1)) r → P (.inl (some (.int (iI r)))) (vu V 12 0, C', J)) : RM G mX11_streetHome (m_I Y h0) [.ref (Y 38), .int (iI p)] (d + 3) 0 0 P (V, C, J) := by
  refine RM.of (L := [some (.ref (Y 38)), some (.int (iI p)), none, none, none, none]) cfX11_streetHome rfl (Nat.le_of_ble_eq_true rfl) ?_
  refine i_aload_n dX11_streetHome_0 rfl ?_
  refine i_aload_n dX11_streetHome_1 rfl ?_
  refine i_iload_n dX11_streetHome_2 rfl ?_
  refine t_callV (As := [_]) dX11_streetHome_3 cfX11_isWalker imX11_isWalker seX11_isWalker lX11_228 rfl rfl rfl (Nat.le_of_ble_eq_true rfl) ?_
  refine k_isWalker (w := C 0) rfl (by omega) hO (RK.v ?_)
  refine i_ifne_b (tgt := 13) dX11_streetHome_6 (by decide) (fun c6 => ?_) (fun c6 => ?_)
  · -- jumps
    refine i_const dX11_streetHome_13 ?_
    refine t_callV (As := [_]) dX11_streetHome_14 cfX11_throwsOne imX11_throwsOne seX11_throwsOne lX11_209 rfl rfl rfl (Nat.le_of_ble_eq_true rfl) ?_
    refine k_throwsOne (by first | exact zb_or | omega) (RK.v ?_)
    refine i_if_eq (tgt := 22) dX11_streetHome_17 (by decide) (by decide) (fun c17 => ?_) (fun c17 => by omega)
    have b0 := hO.2.1
    have b1 := hO.wk (k := p) (by omega) (by omega)
    refine i_aload_n dX11_streetHome_22 rfl ?_
    refine i_iload_n dX11_streetHome_23 rfl ?_
    refine i_const dX11_streetHome_24 ?_
    refine t_callV (As := [_, _]) dX11_streetHome_25 cfX11_walkerOf imX11_walkerOf seX11_walkerOf lX11_190 rfl rfl rfl (Nat.le_of_ble_eq_true rfl) ?_
    refine k_walkerOf (w := C 0) rfl (by omega) (by omega) (RK.v ?_)
    refine i_istore_n dX11_streetHome_28 (L' := [some _, some _, some _, none, none, none]) (by decide) rfl ?_
    refine i_aload_n dX11_streetHome_29 rfl ?_
    refine i_iload_n dX11_streetHome_30 rfl ?_
    refine i_const dX11_streetHome_31 ?_
    refine t_callV (As := [_, _]) dX11_streetHome_32 cfX11_walkerOf imX11_walkerOf seX11_walkerOf lX11_190 rfl rfl rfl (Nat.le_of_ble_eq_true rfl) ?_
    refine k_walkerOf (w := C 0) rfl (by omega) (by omega) (RK.v ?_)
    refine i_istore_n dX11_streetHome_35 (L' := [some _, some _, some _, some _, none, none]) (by decide) rfl ?_
    refine i_aload_n dX11_streetHome_36 rfl ?_
    refine i_iload_n dX11_streetHome_37 rfl ?_
    refine i_iload_n dX11_streetHome_38 rfl ?_
    refine i_const dX11_streetHome_39 ?_
    refine t_callV (As := [_, _, _]) dX11_streetHome_40 cfX11_distance imX11_distance seX11_distance lX11_260 rfl rfl rfl (Nat.le_of_ble_eq_true rfl) ?_
    refine k_distance (w := C 0) rfl hO (by omega) (by omega) (by omega) (fun C1 hC1 r1 hr1 hs1 => RK.v ?_)
    have rr1 := hr1.ge
    refine i_istore dX11_streetHome_43 (L' := [some _, some _, some _, some _, some _, none]) (by decide) rfl ?_
    refine i_const dX11_streetHome_45 ?_
    refine i_istore dX11_streetHome_46 (L' := [some _, some _, some _, some _, some _, some _]) (by decide) rfl ?_
    have hO' : wOK (C1 0) := by rw [hC1 0 (by decide)]; exact hO
    have ow : C1 0 = C 0 := hC1 0 (by decide)
    refine k_sh_l (s := C 0 (953 + 3 * p + 0)) (t := C 0 (953 + 3 * p + 1)) hO' (by omega) (by rw [ow]; omega) (by rw [ow]; exact hr1) hs1 (fun C' hC' c hc => ?_) _ 0 _ rfl (by omega) (by omega) sC.rfl (fun c' y0 y1 => by omega)
    rw [ow] at hc; exact hp0 (by omega) _ (sC.t2 hC1 hC' (by decide) (by decide)) _ hc
  · -- on
    refine i_const dX11_streetHome_9 ?_
    refine i_goto (tgt := 14) dX11_streetHome_10 (by decide) ?_
    refine t_callV (As := [_]) dX11_streetHome_14 cfX11_throwsOne imX11_throwsOne seX11_throwsOne lX11_209 rfl rfl rfl (Nat.le_of_ble_eq_true rfl) ?_
    refine k_throwsOne (by first | exact zb_or | omega) (RK.v ?_)
    refine i_if_eq (tgt := 22) dX11_streetHome_17 (by decide) (by decide) (fun c17 => by omega) (fun c17 => ?_)
    refine i_const dX11_streetHome_20 ?_
    refine i_ireturn dX11_streetHome_21 rfl rfl ?_
    exact hp1 (by omega)
end M22
