/-! ===== the reference: positions behind positions ===== -/
/-- the graph in its rows -/
def mGf (N M n : Int) (E : Int → Int → Prop) (src inn : Int → Int) (C : Nat → Int → Int) : Prop := mSr N M (C 13) (C 14) (C 15) E src ∧ mLb N n (C 16) (C 19) ∧ ∀ q, 1 ≤ q → q ≤ n → C 19 q = inn q + 1
section FOL
variable {N M n p x s e f l t b : Int} {E : Int → Int → Prop} {src inn fo w0 w' : Int → Int} {C C1 : Nat → Int → Int} {ee : Bool}
theorem mGf.cg (h : mGf N M n E src inn C) (hC : sC [0, 17, 18] C C1) : mGf N M n E src inn C1 := by
  unfold mGf
  rw [hC 13 (by decide), hC 14 (by decide), hC 15 (by decide), hC 16 (by decide), hC 19 (by decide)]
  exact h
theorem mGf.lb (h : mGf N M n E src inn C) (hn : 0 ≤ n ∧ n ≤ 24) (y : Int) (y0 : 0 ≤ y) (y1 : y < N) : 0 ≤ C 16 y ∧ C 16 y ≤ 24 := by
  rcases h.2.1.1 y y0 y1 with k | k <;> omega
/-- the labels that are reached -/
theorem mGf.q (h : mGf N M n E src inn C) {a q : Int} : (∃ y, (0 ≤ y ∧ y < N) ∧ zR E a y ∧ C 16 y = q ∧ 1 ≤ q) ↔ (1 ≤ q ∧ q ≤ n) ∧ zR E a (inn q) := by
  constructor
  · rintro ⟨y, hy, k1, rfl, k3⟩
    rcases h.2.1.1 y hy.1 hy.2 with k | k
    · omega
    · have := h.2.2 _ k.1 k.2.1
      rw [k.2.2] at this
      rw [show inn (C 16 y) = y by omega]
      exact ⟨⟨k.1, k.2.1⟩, k1⟩
  · rintro ⟨hq, k⟩
    have k1 := h.2.1.2 q hq.1 hq.2
    have k2 := h.2.2 q hq.1 hq.2
    exact ⟨inn q, by omega, k, by rw [show inn q = C 19 q - 1 by omega]; exact k1.2.2, hq.1⟩
theorem zFr.feq (h : zFr E inn 0 N 0 n b t ee f l fo) (hx : 0 ≤ x) (hq : ∀ q, 0 ≤ q → (zt x q ↔ (1 ≤ q ∧ q ≤ n) ∧ zR E b (inn q))) : x = f := by
  obtain ⟨_, ⟨_, h5, _⟩, h8, _⟩ := h
  refine zt_ext hx h8.1 (fun q q0 => ?_)
  rw [hq q q0]
  constructor
  · rintro ⟨k, r⟩
    exact (h5 q (by omega) k.2).mp r
  · intro z
    have := h8.2 q q0 z
    exact ⟨by omega, (h5 q (by omega) this.2).mpr z⟩
theorem zFr.foeq (h : zFr E inn 0 N 0 n b t ee f l fo) (hp : 1 ≤ p ∧ p ≤ n) (hx : 0 ≤ x) (hq : ∀ q, 0 ≤ q → (zt x q ↔ (1 ≤ q ∧ q ≤ n) ∧ zR E (inn p + 1) (inn q))) : x = fo p := by
  obtain ⟨_, ⟨_, _, _, h7⟩, _, _, h10⟩ := h
  have h8 := h10 p (by omega) hp.2
  refine zt_ext hx h8.1 (fun q q0 => ?_)
  rw [hq q q0]
  constructor
  · rintro ⟨k, r⟩
    exact (h7 p q (by omega) hp.2 (by omega) k.2).mp r
  · intro z
    have := h8.2 q q0 z
    exact ⟨by omega, (h7 p q (by omega) hp.2 (by omega) this.2).mpr z⟩
theorem zFr.leq (h : zFr E inn 0 N 0 n b t ee f l fo) (hp : 1 ≤ p ∧ p ≤ n) : zt l p ↔ zR E (inn p + 1) t := (h.2.1.2.2.1 p (by omega) hp.2).symm
theorem zls_t (h : ∀ q, 0 ≤ q → (zt x q ↔ zt l q ∧ q < p)) (hp : 0 ≤ p) (hl : zt l p) : ∀ q, 0 ≤ q → (zt (zo x (zp p)) q ↔ zt l q ∧ q < p + 1) := fun q q0 => by
  rw [zt_zo, zt_zp hp q0, h q q0]
  constructor
  · rintro (k | rfl)
    · exact ⟨k.1, by omega⟩
    · exact ⟨hl, by omega⟩
  · intro k
    by_cases c : q = p
    · exact Or.inr c
    · exact Or.inl ⟨k.1, by omega⟩
theorem zls_f (h : ∀ q, 0 ≤ q → (zt x q ↔ zt l q ∧ q < p)) (hl : ¬ zt l p) : ∀ q, 0 ≤ q → (zt (zo x 0) q ↔ zt l q ∧ q < p + 1) := fun q q0 => by
  rw [zt_zo, h q q0]
  constructor
  · rintro (k | k)
    · exact ⟨k.1, by omega⟩
    · exact absurd k zt_0
  · intro k
    by_cases c : q = p
    · rw [c] at k; exact absurd k.1 hl
    · exact Or.inl ⟨k.1, by omega⟩
/-- a pattern's row as its positions are told -/
def zRf (w : Int → Int) (s e f : Int) (fo : Int → Int) (p : Int) : Int → Int := fun j => if j = 476 * s + 2 then f else if j = 476 * s + 1 then e else if 476 * s + 7 ≤ j ∧ j < 476 * s + 6 + p then fo (j - (476 * s + 6)) else w j
theorem zRf_1 (j : Int) : zu (zu w0 (476 * s + 2) f) (476 * s + 1) e j = zRf w0 s e f fo 1 j := by
  unfold zRf
  by_cases c2 : j = 476 * s + 2
  · rw [if_pos c2, zu_ne (by omega), c2, zu_at]
  rw [if_neg c2]
  by_cases c1 : j = 476 * s + 1
  · rw [if_pos c1, c1, zu_at]
  rw [if_neg c1, zu_ne c1, zu_ne c2, if_neg (by omega)]
theorem zRf_s (hw : ∀ j, w' j = zRf w0 s e f fo p j) (hp : 1 ≤ p) (hx : x = fo p) (j : Int) : zu w' (476 * s + (6 + p)) x j = zRf w0 s e f fo (p + 1) j := by
  by_cases c : j = 476 * s + (6 + p)
  · unfold zRf
    rw [c, zu_at, if_neg (by omega), if_neg (by omega), if_pos (by omega), hx]
    exact congrArg fo (by omega)
  · rw [zu_ne c, hw j]
    unfold zRf
    by_cases c2 : j = 476 * s + 2
    · rw [if_pos c2, if_pos c2]
    rw [if_neg c2, if_neg c2]
    by_cases c1 : j = 476 * s + 1
    · rw [if_pos c1, if_pos c1]
    rw [if_neg c1, if_neg c1]
    exact if_cg (by omega)
def zRg (w : Int → Int) (s n lp e f l : Int) (fo : Int → Int) : Int → Int := fun j => if j = 476 * s + 0 then n else if j = 476 * s + 3 then l else if j = 476 * s + 4 then lp else zRf w s e f fo (n + 1) j
theorem zRg_e {lp : Int} (hw : ∀ j, w' j = zRf w0 s e f fo (n + 1) j) (j : Int) : zu (zu (zu w' (476 * s + 3) l) (476 * s + 0) n) (476 * s + 4) lp j = zRg w0 s n lp e f l fo j := by
  unfold zRg
  by_cases c0 : j = 476 * s + 0
  · rw [if_pos c0, zu_ne (by omega), c0, zu_at]
  rw [if_neg c0]
  by_cases c3 : j = 476 * s + 3
  · rw [if_pos c3, zu_ne (by omega), zu_ne (by omega), c3, zu_at]
  rw [if_neg c3]
  by_cases c4 : j = 476 * s + 4
  · rw [if_pos c4, c4, zu_at]
  rw [if_neg c4, zu_ne c4, zu_ne c0, zu_ne c3, hw j]
end FOL
section M34
variable {G : p_G} {Y : Nat → Nat} {h0 : p_H} {P : (Option Value) ⊕ String → m_X → Prop} {d : Nat} {V : Nat → Int} {C : Nat → Int → Int} {J : Int → Int}
variable {N M n : Int} {E : Int → Int → Prop} {src inn : Int → Int}
theorem k_reachesF {a : Int} (h : mGf N M n E src inn C) (hNM : N < 1400 ∧ M < 2800) (hn : 0 ≤ n ∧ n ≤ 24) (hV : 0 ≤ V 22 ∧ V 22 ≤ 99) (ha : 0 ≤ a ∧ a < N) (hF : ∀ y, 0 ≤ y → y < N → 0 ≤ C 17 y ∧ C 17 y ≤ V 22) (hp : ∀ x C', sC [17, 18] C C' → (0 ≤ x ∧ x < 33554432) → (∀ y, 0 ≤ y → y < N → (C' 17 y = V 22 + 1 ↔ zR E a y)) → (∀ q, 0 ≤ q → (zt x q ↔ (1 ≤ q ∧ q ≤ n) ∧ zR E a (inn q))) → (∀ y, 0 ≤ y → y < N → 0 ≤ C' 17 y ∧ C' 17 y ≤ V 22 + 1) → P (.inl (some (.int (iI x)))) (vu V 22 (V 22 + 1), C', J)) : RM G mX11_reaches (m_I Y h0) [.ref (Y 38), .int (iI a)] d 0 0 P (V, C, J) :=
  k_reaches h.1 hNM ⟨hV, ha⟩ (h.lb hn) hF (fun x C' q1 q2 q3 q4 => hp x C' q1 q2 q3.1 (fun q q0 => (q3.2 q q0).trans h.q) q4)
theorem k_fo_l {s b t f l : Int} {ee : Bool} {fo : Int → Int} (hG : mGf N M n E src inn C) (hNM : N < 1400 ∧ M < 2800) (hn : 0 ≤ n ∧ n ≤ 24) (h36 : V 36 = n) (hfr : zFr E inn 0 N 0 n b t ee f l fo) (hs : s = 0 ∨ s = 1) (hp : ∀ V' C', sV [22] V V' → sC [0, 17, 18] C C' → (∀ j, C' 0 j = zRg (C 0) s n (V 35) (if ee = true then 1 else 0) f l fo j) → P (.inl none) (V', C', J)) : ∀ (zz : Nat) (p : Int) (x : Int) (V' : Nat → Int) (C' : Nat → Int → Int), zz = (n + 1 - p).toNat → (1 ≤ p) → (p ≤ n + 1) → (sV [22] V V') → (V' 22 = p) → (sC [0, 17, 18] C C') → (∀ y, 0 ≤ y → y < N → 0 ≤ C' 17 y ∧ C' 17 y ≤ V' 22) → (∀ j, C' 0 j = zRf (C 0) s (if ee = true then 1 else 0) f fo p j) → ((0 ≤ x ∧ x < 33554432) ∧ ∀ q, 0 ≤ q → (zt x q ↔ zt l q ∧ q < p)) → RW G mX11_follows (m_I Y h0) P (d + 1) 0 0 41 [some (.ref (Y 38)), some (.int (iI s)), some (.int (iI b)), some (.int (iI t)), some (.int (iI x)), some (.int (iI p))] [] (V', C', J) := by
  intro zz
  induction zz using Nat.strongRecOn with
  | _ zz ih =>
    intro p x V' C' hzz h1 h2 hV hm hC hF hw hx
    have v36 : V' 36 = V 36 := hV 36 (by decide)
    have v35 : V' 35 = V 35 := hV 35 (by decide)
    have hr := hfr.1.1
    refine i_iload dX11_follows_41 rfl ?_
    refine i_aload_n dX11_follows_43 rfl ?_
    refine t_getI dX11_follows_44 fX11_169 (by decide) rfl ?_
    refine i_icmp_gt (tgt := 103) dX11_follows_47 (by decide) (by omega) (by omega) (fun c47 => ?_) (fun c47 => ?_)
    · -- jumps
      refine i_aload_n dX11_follows_103 rfl ?_
      refine i_iload_n dX11_follows_104 rfl ?_
      refine i_const dX11_follows_105 ?_
      refine i_iload dX11_follows_106 rfl ?_
      refine t_callV (As := [_, _, _]) dX11_follows_108 cfX11_to imX11_to seX11_to lX11_172 rfl rfl rfl (Nat.le_of_ble_eq_true rfl) ?_
      refine k_to (by omega) (RK.n0 ?_)
      refine i_aload_n dX11_follows_111 rfl ?_
      refine i_iload_n dX11_follows_112 rfl ?_
      refine i_const dX11_follows_113 ?_
      refine i_aload_n dX11_follows_114 rfl ?_
      refine t_getI dX11_follows_115 fX11_169 (by decide) rfl ?_
      refine t_callV (As := [_, _, _]) dX11_follows_118 cfX11_to imX11_to seX11_to lX11_172 rfl rfl rfl (Nat.le_of_ble_eq_true rfl) ?_
      refine k_to2 (by omega) (RK.n0 ?_)
      refine i_aload_n dX11_follows_121 rfl ?_
      refine i_iload_n dX11_follows_122 rfl ?_
      refine i_const dX11_follows_123 ?_
      refine i_aload_n dX11_follows_124 rfl ?_
      refine t_getI dX11_follows_125 fX11_157 (by decide) rfl ?_
      refine t_callV (As := [_, _, _]) dX11_follows_128 cfX11_to imX11_to seX11_to lX11_172 rfl rfl rfl (Nat.le_of_ble_eq_true rfl) ?_
      refine k_to2 (by omega) (RK.n0 ?_)
      refine i_return dX11_follows_131 rfl ?_
      obtain rfl : p = n + 1 := by omega
      have hxl : x = l := zt_ext hx.1.1 hfr.2.2.2.1.1 (fun q q0 => (hx.2 q q0).trans ⟨fun k => k.1, fun k => ⟨k, by have := hfr.2.2.2.1.2 q q0 k; omega⟩⟩)
      subst hxl
      refine hp _ _ hV (hC.cu (by decide)) (fun j => ?_)
      refine Eq.trans ?_ (zRg_e (l := x) (n := n) (lp := V 35) hw j)
      show zu (zu (zu (C' 0) _ _) _ (V' 36)) _ (V' 35) j = _
      rw [v36, v35, h36]
    · -- on
      have h19 := hG.2.1.2 p (by omega) (by omega)
      have h19b : C' 19 p = inn p + 1 := by rw [hC 19 (by decide)]; exact hG.2.2 p (by omega) (by omega)
      have h19c : C' 19 p = C 19 p := congrFun (hC 19 (by decide)) p
      refine i_aload_n dX11_follows_50 rfl ?_
      refine i_iload_n dX11_follows_51 rfl ?_
      refine i_bipush dX11_follows_52 (by decide) ?_
      refine i_iload dX11_follows_54 rfl ?_
      refine i_add dX11_follows_56 ?_
      refine i_aload_n dX11_follows_57 rfl ?_
      refine i_aload_n dX11_follows_58 rfl ?_
      refine t_getA dX11_follows_59 fX11_51.o rfl ?_
      refine i_iload dX11_follows_62 rfl ?_
      refine t_iald (N := 25) dX11_follows_64 (by decide) (by decide) rfl (by omega) rfl ?_
      refine t_callV (As := [_]) dX11_follows_65 cfX11_reaches imX11_reaches seX11_reaches lX11_179 rfl rfl rfl (Nat.le_of_ble_eq_true rfl) ?_
      refine k_reachesF (N := N) (M := M) (n := n) (E := E) (src := src) (inn := inn) (hG.cg hC) hNM hn (by show 0 ≤ V' 22 ∧ V' 22 ≤ 99; omega) (by omega) hF (fun x1 C1 hC1 hx1 hs1 hq1 hF1 => RK.v ?_)
      have r1 := hF1 t (by omega) (by omega)
      refine t_callV (As := [_, _, _]) dX11_follows_68 cfX11_to imX11_to seX11_to lX11_172 rfl rfl rfl (Nat.le_of_ble_eq_true rfl) ?_
      refine k_to (by omega) (RK.n0 ?_)
      refine i_iload dX11_follows_71 rfl ?_
      refine i_aload_n dX11_follows_73 rfl ?_
      refine t_getA dX11_follows_74 fX11_45.o rfl ?_
      refine i_iload_n dX11_follows_77 rfl ?_
      refine t_iald (N := 1400) (v := C1 17 t) dX11_follows_78 (by decide) (by decide) rfl (by omega) rfl ?_
      refine i_aload_n dX11_follows_79 rfl ?_
      refine t_getI (v := V' 22 + 1) dX11_follows_80 fX11_176 (by decide) rfl ?_
      refine i_icmp_ne (tgt := 93) dX11_follows_83 (by decide) (by omega) (by omega) (fun c83 => ?_) (fun c83 => ?_)
      · -- jumps
        refine i_const dX11_follows_93 ?_
        refine i_or dX11_follows_94 (by omega) (by omega) ?_
        refine i_istore dX11_follows_95 (L' := [some _, some _, some _, some _, some _, some _]) (by decide) rfl ?_
        refine i_iinc dX11_follows_97 rfl (L' := [some _, some _, some _, some _, some _, some _]) (by decide) rfl ?_
        refine i_goto (tgt := 41) dX11_follows_100 (by decide) ?_
        have hl := hfr.leq (p := p) ⟨h1, by omega⟩
        rw [← h19b, ← hs1 t (by omega) (by omega)] at hl
        refine ih _ ?_ (p + 1) _ _ _ rfl (by omega) (by omega) (hV.vu (by decide)) (by show V' 22 + 1 = p + 1; omega) ((hC.tr hC1 (by decide)).cu (by decide)) hF1 (zRf_s (fun j => by rw [congrFun (hC1 0 (by decide)) j]; exact hw j) h1 (hfr.foeq ⟨h1, by omega⟩ hx1.1 (fun q q0 => by rw [← h19b]; exact hq1 q q0))) ⟨by first | exact zo_rg hx.1 (zp_rg (by omega)) | exact zo_rg hx.1 (by decide), ?_⟩
        · omega
        · exact zls_f hx.2 (fun q => absurd (hl.mp q) (by omega))
      · -- on
        have b9 := @zp_rg p (by omega)
        refine i_const dX11_follows_86 ?_
        refine i_iload dX11_follows_87 rfl ?_
        refine i_shl dX11_follows_89 (iI_shl1 (by omega)) ?_
        refine i_goto (tgt := 94) dX11_follows_90 (by decide) ?_
        refine i_or dX11_follows_94 (by omega) (by omega) ?_
        refine i_istore dX11_follows_95 (L' := [some _, some _, some _, some _, some _, some _]) (by decide) rfl ?_
        refine i_iinc dX11_follows_97 rfl (L' := [some _, some _, some _, some _, some _, some _]) (by decide) rfl ?_
        refine i_goto (tgt := 41) dX11_follows_100 (by decide) ?_
        have hl := hfr.leq (p := p) ⟨h1, by omega⟩
        rw [← h19b, ← hs1 t (by omega) (by omega)] at hl
        refine ih _ ?_ (p + 1) _ _ _ rfl (by omega) (by omega) (hV.vu (by decide)) (by show V' 22 + 1 = p + 1; omega) ((hC.tr hC1 (by decide)).cu (by decide)) hF1 (zRf_s (fun j => by rw [congrFun (hC1 0 (by decide)) j]; exact hw j) h1 (hfr.foeq ⟨h1, by omega⟩ hx1.1 (fun q q0 => by rw [← h19b]; exact hq1 q q0))) ⟨by first | exact zo_rg hx.1 (zp_rg (by omega)) | exact zo_rg hx.1 (by decide), ?_⟩
        · omega
        · exact zls_t hx.2 (by omega) (hl.mpr (by omega))
theorem k_follows {s b t f l : Int} {ee : Bool} {fo : Int → Int} (hG : mGf N M n E src inn C) (hNM : N < 1400 ∧ M < 2800) (hn : 0 ≤ n ∧ n ≤ 24) (h36 : V 36 = n) (hfr : zFr E inn 0 N 0 n b t ee f l fo) (hs : s = 0 ∨ s = 1) (hm : V 22 = 0) (hF : ∀ y, 0 ≤ y → y < N → 0 ≤ C 17 y ∧ C 17 y ≤ V 22) (hp : ∀ V' C', sV [22] V V' → sC [0, 17, 18] C C' → (∀ j, C' 0 j = zRg (C 0) s n (V 35) (if ee = true then 1 else 0) f l fo j) → P (.inl none) (V', C', J)) : RM G mX11_follows (m_I Y h0) [.ref (Y 38), .int (iI s), .int (iI b), .int (iI t)] (d + 1) 0 0 P (V, C, J) := by
  refine RM.of (L := [some (.ref (Y 38)), some (.int (iI s)), some (.int (iI b)), some (.int (iI t)), none, none]) cfX11_follows rfl (Nat.le_of_ble_eq_true rfl) ?_
  have hr := hfr.1.1
  refine i_aload_n dX11_follows_0 rfl ?_
  refine i_iload_n dX11_follows_1 rfl ?_
  refine i_const dX11_follows_2 ?_
  refine i_aload_n dX11_follows_3 rfl ?_
  refine i_iload_n dX11_follows_4 rfl ?_
  refine t_callV (As := [_]) dX11_follows_5 cfX11_reaches imX11_reaches seX11_reaches lX11_179 rfl rfl rfl (Nat.le_of_ble_eq_true rfl) ?_
  refine k_reachesF (N := N) (M := M) (n := n) (E := E) (src := src) (inn := inn) (hG.cg (sC.rfl (S := [0, 17, 18]))) hNM hn (by show 0 ≤ V 22 ∧ V 22 ≤ 99; omega) (by omega) hF (fun x1 C1 hC1 hx1 hs1 hq1 hF1 => RK.v ?_)
  have r1 := hF1 t (by omega) (by omega)
  refine t_callV (As := [_, _, _]) dX11_follows_8 cfX11_to imX11_to seX11_to lX11_172 rfl rfl rfl (Nat.le_of_ble_eq_true rfl) ?_
  refine k_to (by omega) (RK.n0 ?_)
  refine i_aload_n dX11_follows_11 rfl ?_
  refine i_iload_n dX11_follows_12 rfl ?_
  refine i_const dX11_follows_13 ?_
  refine i_aload_n dX11_follows_14 rfl ?_
  refine t_getA dX11_follows_15 fX11_45.o rfl ?_
  refine i_iload_n dX11_follows_18 rfl ?_
  refine t_iald (N := 1400) (v := C1 17 t) dX11_follows_19 (by decide) (by decide) rfl (by omega) rfl ?_
  refine i_aload_n dX11_follows_20 rfl ?_
  refine t_getI (v := V 22 + 1) dX11_follows_21 fX11_176 (by decide) rfl ?_
  refine i_icmp_ne (tgt := 31) dX11_follows_24 (by decide) (by omega) (by omega) (fun c24 => ?_) (fun c24 => ?_)
  · -- jumps
    refine i_const dX11_follows_31 ?_
    refine t_callV (As := [_, _, _]) dX11_follows_32 cfX11_to imX11_to seX11_to lX11_172 rfl rfl rfl (Nat.le_of_ble_eq_true rfl) ?_
    refine k_to2 (by omega) (RK.n0 ?_)
    refine i_const dX11_follows_35 ?_
    refine i_istore dX11_follows_36 (L' := [some _, some _, some _, some _, some _, none]) (by decide) rfl ?_
    refine i_const dX11_follows_38 ?_
    refine i_istore dX11_follows_39 (L' := [some _, some _, some _, some _, some _, some _]) (by decide) rfl ?_
    have he := hfr.2.1.1
    rw [← hs1 t (by omega) (by omega)] at he
    have hee : (if ee = true then (1 : Int) else 0) = 0 := by first | (rw [if_pos (he.mp (by omega))]; done) | (rw [if_neg (fun q => absurd (he.mpr q) (by omega))]; done)
    refine k_fo_l hG hNM hn h36 hfr hs hp _ 1 0 _ _ rfl (by omega) (by omega) (sV.rfl.vu (by decide)) (by show V 22 + 1 = 1; omega) ((sC.rfl.tr hC1 (by decide)).cu (by decide)) hF1 (fun j => ?_) ⟨by decide, fun q q0 => ⟨fun z => absurd z zt_0, fun z => by have := hfr.2.2.2.1.2 q q0 z.1; omega⟩⟩
    rw [hee, ← hfr.feq hx1.1 hq1]
    refine Eq.trans ?_ (zRf_1 j)
    show zu (zu (C1 0) _ _) _ _ j = _
    rw [hC1 0 (by decide)]
  · -- on
    refine i_const dX11_follows_27 ?_
    refine i_goto (tgt := 32) dX11_follows_28 (by decide) ?_
    refine t_callV (As := [_, _, _]) dX11_follows_32 cfX11_to imX11_to seX11_to lX11_172 rfl rfl rfl (Nat.le_of_ble_eq_true rfl) ?_
    refine k_to2 (by omega) (RK.n0 ?_)
    refine i_const dX11_follows_35 ?_
    refine i_istore dX11_follows_36 (L' := [some _, some _, some _, some _, some _, none]) (by decide) rfl ?_
    refine i_const dX11_follows_38 ?_
    refine i_istore dX11_follows_39 (L' := [some _, some _, some _, some _, some _, some _]) (by decide) rfl ?_
    have he := hfr.2.1.1
    rw [← hs1 t (by omega) (by omega)] at he
    have hee : (if ee = true then (1 : Int) else 0) = 1 := by first | (rw [if_pos (he.mp (by omega))]; done) | (rw [if_neg (fun q => absurd (he.mpr q) (by omega))]; done)
    refine k_fo_l hG hNM hn h36 hfr hs hp _ 1 0 _ _ rfl (by omega) (by omega) (sV.rfl.vu (by decide)) (by show V 22 + 1 = 1; omega) ((sC.rfl.tr hC1 (by decide)).cu (by decide)) hF1 (fun j => ?_) ⟨by decide, fun q q0 => ⟨fun z => absurd z zt_0, fun z => by have := hfr.2.2.2.1.2 q q0 z.1; omega⟩⟩
    rw [hee, ← hfr.feq hx1.1 hq1]
    refine Eq.trans ?_ (zRf_1 j)
    show zu (zu (C1 0) _ _) _ _ j = _
    rw [hC1 0 (by decide)]
end M34
