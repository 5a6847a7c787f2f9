/-! ===== the class and the reference, call by call: changes ===== -/
theorem f2d_share_n : ∀ a : Nat, a < 7 → ∀ b : Nat, b < 6 → FP.f2d (FP.fdiv (FP.i2f (nI a)) (FP.i2f (nI (b + 1)))) &&& 0x7fffffffffffffff ≤ 0x7ff0000000000000 := by decide
theorem f2d_share {a b : Int} (ha : 0 ≤ a ∧ a ≤ 6) (hb : 1 ≤ b ∧ b ≤ 6) : vf_n64 (FP.f2d (FP.fdiv (FP.i2f (iI a)) (FP.i2f (iI b)))) := by
  have h := f2d_share_n a.toNat (by omega) (b.toNat - 1) (by omega)
  rw [show b.toNat - 1 + 1 = b.toNat by omega, ← iI_nn ha.1, ← iI_nn (show 0 ≤ b by omega)] at h
  exact h
theorem f2d_0 : vf_n64 (FP.f2d FP.fconst0) := by
  unfold vf_n64
  decide
theorem f2d_if {w : Int → Int} (h6 : 0 ≤ w 952 ∧ w 952 ≤ 6) : vf_n64 (FP.f2d (if w 952 = 0 then FP.fconst0 else FP.fdiv (FP.i2f (iI (wHm w (w 952)))) (FP.i2f (iI (w 952))))) := by
  by_cases z : w 952 = 0
  · rw [if_pos z]; exact f2d_0
  · rw [if_neg z]
    have := wHm_rg (w := w) h6.1
    exact f2d_share (by omega) (by omega)
theorem walk_uq {w b : Int → Int} {k k' n n' : Int} (e : n = n') (k1 : k ≤ n) (k0 : 0 ≤ k) (h1 : ∀ i, 0 ≤ i → i < k → wCan w b i) (h2 : ¬ (k < n ∧ wCan w b k)) (k1' : k' ≤ n') (k0' : 0 ≤ k') (h1' : ∀ i, 0 ≤ i → i < k' → wCan w b i) (h2' : ¬ (k' < n' ∧ wCan w b k')) : k' = k := by
  rcases Int.lt_trichotomy k k' with z | z | z
  · exact absurd ⟨by omega, h1' k k0 z⟩ h2
  · exact z.symm
  · exact absurd ⟨by omega, h1 k' k0' z⟩ h2'
section C4
variable {G : p_G} {Y : Nat → Nat} {h0 : p_H} {V Vm : Nat → Int} {C Cm : Nat → Int → Int} {J : c_J} {Jm : Int → Int}
theorem e_truncateInput {a0 : Int} (hZ : p_Zs G) (hS : lSm V C J Vm Cm) (r0 : -2147483648 ≤ a0 ∧ a0 < 2147483648) : RM G mX10_truncateInput (c_I Y h0) (.ref (Y 0) :: [.int (iI a0)]) 98 1 6 (lP G kI ["java/lang/IllegalArgumentException"] mX11_truncateInput [.int (iI a0)] (Vm, Cm, Jm)) (V, C, J) := by
  refine q_truncateInput (hZ := hZ) (h4 := hS.2.2.2.1.2.1) (hn := r0) (hp0 := fun c => ?_) (hp1 := fun c => ?_)
  · exact ⟨⟨_, rfl⟩, fun Ym h1 => k_truncateInput (h_i := r0) (hr := hS.h7m) (hp0 := fun _ => ⟨rfl, rfl, hS.t.buf c⟩) (hp1 := fun y => absurd ⟨c.1, by have := hS.2.2.2.1.1; have := c.2; omega⟩ y)⟩
  · exact ⟨0, rfl, fun Ym h1 => k_truncateInput (h_i := r0) (hr := hS.h7m) (hp1 := fun _ => ⟨⟨_, rfl, _, rfl⟩, rfl, hS.t⟩) (hp0 := fun y => absurd ⟨y.1, by have := hS.2.2.2.1.1; have := y.2; omega⟩ c)⟩
theorem e_append {a0 a1 a2 a3 a4 : Int} (hZ : p_Zs G) (hS : lSm V C J Vm Cm) (r0 : -2147483648 ≤ a0 ∧ a0 < 2147483648) (r1 : -2147483648 ≤ a1 ∧ a1 < 2147483648) (r2 : -2147483648 ≤ a2 ∧ a2 < 2147483648) (r3 : -2147483648 ≤ a3 ∧ a3 < 2147483648) (r4 : -2147483648 ≤ a4 ∧ a4 < 2147483648) : RM G mX10_append (c_I Y h0) (.ref (Y 0) :: [.int (iI a0), .int (iI a1), .int (iI a2), .int (iI a3), .int (iI a4)]) 99 0 0 (lP G kI [] mX11_append [.int (iI a0), .int (iI a1), .int (iI a2), .int (iI a3), .int (iI a4)] (Vm, Cm, Jm)) (V, C, J) := by
  refine q_append (h4 := hS.2.2.2.1.2.1) (hp1 := fun c => ?_) (hp0 := fun c V1 C1 v4 c2 sv sc => ?_)
  · exact ⟨⟨_, rfl⟩, fun Ym h1 => k_append (h7 := hS.h7m) (hp1 := fun _ => ⟨rfl, rfl, hS.t⟩) (hp0 := fun y => absurd (by have := hS.2.2.2.1.1; omega) c)⟩
  · exact ⟨⟨_, rfl⟩, fun Ym h1 => k_append (h7 := hS.h7m) (hp1 := fun y => absurd (by have := hS.2.2.2.1.1; omega) y) (hp0 := fun _ V2 C2 v12 v7 sv2 sc2 c6 => ⟨oI (by have := hS.2.2.2.1.1; omega), v12, hS.app c v4 sv sc c2 v7 sv2 sc2 c6⟩)⟩
theorem e_copyPattern {a0 : Int} (hZ : p_Zs G) (hS : lSm V C J Vm Cm) (r0 : -2147483648 ≤ a0 ∧ a0 < 2147483648) : RM G mX10_copyPattern (c_I Y h0) (.ref (Y 0) :: [.int (iI a0)]) 98 1 6 (lP G kI ["java/lang/IndexOutOfBoundsException"] mX11_copyPattern [.int (iI a0)] (Vm, Cm, Jm)) (V, C, J) := by
  refine q_copyPattern (hZ := hZ) (hN := hS.1.1) (hO := hS.1.2.1) (hH := hS.2.1.1) (h_s := r0) (hp1 := fun c => ?_) (hp0 := fun c V1 C1 J1 hc => ?_)
  · exact ⟨0, rfl, fun Ym h1 => k_copyPattern (hO := hS.1.2.1) (h4 := hS.h4m) (h_s := r0) (hp1 := fun _ => ⟨⟨_, rfl, _, rfl⟩, rfl, hS.t⟩) (hp0 := fun y => absurd y c)⟩
  · exact ⟨⟨_, rfl⟩, fun Ym h1 => k_copyPattern (hO := hS.1.2.1) (h4 := hS.h4m) (h_s := r0) (hp0 := fun _ V2 C2 J2 hm => ⟨rfl, hm.1, hS.chg hc hm rfl (hS.1.2.copy c)⟩) (hp1 := fun y => absurd c y)⟩
theorem e_removeWalker {a0 : Int} (hZ : p_Zs G) (hS : lSm V C J Vm Cm) (r0 : -2147483648 ≤ a0 ∧ a0 < 2147483648) : RM G mX10_removeWalker (c_I Y h0) (.ref (Y 0) :: [.int (iI a0)]) 98 1 6 (lP G kI ["java/lang/IndexOutOfBoundsException"] mX11_removeWalker [.int (iI a0)] (Vm, Cm, Jm)) (V, C, J) := by
  refine q_removeWalker (hZ := hZ) (hN := hS.1.1) (hO := hS.1.2.1) (hH := hS.2.1.1) (h_k := r0) (hp1 := fun c => ?_) (hp0 := fun c V1 C1 J1 hc => ?_)
  · exact ⟨0, rfl, fun Ym h1 => k_removeWalker (hO := hS.1.2.1) (h4 := hS.h4m) (h_p := r0) (hp1 := fun _ => ⟨⟨_, rfl, _, rfl⟩, rfl, hS.t⟩) (hp0 := fun y => absurd y c)⟩
  · exact ⟨⟨_, rfl⟩, fun Ym h1 => k_removeWalker (hO := hS.1.2.1) (h4 := hS.h4m) (h_p := r0) (hp0 := fun _ V2 C2 J2 hm => ⟨rfl, hm.1, hS.chg hc hm rfl (hS.1.2.drop c)⟩) (hp1 := fun y => absurd c y)⟩
theorem e_restartWalker {a0 : Int} (hZ : p_Zs G) (hS : lSm V C J Vm Cm) (r0 : -2147483648 ≤ a0 ∧ a0 < 2147483648) : RM G mX10_restartWalker (c_I Y h0) (.ref (Y 0) :: [.int (iI a0)]) 98 1 6 (lP G kI ["java/lang/IndexOutOfBoundsException"] mX11_restartWalker [.int (iI a0)] (Vm, Cm, Jm)) (V, C, J) := by
  refine q_restartWalker (hZ := hZ) (hN := hS.1.1) (hO := hS.1.2.1) (hH := hS.2.1.1) (h_k := r0) (hp1 := fun c => ?_) (hp0 := fun c V1 C1 J1 hc => ?_)
  · exact ⟨0, rfl, fun Ym h1 => k_restartWalker (hO := hS.1.2.1) (h4 := hS.h4m) (h_p := r0) (hp1 := fun _ => ⟨⟨_, rfl, _, rfl⟩, rfl, hS.t⟩) (hp0 := fun y => absurd y c)⟩
  · exact ⟨⟨_, rfl⟩, fun Ym h1 => k_restartWalker (hO := hS.1.2.1) (h4 := hS.h4m) (h_p := r0) (hp0 := fun _ V2 C2 J2 hm => ⟨rfl, hm.1, hS.chg hc hm rfl (hS.1.2.rest c)⟩) (hp1 := fun y => absurd c y)⟩
theorem e_setGate {a0 a1 a2 : Int} (hZ : p_Zs G) (hS : lSm V C J Vm Cm) (r0 : -2147483648 ≤ a0 ∧ a0 < 2147483648) (r1 : a1 = 0 ∨ a1 = 1) (r2 : a2 = 0 ∨ a2 = 1) : RM G mX10_setGate (c_I Y h0) (.ref (Y 0) :: [.int (iI a0), .int (iI a1), .int (iI a2)]) 98 1 6 (lP G kI ["java/lang/IndexOutOfBoundsException"] mX11_setGate [.int (iI a0), .int (iI a1), .int (iI a2)] (Vm, Cm, Jm)) (V, C, J) := by
  refine q_setGate (hZ := hZ) (hN := hS.1.1) (hO := hS.1.2.1) (hH := hS.2.1.1) (h_c := r0) (hb := r1) (ho := r2) (hp1 := fun c => ?_) (hp0 := fun c V1 C1 J1 hc => ?_)
  · exact ⟨0, rfl, fun Ym h1 => k_setGate (hO := hS.1.2.1) (h4 := hS.h4m) (h_c := r0) (ha := r1) (hb := r2) (hp1 := fun _ => ⟨⟨_, rfl, _, rfl⟩, rfl, hS.t⟩) (hp0 := fun y => absurd y c)⟩
  · exact ⟨⟨_, rfl⟩, fun Ym h1 => k_setGate (hO := hS.1.2.1) (h4 := hS.h4m) (h_c := r0) (ha := r1) (hb := r2) (hp0 := fun _ V2 C2 J2 hm => ⟨rfl, hm.1, hS.chg hc hm rfl (hS.1.2.gate ⟨c.1, by omega⟩ r1 r2)⟩) (hp1 := fun y => absurd c y)⟩
theorem e_setNight {a0 : Int} (hZ : p_Zs G) (hS : lSm V C J Vm Cm) (r0 : a0 = 0 ∨ a0 = 1) : RM G mX10_setNight (c_I Y h0) (.ref (Y 0) :: [.int (iI a0)]) 99 0 0 (lP G kI [] mX11_setNight [.int (iI a0)] (Vm, Cm, Jm)) (V, C, J) := by
  refine q_setNight (hN := hS.1.1) (hO := hS.1.2.1) (hH := hS.2.1.1) (ha := r0) (hp0 := fun c V1 C1 J1 hc => ?_)
  · exact ⟨⟨_, rfl⟩, fun Ym h1 => k_setNight (hO := hS.1.2.1) (h4 := hS.h4m) (ha := r0) (hp0 := fun _ V2 C2 J2 hm => ⟨rfl, hm.1, hS.chg hc hm rfl (hS.1.2.night r0)⟩)⟩
theorem e_addWalker {a0 : Int} (hZ : p_Zs G) (hS : lSm V C J Vm Cm) (r0 : -2147483648 ≤ a0 ∧ a0 < 2147483648) : RM G mX10_addWalker (c_I Y h0) (.ref (Y 0) :: [.int (iI a0)]) 98 2 12 (lP G kI ["java/lang/IndexOutOfBoundsException", "java/lang/IllegalStateException"] mX11_addWalker [.int (iI a0)] (Vm, Cm, Jm)) (V, C, J) := by
  refine q_addWalker (hZ := hZ) (hN := hS.1.1) (hO := hS.1.2.1) (hH := hS.2.1.1) (h_s := r0) (hp1 := fun c => ?_) (hp2 := fun c => ?_) (hp0 := fun c V1 C1 J1 hc => ?_)
  · exact ⟨0, rfl, fun Ym h1 => k_addWalker (hO := hS.1.2.1) (h4 := hS.h4m) (h_s := r0) (hp1 := fun _ => ⟨⟨_, rfl, _, rfl⟩, rfl, hS.t⟩) (hp2 := fun y => absurd y.1 c) (hp0 := fun y => absurd y.1 c)⟩
  · exact ⟨1, rfl, fun Ym h1 => k_addWalker (hO := hS.1.2.1) (h4 := hS.h4m) (h_s := r0) (hp1 := fun y => absurd c.1 y) (hp2 := fun _ => ⟨⟨_, rfl, _, rfl⟩, rfl, hS.t⟩) (hp0 := fun y => absurd c.2 (by have := y.2; omega))⟩
  · exact ⟨⟨_, rfl⟩, fun Ym h1 => k_addWalker (hO := hS.1.2.1) (h4 := hS.h4m) (h_s := r0) (hp0 := fun _ V2 C2 J2 hm => ⟨rfl, hm.1, hS.chg hc hm rfl (hS.1.2.add c.1 c.2)⟩) (hp1 := fun y => absurd c.1 y) (hp2 := fun y => absurd c.2 (by have := y.2; omega))⟩
theorem e_step {a0 a1 : Int} (hZ : p_Zs G) (hS : lSm V C J Vm Cm) (r0 : -2147483648 ≤ a0 ∧ a0 < 2147483648) (r1 : -2147483648 ≤ a1 ∧ a1 < 2147483648) : RM G mX10_step (c_I Y h0) (.ref (Y 0) :: [.int (iI a0), .int (iI a1)]) 98 3 18 (lP G kI ["java/lang/IndexOutOfBoundsException", "java/lang/IllegalStateException"] mX11_step [.int (iI a0), .int (iI a1)] (Vm, Cm, Jm)) (V, C, J) := by
  refine q_step (hZ := hZ) (hN := hS.1.1) (hO := hS.1.2.1) (hH := hS.2.1.1) (h_k := r0) (h_c := r1) (hp1 := fun c => ?_) (hp2 := fun c => ?_) (hp0 := fun c V1 C1 J1 hc => ?_)
  · exact ⟨0, rfl, fun Ym h1 => k_step (hO := hS.1.2.1) (h4 := hS.h4m) (h_p := r0) (h_c := r1) (hp1 := fun _ => ⟨⟨_, rfl, _, rfl⟩, rfl, hS.t⟩) (hp2 := fun y => absurd y.1 c) (hp0 := fun y => absurd ⟨y.1, y.2.1⟩ c)⟩
  · exact ⟨1, rfl, fun Ym h1 => k_step (hO := hS.1.2.1) (h4 := hS.h4m) (h_p := r0) (h_c := r1) (hp1 := fun y => absurd c.1 y) (hp2 := fun _ => ⟨⟨_, rfl, _, rfl⟩, rfl, hS.t⟩) (hp0 := fun y => absurd y.2.2 c.2)⟩
  · exact ⟨⟨_, rfl⟩, fun Ym h1 => k_step (hO := hS.1.2.1) (h4 := hS.h4m) (h_p := r0) (h_c := r1) (hp0 := fun _ V2 C2 J2 hm => ⟨rfl, hm.1, hS.chg hc hm rfl (hS.1.2.step c.1 ⟨c.2.1.1, by have := c.2.1.2; omega⟩)⟩) (hp1 := fun y => absurd ⟨c.1, c.2.1⟩ y) (hp2 := fun y => absurd c.2.2 y.2)⟩
theorem e_walkWord {a0 : Int} (hZ : p_Zs G) (hS : lSm V C J Vm Cm) (r0 : -2147483648 ≤ a0 ∧ a0 < 2147483648) : RM G mX10_walkWord (c_I Y h0) (.ref (Y 0) :: [.int (iI a0)]) 98 1 6 (lP G kI ["java/lang/IndexOutOfBoundsException"] mX11_walkWord [.int (iI a0)] (Vm, Cm, Jm)) (V, C, J) := by
  refine q_walkWord (hZ := hZ) (hN := hS.1.1) (hO := hS.1.2.1) (hH := hS.2.1.1) (h4 := hS.2.2.2.1.2.1) (h_p := r0) (hB := hS.2.2.2.1.2.2) (hp1 := fun c => ?_) (hp0 := fun c k k0 k1 hk hn V1 C1 J1 v4 hc => ?_)
  · exact ⟨0, rfl, fun Ym h1 => k_walkWord (hO := hS.1.2.1) (h4 := hS.h4m) (h7 := hS.h7m) (hby := hS.hby) (h_p := r0) (hp1 := fun _ => ⟨⟨_, rfl, _, rfl⟩, rfl, hS.t⟩) (hp0 := fun y => absurd y c)⟩
  · exact ⟨⟨_, rfl⟩, fun Ym h1 => k_walkWord (hO := hS.1.2.1) (h4 := hS.h4m) (h7 := hS.h7m) (hby := hS.hby) (h_p := r0) (hp0 := fun _ k' k0' k1' hk' hn' V2 C2 J2 hm => by
      obtain rfl := walk_uq hS.2.2.2.1.1 k1 k0 hk hn k1' k0' hk' hn'
      exact ⟨rfl, hm.1, hS.walk v4 hc hm (hS.1.2.walk c _ (fun i i0 i1 => hk i i0 (by omega)))⟩) (hp1 := fun y => absurd c y)⟩
theorem e_undo (hZ : p_Zs G) (hS : lSm V C J Vm Cm) : RM G mX10_undo (c_I Y h0) (.ref (Y 0) :: []) 99 0 0 (lP G kI [] mX11_undo [] (Vm, Cm, Jm)) (V, C, J) := by
  refine q_undo (hH := hS.2.1.1) (hOH := fun i i0 i1 => (hS.2.1.2 i i0 i1).1) (hp0 := fun c => ?_) (hp := fun c V1 C1 J1 hN1 hH1 hF1 => ?_)
  · exact ⟨⟨_, rfl⟩, fun Ym h1 => k_undo (h4 := hS.h4m) (hp0 := fun _ => ⟨rfl, rfl, hS.t⟩) (hp1 := fun y => absurd c y)⟩
  · exact ⟨⟨_, rfl⟩, fun Ym h1 => k_undo (h4 := hS.h4m) (hp0 := fun y => absurd y c) (hp1 := fun _ V2 C2 v12 v4 sv sc c0 => ⟨rfl, v12, hS.und c hN1 hH1 hF1 v4 sv sc c0⟩)⟩
theorem e_saveSnapshot (hZ : p_Zs G) (hS : lSm V C J Vm Cm) : RM G mX10_saveSnapshot (c_I Y h0) (.ref (Y 0) :: []) 99 0 0 (lP G kI [] mX11_saveSnapshot [] (Vm, Cm, Jm)) (V, C, J) := by
  refine q_saveSnapshot (hN := hS.1.1) (hO := hS.1.2.1) (hp := fun V1 C1 J1 hN1 hK v0 hV hC hR hj hJ => ?_)
  · exact ⟨⟨_, rfl⟩, fun Ym h1 => k_saveSnapshot (hp := fun C2 sc c3 => ⟨rfl, rfl, hS.sav hN1 hK v0 hV hC hR hJ sc c3⟩)⟩
theorem e_restoreSnapshot (hZ : p_Zs G) (hS : lSm V C J Vm Cm) : RM G mX10_restoreSnapshot (c_I Y h0) (.ref (Y 0) :: []) 98 1 6 (lP G kI ["java/util/NoSuchElementException"] mX11_restoreSnapshot [] (Vm, Cm, Jm)) (V, C, J) := by
  refine q_restoreSnapshot (hZ := hZ) (h0' := hS.2.2.1.2.1) (hk := fun z => ⟨(hS.2.2.1.2.2 z).1, (hS.2.2.1.2.2 z).2.1⟩) (hp1 := fun c => ?_) (hp0 := fun c V1 C1 J1 hN1 hK v11 hV hC hR hj hJ => ?_)
  · exact ⟨0, rfl, fun Ym h1 => k_restoreSnapshot (h5 := by have := hS.2.2.1; omega) (hp1 := fun _ => ⟨⟨_, rfl, _, rfl⟩, rfl, hS.t⟩) (hp0 := fun y => absurd (hS.2.2.1.1.trans y) c)⟩
  · exact ⟨⟨_, rfl⟩, fun Ym h1 => k_restoreSnapshot (h5 := by have := hS.2.2.1; omega) (hp1 := fun y => absurd (hS.2.2.1.1.symm.trans c) y) (hp0 := fun _ C2 sc c0 => ⟨rfl, rfl, hS.rst c hN1 hK v11 hV hC sc c0⟩)⟩
theorem e_homeShare (hZ : p_Zs G) (hS : lSm V C J Vm Cm) : RM G mX10_homeShare (c_I Y h0) (.ref (Y 0) :: []) 99 0 0 (lP G kF [] mX11_homeShare [] (Vm, Cm, Jm)) (V, C, J) := by
  refine q_homeShare (hN := hS.1.1) (hO := hS.1.2.1) (hX := hS.hX) (hp := ?_)
  · exact ⟨⟨_, rfl, f2d_if hS.1.2.1.2.1⟩, fun Ym h1 => k_homeShare (hO := hS.1.2.1) (hp := ⟨rfl, rfl, hS.t⟩)⟩
theorem e_meanSetSize {a0 : Int} (hZ : p_Zs G) (hS : lSm V C J Vm Cm) (r0 : -2147483648 ≤ a0 ∧ a0 < 2147483648) : RM G mX10_meanSetSize (c_I Y h0) (.ref (Y 0) :: [.int (iI a0)]) 98 1 6 (lP G kD ["java/lang/IndexOutOfBoundsException"] mX11_meanSetSize [.int (iI a0)] (Vm, Cm, Jm)) (V, C, J) := by
  refine q_meanSetSize (hZ := hZ) (hN := hS.1.1) (hO := hS.1.2.1) (h_s := r0) (hp1 := fun c => ?_) (hq := fun c => ?_)
  · exact ⟨0, rfl, fun Ym h1 => k_meanSetSize (hO := hS.1.2.1) (h_s := r0) (hp1 := fun _ => ⟨⟨_, rfl, _, rfl⟩, rfl, hS.t⟩) (hp0 := fun y => absurd y c)⟩
  · exact ⟨⟨_, rfl⟩, fun Ym h1 => k_meanSetSize (hO := hS.1.2.1) (h_s := r0) (hp0 := fun _ => ⟨rfl, rfl, hS.t⟩) (hp1 := fun y => absurd c y)⟩
theorem e_writeWord {a0 a1 a2 : Int} (hZ : p_Zs G) (hS : lSm V C J Vm Cm) (r0 : -2147483648 ≤ a0 ∧ a0 < 2147483648) (r1 : -2147483648 ≤ a1 ∧ a1 < 2147483648) (r2 : -9223372036854775808 ≤ a2 ∧ a2 < 9223372036854775808) : RM G mX10_writeWord (c_I Y h0) (.ref (Y 0) :: [.int (iI a0), .int (iI a1), .long (lI a2)]) 98 2 12 (lP G kI ["java/lang/IndexOutOfBoundsException", "java/lang/IllegalArgumentException"] mX11_writeWord [.int (iI a0), .int (iI a1), .long (lI a2)] (Vm, Cm, Jm)) (V, C, J) := by
  refine q_writeWord (hZ := hZ) (hN := hS.1.1) (hO := hS.1.2.1) (hX := hS.hX) (h_s := r0) (h_n := r1) (h_m := r2) (hp1 := fun c => ?_) (hp2 := fun c => ?_) (hp3 := fun c J1 hj => ?_) (hp := fun c V1 C1 J1 hj sv sc v3 hw => ?_)
  · exact ⟨0, rfl, fun Ym h1 => k_writeWord (hO := hS.1.2.1) (h_s := r0) (h_n := r1) (h_m := r2) (hp1 := fun _ => ⟨⟨_, rfl, _, rfl⟩, rfl, hS.t⟩) (hp2 := fun y => absurd y.1 c) (hp3 := fun y => absurd y.1.1 c) (hp0 := fun y => absurd y.1.1 c)⟩
  · exact ⟨1, rfl, fun Ym h1 => k_writeWord (hO := hS.1.2.1) (h_s := r0) (h_n := r1) (h_m := r2) (hp1 := fun y => absurd c.1 y) (hp2 := fun _ => ⟨⟨_, rfl, _, rfl⟩, rfl, hS.t⟩) (hp3 := fun y => absurd y.1.2 c.2) (hp0 := fun y => absurd y.1.2 c.2)⟩
  · exact ⟨⟨_, rfl⟩, fun Ym h1 => k_writeWord (hO := hS.1.2.1) (h_s := r0) (h_n := r1) (h_m := r2) (hp1 := fun y => absurd c.1.1 y) (hp2 := fun y => absurd c.1.2 y.2) (hp3 := fun _ J2 => ⟨rfl, rfl, (hS.j hj).t⟩) (hp0 := fun y => absurd y.2 c.2)⟩
  · exact ⟨⟨_, rfl⟩, fun Ym h1 => k_writeWord (hO := hS.1.2.1) (h_s := r0) (h_n := r1) (h_m := r2) (hp1 := fun y => absurd c.1.1 y) (hp2 := fun y => absurd c.1.2 y.2) (hp3 := fun y => absurd c.2 y.2) (hp0 := fun _ V2 C2 J2 v12 v11 sv2 sc2 hw2 => ⟨rfl, v12, (hS.rep (fun i i0 i1 => sv i (by simp only [List.mem_cons, List.not_mem_nil, or_false]; omega)) (fun i i0 i1 => sc i (by simp only [List.mem_cons, List.not_mem_nil, or_false]; omega)) hj (hS.hSI.cg (sv 12 (by decide)) (sc 12 (by decide)) (sc 13 (by decide))) (fun i hi => sv2 i (by revert i; decide)) (fun i hi => sc2 i (by revert i; decide)) (show V1 3 = V2 11 ∧ (0 ≤ V1 3 ∧ V1 3 ≤ 3600) ∧ ∀ j, 0 ≤ j → j < V1 3 → C1 22 j = C2 10 j from ⟨v3.trans v11.symm, by have := c.1.2; omega, fun j j0 j1 => wWord_uq _ _ _ _ hw hw2 j j0 (by omega)⟩))⟩)⟩
theorem e_writeDifference (hZ : p_Zs G) (hS : lSm V C J Vm Cm) : RM G mX10_writeDifference (c_I Y h0) (.ref (Y 0) :: []) 99 0 0 (lP G kI [] mX11_writeDifference [] (Vm, Cm, Jm)) (V, C, J) := by
  refine q_writeDifference (hN := hS.1.1) (hO := hS.1.2.1) (hX := hS.hX) (hSI := hS.hSI) (hpn := fun V1 C1 hno si sv sc => ?_) (hp0 := fun V1 C1 n hn n36 v3 hw si sv sc => ?_)
  · exact ⟨⟨_, rfl⟩, fun Ym h1 => k_writeDifference (hO := hS.1.2.1) (hpn := fun V2 C2 v12 sv2 sc2 _ => ⟨rfl, v12, (hS.cs sv sc rfl (by decide) (by decide) si).ms sv2 sc2 (by decide) (by decide)⟩) (hp0 := fun V2 C2 v12 sv2 sc2 n hn _ _ => (hn.no hno).elim)⟩
  · exact ⟨⟨_, rfl⟩, fun Ym h1 => k_writeDifference (hO := hS.1.2.1) (hpn := fun V2 C2 v12 sv2 sc2 hno => (hn.no hno).elim) (hp0 := fun V2 C2 v12 sv2 sc2 n' hn' v11 hw2 => by
      obtain rfl := hn'.uq hn
      exact ⟨rfl, v12, (hS.rep (fun i i0 i1 => sv i (by simp only [List.mem_cons, List.not_mem_nil, or_false]; omega)) (fun i i0 i1 => sc i (by simp only [List.mem_cons, List.not_mem_nil, or_false]; omega)) rfl si (fun i hi => sv2 i (by revert i; decide)) (fun i hi => sc2 i (by revert i; decide)) (show V1 3 = V2 11 ∧ (0 ≤ V1 3 ∧ V1 3 ≤ 3600) ∧ ∀ j, 0 ≤ j → j < V1 3 → C1 22 j = C2 10 j from ⟨v3.trans v11.symm, by omega, fun j j0 j1 => (hw j j0 (by omega)).trans (hw2 j j0 (by omega)).symm⟩))⟩)⟩
theorem e_writeSharedWord (hZ : p_Zs G) (hS : lSm V C J Vm Cm) : RM G mX10_writeSharedWord (c_I Y h0) (.ref (Y 0) :: []) 99 0 0 (lP G kI [] mX11_writeSharedWord [] (Vm, Cm, Jm)) (V, C, J) := by
  refine q_writeSharedWord (hN := hS.1.1) (hO := hS.1.2.1) (hX := hS.hX) (hSI := hS.hSI) (hpn := fun V1 C1 hno si sv sc => ?_) (hp0 := fun V1 C1 n hn n36 v3 hw si sv sc => ?_)
  · exact ⟨⟨_, rfl⟩, fun Ym h1 => k_writeSharedWord (hO := hS.1.2.1) (hpn := fun V2 C2 v12 sv2 sc2 _ => ⟨rfl, v12, (hS.cs sv sc rfl (by decide) (by decide) si).ms sv2 sc2 (by decide) (by decide)⟩) (hp0 := fun V2 C2 v12 sv2 sc2 n hn _ _ => (hn.no hno).elim)⟩
  · exact ⟨⟨_, rfl⟩, fun Ym h1 => k_writeSharedWord (hO := hS.1.2.1) (hpn := fun V2 C2 v12 sv2 sc2 hno => (hn.no hno).elim) (hp0 := fun V2 C2 v12 sv2 sc2 n' hn' v11 hw2 => by
      obtain rfl := hn'.uq hn
      exact ⟨rfl, v12, (hS.rep (fun i i0 i1 => sv i (by simp only [List.mem_cons, List.not_mem_nil, or_false]; omega)) (fun i i0 i1 => sc i (by simp only [List.mem_cons, List.not_mem_nil, or_false]; omega)) rfl si (fun i hi => sv2 i (by revert i; decide)) (fun i hi => sc2 i (by revert i; decide)) (show V1 3 = V2 11 ∧ (0 ≤ V1 3 ∧ V1 3 ≤ 3600) ∧ ∀ j, 0 ≤ j → j < V1 3 → C1 22 j = C2 10 j from ⟨v3.trans v11.symm, by omega, fun j j0 j1 => (hw j j0 (by omega)).trans (hw2 j j0 (by omega)).symm⟩))⟩)⟩
theorem e_compile {a0 : Int} (hZ : p_Zs G) (hS : lSm V C J Vm Cm) (r0 : -2147483648 ≤ a0 ∧ a0 < 2147483648) : RM G mX10_compile (c_I Y h0) (.ref (Y 0) :: [.int (iI a0)]) 98 7 493 (lP G kI ["java/lang/IndexOutOfBoundsException"] mX11_compile [.int (iI a0)] (Vm, Cm, Jm)) (V, C, J) := by
  have e4 := hS.2.2.2.1.1
  have n4 := hS.2.2.2.1.2.1
  have eb : ∀ j, 0 ≤ j → j < V 4 → C 2 j = Cm 6 j := fun j j0 j1 => (hS.2.2.2.1.2.2 j j0 j1).1
  refine q_compile (hZ := hZ) (hN := hS.1.1) (hO := hS.1.2.1) (hH := hS.2.1.1) (h4 := hS.2.2.2.1.2.1) (h_s := r0) (hB := hS.hbc) (hp1 := fun c => ?_) (hpE := fun c V1 C1 kd off hz v1 v2 v4 hV hC => ?_) (hpS := fun c V1 C1 J1 x N hz hd v1 v2 v4 hN1 hH1 hV hC hR hj hP => ?_)
  · exact ⟨0, rfl, fun Ym h1 => k_compile (hO := hS.1.2.1) (h4 := hS.h4m) (hsz := hS.h7m) (hB := hS.hby) (h_s := r0) (hp1 := fun _ => ⟨⟨_, rfl, _, rfl⟩, rfl, hS.t⟩) (hpE := fun y => absurd y c) (hpS := fun y => absurd y c)⟩
  · exact ⟨⟨_, rfl⟩, fun Ym h1 => k_compile (hO := hS.1.2.1) (h4 := hS.h4m) (hsz := hS.h7m) (hB := hS.hby) (h_s := r0) (hp1 := fun y => absurd c y) (hpE := fun _ V2 C2 kd' off' hz' hm => by
      have hz1 := hz.cg n4.1 eb
      rw [e4] at hz1
      obtain ⟨rfl, rfl⟩ := hz1.uq hz'
      exact ⟨rfl, hm.1.1, hS.fai v1 v2 v4 hV hC hm⟩) (hpS := fun _ V2 C2 N x w2 hz' hd' _ _ _ => by
      have hz1 := hz.cg n4.1 eb
      rw [e4] at hz1
      exact absurd hz1 (zCE.no hz' hd'))⟩
  · exact ⟨⟨_, rfl⟩, fun Ym h1 => k_compile (hO := hS.1.2.1) (h4 := hS.h4m) (hsz := hS.h7m) (hB := hS.hby) (h_s := r0) (hp1 := fun y => absurd c y) (hpE := fun _ V2 C2 kd' off' hz' hm => by
      rw [zRn_cg n4.1 eb, e4] at hz
      exact absurd hz' (zCE.no hz hd)) (hpS := fun _ V2 C2 N' x' w2 hz' hd' hw2 ho hm => by
      have hz1 := hz
      rw [zRn_cg n4.1 eb, e4] at hz1
      obtain rfl := Sum.inr.inj (hz1.symm.trans hz')
      obtain rfl := hd.uq hd'
      have hI := zIv.got n4 hz
      exact ⟨rfl, hm.1.1, hS.cmp v1 v2 v4 (hN1 w2 hw2 ho) (hS.1.2.new c hI.1 hI.2.1 hI.2.2 hd hw2 ho) hH1 hV hC hR hP hm⟩)⟩
end C4
