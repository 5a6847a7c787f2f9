/-! ===== the class and the reference, call by call: questions ===== -/
section C3a
variable {V V' Vm Vm' : Nat → Int} {C C' Cm Cm' : Nat → Int → Int} {J J' : c_J} {S T : List Nat} {u : Int}
theorem lSm.hX (h : lSm V C J Vm Cm) : ∀ s, s = 0 ∨ s = 1 → wX (Cm 0) s := fun s hs => (h.1.2.2 s hs).1
theorem lSm.hSI (h : lSm V C J Vm Cm) : cSI V C := h.2.2.2.2.2.2
theorem lSm.h4m (h : lSm V C J Vm Cm) : 0 ≤ Vm 4 ∧ Vm 4 ≤ 8 := h.2.1.1.2.1.2
theorem lSm.h7m (h : lSm V C J Vm Cm) : 0 ≤ Vm 7 ∧ Vm 7 ≤ 200 := by
  have d := h.2.2.2.1
  omega
theorem lSm.hby (h : lSm V C J Vm Cm) : ∀ i, 0 ≤ i → i < Vm 7 → 0 ≤ Cm 6 i ∧ Cm 6 i < 256 := fun i i0 i1 => (h.2.2.2.1.2.2 i i0 (by have d := h.2.2.2.1.1; omega)).2
theorem lSm.hbc (h : lSm V C J Vm Cm) : ∀ i, 0 ≤ i → i < V 4 → 0 ≤ C 2 i ∧ C 2 i < 256 := fun i i0 i1 => by
  have q := h.2.2.2.1.2.2 i i0 i1
  rw [q.1]
  exact q.2
theorem lSm.ms (h : lSm V C J Vm Cm) (sv : sV S Vm Vm') (sc : sC T Cm Cm') (hs : ∀ i ∈ [4, 5, 7, 8, 9, 11], i ∉ S) (ht : ∀ i ∈ [0, 2, 3, 6, 10], i ∉ T) : lSm V C J Vm' Cm' := h.m (fun i hi => sv i (hs i hi)) (fun i hi => sc i (ht i hi))
theorem lSm.t (h : lSm V C J Vm Cm) : lSm V C J (vu Vm 12 u) Cm := h.ms (S := [12]) (T := []) (sV.rfl.vu (by decide)) sC.rfl (by decide) (by decide)
theorem lSm.tc (h : lSm V C J Vm Cm) (sc : sC T Cm Cm') (ht : ∀ i ∈ [0, 2, 3, 6, 10], i ∉ T) : lSm V C J (vu Vm 12 u) Cm' := h.ms (S := [12]) (sV.rfl.vu (by decide)) sc (by decide) ht
theorem lSm.cs (h : lSm V C J Vm Cm) (sv : sV S V V') (sc : sC T C C') (hJ : J'.2 = J.2) (hs : ∀ i ∈ S, i = 12 ∨ i = 13) (ht : ∀ i ∈ T, i = 12 ∨ i = 13 ∨ i = 14 ∨ i = 15 ∨ i = 19 ∨ i = 20 ∨ i = 21) (hSI : cSI V' C') : lSm V' C' J' Vm Cm :=
  h.c (fun i i0 i1 => sv i (fun z => by have := hs i z; omega)) (fun i i0 i1 => sc i (fun z => by have := ht i z; omega)) hJ hSI
theorem lSm.j (h : lSm V C J Vm Cm) (hJ : J'.2 = J.2) : lSm V C J' Vm Cm := h.cs (S := []) (T := []) sV.rfl sC.rfl hJ (by decide) (by decide) h.hSI
theorem oI {a b : Int} (h : a = b) : (.inl (some (.int (iI a))) : (Option Value) ⊕ String) = .inl (some (.int (iI b))) := by rw [h]
theorem zb_1 {a : Int} (h : a = 0 ∨ a = 1) : zb (a = 1) = a := by
  rcases h with rfl | rfl <;> rfl
theorem bStr_cg {b b' : Int → Int} {n : Int} (h : ∀ j, 0 ≤ j → j < n → b j = b' j) : (∀ i, 0 ≤ i → i < n → bStr b i) ↔ ∀ i, 0 ≤ i → i < n → bStr b' i := by
  refine ⟨fun q i i0 i1 => ?_, fun q i i0 i1 => ?_⟩
  · have := q i i0 i1
    unfold bStr at this ⊢
    rw [← h i i0 i1]; exact this
  · have := q i i0 i1
    unfold bStr at this ⊢
    rw [h i i0 i1]; exact this
theorem wRun_cg {w b b' : Int → Int} {s : Int} : ∀ n : Nat, (∀ j, 0 ≤ j → j < (n : Int) → b j = b' j) → wRun w b s n = wRun w b' s n
  | 0, _ => rfl
  | n + 1, h => by
    show w (476 * s + (116 + 6 * wRun w b s n + (b (n : Int) - 97))) = w (476 * s + (116 + 6 * wRun w b' s n + (b' (n : Int) - 97)))
    rw [wRun_cg n (fun j j0 j1 => h j j0 (by omega)), h n (by omega) (by omega)]
theorem zc_cg {p q : Prop} (h : p ↔ q) : zc p = zc q := by rw [propext h]
end C3a
section C3
variable {G : p_G} {Y : Nat → Nat} {h0 : p_H} {V Vm : Nat → Int} {C Cm : Nat → Int → Int} {J : c_J} {Jm : Int → Int}
theorem e_positionCount {a0 : Int} (hZ : p_Zs G) (hS : lSm V C J Vm Cm) (r0 : -2147483648 ≤ a0 ∧ a0 < 2147483648) : RM G mX10_positionCount (c_I Y h0) (.ref (Y 0) :: [.int (iI a0)]) 98 1 6 (lP G kI ["java/lang/IndexOutOfBoundsException"] mX11_positionCount [.int (iI a0)] (Vm, Cm, Jm)) (V, C, J) := by
  refine q_positionCount (hZ := hZ) (hN := hS.1.1) (hO := hS.1.2.1) (hs := r0) (hp0 := fun c => ?_) (hp1 := fun c => ?_)
  · exact ⟨⟨_, rfl⟩, fun Ym h1 => k_positionCount (hO := hS.1.2.1) (h_s := r0) (hp0 := fun _ => ⟨rfl, rfl, hS.t⟩) (hp1 := fun y => absurd c y)⟩
  · exact ⟨0, rfl, fun Ym h1 => k_positionCount (hO := hS.1.2.1) (h_s := r0) (hp1 := fun _ => ⟨⟨_, rfl, _, rfl⟩, rfl, hS.t⟩) (hp0 := fun y => absurd y c)⟩
theorem e_streetAt {a0 a1 : Int} (hZ : p_Zs G) (hS : lSm V C J Vm Cm) (r0 : -2147483648 ≤ a0 ∧ a0 < 2147483648) (r1 : -2147483648 ≤ a1 ∧ a1 < 2147483648) : RM G mX10_streetAt (c_I Y h0) (.ref (Y 0) :: [.int (iI a0), .int (iI a1)]) 98 2 12 (lP G kI ["java/lang/IndexOutOfBoundsException"] mX11_streetAt [.int (iI a0), .int (iI a1)] (Vm, Cm, Jm)) (V, C, J) := by
  refine q_streetAt (hZ := hZ) (hN := hS.1.1) (hO := hS.1.2.1) (hs := r0) (ht := r1) (hp0 := fun c => ?_) (hp1 := fun c => ?_)
  · exact ⟨⟨_, rfl⟩, fun Ym h1 => k_streetAt (hO := hS.1.2.1) (h_s := r0) (h_p := r1) (hp0 := fun _ => ⟨rfl, rfl, hS.t⟩) (hp1 := fun y => absurd c y)⟩
  · exact ⟨0, rfl, fun Ym h1 => k_streetAt (hO := hS.1.2.1) (h_s := r0) (h_p := r1) (hp1 := fun _ => ⟨⟨_, rfl, _, rfl⟩, rfl, hS.t⟩) (hp0 := fun y => absurd y c)⟩
theorem e_firstPositions {a0 : Int} (hZ : p_Zs G) (hS : lSm V C J Vm Cm) (r0 : -2147483648 ≤ a0 ∧ a0 < 2147483648) : RM G mX10_firstPositions (c_I Y h0) (.ref (Y 0) :: [.int (iI a0)]) 98 1 6 (lP G kI ["java/lang/IndexOutOfBoundsException"] mX11_firstPositions [.int (iI a0)] (Vm, Cm, Jm)) (V, C, J) := by
  refine q_firstPositions (hZ := hZ) (hN := hS.1.1) (hO := hS.1.2.1) (hs := r0) (hp0 := fun c => ?_) (hp1 := fun c => ?_)
  · exact ⟨⟨_, rfl⟩, fun Ym h1 => k_firstPositions (hO := hS.1.2.1) (h_s := r0) (hp0 := fun _ => ⟨rfl, rfl, hS.t⟩) (hp1 := fun y => absurd c y)⟩
  · exact ⟨0, rfl, fun Ym h1 => k_firstPositions (hO := hS.1.2.1) (h_s := r0) (hp1 := fun _ => ⟨⟨_, rfl, _, rfl⟩, rfl, hS.t⟩) (hp0 := fun y => absurd y c)⟩
theorem e_lastPositions {a0 : Int} (hZ : p_Zs G) (hS : lSm V C J Vm Cm) (r0 : -2147483648 ≤ a0 ∧ a0 < 2147483648) : RM G mX10_lastPositions (c_I Y h0) (.ref (Y 0) :: [.int (iI a0)]) 98 1 6 (lP G kI ["java/lang/IndexOutOfBoundsException"] mX11_lastPositions [.int (iI a0)] (Vm, Cm, Jm)) (V, C, J) := by
  refine q_lastPositions (hZ := hZ) (hN := hS.1.1) (hO := hS.1.2.1) (hs := r0) (hp0 := fun c => ?_) (hp1 := fun c => ?_)
  · exact ⟨⟨_, rfl⟩, fun Ym h1 => k_lastPositions (hO := hS.1.2.1) (h_s := r0) (hp0 := fun _ => ⟨rfl, rfl, hS.t⟩) (hp1 := fun y => absurd c y)⟩
  · exact ⟨0, rfl, fun Ym h1 => k_lastPositions (hO := hS.1.2.1) (h_s := r0) (hp1 := fun _ => ⟨⟨_, rfl, _, rfl⟩, rfl, hS.t⟩) (hp0 := fun y => absurd y c)⟩
theorem e_followPositions {a0 a1 : Int} (hZ : p_Zs G) (hS : lSm V C J Vm Cm) (r0 : -2147483648 ≤ a0 ∧ a0 < 2147483648) (r1 : -2147483648 ≤ a1 ∧ a1 < 2147483648) : RM G mX10_followPositions (c_I Y h0) (.ref (Y 0) :: [.int (iI a0), .int (iI a1)]) 98 2 12 (lP G kI ["java/lang/IndexOutOfBoundsException"] mX11_followPositions [.int (iI a0), .int (iI a1)] (Vm, Cm, Jm)) (V, C, J) := by
  refine q_followPositions (hZ := hZ) (hN := hS.1.1) (hO := hS.1.2.1) (hs := r0) (ht := r1) (hp0 := fun c => ?_) (hp1 := fun c => ?_)
  · exact ⟨⟨_, rfl⟩, fun Ym h1 => k_followPositions (hO := hS.1.2.1) (h_s := r0) (h_p := r1) (hp0 := fun _ => ⟨rfl, rfl, hS.t⟩) (hp1 := fun y => absurd c y)⟩
  · exact ⟨0, rfl, fun Ym h1 => k_followPositions (hO := hS.1.2.1) (h_s := r0) (h_p := r1) (hp1 := fun _ => ⟨⟨_, rfl, _, rfl⟩, rfl, hS.t⟩) (hp0 := fun y => absurd y c)⟩
theorem e_loopCount {a0 : Int} (hZ : p_Zs G) (hS : lSm V C J Vm Cm) (r0 : -2147483648 ≤ a0 ∧ a0 < 2147483648) : RM G mX10_loopCount (c_I Y h0) (.ref (Y 0) :: [.int (iI a0)]) 98 1 6 (lP G kI ["java/lang/IndexOutOfBoundsException"] mX11_loopCount [.int (iI a0)] (Vm, Cm, Jm)) (V, C, J) := by
  refine q_loopCount (hZ := hZ) (hN := hS.1.1) (hO := hS.1.2.1) (hs := r0) (hp0 := fun c => ?_) (hp1 := fun c => ?_)
  · exact ⟨⟨_, rfl⟩, fun Ym h1 => k_loopCount (hO := hS.1.2.1) (h_s := r0) (hp0 := fun _ => ⟨rfl, rfl, hS.t⟩) (hp1 := fun y => absurd c y)⟩
  · exact ⟨0, rfl, fun Ym h1 => k_loopCount (hO := hS.1.2.1) (h_s := r0) (hp1 := fun _ => ⟨⟨_, rfl, _, rfl⟩, rfl, hS.t⟩) (hp0 := fun y => absurd y c)⟩
theorem e_stateCount {a0 : Int} (hZ : p_Zs G) (hS : lSm V C J Vm Cm) (r0 : -2147483648 ≤ a0 ∧ a0 < 2147483648) : RM G mX10_stateCount (c_I Y h0) (.ref (Y 0) :: [.int (iI a0)]) 98 1 6 (lP G kI ["java/lang/IndexOutOfBoundsException"] mX11_stateCount [.int (iI a0)] (Vm, Cm, Jm)) (V, C, J) := by
  refine q_stateCount (hZ := hZ) (hN := hS.1.1) (hO := hS.1.2.1) (hs := r0) (hp0 := fun c => ?_) (hp1 := fun c => ?_)
  · exact ⟨⟨_, rfl⟩, fun Ym h1 => k_stateCount (hO := hS.1.2.1) (h_s := r0) (hp0 := fun _ => ⟨rfl, rfl, hS.t⟩) (hp1 := fun y => absurd c y)⟩
  · exact ⟨0, rfl, fun Ym h1 => k_stateCount (hO := hS.1.2.1) (h_s := r0) (hp1 := fun _ => ⟨⟨_, rfl, _, rfl⟩, rfl, hS.t⟩) (hp0 := fun y => absurd y c)⟩
theorem e_transition {a0 a1 a2 : Int} (hZ : p_Zs G) (hS : lSm V C J Vm Cm) (r0 : -2147483648 ≤ a0 ∧ a0 < 2147483648) (r1 : -2147483648 ≤ a1 ∧ a1 < 2147483648) (r2 : -2147483648 ≤ a2 ∧ a2 < 2147483648) : RM G mX10_transition (c_I Y h0) (.ref (Y 0) :: [.int (iI a0), .int (iI a1), .int (iI a2)]) 98 3 18 (lP G kI ["java/lang/IndexOutOfBoundsException"] mX11_transition [.int (iI a0), .int (iI a1), .int (iI a2)] (Vm, Cm, Jm)) (V, C, J) := by
  refine q_transition (hZ := hZ) (hN := hS.1.1) (hO := hS.1.2.1) (hs := r0) (ht := r1) (hc := r2) (hp0 := fun c => ?_) (hp1 := fun c => ?_)
  · exact ⟨⟨_, rfl⟩, fun Ym h1 => k_transition (hO := hS.1.2.1) (h_s := r0) (h_t := r1) (h_c := r2) (hp0 := fun _ => ⟨rfl, rfl, hS.t⟩) (hp1 := fun y => absurd c y)⟩
  · exact ⟨0, rfl, fun Ym h1 => k_transition (hO := hS.1.2.1) (h_s := r0) (h_t := r1) (h_c := r2) (hp1 := fun _ => ⟨⟨_, rfl, _, rfl⟩, rfl, hS.t⟩) (hp0 := fun y => absurd y c)⟩
theorem e_isAccepting {a0 a1 : Int} (hZ : p_Zs G) (hS : lSm V C J Vm Cm) (r0 : -2147483648 ≤ a0 ∧ a0 < 2147483648) (r1 : -2147483648 ≤ a1 ∧ a1 < 2147483648) : RM G mX10_isAccepting (c_I Y h0) (.ref (Y 0) :: [.int (iI a0), .int (iI a1)]) 98 2 12 (lP G kI ["java/lang/IndexOutOfBoundsException"] mX11_isAccepting [.int (iI a0), .int (iI a1)] (Vm, Cm, Jm)) (V, C, J) := by
  refine q_isAccepting (hZ := hZ) (hN := hS.1.1) (hO := hS.1.2.1) (hX := hS.hX) (hs := r0) (ht := r1) (hp0 := fun c => ?_) (hp1 := fun c => ?_)
  · exact ⟨⟨_, rfl⟩, fun Ym h1 => k_isAccepting (hO := hS.1.2.1) (h_s := r0) (h_t := r1) (hp0 := fun _ => ⟨rfl, rfl, hS.t⟩) (hp1 := fun y => absurd c y)⟩
  · exact ⟨0, rfl, fun Ym h1 => k_isAccepting (hO := hS.1.2.1) (h_s := r0) (h_t := r1) (hp1 := fun _ => ⟨⟨_, rfl, _, rfl⟩, rfl, hS.t⟩) (hp0 := fun y => absurd y c)⟩
theorem e_statePositions {a0 a1 : Int} (hZ : p_Zs G) (hS : lSm V C J Vm Cm) (r0 : -2147483648 ≤ a0 ∧ a0 < 2147483648) (r1 : -2147483648 ≤ a1 ∧ a1 < 2147483648) : RM G mX10_statePositions (c_I Y h0) (.ref (Y 0) :: [.int (iI a0), .int (iI a1)]) 98 2 12 (lP G kI ["java/lang/IndexOutOfBoundsException"] mX11_statePositions [.int (iI a0), .int (iI a1)] (Vm, Cm, Jm)) (V, C, J) := by
  refine q_statePositions (hZ := hZ) (hN := hS.1.1) (hO := hS.1.2.1) (hs := r0) (ht := r1) (hp0 := fun c => ?_) (hp1 := fun c => ?_)
  · exact ⟨⟨_, rfl⟩, fun Ym h1 => k_statePositions (hO := hS.1.2.1) (h_s := r0) (h_t := r1) (hp0 := fun _ => ⟨rfl, rfl, hS.t⟩) (hp1 := fun y => absurd c y)⟩
  · exact ⟨0, rfl, fun Ym h1 => k_statePositions (hO := hS.1.2.1) (h_s := r0) (h_t := r1) (hp1 := fun _ => ⟨⟨_, rfl, _, rfl⟩, rfl, hS.t⟩) (hp0 := fun y => absurd y c)⟩
theorem e_walkerSlot {a0 : Int} (hZ : p_Zs G) (hS : lSm V C J Vm Cm) (r0 : -2147483648 ≤ a0 ∧ a0 < 2147483648) : RM G mX10_walkerSlot (c_I Y h0) (.ref (Y 0) :: [.int (iI a0)]) 98 1 6 (lP G kI ["java/lang/IndexOutOfBoundsException"] mX11_walkerSlot [.int (iI a0)] (Vm, Cm, Jm)) (V, C, J) := by
  refine q_walkerSlot (hZ := hZ) (hN := hS.1.1) (hO := hS.1.2.1) (hk := r0) (hp0 := fun c => ?_) (hp1 := fun c => ?_)
  · exact ⟨⟨_, rfl⟩, fun Ym h1 => k_walkerSlot (hO := hS.1.2.1) (h_p := r0) (hp0 := fun _ => ⟨rfl, rfl, hS.t⟩) (hp1 := fun y => absurd c y)⟩
  · exact ⟨0, rfl, fun Ym h1 => k_walkerSlot (hO := hS.1.2.1) (h_p := r0) (hp1 := fun _ => ⟨⟨_, rfl, _, rfl⟩, rfl, hS.t⟩) (hp0 := fun y => absurd y c)⟩
theorem e_walkerState {a0 : Int} (hZ : p_Zs G) (hS : lSm V C J Vm Cm) (r0 : -2147483648 ≤ a0 ∧ a0 < 2147483648) : RM G mX10_walkerState (c_I Y h0) (.ref (Y 0) :: [.int (iI a0)]) 98 1 6 (lP G kI ["java/lang/IndexOutOfBoundsException"] mX11_walkerState [.int (iI a0)] (Vm, Cm, Jm)) (V, C, J) := by
  refine q_walkerState (hZ := hZ) (hN := hS.1.1) (hO := hS.1.2.1) (hk := r0) (hp0 := fun c => ?_) (hp1 := fun c => ?_)
  · exact ⟨⟨_, rfl⟩, fun Ym h1 => k_walkerState (hO := hS.1.2.1) (h_p := r0) (hp0 := fun _ => ⟨rfl, rfl, hS.t⟩) (hp1 := fun y => absurd c y)⟩
  · exact ⟨0, rfl, fun Ym h1 => k_walkerState (hO := hS.1.2.1) (h_p := r0) (hp1 := fun _ => ⟨⟨_, rfl, _, rfl⟩, rfl, hS.t⟩) (hp0 := fun y => absurd y c)⟩
theorem e_walkerSteps {a0 : Int} (hZ : p_Zs G) (hS : lSm V C J Vm Cm) (r0 : -2147483648 ≤ a0 ∧ a0 < 2147483648) : RM G mX10_walkerSteps (c_I Y h0) (.ref (Y 0) :: [.int (iI a0)]) 98 1 6 (lP G kI ["java/lang/IndexOutOfBoundsException"] mX11_walkerSteps [.int (iI a0)] (Vm, Cm, Jm)) (V, C, J) := by
  refine q_walkerSteps (hZ := hZ) (hN := hS.1.1) (hO := hS.1.2.1) (hk := r0) (hp0 := fun c => ?_) (hp1 := fun c => ?_)
  · exact ⟨⟨_, rfl⟩, fun Ym h1 => k_walkerSteps (hO := hS.1.2.1) (h_p := r0) (hp0 := fun _ => ⟨rfl, rfl, hS.t⟩) (hp1 := fun y => absurd c y)⟩
  · exact ⟨0, rfl, fun Ym h1 => k_walkerSteps (hO := hS.1.2.1) (h_p := r0) (hp1 := fun _ => ⟨⟨_, rfl, _, rfl⟩, rfl, hS.t⟩) (hp0 := fun y => absurd y c)⟩
theorem e_isDeterministicAt {a0 a1 : Int} (hZ : p_Zs G) (hS : lSm V C J Vm Cm) (r0 : -2147483648 ≤ a0 ∧ a0 < 2147483648) (r1 : -2147483648 ≤ a1 ∧ a1 < 2147483648) : RM G mX10_isDeterministicAt (c_I Y h0) (.ref (Y 0) :: [.int (iI a0), .int (iI a1)]) 98 2 12 (lP G kI ["java/lang/IndexOutOfBoundsException"] mX11_isDeterministicAt [.int (iI a0), .int (iI a1)] (Vm, Cm, Jm)) (V, C, J) := by
  refine q_isDeterministicAt (hZ := hZ) (hN := hS.1.1) (hO := hS.1.2.1) (h_s := r0) (h_q := r1) (hp1 := fun c => ?_) (hq := fun c => ?_)
  · exact ⟨0, rfl, fun Ym h1 => k_isDeterministicAt (hO := hS.1.2.1) (h_s := r0) (h_p := r1) (hp1 := fun _ => ⟨⟨_, rfl, _, rfl⟩, rfl, hS.t⟩) (hp0 := fun y => absurd y c)⟩
  · exact ⟨⟨_, rfl⟩, fun Ym h1 => k_isDeterministicAt (hO := hS.1.2.1) (h_s := r0) (h_p := r1) (hp0 := fun _ => ⟨rfl, rfl, hS.t⟩) (hp1 := fun y => absurd c y)⟩
theorem e_walkersInState {a0 a1 : Int} (hZ : p_Zs G) (hS : lSm V C J Vm Cm) (r0 : -2147483648 ≤ a0 ∧ a0 < 2147483648) (r1 : -2147483648 ≤ a1 ∧ a1 < 2147483648) : RM G mX10_walkersInState (c_I Y h0) (.ref (Y 0) :: [.int (iI a0), .int (iI a1)]) 98 2 12 (lP G kI ["java/lang/IndexOutOfBoundsException"] mX11_walkersInState [.int (iI a0), .int (iI a1)] (Vm, Cm, Jm)) (V, C, J) := by
  refine q_walkersInState (hZ := hZ) (hN := hS.1.1) (hO := hS.1.2.1) (h_s := r0) (h_t := r1) (hp1 := fun c => ?_) (hp := fun c => ?_)
  · exact ⟨0, rfl, fun Ym h1 => k_walkersInState (hO := hS.1.2.1) (h_s := r0) (h_t := r1) (hp1 := fun _ => ⟨⟨_, rfl, _, rfl⟩, rfl, hS.t⟩) (hp0 := fun y => absurd y c)⟩
  · exact ⟨⟨_, rfl⟩, fun Ym h1 => k_walkersInState (hO := hS.1.2.1) (h_s := r0) (h_t := r1) (hp0 := fun _ => ⟨rfl, rfl, hS.t⟩) (hp1 := fun y => absurd c y)⟩
theorem e_acceptsEmptyWord {a0 : Int} (hZ : p_Zs G) (hS : lSm V C J Vm Cm) (r0 : -2147483648 ≤ a0 ∧ a0 < 2147483648) : RM G mX10_acceptsEmptyWord (c_I Y h0) (.ref (Y 0) :: [.int (iI a0)]) 98 1 6 (lP G kI ["java/lang/IndexOutOfBoundsException"] mX11_acceptsEmptyWord [.int (iI a0)] (Vm, Cm, Jm)) (V, C, J) := by
  refine q_acceptsEmptyWord (hZ := hZ) (hN := hS.1.1) (hO := hS.1.2.1) (hs := r0) (hp0 := fun c => ?_) (hp1 := fun c => ?_)
  · exact ⟨⟨_, rfl⟩, fun Ym h1 => k_acceptsEmptyWord (hO := hS.1.2.1) (h_s := r0) (hp0 := fun _ => ⟨oI (zb_1 (hS.1.2.1.1 a0 c).2.1), rfl, hS.t⟩) (hp1 := fun y => absurd c y)⟩
  · exact ⟨0, rfl, fun Ym h1 => k_acceptsEmptyWord (hO := hS.1.2.1) (h_s := r0) (hp1 := fun _ => ⟨⟨_, rfl, _, rfl⟩, rfl, hS.t⟩) (hp0 := fun y => absurd y c)⟩
theorem e_isPassable {a0 : Int} (hZ : p_Zs G) (hS : lSm V C J Vm Cm) (r0 : -2147483648 ≤ a0 ∧ a0 < 2147483648) : RM G mX10_isPassable (c_I Y h0) (.ref (Y 0) :: [.int (iI a0)]) 98 1 6 (lP G kI ["java/lang/IndexOutOfBoundsException"] mX11_isPassable [.int (iI a0)] (Vm, Cm, Jm)) (V, C, J) := by
  refine q_isPassable (hZ := hZ) (hN := hS.1.1) (hO := hS.1.2.1) (hc := r0) (hp0 := fun c => ?_) (hp1 := fun c => ?_)
  · exact ⟨⟨_, rfl⟩, fun Ym h1 => k_isPassable (hO := hS.1.2.1) (h_c := r0) (hp0 := fun _ => ⟨oI (zb_eqz.mpr ⟨fun q => ⟨c.1, by omega, q⟩, fun q => q.2.2⟩), rfl, hS.t⟩) (hp1 := fun y => absurd c y)⟩
  · exact ⟨0, rfl, fun Ym h1 => k_isPassable (hO := hS.1.2.1) (h_c := r0) (hp1 := fun _ => ⟨⟨_, rfl, _, rfl⟩, rfl, hS.t⟩) (hp0 := fun y => absurd y c)⟩
theorem e_deadState {a0 : Int} (hZ : p_Zs G) (hS : lSm V C J Vm Cm) (r0 : -2147483648 ≤ a0 ∧ a0 < 2147483648) : RM G mX10_deadState (c_I Y h0) (.ref (Y 0) :: [.int (iI a0)]) 98 1 6 (lP G kI ["java/lang/IndexOutOfBoundsException"] mX11_deadState [.int (iI a0)] (Vm, Cm, Jm)) (V, C, J) := by
  refine q_deadState (hZ := hZ) (hN := hS.1.1) (hO := hS.1.2.1) (hX := hS.hX) (h_s := r0) (hp1 := fun c => ?_) (hp := fun c r hr => ?_)
  · exact ⟨0, rfl, fun Ym h1 => k_deadState (hO := hS.1.2.1) (h_s := r0) (hp1 := fun _ => ⟨⟨_, rfl, _, rfl⟩, rfl, hS.t⟩) (hp0 := fun y => absurd y c)⟩
  · exact ⟨⟨_, rfl⟩, fun Ym h1 => k_deadState (hO := hS.1.2.1) (h_s := r0) (hp0 := fun _ r' hr' => ⟨oI (hr'.uq hr), rfl, hS.t⟩) (hp1 := fun y => absurd c y)⟩
theorem e_distanceToAccepting {a0 a1 : Int} (hZ : p_Zs G) (hS : lSm V C J Vm Cm) (r0 : -2147483648 ≤ a0 ∧ a0 < 2147483648) (r1 : -2147483648 ≤ a1 ∧ a1 < 2147483648) : RM G mX10_distanceToAccepting (c_I Y h0) (.ref (Y 0) :: [.int (iI a0), .int (iI a1)]) 98 2 12 (lP G kI ["java/lang/IndexOutOfBoundsException"] mX11_distanceToAccepting [.int (iI a0), .int (iI a1)] (Vm, Cm, Jm)) (V, C, J) := by
  refine q_distanceToAccepting (hZ := hZ) (hN := hS.1.1) (hO := hS.1.2.1) (hX := hS.hX) (hSI := hS.hSI) (h_s := r0) (h_t := r1) (hp1 := fun c => ?_) (hp := fun c r V1 C1 hr si sv sc => ?_)
  · exact ⟨0, rfl, fun Ym h1 => k_distanceToAccepting (hO := hS.1.2.1) (h_s := r0) (h_t := r1) (hp1 := fun _ => ⟨⟨_, rfl, _, rfl⟩, rfl, hS.t⟩) (hp0 := fun y => absurd y c)⟩
  · exact ⟨⟨_, rfl⟩, fun Ym h1 => k_distanceToAccepting (hO := hS.1.2.1) (h_s := r0) (h_t := r1) (hp0 := fun _ C2 sc2 r' hr' _ => ⟨oI (wDist_uq hr' hr), rfl, (hS.cs sv sc rfl (by decide) (by decide) si).tc sc2 (by decide)⟩) (hp1 := fun y => absurd c y)⟩
theorem e_shortestLength {a0 : Int} (hZ : p_Zs G) (hS : lSm V C J Vm Cm) (r0 : -2147483648 ≤ a0 ∧ a0 < 2147483648) : RM G mX10_shortestLength (c_I Y h0) (.ref (Y 0) :: [.int (iI a0)]) 98 1 6 (lP G kI ["java/lang/IndexOutOfBoundsException"] mX11_shortestLength [.int (iI a0)] (Vm, Cm, Jm)) (V, C, J) := by
  refine q_shortestLength (hZ := hZ) (hN := hS.1.1) (hO := hS.1.2.1) (hX := hS.hX) (hSI := hS.hSI) (h_s := r0) (hp1 := fun c => ?_) (hp := fun c r V1 C1 hr si sv sc => ?_)
  · exact ⟨0, rfl, fun Ym h1 => k_shortestLength (hO := hS.1.2.1) (h_s := r0) (hp1 := fun _ => ⟨⟨_, rfl, _, rfl⟩, rfl, hS.t⟩) (hp0 := fun y => absurd y c)⟩
  · exact ⟨⟨_, rfl⟩, fun Ym h1 => k_shortestLength (hO := hS.1.2.1) (h_s := r0) (hp0 := fun _ C2 sc2 r' hr' _ => ⟨oI (wDist_uq hr' hr), rfl, (hS.cs sv sc rfl (by decide) (by decide) si).tc sc2 (by decide)⟩) (hp1 := fun y => absurd c y)⟩
theorem e_stepsHome {a0 : Int} (hZ : p_Zs G) (hS : lSm V C J Vm Cm) (r0 : -2147483648 ≤ a0 ∧ a0 < 2147483648) : RM G mX10_stepsHome (c_I Y h0) (.ref (Y 0) :: [.int (iI a0)]) 98 1 6 (lP G kI ["java/lang/IndexOutOfBoundsException"] mX11_stepsHome [.int (iI a0)] (Vm, Cm, Jm)) (V, C, J) := by
  refine q_stepsHome (hZ := hZ) (hN := hS.1.1) (hO := hS.1.2.1) (hX := hS.hX) (hSI := hS.hSI) (h_k := r0) (hp1 := fun c => ?_) (hp := fun c r V1 C1 hr si sv sc => ?_)
  · exact ⟨0, rfl, fun Ym h1 => k_stepsHome (hO := hS.1.2.1) (h_p := r0) (hp1 := fun _ => ⟨⟨_, rfl, _, rfl⟩, rfl, hS.t⟩) (hp0 := fun y => absurd y c)⟩
  · exact ⟨⟨_, rfl⟩, fun Ym h1 => k_stepsHome (hO := hS.1.2.1) (h_p := r0) (hp0 := fun _ C2 sc2 r' hr' _ => ⟨oI (wDist_uq hr' hr), rfl, (hS.cs sv sc rfl (by decide) (by decide) si).tc sc2 (by decide)⟩) (hp1 := fun y => absurd c y)⟩
theorem e_streetHome {a0 : Int} (hZ : p_Zs G) (hS : lSm V C J Vm Cm) (r0 : -2147483648 ≤ a0 ∧ a0 < 2147483648) : RM G mX10_streetHome (c_I Y h0) (.ref (Y 0) :: [.int (iI a0)]) 98 1 6 (lP G kI ["java/lang/IndexOutOfBoundsException"] mX11_streetHome [.int (iI a0)] (Vm, Cm, Jm)) (V, C, J) := by
  refine q_streetHome (hZ := hZ) (hN := hS.1.1) (hO := hS.1.2.1) (hX := hS.hX) (hSI := hS.hSI) (h_k := r0) (hp1 := fun c => ?_) (hp := fun c r V1 C1 hr si sv sc => ?_)
  · exact ⟨0, rfl, fun Ym h1 => k_streetHome (hO := hS.1.2.1) (h_p := r0) (hp1 := fun _ => ⟨⟨_, rfl, _, rfl⟩, rfl, hS.t⟩) (hp0 := fun y => absurd y c)⟩
  · exact ⟨⟨_, rfl⟩, fun Ym h1 => k_streetHome (hO := hS.1.2.1) (h_p := r0) (hp0 := fun _ C2 sc2 r' hr' => ⟨oI (wHome.uq hr' hr), rfl, (hS.cs sv sc rfl (by decide) (by decide) si).tc sc2 (by decide)⟩) (hp1 := fun y => absurd c y)⟩
theorem e_meetingSteps {a0 a1 : Int} (hZ : p_Zs G) (hS : lSm V C J Vm Cm) (r0 : -2147483648 ≤ a0 ∧ a0 < 2147483648) (r1 : -2147483648 ≤ a1 ∧ a1 < 2147483648) : RM G mX10_meetingSteps (c_I Y h0) (.ref (Y 0) :: [.int (iI a0), .int (iI a1)]) 98 2 12 (lP G kI ["java/lang/IndexOutOfBoundsException"] mX11_meetingSteps [.int (iI a0), .int (iI a1)] (Vm, Cm, Jm)) (V, C, J) := by
  refine q_meetingSteps (hZ := hZ) (hN := hS.1.1) (hO := hS.1.2.1) (hX := hS.hX) (hSI := hS.hSI) (hk := r0) (hl := r1) (hp1 := fun c => ?_) (hp := fun c r V1 C1 hr si sv sc => ?_)
  · exact ⟨0, rfl, fun Ym h1 => k_meetingSteps (hO := hS.1.2.1) (h_p := r0) (h_q := r1) (hp1 := fun _ => ⟨⟨_, rfl, _, rfl⟩, rfl, hS.t⟩) (hp0 := fun y => absurd y c)⟩
  · exact ⟨⟨_, rfl⟩, fun Ym h1 => k_meetingSteps (hO := hS.1.2.1) (h_p := r0) (h_q := r1) (hp0 := fun _ C2 sc2 r' hr' _ => ⟨oI (zLen.uq hr' hr), rfl, (hS.cs sv sc rfl (by decide) (by decide) si).tc sc2 (by decide)⟩) (hp1 := fun y => absurd c y)⟩
theorem e_acceptsInput {a0 : Int} (hZ : p_Zs G) (hS : lSm V C J Vm Cm) (r0 : -2147483648 ≤ a0 ∧ a0 < 2147483648) : RM G mX10_acceptsInput (c_I Y h0) (.ref (Y 0) :: [.int (iI a0)]) 98 1 6 (lP G kI ["java/lang/IndexOutOfBoundsException"] mX11_acceptsInput [.int (iI a0)] (Vm, Cm, Jm)) (V, C, J) := by
  have e4 := hS.2.2.2.1.1
  have n4 := hS.2.2.2.1.2.1
  have eb : ∀ j, 0 ≤ j → j < V 4 → C 2 j = Cm 6 j := fun j j0 j1 => (hS.2.2.2.1.2.2 j j0 j1).1
  refine q_acceptsInput (hZ := hZ) (hN := hS.1.1) (hO := hS.1.2.1) (hX := hS.hX) (h4 := hS.2.2.2.1.2.1) (h_s := r0) (hB := hS.hbc) (hp1 := fun c => ?_) (hp := fun c => ?_)
  · exact ⟨0, rfl, fun Ym h1 => k_acceptsInput (hO := hS.1.2.1) (h7 := hS.h7m) (hby := hS.hby) (h_s := r0) (hp1 := fun _ => ⟨⟨_, rfl, _, rfl⟩, rfl, hS.t⟩) (hp0 := fun y => absurd y c)⟩
  · exact ⟨⟨_, rfl⟩, fun Ym h1 => k_acceptsInput (hO := hS.1.2.1) (h7 := hS.h7m) (hby := hS.hby) (h_s := r0) (hp0 := fun _ => ⟨oI (by rw [← e4, wRun_cg (V 4).toNat (fun j j0 j1 => (eb j j0 (by omega)).symm)]; exact zc_cg (and_congr (bStr_cg (fun j j0 j1 => (eb j j0 j1).symm)) Iff.rfl)), rfl, hS.t⟩) (hp1 := fun y => absurd c y)⟩
theorem e_areEquivalentStates {a0 a1 a2 : Int} (hZ : p_Zs G) (hS : lSm V C J Vm Cm) (r0 : -2147483648 ≤ a0 ∧ a0 < 2147483648) (r1 : -2147483648 ≤ a1 ∧ a1 < 2147483648) (r2 : -2147483648 ≤ a2 ∧ a2 < 2147483648) : RM G mX10_areEquivalentStates (c_I Y h0) (.ref (Y 0) :: [.int (iI a0), .int (iI a1), .int (iI a2)]) 98 3 18 (lP G kI ["java/lang/IndexOutOfBoundsException"] mX11_areEquivalentStates [.int (iI a0), .int (iI a1), .int (iI a2)] (Vm, Cm, Jm)) (V, C, J) := by
  refine q_areEquivalentStates (hZ := hZ) (hN := hS.1.1) (hO := hS.1.2.1) (hX := hS.hX) (h_s := r0) (h_a := r1) (h_b := r2) (hp1 := fun c => ?_) (hq := fun c V1 C1 sv sc => ?_)
  · exact ⟨0, rfl, fun Ym h1 => k_areEquivalentStates (hO := hS.1.2.1) (h_s := r0) (h_a := r1) (h_b := r2) (hp1 := fun _ => ⟨⟨_, rfl, _, rfl⟩, rfl, hS.t⟩) (hp0 := fun y => absurd y c)⟩
  · exact ⟨⟨_, rfl⟩, fun Ym h1 => k_areEquivalentStates (hO := hS.1.2.1) (h_s := r0) (h_a := r1) (h_b := r2) (hp0 := fun _ C2 sc2 => ⟨rfl, rfl, (hS.cs sv sc rfl (by decide) (by decide) (hS.hSI.cg (sv 12 (by decide)) (sc 12 (by decide)) (sc 13 (by decide)))).tc sc2 (by decide)⟩) (hp1 := fun y => absurd c y)⟩
theorem e_minimalStateCount {a0 : Int} (hZ : p_Zs G) (hS : lSm V C J Vm Cm) (r0 : -2147483648 ≤ a0 ∧ a0 < 2147483648) : RM G mX10_minimalStateCount (c_I Y h0) (.ref (Y 0) :: [.int (iI a0)]) 98 1 6 (lP G kI ["java/lang/IndexOutOfBoundsException"] mX11_minimalStateCount [.int (iI a0)] (Vm, Cm, Jm)) (V, C, J) := by
  refine q_minimalStateCount (hZ := hZ) (hN := hS.1.1) (hO := hS.1.2.1) (hX := hS.hX) (h_s := r0) (hp1 := fun c => ?_) (hq := fun c V1 C1 sv sc => ?_)
  · exact ⟨0, rfl, fun Ym h1 => k_minimalStateCount (hO := hS.1.2.1) (h_s := r0) (hp1 := fun _ => ⟨⟨_, rfl, _, rfl⟩, rfl, hS.t⟩) (hp0 := fun y => absurd y c)⟩
  · exact ⟨⟨_, rfl⟩, fun Ym h1 => k_minimalStateCount (hO := hS.1.2.1) (h_s := r0) (hp0 := fun _ C2 sc2 => ⟨rfl, rfl, (hS.cs sv sc rfl (by decide) (by decide) (hS.hSI.cg (sv 12 (by decide)) (sc 12 (by decide)) (sc 13 (by decide)))).tc sc2 (by decide)⟩) (hp1 := fun y => absurd c y)⟩
theorem e_isFinite {a0 : Int} (hZ : p_Zs G) (hS : lSm V C J Vm Cm) (r0 : -2147483648 ≤ a0 ∧ a0 < 2147483648) : RM G mX10_isFinite (c_I Y h0) (.ref (Y 0) :: [.int (iI a0)]) 98 1 6 (lP G kI ["java/lang/IndexOutOfBoundsException"] mX11_isFinite [.int (iI a0)] (Vm, Cm, Jm)) (V, C, J) := by
  refine q_isFinite (hZ := hZ) (hN := hS.1.1) (hO := hS.1.2.1) (hX := hS.hX) (h_s := r0) (hp1 := fun c => ?_) (hq := fun c x hx => ?_)
  · exact ⟨0, rfl, fun Ym h1 => k_isFinite (hO := hS.1.2.1) (h_s := r0) (hp1 := fun _ => ⟨⟨_, rfl, _, rfl⟩, rfl, hS.t⟩) (hp0 := fun y => absurd y c)⟩
  · exact ⟨⟨_, rfl⟩, fun Ym h1 => k_isFinite (hO := hS.1.2.1) (h_s := r0) (hp0 := fun _ C2 sc2 r hr => ⟨oI (by rw [cLong.eq (hS.1.2.1.1 a0 c) (hS.hX a0 c) (hS.1.2.2 a0 c).2 hx hr]), rfl, hS.tc sc2 (by decide)⟩) (hp1 := fun y => absurd c y)⟩
theorem e_longestLength {a0 : Int} (hZ : p_Zs G) (hS : lSm V C J Vm Cm) (r0 : -2147483648 ≤ a0 ∧ a0 < 2147483648) : RM G mX10_longestLength (c_I Y h0) (.ref (Y 0) :: [.int (iI a0)]) 98 1 6 (lP G kI ["java/lang/IndexOutOfBoundsException"] mX11_longestLength [.int (iI a0)] (Vm, Cm, Jm)) (V, C, J) := by
  refine q_longestLength (hZ := hZ) (hN := hS.1.1) (hO := hS.1.2.1) (hX := hS.hX) (h_s := r0) (hp1 := fun c => ?_) (hq := fun c x hx => ?_)
  · exact ⟨0, rfl, fun Ym h1 => k_longestLength (hO := hS.1.2.1) (h_s := r0) (hp1 := fun _ => ⟨⟨_, rfl, _, rfl⟩, rfl, hS.t⟩) (hp0 := fun y => absurd y c)⟩
  · exact ⟨⟨_, rfl⟩, fun Ym h1 => k_longestLength (hO := hS.1.2.1) (h_s := r0) (hp0 := fun _ C2 sc2 r hr => ⟨oI (cLong.eq (hS.1.2.1.1 a0 c) (hS.hX a0 c) (hS.1.2.2 a0 c).2 hx hr).symm, rfl, hS.tc sc2 (by decide)⟩) (hp1 := fun y => absurd c y)⟩
theorem e_isSubset {a0 : Int} (hZ : p_Zs G) (hS : lSm V C J Vm Cm) (r0 : -2147483648 ≤ a0 ∧ a0 < 2147483648) : RM G mX10_isSubset (c_I Y h0) (.ref (Y 0) :: [.int (iI a0)]) 98 1 6 (lP G kI ["java/lang/IndexOutOfBoundsException"] mX11_isSubset [.int (iI a0)] (Vm, Cm, Jm)) (V, C, J) := by
  refine q_isSubset (hZ := hZ) (hN := hS.1.1) (hO := hS.1.2.1) (hX := hS.hX) (hSI := hS.hSI) (h_s := r0) (hp1 := fun c => ?_) (hp := fun c V1 C1 si sv sc => ?_)
  · exact ⟨0, rfl, fun Ym h1 => k_isSubset (hO := hS.1.2.1) (h_s := r0) (hp1 := fun _ => ⟨⟨_, rfl, _, rfl⟩, rfl, hS.t⟩) (hp0 := fun y => absurd y c)⟩
  · exact ⟨⟨_, rfl⟩, fun Ym h1 => k_isSubset (hO := hS.1.2.1) (h_s := r0) (hp0 := fun _ V2 C2 v12 sv2 sc2 => ⟨rfl, v12, (hS.cs sv sc rfl (by decide) (by decide) si).ms sv2 sc2 (by decide) (by decide)⟩) (hp1 := fun y => absurd c y)⟩
theorem e_wordCount {a0 a1 : Int} (hZ : p_Zs G) (hS : lSm V C J Vm Cm) (r0 : -2147483648 ≤ a0 ∧ a0 < 2147483648) (r1 : -2147483648 ≤ a1 ∧ a1 < 2147483648) : RM G mX10_wordCount (c_I Y h0) (.ref (Y 0) :: [.int (iI a0), .int (iI a1)]) 98 2 12 (lP G kJ ["java/lang/IndexOutOfBoundsException", "java/lang/IllegalArgumentException"] mX11_wordCount [.int (iI a0), .int (iI a1)] (Vm, Cm, Jm)) (V, C, J) := by
  refine q_wordCount (hZ := hZ) (hN := hS.1.1) (hO := hS.1.2.1) (hX := hS.hX) (h_s := r0) (h_n := r1) (hp1 := fun c => ?_) (hp2 := fun c => ?_) (hp := fun c J1 hj => ?_)
  · exact ⟨0, rfl, fun Ym h1 => k_wordCount (hO := hS.1.2.1) (h_s := r0) (h_n := r1) (hp1 := fun _ => ⟨⟨_, rfl, _, rfl⟩, rfl, hS.t⟩) (hp2 := fun y => absurd y.1 c) (hp0 := fun y => absurd y.1 c)⟩
  · exact ⟨1, rfl, fun Ym h1 => k_wordCount (hO := hS.1.2.1) (h_s := r0) (h_n := r1) (hp1 := fun y => absurd c.1 y) (hp2 := fun _ => ⟨⟨_, rfl, _, rfl⟩, rfl, hS.t⟩) (hp0 := fun y => absurd y.2 c.2)⟩
  · exact ⟨⟨_, rfl⟩, fun Ym h1 => k_wordCount (hO := hS.1.2.1) (h_s := r0) (h_n := r1) (hp0 := fun _ J2 => ⟨rfl, rfl, (hS.j hj).t⟩) (hp1 := fun y => absurd c.1 y) (hp2 := fun y => absurd c.2 y.2)⟩
theorem e_wordCountWithPrefix {a0 a1 : Int} (hZ : p_Zs G) (hS : lSm V C J Vm Cm) (r0 : -2147483648 ≤ a0 ∧ a0 < 2147483648) (r1 : -2147483648 ≤ a1 ∧ a1 < 2147483648) : RM G mX10_wordCountWithPrefix (c_I Y h0) (.ref (Y 0) :: [.int (iI a0), .int (iI a1)]) 98 2 12 (lP G kJ ["java/lang/IndexOutOfBoundsException", "java/lang/IllegalArgumentException"] mX11_wordCountWithPrefix [.int (iI a0), .int (iI a1)] (Vm, Cm, Jm)) (V, C, J) := by
  have e4 := hS.2.2.2.1.1
  have n4 := hS.2.2.2.1.2.1
  have eb : ∀ j, 0 ≤ j → j < V 4 → C 2 j = Cm 6 j := fun j j0 j1 => (hS.2.2.2.1.2.2 j j0 j1).1
  have ew : wPre (Cm 0) (C 2) a0 (V 4) a1 = wPre (Cm 0) (Cm 6) a0 (Vm 7) a1 := by
    rw [← e4]
    unfold wPre
    rw [wRun_cg (V 4).toNat (fun j j0 j1 => eb j j0 (by omega)), zc_cg (and_congr Iff.rfl (bStr_cg eb))]
  refine q_wordCountWithPrefix (hZ := hZ) (hN := hS.1.1) (hO := hS.1.2.1) (hX := hS.hX) (h4 := hS.2.2.2.1.2.1) (h_s := r0) (h_n := r1) (hB := hS.hbc) (hp1 := fun c => ?_) (hp2 := fun c => ?_) (hp := fun c J1 hj => ?_)
  · exact ⟨0, rfl, fun Ym h1 => k_wordCountWithPrefix (hO := hS.1.2.1) (h7 := hS.h7m) (hby := hS.hby) (h_s := r0) (h_n := r1) (hp1 := fun _ => ⟨⟨_, rfl, _, rfl⟩, rfl, hS.t⟩) (hp2 := fun y => absurd y.1 c) (hp0 := fun y => absurd y.1 c)⟩
  · exact ⟨1, rfl, fun Ym h1 => k_wordCountWithPrefix (hO := hS.1.2.1) (h7 := hS.h7m) (hby := hS.hby) (h_s := r0) (h_n := r1) (hp1 := fun y => absurd c.1 y) (hp2 := fun _ => ⟨⟨_, rfl, _, rfl⟩, rfl, hS.t⟩) (hp0 := fun y => absurd y.2 c.2)⟩
  · exact ⟨⟨_, rfl⟩, fun Ym h1 => k_wordCountWithPrefix (hO := hS.1.2.1) (h7 := hS.h7m) (hby := hS.hby) (h_s := r0) (h_n := r1) (hp0 := fun _ J2 => ⟨by rw [← ew], rfl, (hS.j hj).t⟩) (hp1 := fun y => absurd c.1 y) (hp2 := fun y => absurd c.2 y.2)⟩
theorem e_differenceLength (hZ : p_Zs G) (hS : lSm V C J Vm Cm) : RM G mX10_differenceLength (c_I Y h0) (.ref (Y 0) :: []) 99 0 0 (lP G kI [] mX11_differenceLength [] (Vm, Cm, Jm)) (V, C, J) := by
  refine q_differenceLength (hN := hS.1.1) (hO := hS.1.2.1) (hX := hS.hX) (hSI := hS.hSI) (hp := fun r V1 C1 hr si sv sc => ?_)
  · exact ⟨⟨_, rfl⟩, fun Ym h1 => k_differenceLength (hO := hS.1.2.1) (hp0 := fun V2 C2 v12 sv2 sc2 r' hr' _ => ⟨oI (zLen.uq hr' hr), v12, (hS.cs sv sc rfl (by decide) (by decide) si).ms sv2 sc2 (by decide) (by decide)⟩)⟩
theorem e_sharedLength (hZ : p_Zs G) (hS : lSm V C J Vm Cm) : RM G mX10_sharedLength (c_I Y h0) (.ref (Y 0) :: []) 99 0 0 (lP G kI [] mX11_sharedLength [] (Vm, Cm, Jm)) (V, C, J) := by
  refine q_sharedLength (hN := hS.1.1) (hO := hS.1.2.1) (hX := hS.hX) (hSI := hS.hSI) (hp := fun r V1 C1 hr si sv sc => ?_)
  · exact ⟨⟨_, rfl⟩, fun Ym h1 => k_sharedLength (hO := hS.1.2.1) (hp0 := fun V2 C2 v12 sv2 sc2 r' hr' _ => ⟨oI (zLen.uq hr' hr), v12, (hS.cs sv sc rfl (by decide) (by decide) si).ms sv2 sc2 (by decide) (by decide)⟩)⟩
theorem e_reachablePairs (hZ : p_Zs G) (hS : lSm V C J Vm Cm) : RM G mX10_reachablePairs (c_I Y h0) (.ref (Y 0) :: []) 99 0 0 (lP G kI [] mX11_reachablePairs [] (Vm, Cm, Jm)) (V, C, J) := by
  refine q_reachablePairs (hN := hS.1.1) (hO := hS.1.2.1) (hX := hS.hX) (hSI := hS.hSI) (hp := fun V1 C1 si sv sc => ?_)
  · exact ⟨⟨_, rfl⟩, fun Ym h1 => k_reachablePairs (hO := hS.1.2.1) (hp0 := fun V2 C2 v12 sv2 sc2 => ⟨rfl, v12, (hS.cs sv sc rfl (by decide) (by decide) si).ms sv2 sc2 (by decide) (by decide)⟩)⟩
theorem e_inputLength (hZ : p_Zs G) (hS : lSm V C J Vm Cm) : RM G mX10_inputLength (c_I Y h0) (.ref (Y 0) :: []) 99 0 0 (lP G kI [] mX11_inputLength [] (Vm, Cm, Jm)) (V, C, J) := by
  refine q_inputLength (hp := ?_)
  · exact ⟨⟨_, rfl⟩, fun Ym h1 => k_inputLength (hO := hS.1.2.1) (hp0 := ⟨oI hS.2.2.2.1.1.symm, rfl, hS.t⟩)⟩
theorem e_undoCount (hZ : p_Zs G) (hS : lSm V C J Vm Cm) : RM G mX10_undoCount (c_I Y h0) (.ref (Y 0) :: []) 99 0 0 (lP G kI [] mX11_undoCount [] (Vm, Cm, Jm)) (V, C, J) := by
  refine q_undoCount (hp := ?_)
  · exact ⟨⟨_, rfl⟩, fun Ym h1 => k_undoCount (hO := hS.1.2.1) (hp0 := ⟨oI hS.2.1.1.2.1.1.symm, rfl, hS.t⟩)⟩
theorem e_patternErrorKind (hZ : p_Zs G) (hS : lSm V C J Vm Cm) : RM G mX10_patternErrorKind (c_I Y h0) (.ref (Y 0) :: []) 99 0 0 (lP G kI [] mX11_patternErrorKind [] (Vm, Cm, Jm)) (V, C, J) := by
  refine q_patternErrorKind (hp := ?_)
  · exact ⟨⟨_, rfl⟩, fun Ym h1 => k_patternErrorKind (hO := hS.1.2.1) (hp0 := ⟨oI hS.2.2.2.2.1.1.symm, rfl, hS.t⟩)⟩
theorem e_patternErrorOffset (hZ : p_Zs G) (hS : lSm V C J Vm Cm) : RM G mX10_patternErrorOffset (c_I Y h0) (.ref (Y 0) :: []) 99 0 0 (lP G kI [] mX11_patternErrorOffset [] (Vm, Cm, Jm)) (V, C, J) := by
  refine q_patternErrorOffset (hp := ?_)
  · exact ⟨⟨_, rfl⟩, fun Ym h1 => k_patternErrorOffset (hO := hS.1.2.1) (hp0 := ⟨oI hS.2.2.2.2.1.2.symm, rfl, hS.t⟩)⟩
theorem e_walkerCount (hZ : p_Zs G) (hS : lSm V C J Vm Cm) : RM G mX10_walkerCount (c_I Y h0) (.ref (Y 0) :: []) 99 0 0 (lP G kI [] mX11_walkerCount [] (Vm, Cm, Jm)) (V, C, J) := by
  refine q_walkerCount (hp := ?_)
  · exact ⟨⟨_, rfl⟩, fun Ym h1 => k_walkerCount (hO := hS.1.2.1) (hp0 := ⟨oI hS.1.1.n.2.1.symm, rfl, hS.t⟩)⟩
theorem e_totalSteps (hZ : p_Zs G) (hS : lSm V C J Vm Cm) : RM G mX10_totalSteps (c_I Y h0) (.ref (Y 0) :: []) 99 0 0 (lP G kI [] mX11_totalSteps [] (Vm, Cm, Jm)) (V, C, J) := by
  refine q_totalSteps (hp := ?_)
  · exact ⟨⟨_, rfl⟩, fun Ym h1 => k_totalSteps (hO := hS.1.2.1) (hp0 := ⟨oI hS.1.1.n.2.2.symm, rfl, hS.t⟩)⟩
theorem e_isNight (hZ : p_Zs G) (hS : lSm V C J Vm Cm) : RM G mX10_isNight (c_I Y h0) (.ref (Y 0) :: []) 99 0 0 (lP G kI [] mX11_isNight [] (Vm, Cm, Jm)) (V, C, J) := by
  refine q_isNight (hn := by rw [hS.1.1.n.1]; exact hS.1.2.1.nght) (hp := ?_)
  · exact ⟨⟨_, rfl⟩, fun Ym h1 => k_isNight (hO := hS.1.2.1) (hp0 := ⟨oI ((zb_1 hS.1.2.1.nght).trans hS.1.1.n.1.symm), rfl, hS.t⟩)⟩
theorem e_reportByte {a0 : Int} (hZ : p_Zs G) (hS : lSm V C J Vm Cm) (r0 : -2147483648 ≤ a0 ∧ a0 < 2147483648) : RM G mX10_reportByte (c_I Y h0) (.ref (Y 0) :: [.int (iI a0)]) 99 0 0 (lP G kI [] mX11_reportByte [.int (iI a0)] (Vm, Cm, Jm)) (V, C, J) := by
  refine q_reportByte (hi := r0) (h3 := hS.2.2.2.2.2.1.2.1) (hp1 := fun c => ?_) (hp0 := fun c => ?_)
  · exact ⟨⟨_, rfl⟩, fun Ym h1 => k_reportByte (hO := hS.1.2.1) (h_i := r0) (hr := by have := hS.2.2.2.2.2.1; omega) (hp0 := ⟨oI ((if_pos ⟨c.1, by have := hS.2.2.2.2.2.1.1; omega⟩).trans (hS.2.2.2.2.2.1.2.2 a0 c.1 c.2).symm), rfl, hS.t⟩)⟩
  · exact ⟨⟨_, rfl⟩, fun Ym h1 => k_reportByte (hO := hS.1.2.1) (h_i := r0) (hr := by have := hS.2.2.2.2.2.1; omega) (hp0 := ⟨oI (if_neg (fun q => c ⟨q.1, by have := hS.2.2.2.2.2.1.1; omega⟩)), rfl, hS.t⟩)⟩
end C3
