/-! ===== the class: one object with all that it holds, and patterns ===== -/
/-- a pattern: its numbers, its rows, where these lie -/
abbrev c_P : Type := (Nat → Int) × (Nat → Int → Int) × (Nat → Nat)
/-- counts; where the worlds' patterns lie; the patterns -/
abbrev c_J : Type := (Int → Int) × (Nat → Nat) × (Nat → Option c_P)
abbrev c_X : Type := (Nat → Int) × (Nat → Int → Int) × c_J
def c_ia (N : Nat) (f : Int → Int) : p_E := .inl (0, (N, .inl (fun j => iI (f (j : Int)))))
def c_len (i : Nat) : Nat := if i = 2 then 200 else if i = 4 then 25 else if i = 5 then 25 else if i = 6 then 6 else if i = 7 then 60 else if i = 8 then 360 else if i = 13 then 3600 else if i = 14 then 3600 else if i = 15 then 3600 else if i = 22 then 3600 else 60
def c_base (Y : Nat → Nat) (X : c_X) (i : Nat) : p_E :=
  if i = 0 then .inr (10, [.ref (Y 1), .ref (Y 3), .ref (Y 30), .ref (Y 9), .ref (Y 34), .int (iI (X.1 0)), .int (iI (X.1 1)), .int (iI (X.1 2)), .ref (Y 11), .ref (Y 16), .ref (Y 18), .ref (Y 22), .int (iI (X.1 3))])
  else if i = 1 then .inr (1, [.ref (Y 2), .int (iI (X.1 4))])
  else if i = 3 then .inr (6, [.ref (Y 4), .ref (Y 5), .ref (Y 6), .ref (Y 7), .ref (Y 8), .int (iI (X.1 5)), .int (iI (X.1 6)), .int (iI (X.1 7)), .int (iI (X.1 8)), .ref (Y 100), .ref (Y (100 + 4 * (X.1 9).toNat))])
  else if i = 9 then .inr (0, [.ref (Y 10), .int (iI (X.1 10)), .int (iI (X.1 11))])
  else if i = 11 then .inr (3, [.ref (Y 12), .ref (Y 13), .ref (Y 14), .ref (Y 15), .int (iI (X.1 12))])
  else if i = 16 then .inr (8, [.ref (Y 17)])
  else if i = 18 then .inr (7, [.ref (Y 19), .ref (Y 20), .ref (Y 21), .int (iI (X.1 13))])
  else if i = 10 then .inl (5, (8, .inr (.inr (.inr (.inr (fun j => if j < 8 then some (Y (38 + 4 * j)) else none))))))
  else if i = 12 then .inl (2, (3600, .inl (fun j => iI (X.2.1 12 (j : Int)))))
  else if i = 17 then .inl (1, (1260, .inr (.inl (fun j => lI (X.2.2.1 (j : Int))))))
  else c_ia (c_len i) (X.2.1 i)
def c_wfs (Y : Nat → Nat) (V : Nat → Int) (R : Nat → Nat) (w : Nat) : List Value := [.int (iI (V (20 + 8 * w))), .int (iI (V (21 + 8 * w))), .int (iI (V (22 + 8 * w))), .ref (R (2 * w)), .ref (R (2 * w + 1)), .int (iI (V (23 + 8 * w))), .int (iI (V (24 + 8 * w))), .ref (Y (31 + 4 * w)), .ref (Y (32 + 4 * w)), .ref (Y (33 + 4 * w))]
def c_world (Y : Nat → Nat) (X : c_X) (w k : Nat) : p_E := if k = 0 then .inr (9, c_wfs Y X.1 X.2.2.2.1 w) else c_ia 6 (X.2.1 (30 + 4 * w + k))
def c_lfs (Y : Nat → Nat) (V : Nat → Int) (v : Nat) : List Value := [if v = 0 then .null else .ref (Y (100 + 4 * (v - 1))), if v = 20 then .null else .ref (Y (100 + 4 * (v + 1))), .ref (Y (101 + 4 * v)), .ref (Y (102 + 4 * v)), .ref (Y (103 + 4 * v)), .int (iI (V (200 + 16 * v)))]
def c_level (Y : Nat → Nat) (X : c_X) (v k : Nat) : p_E := if k = 0 then .inr (2, c_lfs Y X.1 v) else .inr (4, [.int (iI (X.1 (198 + 16 * v + 3 * k))), .int (iI (X.1 (199 + 16 * v + 3 * k))), .int (iI (X.1 (200 + 16 * v + 3 * k)))])
/-- what lies at the cell i -/
def c_cell (Y : Nat → Nat) (X : c_X) (i : Nat) : p_E := if i < 23 then c_base Y X i else if i < 70 then c_world Y X ((i - 30) / 4) ((i - 30) % 4) else c_level Y X ((i - 100) / 4) ((i - 100) % 4)
abbrev c_ok (i : Nat) : Prop := i < 23 ∨ (30 ≤ i ∧ i < 70) ∨ (100 ≤ i ∧ i < 184)
/-- the cell of a number -/
def c_own (k : Nat) : Nat := if k < 4 then 0 else if k = 4 then 1 else if k < 10 then 3 else if k < 12 then 9 else if k = 12 then 11 else if k = 13 then 18 else if k < 100 then 30 + 4 * ((k - 20) / 8) else if (k - 200) % 16 = 0 then 100 + 4 * ((k - 200) / 16) else 100 + 4 * ((k - 200) / 16) + ((k - 200) % 16 + 2) / 3
def c_pl (k : Nat) : Nat := if k = 0 then 25 else if k = 1 then 25 else if k = 2 then 6 else if k = 3 then 60 else 360
def c_pfs (p : c_P) : List Value := [.int (iI (p.1 0)), .int (iI (p.1 1)), .int (iI (p.1 2)), .int (iI (p.1 3)), .int (iI (p.1 4)), .int (iI (p.1 5)), .ref (p.2.2 0), .ref (p.2.2 1), .ref (p.2.2 2), .ref (p.2.2 3), .ref (p.2.2 4)]
/-- a pattern lies at a -/
def c_pat (Y : Nat → Nat) (h : p_H) (a : Nat) (p : c_P) : Prop := h a = some (.inr (5, c_pfs p)) ∧ (∀ k, k < 5 → h (p.2.2 k) = some (c_ia (c_pl k) (p.2.1 k))) ∧ ∀ i, c_ok i → Y i ≠ a ∧ ∀ k, k < 5 → Y i ≠ p.2.2 k
/-- no pattern lies at q -/
def c_nt (PT : Nat → Option c_P) (q : Nat) : Prop := ∀ a p, PT a = some p → a ≠ q ∧ ∀ k, k < 5 → p.2.2 k ≠ q
def c_I (Y : Nat → Nat) (h0 : p_H) : c_X → p_H → Prop := fun X h => ((∀ i, c_ok i → h (Y i) = some (c_cell Y X i)) ∧ ∀ i, c_ok i → ∀ j, c_ok j → Y i = Y j → i = j) ∧ (∀ a p, X.2.2.2.2 a = some p → c_pat Y h a p) ∧ ∀ q : Nat, h0 q ≠ none → (∀ i, c_ok i → q ≠ Y i) → h q = h0 q ∧ c_nt X.2.2.2.2 q
section CREG
variable {Y : Nat → Nat} {h0 h : p_H} {X X' : c_X} {V V' : Nat → Int} {C C' : Nat → Int → Int} {J J' : c_J} {i k w v : Nat} {x : Int}
theorem c_I.put {e : p_E} (hA : c_I Y h0 X h) (hi : c_ok i) (he : e = c_cell Y X' i) (ho : ∀ j, c_ok j → j ≠ i → c_cell Y X' j = c_cell Y X j) (hp : X'.2.2.2.2 = X.2.2.2.2) : c_I Y h0 X' (p_up h (Y i) e) := by
  obtain ⟨⟨h1, h2⟩, h3, h4⟩ := hA
  refine ⟨⟨fun j hj => ?_, h2⟩, fun a p ha => ?_, fun q hq0 hq => ?_⟩
  · by_cases z : j = i
    · subst z
      rw [p_up_eq, he]
    · rw [p_up_ne (fun y => z (h2 j hj i hi y)), ho j hj z]
      exact h1 j hj
  · rw [hp] at ha
    obtain ⟨k1, k2, k3⟩ := h3 a p ha
    have := k3 i hi
    exact ⟨by rw [p_up_ne (fun z => this.1 z.symm)]; exact k1, fun k hk => by rw [p_up_ne (fun z => this.2 k hk z.symm)]; exact k2 k hk, k3⟩
  · rw [p_up_ne (hq i hi), hp]
    exact h4 q hq0 hq
theorem c_cell_lo (hi : i < 23) : c_cell Y X i = c_base Y X i := if_pos hi
theorem c_cellW (hw : w < 10) : c_cell Y X (30 + 4 * w) = .inr (9, c_wfs Y X.1 X.2.2.2.1 w) := by
  unfold c_cell
  rw [if_neg (by omega), if_pos (by omega), show (30 + 4 * w - 30) / 4 = w by omega, show (30 + 4 * w - 30) % 4 = 0 by omega]
  rfl
theorem c_cellA (hw : w < 10) (hk : 1 ≤ k ∧ k ≤ 3) : c_cell Y X (30 + 4 * w + k) = c_ia 6 (X.2.1 (30 + 4 * w + k)) := by
  unfold c_cell
  rw [if_neg (by omega), if_pos (by omega), show (30 + 4 * w + k - 30) / 4 = w by omega, show (30 + 4 * w + k - 30) % 4 = k by omega]
  unfold c_world
  rw [if_neg (by omega)]
theorem c_cellL (hv : v < 21) : c_cell Y X (100 + 4 * v) = .inr (2, c_lfs Y X.1 v) := by
  unfold c_cell
  rw [if_neg (by omega), if_neg (by omega), show (100 + 4 * v - 100) / 4 = v by omega, show (100 + 4 * v - 100) % 4 = 0 by omega]
  rfl
theorem c_cellQ (hv : v < 21) (hk : 1 ≤ k ∧ k ≤ 3) : c_cell Y X (100 + 4 * v + k) = .inr (4, [.int (iI (X.1 (198 + 16 * v + 3 * k))), .int (iI (X.1 (199 + 16 * v + 3 * k))), .int (iI (X.1 (200 + 16 * v + 3 * k)))]) := by
  unfold c_cell
  rw [if_neg (by omega), if_neg (by omega), show (100 + 4 * v + k - 100) / 4 = v by omega, show (100 + 4 * v + k - 100) % 4 = k by omega]
  unfold c_level
  rw [if_neg (by omega)]
theorem c_cases (hi : c_ok i) : i < 23 ∨ (∃ w k, w < 10 ∧ k < 4 ∧ i = 30 + 4 * w + k) ∨ ∃ v k, v < 21 ∧ k < 4 ∧ i = 100 + 4 * v + k := by
  rcases hi with h | h | h
  · exact Or.inl h
  · exact Or.inr (Or.inl ⟨(i - 30) / 4, (i - 30) % 4, by omega, by omega, by omega⟩)
  · exact Or.inr (Or.inr ⟨(i - 100) / 4, (i - 100) % 4, by omega, by omega, by omega⟩)
theorem c_23 (hi : i < 23) : i = 0 ∨ i = 1 ∨ i = 2 ∨ i = 3 ∨ i = 4 ∨ i = 5 ∨ i = 6 ∨ i = 7 ∨ i = 8 ∨ i = 9 ∨ i = 10 ∨ i = 11 ∨ i = 12 ∨ i = 13 ∨ i = 14 ∨ i = 15 ∨ i = 16 ∨ i = 17 ∨ i = 18 ∨ i = 19 ∨ i = 20 ∨ i = 21 ∨ i = 22 := by omega
theorem c_ownW (hw : w < 10) {j : Nat} (hj : 20 + 8 * w ≤ j ∧ j < 28 + 8 * w) : c_own j = 30 + 4 * w := by
  unfold c_own
  rw [if_neg (by omega), if_neg (by omega), if_neg (by omega), if_neg (by omega), if_neg (by omega), if_neg (by omega), if_pos (by omega)]
  omega
theorem c_ownL : c_own (200 + 16 * v) = 100 + 4 * v := by
  unfold c_own
  rw [if_neg (by omega), if_neg (by omega), if_neg (by omega), if_neg (by omega), if_neg (by omega), if_neg (by omega), if_neg (by omega), if_pos (by omega)]
  omega
theorem c_ownQ (hk : 1 ≤ k ∧ k ≤ 3) {j : Nat} (hj : 198 + 16 * v + 3 * k ≤ j ∧ j ≤ 200 + 16 * v + 3 * k) : c_own j = 100 + 4 * v + k := by
  obtain ⟨r, rfl⟩ : ∃ r, j = 200 + 16 * v + r := ⟨j - (200 + 16 * v), by omega⟩
  have e1 : (200 + 16 * v + r - 200) / 16 = v := by omega
  have e2 : (200 + 16 * v + r - 200) % 16 = r := by omega
  unfold c_own
  rw [e1, e2, if_neg (by omega), if_neg (by omega), if_neg (by omega), if_neg (by omega), if_neg (by omega), if_neg (by omega), if_neg (by omega), if_neg (by omega)]
  omega
/-- a cell tells its own numbers alone -/
theorem c_cell_V (hi : c_ok i) (h : ∀ k, c_own k = i → V' k = V k) : c_cell Y (V', C, J) i = c_cell Y (V, C, J) i := by
  rcases c_cases hi with h1 | ⟨w, k, hw, hk, rfl⟩ | ⟨v, k, hv, hk, rfl⟩
  · rw [c_cell_lo h1, c_cell_lo h1]
    rcases c_23 h1 with rfl | rfl | rfl | rfl | rfl | rfl | rfl | rfl | rfl | rfl | rfl | rfl | rfl | rfl | rfl | rfl | rfl | rfl | rfl | rfl | rfl | rfl | rfl
    · simp [c_base, h 0 rfl, h 1 rfl, h 2 rfl, h 3 rfl]
    · simp [c_base, h 4 rfl]
    · rfl
    · simp [c_base, h 5 rfl, h 6 rfl, h 7 rfl, h 8 rfl, h 9 rfl]
    · rfl
    · rfl
    · rfl
    · rfl
    · rfl
    · simp [c_base, h 10 rfl, h 11 rfl]
    · rfl
    · simp [c_base, h 12 rfl]
    · rfl
    · rfl
    · rfl
    · rfl
    · rfl
    · rfl
    · simp [c_base, h 13 rfl]
    · rfl
    · rfl
    · rfl
    · rfl
  · by_cases z : k = 0
    · subst z
      rw [show 30 + 4 * w + 0 = 30 + 4 * w from rfl] at *
      rw [c_cellW hw, c_cellW hw]
      unfold c_wfs
      simp only []
      rw [h (20 + 8 * w) (c_ownW hw (by omega)), h (21 + 8 * w) (c_ownW hw (by omega)), h (22 + 8 * w) (c_ownW hw (by omega)), h (23 + 8 * w) (c_ownW hw (by omega)), h (24 + 8 * w) (c_ownW hw (by omega))]
    · rw [c_cellA hw (by omega), c_cellA hw (by omega)]
  · by_cases z : k = 0
    · subst z
      rw [show 100 + 4 * v + 0 = 100 + 4 * v from rfl] at *
      rw [c_cellL hv, c_cellL hv]
      unfold c_lfs
      simp only []
      rw [h (200 + 16 * v) c_ownL]
    · rw [c_cellQ hv (by omega), c_cellQ hv (by omega)]
      simp only []
      rw [h (198 + 16 * v + 3 * k) (c_ownQ (by omega) (by omega)), h (199 + 16 * v + 3 * k) (c_ownQ (by omega) (by omega)), h (200 + 16 * v + 3 * k) (c_ownQ (by omega) (by omega))]
theorem c_cell_C (hi : c_ok i) (h : C' i = C i) : c_cell Y (V, C', J) i = c_cell Y (V, C, J) i := by
  rcases c_cases hi with h1 | ⟨w, k, hw, hk, rfl⟩ | ⟨v, k, hv, hk, rfl⟩
  · rw [c_cell_lo h1, c_cell_lo h1]
    rcases c_23 h1 with rfl | rfl | rfl | rfl | rfl | rfl | rfl | rfl | rfl | rfl | rfl | rfl | rfl | rfl | rfl | rfl | rfl | rfl | rfl | rfl | rfl | rfl | rfl
    all_goals first | rfl | simp [c_base, h]
  · by_cases z : k = 0
    · subst z
      rw [show 30 + 4 * w + 0 = 30 + 4 * w from rfl] at *
      rw [c_cellW hw, c_cellW hw]
    · rw [c_cellA hw (by omega), c_cellA hw (by omega)]
      simp only []
      rw [h]
  · by_cases z : k = 0
    · subst z
      rw [show 100 + 4 * v + 0 = 100 + 4 * v from rfl] at *
      rw [c_cellL hv, c_cellL hv]
    · rw [c_cellQ hv (by omega), c_cellQ hv (by omega)]
theorem c_cell_J (hi : c_ok i) (h : i = 17 → J'.1 = J.1) (hr : ∀ w, i = 30 + 4 * w → J'.2.1 (2 * w) = J.2.1 (2 * w) ∧ J'.2.1 (2 * w + 1) = J.2.1 (2 * w + 1)) : c_cell Y (V, C, J') i = c_cell Y (V, C, J) i := by
  rcases c_cases hi with h1 | ⟨w, k, hw, hk, rfl⟩ | ⟨v, k, hv, hk, rfl⟩
  · rw [c_cell_lo h1, c_cell_lo h1]
    by_cases z : i = 17
    · have e := h z
      subst z
      simp [c_base, e]
    · rcases c_23 h1 with rfl | rfl | rfl | rfl | rfl | rfl | rfl | rfl | rfl | rfl | rfl | rfl | rfl | rfl | rfl | rfl | rfl | rfl | rfl | rfl | rfl | rfl | rfl
      all_goals first | rfl | exact absurd rfl z
  · by_cases z : k = 0
    · subst z
      rw [show 30 + 4 * w + 0 = 30 + 4 * w from rfl] at *
      rw [c_cellW hw, c_cellW hw]
      unfold c_wfs
      simp only []
      rw [(hr w rfl).1, (hr w rfl).2]
    · rw [c_cellA hw (by omega), c_cellA hw (by omega)]
  · by_cases z : k = 0
    · subst z
      rw [show 100 + 4 * v + 0 = 100 + 4 * v from rfl] at *
      rw [c_cellL hv, c_cellL hv]
    · rw [c_cellQ hv (by omega), c_cellQ hv (by omega)]
end CREG
section CRules
variable {G : p_G} {M : p_M} {Y : Nat → Nat} {h0 : p_H} {P : (Option Value) ⊕ String → c_X → Prop} {d k n pc : Nat} {L : p_LL} {st : List Value} {V : Nat → Int} {C : Nat → Int → Int} {J : c_J} {X : c_X}
theorem u_get {idx i ci kf : Nat} {ty : FieldType} {fin : Bool} {fs : List Value} {vv : Value} (hd : decode M.2.1 pc = .ok (.getfield idx, 3)) (hf : p_Fo M.1.cls idx ci kf ty fin) (hi : c_ok i) (hc : c_cell Y X i = .inr (ci, fs)) (hv : fs[kf]? = some vv) (kk : RW G M (c_I Y h0) P d k n (pc + 3) L (vv :: st) X) : RW G M (c_I Y h0) P d k n pc L (.ref (Y i) :: st) X :=
  fun h hI => r_get hd hf ((hI.1.1 i hi).trans (congrArg some hc)) hv (kk h hI)
theorem u_getP {idx a kf : Nat} {ty : FieldType} {fin : Bool} {p : c_P} {vv : Value} (hp : X.2.2.2.2 a = some p) (hd : decode M.2.1 pc = .ok (.getfield idx, 3)) (hf : p_Fo M.1.cls idx 5 kf ty fin) (hv : (c_pfs p)[kf]? = some vv) (kk : RW G M (c_I Y h0) P d k n (pc + 3) L (vv :: st) X) : RW G M (c_I Y h0) P d k n pc L (.ref a :: st) X :=
  fun h hI => r_get hd hf (hI.2.1 a p hp).1 hv (kk h hI)
theorem u_put {idx i ci kf kV : Nat} {ty : FieldType} {fs : List Value} {x : Int} (hd : decode M.2.1 pc = .ok (.putfield idx, 3)) (hf : p_Fo M.1.cls idx ci kf ty false) (hi : c_ok i) (hc : c_cell Y (V, C, J) i = .inr (ci, fs)) (hn : narrow ty (.int (iI x)) = .int (iI x)) (hfit : fits ty (.int (iI x)) = true) (hl : kf < fs.length) (hk : c_own kV = i) (hc' : c_cell Y (vu V kV x, C, J) i = .inr (ci, fs.set kf (.int (iI x)))) (kk : RW G M (c_I Y h0) P d k n (pc + 3) L st (vu V kV x, C, J)) : RW G M (c_I Y h0) P d k n pc L (.int (iI x) :: .ref (Y i) :: st) (V, C, J) :=
  fun h hI => r_put hd hf ((hI.1.1 i hi).trans (congrArg some hc)) hn hfit hl (kk _ (hI.put hi hc'.symm (fun j hj hji => c_cell_V hj (fun q hq => if_neg (fun e => hji (by rw [← hq, e, hk])))) rfl))
theorem u_iald {i N : Nat} {j v : Int} (hd : decode M.2.1 pc = .ok (.iaload, 1)) (hi : c_ok i) (hc : c_cell Y (V, C, J) i = c_ia N (C i)) (hN : N ≤ 60000) (hj : 0 ≤ j ∧ j < (N : Int)) (hv : C i j = v) (kk : RW G M (c_I Y h0) P d k n (pc + 1) L (.int (iI v) :: st) (V, C, J)) : RW G M (c_I Y h0) P d k n pc L (.int (iI j) :: .ref (Y i) :: st) (V, C, J) := by
  intro h hI
  refine r_iaload (N := N) (f := fun j => iI (C i j)) hd ((hI.1.1 i hi).trans (congrArg some hc)) (iI_in hj.1 hj.2 (by omega)) ?_
  rw [iI_clamp hj.1 (by omega)]
  show SW G M _ d k n h (pc + 1) L (.int (iI (C i (j.toNat : Int))) :: st)
  rw [Int.toNat_of_nonneg hj.1, hv]
  exact kk h hI
theorem u_ialdP {a q N : Nat} {j v : Int} {p : c_P} (hp : J.2.2 a = some p) (hd : decode M.2.1 pc = .ok (.iaload, 1)) (hq : q < 5) (hN : c_pl q = N) (hj : 0 ≤ j ∧ j < (N : Int)) (hv : p.2.1 q j = v) (kk : RW G M (c_I Y h0) P d k n (pc + 1) L (.int (iI v) :: st) (V, C, J)) : RW G M (c_I Y h0) P d k n pc L (.int (iI j) :: .ref (p.2.2 q) :: st) (V, C, J) := by
  intro h hI
  have hN2 : N ≤ 360 := by rw [← hN]; unfold c_pl; repeat' (first | omega | split)
  refine r_iaload (N := N) (f := fun j => iI (p.2.1 q j)) hd (by rw [← hN]; exact (hI.2.1 a p hp).2.1 q hq) (iI_in hj.1 hj.2 (by omega)) ?_
  rw [iI_clamp hj.1 (by omega)]
  show SW G M _ d k n h (pc + 1) L (.int (iI (p.2.1 q (j.toNat : Int))) :: st)
  rw [Int.toNat_of_nonneg hj.1, hv]
  exact kk h hI
theorem i_areturn {σ : Type} {I : σ → p_H → Prop} {P : (Option Value) ⊕ String → σ → Prop} {X : σ} {a : Nat} {nm : String} (hd : decode M.2.1 pc = .ok (.areturn, 1)) (hr : M.2.2.2 = some (.object nm)) (hp : P (.inl (some (.ref a))) X) : RW G M I P d k n pc L [.ref a] X := fun h hI => r_areturn hd hr (Or.inl ⟨nm, rfl⟩) (Or.inr ⟨a, rfl⟩) ⟨X, hp, hI⟩
theorem u_alenP {a q N : Nat} {p : c_P} (hp : J.2.2 a = some p) (hd : decode M.2.1 pc = .ok (.arraylength, 1)) (hq : q < 5) (hN : c_pl q = N) (kk : RW G M (c_I Y h0) P d k n (pc + 1) L (.int (iI (N : Int)) :: st) (V, C, J)) : RW G M (c_I Y h0) P d k n pc L (.ref (p.2.2 q) :: st) (V, C, J) :=
  fun h hI => r_alen hd ((hI.2.1 a p hp).2.1 q hq) (by decide) (by have e := kk h hI; rw [iI_nat] at e; rw [hN]; exact e)
theorem u_alen {i t N : Nat} {x : vp_A} (hd : decode M.2.1 pc = .ok (.arraylength, 1)) (hi : c_ok i) (hc : c_cell Y X i = .inl (t, x)) (ht : t < 6) (hN : x.1 = N) (kk : RW G M (c_I Y h0) P d k n (pc + 1) L (.int (iI (N : Int)) :: st) X) : RW G M (c_I Y h0) P d k n pc L (.ref (Y i) :: st) X :=
  fun h hI => r_alen hd ((hI.1.1 i hi).trans (congrArg some hc)) ht (by have e := kk h hI; rw [iI_nat] at e; rw [hN]; exact e)
theorem u_iast {i N : Nat} {j x : Int} (hd : decode M.2.1 pc = .ok (.iastore, 1)) (hi : c_ok i) (hc : c_cell Y (V, C, J) i = c_ia N (C i)) (hN : N ≤ 60000) (hj : 0 ≤ j ∧ j < (N : Int)) (hc' : c_cell Y (V, cu C i (zu (C i) j x), J) i = c_ia N (zu (C i) j x)) (kk : RW G M (c_I Y h0) P d k n (pc + 1) L st (V, cu C i (zu (C i) j x), J)) : RW G M (c_I Y h0) P d k n pc L (.int (iI x) :: .int (iI j) :: .ref (Y i) :: st) (V, C, J) := by
  intro h hI
  refine r_iastore (N := N) (f := fun j => iI (C i j)) hd ((hI.1.1 i hi).trans (congrArg some hc)) (iI_in hj.1 hj.2 (by omega)) ?_
  rw [iI_clamp hj.1 (by omega), zu_upd hj.1]
  exact kk _ (hI.put hi hc'.symm (fun q hq hqi => c_cell_C hq (if_neg hqi)) rfl)
theorem u_zald {j v : Int} (hd : decode M.2.1 pc = .ok (.baload, 1)) (hj : 0 ≤ j ∧ j < 3600) (hv : C 12 j = v) (kk : RW G M (c_I Y h0) P d k n (pc + 1) L (.int (iI v) :: st) (V, C, J)) : RW G M (c_I Y h0) P d k n pc L (.int (iI j) :: .ref (Y 12) :: st) (V, C, J) := by
  intro h hI
  refine r_zaload (N := 3600) (f := fun j => iI (C 12 j)) hd (hI.1.1 12 (by decide)) (iI_in hj.1 hj.2 (by omega)) ?_
  rw [iI_clamp hj.1 (by omega)]
  show SW G M _ d k n h (pc + 1) L (.int (iI (C 12 (j.toNat : Int))) :: st)
  rw [Int.toNat_of_nonneg hj.1, hv]
  exact kk h hI
theorem u_zast {j x : Int} (hd : decode M.2.1 pc = .ok (.bastore, 1)) (hx : x = 0 ∨ x = 1) (hj : 0 ≤ j ∧ j < 3600) (kk : RW G M (c_I Y h0) P d k n (pc + 1) L st (V, cu C 12 (zu (C 12) j x), J)) : RW G M (c_I Y h0) P d k n pc L (.int (iI x) :: .int (iI j) :: .ref (Y 12) :: st) (V, C, J) := by
  intro h hI
  refine r_zastore (N := 3600) (f := fun j => iI (C 12 j)) hd (hI.1.1 12 (by decide)) (iI_in hj.1 hj.2 (by omega)) ?_
  have hx2 : vp_nar .boolean (iI x) = iI x := by rcases hx with rfl | rfl <;> rfl
  rw [iI_clamp hj.1 (by omega), hx2, zu_upd hj.1]
  exact kk _ (hI.put (i := 12) (by decide) rfl (fun q hq hqi => c_cell_C hq (if_neg hqi)) rfl)
theorem u_lald {j v : Int} (hd : decode M.2.1 pc = .ok (.laload, 1)) (hj : 0 ≤ j ∧ j < 1260) (hv : J.1 j = v) (kk : RW G M (c_I Y h0) P d k n (pc + 1) L (.long (lI v) :: st) (V, C, J)) : RW G M (c_I Y h0) P d k n pc L (.int (iI j) :: .ref (Y 17) :: st) (V, C, J) := by
  intro h hI
  refine r_laload (N := 1260) (f := fun j => lI (J.1 j)) hd (hI.1.1 17 (by decide)) (iI_in hj.1 hj.2 (by omega)) ?_
  rw [iI_clamp hj.1 (by omega)]
  show SW G M _ d k n h (pc + 1) L (.long (lI (J.1 (j.toNat : Int))) :: st)
  rw [Int.toNat_of_nonneg hj.1, hv]
  exact kk h hI
theorem u_last {j x : Int} (hd : decode M.2.1 pc = .ok (.lastore, 1)) (hj : 0 ≤ j ∧ j < 1260) (kk : RW G M (c_I Y h0) P d k n (pc + 1) L st (V, C, (zu J.1 j x, J.2))) : RW G M (c_I Y h0) P d k n pc L (.long (lI x) :: .int (iI j) :: .ref (Y 17) :: st) (V, C, J) := by
  intro h hI
  refine r_lastore (N := 1260) (f := fun j => lI (J.1 j)) hd (hI.1.1 17 (by decide)) (iI_in hj.1 hj.2 (by omega)) ?_
  rw [iI_clamp hj.1 (by omega), zu_updL hj.1]
  exact kk _ (hI.put (i := 17) (by decide) rfl (fun q hq hqi => c_cell_J hq (fun e => absurd e hqi) (fun _ _ => ⟨rfl, rfl⟩)) rfl)
theorem u_aald {j : Int} (hd : decode M.2.1 pc = .ok (.aaload, 1)) (hj : 0 ≤ j ∧ j < 8) (kk : RW G M (c_I Y h0) P d k n (pc + 1) L (.ref (Y (38 + 4 * j.toNat)) :: st) X) : RW G M (c_I Y h0) P d k n pc L (.int (iI j) :: .ref (Y 10) :: st) X := by
  intro h hI
  refine r_aaload (N := 8) (f := fun j => if j < 8 then some (Y (38 + 4 * j)) else none) hd (hI.1.1 10 (by decide)) (iI_in hj.1 hj.2 (by omega)) ?_
  rw [iI_clamp hj.1 (by omega)]
  show SW _ _ _ _ _ _ _ _ _ (va_rf (if j.toNat < 8 then some (Y (38 + 4 * j.toNat)) else none) :: st)
  rw [if_pos (by omega)]
  exact kk h hI
theorem u_callV {M' : p_M} {na mc ms d' k' n' idx i ci : Nat} {fs As rest : List Value} {q : vw_C} (hd : decode M.2.1 pc = .ok (.invokevirtual idx, 3)) (hc : p_cf M' na) (hi : Cond.instanceMethod M'.1 ∈ p_ws) (hse : Cond.selects M'.1.cls M'.1 M'.1 ∈ p_ws) (hl : Cond.methodLink M.1.cls idx M'.1 ∈ p_ws) (hok : c_ok i) (hcl : c_cell Y X i = .inr (ci, fs)) (hq : vwCl[ci]? = some q) (hq1 : q.1 = M'.1.cls) (hn : As.length = na) (he : st = As.reverse ++ .ref (Y i) :: rest) (hr : (rest.map fun v => v.category).sum ≤ 8) (hk : k = mc + k') (hk2 : n = ms + n')
    (kk : RM G M' (c_I Y h0) (.ref (Y i) :: As) d' mc ms (RK G M (c_I Y h0) P (d' + 1) k' n' (pc + 3) L rest) X) : RW G M (c_I Y h0) P (d' + 1) k n pc L st X :=
  i_callV hd hc hi hse hl (fun h hI => ⟨fs, (hI.1.1 i hok).trans (congrArg some hcl)⟩) hq hq1 hn he hr hk hk2 kk
theorem u_callP {M' : p_M} {na mc ms d' k' n' idx a : Nat} {p : c_P} {As rest : List Value} (hp : X.2.2.2.2 a = some p) (hd : decode M.2.1 pc = .ok (.invokevirtual idx, 3)) (hc : p_cf M' na) (hi : Cond.instanceMethod M'.1 ∈ p_ws) (hse : Cond.selects M'.1.cls M'.1 M'.1 ∈ p_ws) (hl : Cond.methodLink M.1.cls idx M'.1 ∈ p_ws) {q : vw_C} (hq : vwCl[5]? = some q) (hq1 : q.1 = M'.1.cls) (hn : As.length = na) (he : st = As.reverse ++ .ref a :: rest) (hr : (rest.map fun v => v.category).sum ≤ 8) (hk : k = mc + k') (hk2 : n = ms + n')
    (kk : RM G M' (c_I Y h0) (.ref a :: As) d' mc ms (RK G M (c_I Y h0) P (d' + 1) k' n' (pc + 3) L rest) X) : RW G M (c_I Y h0) P (d' + 1) k n pc L st X :=
  i_callV hd hc hi hse hl (fun h hI => ⟨_, (hI.2.1 a p hp).1⟩) hq hq1 hn he hr hk hk2 kk
/-- the end of a call that throws nothing -/
def RKN {σ : Type} (G : p_G) (M : p_M) (I : σ → p_H → Prop) (P : (Option Value) ⊕ String → σ → Prop) (d k n pc : Nat) (L : p_LL) (rest : List Value) : (Option Value) ⊕ String → σ → Prop := fun o y => match o with
  | .inl none => RW G M I P d k n pc L rest y
  | .inl (some v) => RW G M I P d k n pc L (v :: rest) y
  | .inr _ => False
theorem RKN.v {σ : Type} {I : σ → p_H → Prop} {P : (Option Value) ⊕ String → σ → Prop} {X : σ} {v : Value} (kk : RW G M I P d k n pc L (v :: st) X) : RKN G M I P d k n pc L st (.inl (some v)) X := kk
theorem RKN.goes {σ : Type} {I : σ → p_H → Prop} {P : (Option Value) ⊕ String → σ → Prop} : ∀ (o : (Option Value) ⊕ String) (h' : p_H), RE I (RKN G M I P d k n pc L st) o h' → p_KN G M (RE I P) d k n pc L st o h' := by
  intro o h' hq
  obtain ⟨y, q1, q2⟩ := hq
  match o, q1 with
  | .inl none, q1 => exact q1 h' q2
  | .inl (some v), q1 => exact q1 h' q2
  | .inr E, q1 => exact q1.elim
theorem i_callSN {σ : Type} {I : σ → p_H → Prop} {P : (Option Value) ⊕ String → σ → Prop} {X : σ} {M' : p_M} {na mc ms d' k' n' idx : Nat} {host : String} {As rest : List Value} (hd : decode M.2.1 pc = .ok (.invokestatic idx, 3)) (hc : p_cf M' na) (hs : Cond.static M'.1 ∈ p_ws) (hl : Cond.methodLinkNest M.1.cls idx M'.1 host ∈ lw_tbl) (hn : As.length = na) (he : st = As.reverse ++ rest) (hr : (rest.map fun v => v.category).sum ≤ 8) (hk : k = mc + k') (hk2 : n = ms + n')
    (kk : RM G M' I As d' mc ms (RKN G M I P (d' + 1) k' n' (pc + 3) L rest) X) : RW G M I P (d' + 1) k n pc L st X :=
  fun h hI => r_callSN hd hc hs hl hn he hr hk hk2 ((kk h hI).mono RKN.goes)
end CRules
