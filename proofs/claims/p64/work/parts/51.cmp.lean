/-! ===== the class: its comparisons ===== -/
theorem zal_cg {al al' : Int → Prop} (h : ∀ c, 0 ≤ c → c < 6 → (al c ↔ al' c)) (n : Nat) : zal al n ↔ zal al' n := by
  refine zind (Q := fun n => zal al n ↔ zal al' n) ?_ (fun m c hc ih => ?_) n
  · exact iff_of_true zal_0 zal_0
  · rw [zal_s hc, zal_s hc, ih, h c (by omega) (by omega)]
theorem zMin.cg {nx : Int → Int → Int} {al al' : Int → Prop} {s0 : Int} {K K' : Int → Prop} {n : Nat} (hm : zMin nx al s0 K n) (h : ∀ c, 0 ≤ c → c < 6 → (al c ↔ al' c)) (hg : ∀ y, K y ↔ K' y) : zMin nx al' s0 K' n := ⟨(zal_cg h n).mp hm.1, (hg _).mp hm.2.1, fun m a b => hm.2.2 m ((zal_cg h m).mpr a) ((hg _).mpr b)⟩
theorem zNo.cg {nx : Int → Int → Int} {al al' : Int → Prop} {s0 : Int} {K K' : Int → Prop} (hm : zNo nx al s0 K) (h : ∀ c, 0 ≤ c → c < 6 → (al c ↔ al' c)) (hg : ∀ y, K y ↔ K' y) : zNo nx al' s0 K' := fun m a b => hm m ((zal_cg h m).mpr a) ((hg _).mpr b)
theorem z63n : ∀ c, c < 6 → (63 : Nat).testBit c = true := by decide
theorem z63 {c : Int} (h0 : 0 ≤ c) (h1 : c < 6) : zt 63 c := z63n c.toNat (by omega)
theorem zGl_0 {A B : Prop} : zGl 0 A B ↔ A ∧ B := ⟨fun z => z.elim (fun z => z.2) (fun z => z.elim (fun z => absurd z.1 (by decide)) (fun z => absurd z.1 (by decide))), fun z => Or.inl ⟨rfl, z⟩⟩
theorem zGl_1 {A B : Prop} : zGl 1 A B ↔ ¬ (A ↔ B) := ⟨fun z => z.elim (fun z => absurd z.1 (by decide)) (fun z => z.elim (fun z => z.2) (fun z => absurd z.1 (by decide))), fun z => Or.inr (Or.inl ⟨rfl, z⟩)⟩
theorem zGl_3 {A B : Prop} : ¬ zGl 3 A B := fun z => z.elim (fun z => absurd z.1 (by decide)) (fun z => z.elim (fun z => absurd z.1 (by decide)) (fun z => absurd z.1 (by decide)))
