/-! ===== the class: isSubset ===== -/
theorem zrun_2 {w : Int → Int} {t1 t2 l r : Int} (hO1 : wP w t1) (hO2 : wP w t2) (hl : 0 ≤ l ∧ l < w (476 * t1 + 5)) (hr : 0 ≤ r ∧ r < w (476 * t2 + 5)) (n : Nat) : ((0 ≤ zrun (wGo w t1) l n ∧ zrun (wGo w t1) l n < w (476 * t1 + 5)) ∧ 0 ≤ zrun (wGo w t2) r n ∧ zrun (wGo w t2) r n < w (476 * t2 + 5)) ∧ zrun (wNx2 w t1 t2) (60 * l + r) n = 60 * zrun (wGo w t1) l n + zrun (wGo w t2) r n := by
  have o5 := hO2.2.2.2.1
  refine zind (Q := fun n => ((0 ≤ zrun (wGo w t1) l n ∧ zrun (wGo w t1) l n < w (476 * t1 + 5)) ∧ 0 ≤ zrun (wGo w t2) r n ∧ zrun (wGo w t2) r n < w (476 * t2 + 5)) ∧ zrun (wNx2 w t1 t2) (60 * l + r) n = 60 * zrun (wGo w t1) l n + zrun (wGo w t2) r n) ?_ (fun m c hc ih => ?_) n
  · rw [zrun_0, zrun_0, zrun_0]; exact ⟨⟨hl, hr⟩, rfl⟩
  · rw [zrun_s hc, zrun_s hc, zrun_s hc, ih.2]
    obtain ⟨x, hx⟩ : ∃ x, x = zrun (wGo w t1) l m := ⟨_, rfl⟩
    obtain ⟨y, hy⟩ : ∃ y, y = zrun (wGo w t2) r m := ⟨_, rfl⟩
    rw [← hx, ← hy] at ih ⊢
    have q1 := hO1.2.2.2.2.2 x (c : Int) ih.1.1.1 ih.1.1.2 (by omega) (by omega)
    have q2 := hO2.2.2.2.2.2 y (c : Int) ih.1.2.1 ih.1.2.2 (by omega) (by omega)
    refine ⟨⟨q1, q2⟩, ?_⟩
    show 60 * w (476 * t1 + (116 + 6 * ((60 * x + y) / 60) + (c : Int))) + w (476 * t2 + (116 + 6 * ((60 * x + y) % 60) + (c : Int))) = _
    rw [show (60 * x + y) / 60 = x by omega, show (60 * x + y) % 60 = y by omega]
/-- a word of the one that isn't of the other, the pairs either way round -/
theorem zG_sub {w : Int → Int} {s : Int} (hO : wOK w) (hs : s = 0 ∨ s = 1) (n : Nat) : zGl 2 (wAcc w s (zrun (wNx2 w s (1 - s)) 0 n / 60)) (wAcc w (1 - s) (zrun (wNx2 w s (1 - s)) 0 n % 60)) ↔ wG2 w s (zrun (wNx2 w 0 1) 0 n) := by
  have a0 := hO.sts (s := 0) (Or.inl rfl)
  have a1 := hO.sts (s := 1) (Or.inr rfl)
  have e2 : ∀ {A B : Prop}, zGl 2 A B ↔ A ∧ ¬ B := fun {A B} => ⟨fun z => z.elim (fun z => absurd z.1 (by decide)) (fun z => z.elim (fun z => absurd z.1 (by decide)) (fun z => z.2)), fun z => Or.inr (Or.inr ⟨rfl, z⟩)⟩
  rw [e2]
  rcases hs with rfl | rfl
  · show _ ↔ if (0 : Int) = 0 then _ else _
    rw [if_pos rfl]
    exact Iff.rfl
  · obtain ⟨h1, h2⟩ := zrun_2 (l := 0) (r := 0) (hO.1 0 (Or.inl rfl)) (hO.1 1 (Or.inr rfl)) (by omega) (by omega) n
    obtain ⟨h3, h4⟩ := zrun_2 (l := 0) (r := 0) (hO.1 1 (Or.inr rfl)) (hO.1 0 (Or.inl rfl)) (by omega) (by omega) n
    have e0 : (60 * 0 + 0 : Int) = 0 := by decide
    rw [e0] at h2 h4
    show wAcc w 1 (zrun (wNx2 w 1 0) 0 n / 60) ∧ ¬ wAcc w 0 (zrun (wNx2 w 1 0) 0 n % 60) ↔ if (1 : Int) = 0 then _ else wAcc w 1 (zrun (wNx2 w 0 1) 0 n % 60) ∧ ¬ wAcc w 0 (zrun (wNx2 w 0 1) 0 n / 60)
    rw [if_neg (by decide), h2, h4, show (60 * zrun (wGo w 1) 0 n + zrun (wGo w 0) 0 n) / 60 = zrun (wGo w 1) 0 n by omega, show (60 * zrun (wGo w 1) 0 n + zrun (wGo w 0) 0 n) % 60 = zrun (wGo w 0) 0 n by omega, show (60 * zrun (wGo w 0) 0 n + zrun (wGo w 1) 0 n) / 60 = zrun (wGo w 0) 0 n by omega, show (60 * zrun (wGo w 0) 0 n + zrun (wGo w 1) 0 n) % 60 = zrun (wGo w 1) 0 n by omega]
