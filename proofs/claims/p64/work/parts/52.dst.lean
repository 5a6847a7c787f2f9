/-! ===== the class: distances ===== -/
theorem zrun_dd {w : Int → Int} {s t : Int} (hO : wP w s) (ht : 0 ≤ t ∧ t < w (476 * s + 5)) (n : Nat) : (0 ≤ zrun (wGo w s) t n ∧ zrun (wGo w s) t n < w (476 * s + 5)) ∧ zrun (wNx2 w s s) (60 * t + t) n = 60 * zrun (wGo w s) t n + zrun (wGo w s) t n := by
  have o5 := hO.2.2.2.1
  refine zind (Q := fun n => (0 ≤ zrun (wGo w s) t n ∧ zrun (wGo w s) t n < w (476 * s + 5)) ∧ zrun (wNx2 w s s) (60 * t + t) n = 60 * zrun (wGo w s) t n + zrun (wGo w s) t n) ?_ (fun m c hc ih => ?_) n
  · rw [zrun_0, zrun_0]; exact ⟨ht, rfl⟩
  · rw [zrun_s hc, zrun_s hc, ih.2]
    obtain ⟨z, hz⟩ : ∃ z, z = zrun (wGo w s) t m := ⟨_, rfl⟩
    rw [← hz] at ih ⊢
    have q := hO.2.2.2.2.2 z (c : Int) ih.1.1 ih.1.2 (by omega) (by omega)
    refine ⟨q, ?_⟩
    show 60 * w (476 * s + (116 + 6 * ((60 * z + z) / 60) + (c : Int))) + w (476 * s + (116 + 6 * ((60 * z + z) % 60) + (c : Int))) = 60 * w (476 * s + (116 + 6 * z + (c : Int))) + w (476 * s + (116 + 6 * z + (c : Int)))
    rw [show (60 * z + z) / 60 = z by omega, show (60 * z + z) % 60 = z by omega]
theorem zG_dd {w : Int → Int} {s t : Int} (hO : wP w s) (ht : 0 ≤ t ∧ t < w (476 * s + 5)) (n : Nat) : zGl 0 (wAcc w s (zrun (wNx2 w s s) (60 * t + t) n / 60)) (wAcc w s (zrun (wNx2 w s s) (60 * t + t) n % 60)) ↔ wAcc w s (zrun (wGo w s) t n) := by
  have o5 := hO.2.2.2.1
  obtain ⟨h1, h2⟩ := zrun_dd hO ht n
  rw [zGl_0, h2, show (60 * zrun (wGo w s) t n + zrun (wGo w s) t n) / 60 = zrun (wGo w s) t n by omega, show (60 * zrun (wGo w s) t n + zrun (wGo w s) t n) % 60 = zrun (wGo w s) t n by omega]
  exact ⟨fun z => z.1, fun z => ⟨z, z⟩⟩
theorem zMin.dd {w : Int → Int} {s t : Int} {al al' : Int → Prop} {n : Nat} (hm : zMin (wNx2 w s s) al (60 * t + t) (fun y => zGl 0 (wAcc w s (y / 60)) (wAcc w s (y % 60))) n) (hO : wP w s) (ht : 0 ≤ t ∧ t < w (476 * s + 5)) (h : ∀ c, 0 ≤ c → c < 6 → (al c ↔ al' c)) : zMin (wGo w s) al' t (wAcc w s) n := ⟨(zal_cg h n).mp hm.1, (zG_dd hO ht n).mp hm.2.1, fun m a b => hm.2.2 m ((zal_cg h m).mpr a) ((zG_dd hO ht m).mpr b)⟩
theorem zNo.dd {w : Int → Int} {s t : Int} {al al' : Int → Prop} (hm : zNo (wNx2 w s s) al (60 * t + t) (fun y => zGl 0 (wAcc w s (y / 60)) (wAcc w s (y % 60)))) (hO : wP w s) (ht : 0 ≤ t ∧ t < w (476 * s + 5)) (h : ∀ c, 0 ≤ c → c < 6 → (al c ↔ al' c)) : zNo (wGo w s) al' t (wAcc w s) := fun m a b => hm m ((zal_cg h m).mpr a) ((zG_dd hO ht m).mpr b)
