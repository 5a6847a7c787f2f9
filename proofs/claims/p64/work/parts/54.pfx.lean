/-! ===== the class: pairs counted, words with a prefix ===== -/
theorem cSr.cnt {V : Nat → Int} {C : Nat → Int → Int} {w : Int → Int} {cd : Int → Nat} (h : cSr V C (wNx2 w 0 1) (fun c => zt 63 c) 0 (V 12) 0 cd) : V 12 = wCnt w := by
  rw [h.2.2.2.1.1]
  unfold wCnt
  refine zsum_cg _ (fun y y0 y1 => ?_)
  have hr := h.1.re y
  have e : (C 12 y = 1) ↔ ∃ n, zal zTr n ∧ zrun (wNx2 w 0 1) 0 n = y := by
    constructor
    · intro q
      obtain ⟨n, a, b⟩ := hr.mp ⟨⟨y0, by omega⟩, q⟩
      exact ⟨n, (zal_cg (fun c c0 c1 => iff_of_true (z63 c0 c1) trivial) n).mp a, b⟩
    · rintro ⟨n, a, b⟩
      exact (hr.mpr ⟨n, (zal_cg (fun c c0 c1 => iff_of_true (z63 c0 c1) trivial) n).mpr a, b⟩).2
  by_cases q : C 12 y = 1
  · rw [zb_t q, zc_t (e.mp q)]
  · rw [zb_f q, zc_f (fun z => q (e.mpr z))]
