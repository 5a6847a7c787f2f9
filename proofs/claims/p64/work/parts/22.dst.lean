/-! ===== the reference: distances ===== -/
abbrev wGo (w : Int → Int) (s : Int) : Int → Int → Int := fun x c => w (476 * s + (116 + 6 * x + c))
/-- streets: all, or those that are passable -/
abbrev wAl (w : Int → Int) (p : Int) : Int → Prop := fun c => p = 0 ∨ w (971 + 2 * c + w 983) = 1
/-- the length of the least word that leads from a state to an accepting one; -1 -/
def wDist (w : Int → Int) (s t p r : Int) : Prop := (∃ n, zMin (wGo w s) (wAl w p) t (wAcc w s) n ∧ r = (zln n : Int)) ∨ (zNo (wGo w s) (wAl w p) t (wAcc w s) ∧ r = -1)
theorem wDist.ge {w : Int → Int} {s t p r : Int} (h : wDist w s t p r) : -1 ≤ r := by
  rcases h with ⟨n, _, rfl⟩ | ⟨_, rfl⟩ <;> omega
def zun (F : Int → Int) (m : Int) : Int := zsum (fun y => zb (F y = -1)) m.toNat
theorem zun_nn {F : Int → Int} {m : Int} : 0 ≤ zun F m := zsum_ge0 _ (fun j _ _ => by have := @zb_01 (F j = -1) _; omega)
theorem zun_up {F : Int → Int} {m k v : Int} (h0 : 0 ≤ k) (h1 : k < m) (h : F k = -1) (hv : v ≠ -1) : zun (zu F k v) m = zun F m - 1 := by
  unfold zun
  rw [zsum_up (f := fun i => zb (zu F k v i = -1)) (g := fun i => zb (F i = -1)) h0 _ (by omega) (fun j hj => by simp only [zu_ne hj])]
  simp only [zu_at]
  rw [zb_f hv, zb_t h]
  omega
theorem zun_1 {F : Int → Int} {m k : Int} (h0 : 0 ≤ k) (h1 : k < m) (h : F k = -1) : 1 ≤ zun F m := by
  have a := zun_up (F := F) h0 h1 h (v := 0) (by decide)
  have b := @zun_nn (zu F k 0) m
  omega
theorem zsum_1 {f : Int → Int} : ∀ n : Nat, (∀ j : Int, 0 ≤ j → j < n → f j = 1) → zsum f n = n
  | 0, _ => rfl
  | n + 1, h => by
    show zsum f n + f n = ((n + 1 : Nat) : Int)
    rw [zsum_1 n (fun j a b => h j a (by omega)), h n (by omega) (by omega)]
    omega
/-- a search's rows: the queue Q, the lengths F -/
def wQ (nx : Int → Int → Int) (al : Int → Prop) (t m : Int) (Q F : Int → Int) (e k c : Int) (cd : Int → Nat) : Prop := zBfs nx al t Q e k c cd (fun y => (0 ≤ y ∧ y < m) ∧ F y ≠ -1) ∧ (∀ i, 0 ≤ i → i < e → 0 ≤ Q i ∧ Q i < m) ∧ (∀ i, 0 ≤ i → i < e → F (Q i) = (zln (cd i) : Int)) ∧ e + zun F m = m ∧ ∀ y, 0 ≤ y → y < m → -1 ≤ F y ∧ F y < e
section WQ
variable {nx : Int → Int → Int} {al : Int → Prop} {t m : Int} {Q F : Int → Int} {e k c : Int} {cd : Int → Nat}
theorem wQ.init (hm : 0 ≤ t ∧ t < m) (h0 : Q 0 = t) (hF : ∀ y, 0 ≤ y → y < m → F y = if y = t then 0 else -1) : wQ nx al t m Q F 1 0 0 (fun _ => 0) := by
  refine ⟨zBfs.init h0 (fun y => ?_), fun i i0 i1 => ?_, fun i i0 i1 => ?_, ?_, fun y y0 y1 => ?_⟩
  · constructor
    · rintro ⟨⟨y0, y1⟩, z⟩
      rw [hF y y0 y1] at z
      refine Decidable.byContradiction (fun z2 => z (if_neg z2))
    · rintro rfl
      exact ⟨hm, by rw [hF y hm.1 hm.2, if_pos rfl]; decide⟩
  · obtain rfl : i = 0 := by omega
    rw [h0]; exact hm
  · obtain rfl : i = 0 := by omega
    rw [h0, hF t hm.1 hm.2, if_pos rfl, zln_0]; rfl
  · have a : zun F m = zun (zu (fun _ => -1) t 0) m := by
      unfold zun
      refine zsum_cg _ (fun j j0 j1 => ?_)
      rw [hF j j0 (by omega)]
      rfl
    rw [a, zun_up hm.1 hm.2 rfl (by decide)]
    unfold zun
    rw [zsum_1 _ (fun j _ _ => zb_t rfl)]
    omega
  · rw [hF y y0 y1]
    split <;> omega
theorem wQ.skip (h : wQ nx al t m Q F e k c cd) (hk : k < e) (hs : ¬ al c ∨ (0 ≤ nx (Q k) c ∧ nx (Q k) c < m) ∧ F (nx (Q k) c) ≠ -1) : wQ nx al t m Q F e k (c + 1) cd := ⟨h.1.skip hk hs, h.2⟩
theorem wQ.next (h : wQ nx al t m Q F e k 6 cd) (hk : k < e) : wQ nx al t m Q F e (k + 1) 0 cd := ⟨h.1.next hk, h.2⟩
theorem wQ.add (h : wQ nx al t m Q F e k c cd) (hk : k < e) (hc : c < 6) (ha : al c) (hr : 0 ≤ nx (Q k) c ∧ nx (Q k) c < m) (hn : F (nx (Q k) c) = -1) {Q' F' : Int → Int} (hq : ∀ j, Q' j = zu Q e (nx (Q k) c) j) (hf : ∀ j, F' j = zu F (nx (Q k) c) (F (Q k) + 1) j) :
    ∃ cd' : Int → Nat, wQ nx al t m Q' F' (e + 1) k (c + 1) cd' ∧ (∀ i, i ≠ e → cd' i = cd i) ∧ (cd' e : Int) = 6 * cd k + c + 1 := by
  obtain ⟨h1, h2, h3, h4, h5⟩ := h
  have hk0 := h1.1.2.1
  have fk := h3 k hk0 hk
  have nk := h2 k hk0 hk
  have hF : F' = zu F (nx (Q k) c) (F (Q k) + 1) := funext hf
  obtain ⟨cd', a1, a2, a3⟩ := h1.add hk hc ha (fun z => z.2 hn) (q' := Q') (seen' := fun y => (0 ≤ y ∧ y < m) ∧ F' y ≠ -1) hq (fun y => by
    by_cases z : y = nx (Q k) c
    · rw [hf, z, zu_at]
      exact ⟨fun _ => Or.inr rfl, fun _ => ⟨hr, by omega⟩⟩
    · rw [hf, zu_ne z]
      exact ⟨Or.inl, fun q => q.resolve_right z⟩)
  refine ⟨cd', ⟨a1, fun i i0 i1 => ?_, fun i i0 i1 => ?_, ?_, fun y y0 y1 => ?_⟩, a2, a3⟩
  · by_cases z : i = e
    · rw [hq, z, zu_at]; exact hr
    · rw [hq, zu_ne z]; exact h2 i i0 (by omega)
  · by_cases z : i = e
    · rw [hq, z, zu_at, hf, zu_at, fk]
      have : cd' e = 6 * cd k + c.toNat + 1 := by have := h1.1.2.2.2; omega
      have hc0 := h1.1.2.2.2
      rw [this, zln_s (by omega)]
      rfl
    · have z2 : Q i ≠ nx (Q k) c := fun q => by
        have := h3 i i0 (by omega)
        rw [q, hn] at this
        omega
      rw [hq, zu_ne z, hf, zu_ne z2, a2 i z]
      exact h3 i i0 (by omega)
  · rw [hF, zun_up hr.1 hr.2 hn (by omega)]
    omega
  · rw [hf]
    by_cases z : y = nx (Q k) c
    · have := h5 (Q k) nk.1 nk.2
      rw [z, zu_at]; omega
    · have := h5 y y0 y1
      rw [zu_ne z]; omega
theorem wQ.rm (h : wQ nx al t m Q F e k c cd) : 1 ≤ e ∧ 0 ≤ k ∧ k ≤ e ∧ 0 ≤ c ∧ e ≤ m := by
  have a := h.1.1
  have b := h.2.2.2.1
  have c := @zun_nn F m
  omega
theorem wQ.lt (h : wQ nx al t m Q F e k c cd) {y : Int} (y0 : 0 ≤ y) (y1 : y < m) (hn : F y = -1) : e < m := by
  have b := h.2.2.2.1
  have c := zun_1 y0 y1 hn
  omega
theorem wQ.kp (h : wQ nx al t m Q F e k c cd) {Q' F' : Int → Int} (hq : Q' = Q) (hf : F' = F) : wQ nx al t m Q' F' e k c cd := by
  rw [hq, hf]; exact h
end WQ
section M22
variable {G : p_G} {Y : Nat → Nat} {h0 : p_H} {d : Nat} {V : Nat → Int} {C : Nat → Int → Int} {J : Int → Int}
/-- the street that begins a shortest way home -/
def wHome (w : Int → Int) (s t r : Int) : Prop := (∃ n, zMin (wGo w s) (wAl w 1) t (wAcc w s) n ∧ ((n = 0 ∧ r = -1) ∨ (n ≠ 0 ∧ r = (zfst n : Int)))) ∨ (zNo (wGo w s) (wAl w 1) t (wAcc w s) ∧ r = -1)
theorem wHome.no {w : Int → Int} {s t r : Int} (h : wDist w s t 1 r) (h0 : r ≤ 0) : wHome w s t (-1) := by
  rcases h with ⟨n, hn, rfl⟩ | ⟨hn, _⟩
  · exact Or.inl ⟨n, hn, Or.inl ⟨zln_0' (by omega), rfl⟩⟩
  · exact Or.inr ⟨hn, rfl⟩
theorem zfst_lt {n : Nat} (h : n ≠ 0) : zfst n < 6 := by
  obtain ⟨c, u, hc, rfl⟩ := zpre_ex n h
  rw [zpre_fst hc]; exact hc
/-- the first street of those from which it's one step less -/
theorem wHome.of {w : Int → Int} {s t r c : Int} (h : wDist w s t 1 r) (h0 : 0 < r) (c0 : 0 ≤ c) (c1 : c < 6) (ha : w (971 + 2 * c + w 983) = 1) (hc : wDist w s (w (476 * s + (116 + 6 * t + c))) 1 (r - 1)) (hb : ∀ c', 0 ≤ c' → c' < c → w (971 + 2 * c' + w 983) = 1 → ¬ wDist w s (w (476 * s + (116 + 6 * t + c'))) 1 (r - 1)) : wHome w s t c := by
  rcases h with ⟨n, hn, hr⟩ | ⟨_, rfl⟩
  · have n0 : n ≠ 0 := fun z => by rw [z, zln_0] at hr; omega
    refine Or.inl ⟨n, hn, Or.inr ⟨n0, ?_⟩⟩
    obtain ⟨c2, u, hc2, rfl⟩ := zpre_ex n n0
    rw [zpre_fst hc2]
    rw [zpre_ln hc2] at hr
    have hn1 := hn.1
    have hn2 := hn.2.1
    rw [zpre_al hc2] at hn1
    rw [zpre_run hc2] at hn2
    -- what a street c with a least word m of one step less gives
    have key : ∀ (d : Nat), d < 6 → w (971 + 2 * (d : Int) + w 983) = 1 → ∀ m, zMin (wGo w s) (wAl w 1) (wGo w s t (d : Int)) (wAcc w s) m → zpre c2 u ≤ zpre d m := fun d hd hal m hm => by
      refine hn.2.2 _ ?_ ?_
      · rw [zpre_al hd]; exact ⟨Or.inr hal, hm.1⟩
      · rw [zpre_run hd]; exact hm.2.1
    have hlt : ¬ c < (c2 : Int) := fun z => by
      rcases hc with ⟨m, hm, hmr⟩ | ⟨_, q⟩
      · have ec : ((c.toNat : Nat) : Int) = c := Int.toNat_of_nonneg c0
        have k1 := key c.toNat (by omega) (by rw [ec]; exact ha) m (by rw [ec]; exact hm)
        have k2 := zln_near m u (by omega)
        unfold zpre at k1
        have e1 : zln m = zln u := by omega
        rw [e1] at k1 k2
        have e2 : (c.toNat + 2) * 6 ^ zln u ≤ (c2 + 1) * 6 ^ zln u := Nat.mul_le_mul_right _ (by omega)
        rw [show c.toNat + 2 = (c.toNat + 1) + 1 by omega, Nat.add_mul (c.toNat + 1) 1, Nat.one_mul] at e2
        omega
      · omega
    have hgt : ¬ (c2 : Int) < c := fun z => by
      have ha2 : w (971 + 2 * (c2 : Int) + w 983) = 1 := hn1.1.resolve_left (by decide)
      refine hb (c2 : Int) (by omega) z ha2 (Or.inl ?_)
      -- the least word from there is as long as u
      have ex : ∃ m, zMin (wGo w s) (wAl w 1) (wGo w s t (c2 : Int)) (wAcc w s) m := zMin_ex ⟨u, hn1.2, hn2⟩
      obtain ⟨m, hm⟩ := ex
      refine ⟨m, hm, ?_⟩
      have k1 := key c2 hc2 ha2 m hm
      have k2 := hm.2.2 u hn1.2 hn2
      have k3 : zpre c2 u = zpre c2 m := by
        have l1 := zln_mono _ _ k1
        rw [zpre_ln hc2, zpre_ln hc2] at l1
        have l2 := zln_mono _ _ k2
        have l3 : zln m = zln u := by omega
        unfold zpre at k1 ⊢
        rw [l3] at k1 ⊢
        omega
      have l4 : zln (zpre c2 u) = zln (zpre c2 m) := by rw [k3]
      rw [zpre_ln hc2, zpre_ln hc2] at l4
      omega
    omega
  · omega
/-- one of the streets is such -/
theorem wHome.ex {w : Int → Int} {s t r : Int} (h : wDist w s t 1 r) (h0 : 0 < r) : ∃ c, 0 ≤ c ∧ c < 6 ∧ w (971 + 2 * c + w 983) = 1 ∧ wDist w s (w (476 * s + (116 + 6 * t + c))) 1 (r - 1) := by
  rcases h with ⟨n, hn, hr⟩ | ⟨_, rfl⟩
  · have n0 : n ≠ 0 := fun z => by rw [z, zln_0] at hr; omega
    obtain ⟨c2, u, hc2, rfl⟩ := zpre_ex n n0
    rw [zpre_ln hc2] at hr
    have hn1 := hn.1
    have hn2 := hn.2.1
    rw [zpre_al hc2] at hn1
    rw [zpre_run hc2] at hn2
    obtain ⟨m, hm⟩ := zMin_ex (nx := wGo w s) (al := wAl w 1) (s0 := wGo w s t (c2 : Int)) (G := wAcc w s) ⟨u, hn1.2, hn2⟩
    refine ⟨c2, by omega, by omega, hn1.1.resolve_left (by decide), Or.inl ⟨m, hm, ?_⟩⟩
    have k1 : zpre c2 u ≤ zpre c2 m := by
      refine hn.2.2 _ ?_ ?_
      · rw [zpre_al hc2]; exact ⟨hn1.1, hm.1⟩
      · rw [zpre_run hc2]; exact hm.2.1
    have l1 := zln_mono _ _ k1
    rw [zpre_ln hc2, zpre_ln hc2] at l1
    have l2 := zln_mono _ _ (hm.2.2 u hn1.2 hn2)
    omega
  · omega
theorem wDist_uq {w : Int → Int} {s t p r r2 : Int} (h : wDist w s t p r) (h2 : wDist w s t p r2) : r = r2 := by
  rcases h with ⟨n, hn, rfl⟩ | ⟨hn, rfl⟩ <;> rcases h2 with ⟨m, hm, rfl⟩ | ⟨hm, rfl⟩
  · rw [hn.uq hm]
  · exact (hn.no hm).elim
  · exact (hm.no hn).elim
  · rfl
end M22
