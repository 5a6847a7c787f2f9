/-! ===== one result of reading; cells made one after another ===== -/
section C89a
variable {bs bs' : Int → Int} {sz a kd off kd' off' : Int} {x y : zSt} {N N' : Nat}
theorem zRun_cg : ∀ (k : Nat) (x : zSt), (k : Int) ≤ sz → (∀ j, 0 ≤ j → j < sz → bs j = bs' j) → zRun bs sz k x = zRun bs' sz k x
  | 0, x, _, _ => rfl
  | k + 1, x, hk, h => by
    show (match zStep (bs (sz - ((k : Int) + 1))) x with | .inl e => (.inl (e, sz - ((k : Int) + 1)) : (Int × Int) ⊕ zSt) | .inr y => zRun bs sz k y) = (match zStep (bs' (sz - ((k : Int) + 1))) x with | .inl e => (.inl (e, sz - ((k : Int) + 1)) : (Int × Int) ⊕ zSt) | .inr y => zRun bs' sz k y)
    rw [h (sz - ((k : Int) + 1)) (by omega) (by omega)]
    cases zStep (bs' (sz - ((k : Int) + 1))) x with
    | inl e => rfl
    | inr y => exact zRun_cg k y (by omega) h
theorem zRn_cg (hs : 0 ≤ sz) (h : ∀ j, 0 ≤ j → j < sz → bs j = bs' j) : zRn bs sz 0 x = zRn bs' sz 0 x := zRun_cg _ x (by omega) h
theorem zDone.uq (h : zDone x N) (h' : zDone x N') : N = N' := by
  rcases Nat.lt_trichotomy N N' with z | z | z
  · have := h'.2.1 N z
    have := h.1
    omega
  · exact z
  · have := h.2.1 N' z
    have := h'.1
    omega
theorem zDone.no (h : zDone x N) : ¬ zOver x := by
  rintro ⟨M, h1, h2⟩
  have e := h.1
  have l := h.2.2
  by_cases z : N ≤ M
  · have := h1 N z
    omega
  · have := (zD_st (ld := zLd x) (show M + 1 ≤ N by omega)).1
    omega
/-- a text that is read has no error -/
theorem zCE.no (h : zRn bs sz 0 zX0 = .inr x) (hd : zDone x N) : ¬ zCE bs sz kd off := by
  rintro (z | ⟨y, z, zo, _⟩)
  · rw [h] at z; cases z
  · rw [h] at z
    obtain rfl := Sum.inr.inj z
    exact hd.no zo
theorem zCE.uq (h : zCE bs sz kd off) (h' : zCE bs sz kd' off') : kd = kd' ∧ off = off' := by
  rcases h with z | ⟨y, z, zo, z1, z2⟩ <;> rcases h' with z' | ⟨y', z', zo', z1', z2'⟩
  · rw [z] at z'
    have := Sum.inl.inj z'
    exact ⟨congrArg Prod.fst this, congrArg Prod.snd this⟩
  · rw [z] at z'; cases z'
  · rw [z] at z'; cases z'
  · exact ⟨z1.trans z1'.symm, z2.trans z2'.symm⟩
theorem zCE.cg (hs : 0 ≤ sz) (h : ∀ j, 0 ≤ j → j < sz → bs j = bs' j) (hc : zCE bs sz kd off) : zCE bs' sz kd off := by
  unfold zCE at hc ⊢
  rw [← zRn_cg hs h]
  exact hc
end C89a
def yu (Y : Nat → Nat) (i q : Nat) : Nat → Nat := fun j => if j = i then q else Y j
def eu (E : Nat → Option p_E) (i : Nat) (e : p_E) : Nat → Option p_E := fun j => if j = i then some e else E j
/-- h is hb and the cells E at the places Y -/
def hA (hb h : p_H) (Y : Nat → Nat) (E : Nat → Option p_E) : Prop := (∀ i e, E i = some e → h (Y i) = some e ∧ hb (Y i) = none) ∧ (∀ i j, E i ≠ none → E j ≠ none → Y i = Y j → i = j) ∧ ∀ b, (∀ i, E i ≠ none → b ≠ Y i) → h b = hb b
section C89b
variable {hb h : p_H} {Y : Nat → Nat} {E : Nat → Option p_E} {i q b : Nat} {e e0 : p_E}
theorem hA.get (H : hA hb h Y E) (hi : E i = some e) : h (Y i) = some e := (H.1 i e hi).1
theorem hA.old (H : hA hb h Y E) (hb' : hb b = some e) : h b = some e := by
  rw [H.2.2 b (fun i hi z => by
    cases c : E i with
    | none => exact hi c
    | some e' =>
      have := (H.1 i e' c).2
      rw [← z, hb'] at this
      cases this)]
  exact hb'
theorem hA.new (H : hA hb h Y E) (hq : h q = none) (hi : E i = none) : hA hb (p_up h q e) (yu Y i q) (eu E i e) := by
  have ne : ∀ j, E j ≠ none → Y j ≠ q := fun j hj z => by
    cases c : E j with
    | none => exact hj c
    | some e' =>
      have := (H.1 j e' c).1
      rw [z, hq] at this
      cases this
  have hbq : hb q = none := by rw [← H.2.2 q (fun j hj z => ne j hj z.symm)]; exact hq
  have ej : ∀ j, eu E i e j ≠ none → j ≠ i → E j ≠ none := fun j hj hji => by
    unfold eu at hj
    rw [if_neg hji] at hj
    exact hj
  refine ⟨fun j e' hj => ?_, fun j k hj hk hjk => ?_, fun b hb' => ?_⟩
  · unfold eu at hj
    unfold yu
    by_cases z : j = i
    · rw [if_pos z] at hj ⊢
      obtain rfl := Option.some.inj hj
      exact ⟨p_up_eq, hbq⟩
    · rw [if_neg z] at hj ⊢
      rw [p_up_ne (ne j (by rw [hj]; exact fun c => nomatch c))]
      exact H.1 j e' hj
  · unfold yu at hjk
    by_cases z : j = i <;> by_cases y : k = i
    · rw [z, y]
    · rw [if_pos z, if_neg y] at hjk
      exact absurd hjk.symm (ne k (ej k hk y))
    · rw [if_neg z, if_pos y] at hjk
      exact absurd hjk (ne j (ej j hj z))
    · rw [if_neg z, if_neg y] at hjk
      exact H.2.1 j k (ej j hj z) (ej k hk y) hjk
  · have b1 : b ≠ q := by
      have := hb' i (by unfold eu; rw [if_pos rfl]; exact fun c => nomatch c)
      unfold yu at this
      rw [if_pos rfl] at this
      exact this
    rw [p_up_ne b1]
    refine H.2.2 b (fun j hj => ?_)
    have hji : j ≠ i := fun z => hj (by rw [z]; exact hi)
    have := hb' j (by unfold eu; rw [if_neg hji]; exact hj)
    unfold yu at this
    rw [if_neg hji] at this
    exact this
theorem hA.set (H : hA hb h Y E) (hi : E i = some e0) : hA hb (p_up h (Y i) e) Y (eu E i e) := by
  have ej : ∀ j, eu E i e j ≠ none → E j ≠ none := fun j hj => by
    by_cases z : j = i
    · rw [z, hi]; exact fun c => nomatch c
    · unfold eu at hj
      rw [if_neg z] at hj
      exact hj
  refine ⟨fun j e' hj => ?_, fun j k hj hk hjk => H.2.1 j k (ej j hj) (ej k hk) hjk, fun b hb' => ?_⟩
  · unfold eu at hj
    by_cases z : j = i
    · rw [if_pos z] at hj
      obtain rfl := Option.some.inj hj
      rw [z]
      exact ⟨p_up_eq, (H.1 i e0 hi).2⟩
    · rw [if_neg z] at hj
      rw [p_up_ne (fun y => z (H.2.1 j i (by rw [hj]; exact fun c => nomatch c) (by rw [hi]; exact fun c => nomatch c) y))]
      exact H.1 j e' hj
  · have ek : ∀ j, E j ≠ none → eu E i e j ≠ none := fun j hj => by
      unfold eu
      split
      · exact fun c => nomatch c
      · exact hj
    rw [p_up_ne (hb' i (ek i (by rw [hi]; exact fun c => nomatch c)))]
    exact H.2.2 b (fun j hj => hb' j (ek j hj))
/-- one cell that is there, the rest below -/
theorem hA.one (ha : h b = some e) (hY : Y i = b) : hA (fun c => if c = b then none else h c) h Y (eu (fun _ => none) i e) := by
  refine ⟨fun j e' hj => ?_, fun j k hj hk _ => ?_, fun c hc => ?_⟩
  · unfold eu at hj
    by_cases z : j = i
    · rw [if_pos z] at hj
      obtain rfl := Option.some.inj hj
      rw [z, hY]
      exact ⟨ha, if_pos rfl⟩
    · rw [if_neg z] at hj; cases hj
  · have : ∀ j, eu (fun _ => none) i e j ≠ none → j = i := fun j hj => Decidable.of_not_not (fun z => hj (if_neg z))
    rw [this j hj, this k hk]
  · have := hc i (by unfold eu; rw [if_pos rfl]; exact fun c => nomatch c)
    rw [hY] at this
    exact (if_neg this).symm
end C89b
