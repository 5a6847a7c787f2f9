/-! ===== an exception is thrown ===== -/
/-- what the law's start tells of a throwable's statics -/
def p_Z (G : p_G) : Prop := vx_Zq Bundle.tN "UNASSIGNED_STACK" Bundle.steD (p_A G) G.2.1 G.2.1.heap ∧ vx_Zq Bundle.tN "SUPPRESSED_SENTINEL" Bundle.listD (p_A G) G.2.1 G.2.1.heap
theorem dec_kept {args a' : Array Value} {s U : State} {x : MethodName} (hW : s.WarmedH U.vm) (h : (Cond.declares x).before args s = true) : (Cond.declares x).before a' U = true := by
  refine va_tabs (u := s.setVm U.vm) (A := args) rfl rfl ?_
  simp only [Cond.before, Cond.holds, Cond.value] at h ⊢
  rw [show ((s.setVm U.vm).methodNamed? x).bind (s.setVm U.vm).vm.method? = ((s.setVm U.vm).methodNamed? x).bind U.vm.method? from rfl, arm_named_setVm hW.alike]
  exact h
theorem cast_kept {args a' : Array Value} {s U : State} {x y : String} (hW : s.WarmedH U.vm) (h : (Cond.castable x y).before args s = true) : (Cond.castable x y).before a' U = true := by
  refine va_tabs (u := s.setVm U.vm) (A := args) rfl rfl ?_
  rw [Cond.castable_setVm hW.alike]
  exact h
/-- words that are kept -/
def p_kw (w : Cond) : Bool := goodWord w || match w with
  | .declares _ => true
  | .castable _ _ => true
  | _ => false
theorem p_kw.kept {args a' : Array Value} {s U : State} {w : Cond} (hW : s.WarmedH U.vm) (hk : p_kw w = true) (h : w.before args s = true) : w.before a' U = true := by
  unfold p_kw at hk
  rw [Bool.or_eq_true] at hk
  rcases hk with hk | hk
  · exact word_at hW (good_of_word hk) h
  · match w, hk, h with
    | .declares x, _, h => exact dec_kept hW h
    | .castable x y, _, h => exact cast_kept hW h
