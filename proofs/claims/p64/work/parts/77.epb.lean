/-! ===== the class: the end of a piece, of a branch; operators ===== -/
abbrev zMr (m : Int) : Prop := 0 ≤ m ∧ m < 33554432
def zOKp (q : zPt) : Prop := zMr q.2.1 ∧ zMr q.2.2
def zOKl (l : zLv) : Prop := zOKp l.1 ∧ zOKp l.2.1 ∧ ∀ Q, l.2.2 = some Q → zOKp Q
def zOKf (fo : Int → Int) : Prop := ∀ p, 1 ≤ p → p ≤ 24 → zMr (fo p)
section C77a
variable {fo : Int → Int} {l : zLv} {A B Q : zPt} {b x : Int}
theorem zOKf.af (h : zOKf fo) (hx : zMr x) : zOKf (zAF b x fo) := fun p p0 p1 => by
  unfold zAF
  split
  · exact zo_rg (h p p0 p1) hx
  · exact h p p0 p1
theorem zOKp.jn (hB : zOKp B) (hQ : zOKp Q) : zOKp (zJn B Q) := by
  unfold zOKp zJn
  refine ⟨?_, ?_⟩
  · dsimp only; split
    · exact zo_rg hB.1 hQ.1
    · exact hB.1
  · dsimp only; split
    · exact zo_rg hB.2 hQ.2
    · exact hQ.2
theorem zOKp.or (hB : zOKp A) (hQ : zOKp B) : zOKp (zOr A B) := ⟨zo_rg hB.1 hQ.1, zo_rg hB.2 hQ.2⟩
theorem zOKl.ep (h : zOKl l) (hf : zOKf fo) : zOKf (zEp fo l).1 ∧ zOKp (zEp fo l).2 := by
  obtain ⟨A, B, o⟩ := l
  cases o with
  | none => exact ⟨hf, h.2.1⟩
  | some Q => exact ⟨hf.af (h.2.2 Q rfl).1, h.2.1.jn (h.2.2 Q rfl)⟩
theorem zOKl.eb (h : zOKl l) (hf : zOKf fo) : zOKf (zEb fo l).1 ∧ zOKp (zEb fo l).2 := ⟨(h.ep hf).1, h.1.or (h.ep hf).2⟩
theorem zOKp.op (h : zOKp Q) (hf : zOKf fo) : zOKf (zOp b fo Q).1 ∧ zOKp (zOp b fo Q).2 := by
  refine ⟨?_, h⟩
  unfold zOp
  dsimp only
  split
  · exact hf.af h.1
  · exact hf
end C77a
section C77
variable {G : p_G} {Y : Nat → Nat} {h0 : p_H} {P : (Option Value) ⊕ String → c_X → Prop} {d : Nat} {V : Nat → Int} {C : Nat → Int → Int} {J : c_J}
variable {v : Nat} {l : zLv}
theorem q_endPiece  (h9 : V 9 = (v : Int)) (hv : v < 21) (hl : cLv V v l) (ho : zOKl l) (hf : zOKf (C 5)) (hp : ∀ V' C', cLv V' v (l.1, (zEp (C 5) l).2, none) → C' 5 = (zEp (C 5) l).1 → lFr v V V' → sC [5] C C' → P (.inl none) (V', C', J)) : RM G mX6_endPiece (c_I Y h0) [.ref (Y 3)] (d + 1) 0 0 P (V, C, J) := by
  refine RM.of (L := [some (.ref (Y 3)), none, none, none, none]) cfX6_endPiece rfl (Nat.le_of_ble_eq_true rfl) ?_
  obtain ⟨A, ⟨b1, bf, bl⟩, o⟩ := l
  rcases hl.2.2 with ⟨e, h0⟩ | ⟨⟨q1, qf, ql⟩, e, h1, hQ⟩
  · obtain rfl : o = none := e
    refine i_aload_n dX6_endPiece_0 rfl ?_
    refine u_get (i := 3) (vv := .ref (Y (100 + 4 * v))) dX6_endPiece_1 fX6_40 (by decide) rfl (c_l9 h9) ?_
    refine u_getL (v := v) (vv := .int (iI (V (200 + 16 * v)))) dX6_endPiece_4 fX6_135 (by omega) rfl ?_
    refine RW.ti h0 ?_
    refine i_if_ne (tgt := 11) dX6_endPiece_7 (by decide) (by decide) (fun c7 => by omega) (fun c7 => ?_)
    refine i_return dX6_endPiece_10 rfl ?_
    exact hp _ _ ⟨hl.1, hl.2.1, Or.inl ⟨rfl, h0⟩⟩ rfl (fun _ _ => rfl) sC.rfl
  · obtain rfl : o = some (q1, qf, ql) := e
    have r1 : zMr bf := ho.2.1.1
    have r2 : zMr bl := ho.2.1.2
    have r3 : zMr qf := (ho.2.2 _ rfl).1
    have r4 : zMr ql := (ho.2.2 _ rfl).2
    cases b1 <;> cases q1
    · -- False False
      refine i_aload_n dX6_endPiece_0 rfl ?_
      refine u_get (i := 3) (vv := .ref (Y (100 + 4 * v))) dX6_endPiece_1 fX6_40 (by decide) rfl (c_l9 h9) ?_
      refine u_getL (v := v) (vv := .int (iI (V (200 + 16 * v)))) dX6_endPiece_4 fX6_135 (by omega) rfl ?_
      refine RW.ti h1 ?_
      refine i_if_ne (tgt := 11) dX6_endPiece_7 (by decide) (by decide) (fun c7 => ?_) (fun c7 => by omega)
      refine i_aload_n dX6_endPiece_11 rfl ?_
      refine u_get (i := 3) (vv := .ref (Y (100 + 4 * v))) dX6_endPiece_12 fX6_40 (by decide) rfl (c_l9 h9) ?_
      refine u_getL (v := v) (vv := .ref (Y (100 + 4 * v + 2))) dX6_endPiece_15 fX6_145 (by omega) c_lf2 ?_
      refine i_astore_n dX6_endPiece_18 (L' := [some _, some _, none, none, none]) (by decide) rfl ?_
      refine i_aload_n dX6_endPiece_19 rfl ?_
      refine u_get (i := 3) (vv := .ref (Y (100 + 4 * v))) dX6_endPiece_20 fX6_40 (by decide) rfl (c_l9 h9) ?_
      refine u_getL (v := v) (vv := .ref (Y (100 + 4 * v + 3))) dX6_endPiece_23 fX6_138 (by omega) c_lf3 ?_
      refine i_astore_n dX6_endPiece_26 (L' := [some _, some _, some _, none, none]) (by decide) rfl ?_
      refine i_aload_n dX6_endPiece_27 rfl ?_
      refine i_aload_n dX6_endPiece_28 rfl ?_
      refine u_getQ (v := v) (k := 2) (vv := .int (iI (V (200 + 16 * v + 3 * 2)))) dX6_endPiece_29 fX6_132 (by omega) (by decide) rfl ?_
      refine RW.ti (show _ = bl from hl.2.1.2.2) ?_
      refine i_aload_n dX6_endPiece_32 rfl ?_
      refine u_getQ (v := v) (k := 3) (vv := .int (iI (V (199 + 16 * v + 3 * 3)))) dX6_endPiece_33 fX6_129 (by omega) (by decide) rfl ?_
      refine RW.ti (show _ = qf from hQ.2.1) ?_
      refine u_callV (i := 3) (mc := 0) (ms := 0) (As := [_, _]) dX6_endPiece_36 cfX6_addFollow imX6_addFollow seX6_addFollow lX6_141 (by decide) rfl rfl rfl rfl rfl (Nat.le_of_ble_eq_true rfl) (Nat.zero_add _).symm (Nat.zero_add _).symm ?_
      refine q_addFollow (b := bl) (x := qf) (by omega) (by omega) hf (fun C1 sc1 e1 => RK.n0 ?_)
      refine i_aload_n dX6_endPiece_39 rfl ?_
      refine u_getQ (v := v) (k := 2) (vv := .int (iI (V (198 + 16 * v + 3 * 2)))) dX6_endPiece_40 fX6_123 (by omega) (by decide) rfl ?_
      refine RW.ti (hl.2.1.1.trans bI_f) ?_
      refine i_if_eq (tgt := 58) dX6_endPiece_43 (by decide) (by decide) (fun c43 => ?_) (fun c43 => by omega)
      refine i_aload_n dX6_endPiece_58 rfl ?_
      refine u_getQ (v := v) (k := 2) (vv := .int (iI (V (199 + 16 * v + 3 * 2)))) dX6_endPiece_59 fX6_129 (by omega) (by decide) rfl ?_
      refine RW.ti (show _ = bf from hl.2.1.2.1) ?_
      refine i_istore_n dX6_endPiece_62 (L' := [some _, some _, some _, some _, none]) (by decide) rfl ?_
      refine i_aload_n dX6_endPiece_63 rfl ?_
      refine u_getQ (v := v) (k := 3) (vv := .int (iI (V (198 + 16 * v + 3 * 3)))) dX6_endPiece_64 fX6_123 (by omega) (by decide) rfl ?_
      refine RW.ti (hQ.1.trans bI_f) ?_
      refine i_if_eq (tgt := 82) dX6_endPiece_67 (by decide) (by decide) (fun c67 => ?_) (fun c67 => by omega)
      refine i_aload_n dX6_endPiece_82 rfl ?_
      refine u_getQ (v := v) (k := 3) (vv := .int (iI (V (200 + 16 * v + 3 * 3)))) dX6_endPiece_83 fX6_132 (by omega) (by decide) rfl ?_
      refine RW.ti (show _ = ql from hQ.2.2) ?_
      refine i_istore dX6_endPiece_86 (L' := [some _, some _, some _, some _, some _]) (by decide) rfl ?_
      refine i_aload_n dX6_endPiece_88 rfl ?_
      refine i_aload_n dX6_endPiece_89 rfl ?_
      refine u_getQ (v := v) (k := 2) (vv := .int (iI (V (198 + 16 * v + 3 * 2)))) dX6_endPiece_90 fX6_123 (by omega) (by decide) rfl ?_
      refine RW.ti (hl.2.1.1.trans bI_f) ?_
      refine i_if_eq (tgt := 107) dX6_endPiece_93 (by decide) (by decide) (fun c93 => ?_) (fun c93 => by omega)
      refine i_const dX6_endPiece_107 ?_
      refine i_iload_n dX6_endPiece_108 rfl ?_
      refine i_iload dX6_endPiece_109 rfl ?_
      refine u_callV (i := 100 + 4 * v + 2) (mc := 0) (ms := 0) (As := [_, _, _]) dX6_endPiece_111 cfX4_set imX4_set seX4_set lX6_148 (c_okL (v := v) (k := 2) (by omega) (by decide)) (c_cellQ (v := v) (k := 2) (by omega) (by decide)) rfl rfl rfl rfl (Nat.le_of_ble_eq_true rfl) (Nat.zero_add _).symm (Nat.zero_add _).symm ?_
      refine q_set (v := v) (k := 2) (q := (false, bf, ql)) (by omega) (by decide) (fun V2 pa2 pf2 => RK.n0 ?_)
      have h9s : V2 9 = (v : Int) := (pf2 9 (by omega)).trans h9
      refine i_aload_n dX6_endPiece_114 rfl ?_
      refine u_get (i := 3) (vv := .ref (Y (100 + 4 * v))) dX6_endPiece_115 fX6_40 (by decide) rfl (c_l9 h9s) ?_
      refine i_const dX6_endPiece_118 ?_
      refine u_putL (v := v) dX6_endPiece_119 fX6_135 (by omega) rfl rfl ?_
      refine i_return dX6_endPiece_122 rfl ?_
      refine hp _ _ ⟨hl.1.cg (fun i i0 i1 => ?_), pa2.cg (fun i i0 i1 => vu_ne (by omega)), Or.inl ⟨rfl, vu_at⟩⟩ e1 (fun i hi => ?_) sc1
      · rw [vu_ne (by omega)]; exact pf2 i (by omega)
      · rw [vu_ne (by omega)]; exact pf2 i (by omega)
    · -- False True
      refine i_aload_n dX6_endPiece_0 rfl ?_
      refine u_get (i := 3) (vv := .ref (Y (100 + 4 * v))) dX6_endPiece_1 fX6_40 (by decide) rfl (c_l9 h9) ?_
      refine u_getL (v := v) (vv := .int (iI (V (200 + 16 * v)))) dX6_endPiece_4 fX6_135 (by omega) rfl ?_
      refine RW.ti h1 ?_
      refine i_if_ne (tgt := 11) dX6_endPiece_7 (by decide) (by decide) (fun c7 => ?_) (fun c7 => by omega)
      refine i_aload_n dX6_endPiece_11 rfl ?_
      refine u_get (i := 3) (vv := .ref (Y (100 + 4 * v))) dX6_endPiece_12 fX6_40 (by decide) rfl (c_l9 h9) ?_
      refine u_getL (v := v) (vv := .ref (Y (100 + 4 * v + 2))) dX6_endPiece_15 fX6_145 (by omega) c_lf2 ?_
      refine i_astore_n dX6_endPiece_18 (L' := [some _, some _, none, none, none]) (by decide) rfl ?_
      refine i_aload_n dX6_endPiece_19 rfl ?_
      refine u_get (i := 3) (vv := .ref (Y (100 + 4 * v))) dX6_endPiece_20 fX6_40 (by decide) rfl (c_l9 h9) ?_
      refine u_getL (v := v) (vv := .ref (Y (100 + 4 * v + 3))) dX6_endPiece_23 fX6_138 (by omega) c_lf3 ?_
      refine i_astore_n dX6_endPiece_26 (L' := [some _, some _, some _, none, none]) (by decide) rfl ?_
      refine i_aload_n dX6_endPiece_27 rfl ?_
      refine i_aload_n dX6_endPiece_28 rfl ?_
      refine u_getQ (v := v) (k := 2) (vv := .int (iI (V (200 + 16 * v + 3 * 2)))) dX6_endPiece_29 fX6_132 (by omega) (by decide) rfl ?_
      refine RW.ti (show _ = bl from hl.2.1.2.2) ?_
      refine i_aload_n dX6_endPiece_32 rfl ?_
      refine u_getQ (v := v) (k := 3) (vv := .int (iI (V (199 + 16 * v + 3 * 3)))) dX6_endPiece_33 fX6_129 (by omega) (by decide) rfl ?_
      refine RW.ti (show _ = qf from hQ.2.1) ?_
      refine u_callV (i := 3) (mc := 0) (ms := 0) (As := [_, _]) dX6_endPiece_36 cfX6_addFollow imX6_addFollow seX6_addFollow lX6_141 (by decide) rfl rfl rfl rfl rfl (Nat.le_of_ble_eq_true rfl) (Nat.zero_add _).symm (Nat.zero_add _).symm ?_
      refine q_addFollow (b := bl) (x := qf) (by omega) (by omega) hf (fun C3 sc3 e3 => RK.n0 ?_)
      refine i_aload_n dX6_endPiece_39 rfl ?_
      refine u_getQ (v := v) (k := 2) (vv := .int (iI (V (198 + 16 * v + 3 * 2)))) dX6_endPiece_40 fX6_123 (by omega) (by decide) rfl ?_
      refine RW.ti (hl.2.1.1.trans bI_f) ?_
      refine i_if_eq (tgt := 58) dX6_endPiece_43 (by decide) (by decide) (fun c43 => ?_) (fun c43 => by omega)
      refine i_aload_n dX6_endPiece_58 rfl ?_
      refine u_getQ (v := v) (k := 2) (vv := .int (iI (V (199 + 16 * v + 3 * 2)))) dX6_endPiece_59 fX6_129 (by omega) (by decide) rfl ?_
      refine RW.ti (show _ = bf from hl.2.1.2.1) ?_
      refine i_istore_n dX6_endPiece_62 (L' := [some _, some _, some _, some _, none]) (by decide) rfl ?_
      refine i_aload_n dX6_endPiece_63 rfl ?_
      refine u_getQ (v := v) (k := 3) (vv := .int (iI (V (198 + 16 * v + 3 * 3)))) dX6_endPiece_64 fX6_123 (by omega) (by decide) rfl ?_
      refine RW.ti (hQ.1.trans bI_t) ?_
      refine i_if_eq (tgt := 82) dX6_endPiece_67 (by decide) (by decide) (fun c67 => by omega) (fun c67 => ?_)
      refine i_aload_n dX6_endPiece_70 rfl ?_
      refine u_getQ (v := v) (k := 2) (vv := .int (iI (V (200 + 16 * v + 3 * 2)))) dX6_endPiece_71 fX6_132 (by omega) (by decide) rfl ?_
      refine RW.ti (show _ = bl from hl.2.1.2.2) ?_
      refine i_aload_n dX6_endPiece_74 rfl ?_
      refine u_getQ (v := v) (k := 3) (vv := .int (iI (V (200 + 16 * v + 3 * 3)))) dX6_endPiece_75 fX6_132 (by omega) (by decide) rfl ?_
      refine RW.ti (show _ = ql from hQ.2.2) ?_
      refine i_or dX6_endPiece_78 (by omega) (by omega) ?_
      refine i_goto (tgt := 86) dX6_endPiece_79 (by decide) ?_
      refine i_istore dX6_endPiece_86 (L' := [some _, some _, some _, some _, some _]) (by decide) rfl ?_
      refine i_aload_n dX6_endPiece_88 rfl ?_
      refine i_aload_n dX6_endPiece_89 rfl ?_
      refine u_getQ (v := v) (k := 2) (vv := .int (iI (V (198 + 16 * v + 3 * 2)))) dX6_endPiece_90 fX6_123 (by omega) (by decide) rfl ?_
      refine RW.ti (hl.2.1.1.trans bI_f) ?_
      refine i_if_eq (tgt := 107) dX6_endPiece_93 (by decide) (by decide) (fun c93 => ?_) (fun c93 => by omega)
      refine i_const dX6_endPiece_107 ?_
      refine i_iload_n dX6_endPiece_108 rfl ?_
      refine i_iload dX6_endPiece_109 rfl ?_
      refine u_callV (i := 100 + 4 * v + 2) (mc := 0) (ms := 0) (As := [_, _, _]) dX6_endPiece_111 cfX4_set imX4_set seX4_set lX6_148 (c_okL (v := v) (k := 2) (by omega) (by decide)) (c_cellQ (v := v) (k := 2) (by omega) (by decide)) rfl rfl rfl rfl (Nat.le_of_ble_eq_true rfl) (Nat.zero_add _).symm (Nat.zero_add _).symm ?_
      refine q_set (v := v) (k := 2) (q := (false, bf, zo bl ql)) (by omega) (by decide) (fun V4 pa4 pf4 => RK.n0 ?_)
      have h9s : V4 9 = (v : Int) := (pf4 9 (by omega)).trans h9
      refine i_aload_n dX6_endPiece_114 rfl ?_
      refine u_get (i := 3) (vv := .ref (Y (100 + 4 * v))) dX6_endPiece_115 fX6_40 (by decide) rfl (c_l9 h9s) ?_
      refine i_const dX6_endPiece_118 ?_
      refine u_putL (v := v) dX6_endPiece_119 fX6_135 (by omega) rfl rfl ?_
      refine i_return dX6_endPiece_122 rfl ?_
      refine hp _ _ ⟨hl.1.cg (fun i i0 i1 => ?_), pa4.cg (fun i i0 i1 => vu_ne (by omega)), Or.inl ⟨rfl, vu_at⟩⟩ e3 (fun i hi => ?_) sc3
      · rw [vu_ne (by omega)]; exact pf4 i (by omega)
      · rw [vu_ne (by omega)]; exact pf4 i (by omega)
    · -- True False
      refine i_aload_n dX6_endPiece_0 rfl ?_
      refine u_get (i := 3) (vv := .ref (Y (100 + 4 * v))) dX6_endPiece_1 fX6_40 (by decide) rfl (c_l9 h9) ?_
      refine u_getL (v := v) (vv := .int (iI (V (200 + 16 * v)))) dX6_endPiece_4 fX6_135 (by omega) rfl ?_
      refine RW.ti h1 ?_
      refine i_if_ne (tgt := 11) dX6_endPiece_7 (by decide) (by decide) (fun c7 => ?_) (fun c7 => by omega)
      refine i_aload_n dX6_endPiece_11 rfl ?_
      refine u_get (i := 3) (vv := .ref (Y (100 + 4 * v))) dX6_endPiece_12 fX6_40 (by decide) rfl (c_l9 h9) ?_
      refine u_getL (v := v) (vv := .ref (Y (100 + 4 * v + 2))) dX6_endPiece_15 fX6_145 (by omega) c_lf2 ?_
      refine i_astore_n dX6_endPiece_18 (L' := [some _, some _, none, none, none]) (by decide) rfl ?_
      refine i_aload_n dX6_endPiece_19 rfl ?_
      refine u_get (i := 3) (vv := .ref (Y (100 + 4 * v))) dX6_endPiece_20 fX6_40 (by decide) rfl (c_l9 h9) ?_
      refine u_getL (v := v) (vv := .ref (Y (100 + 4 * v + 3))) dX6_endPiece_23 fX6_138 (by omega) c_lf3 ?_
      refine i_astore_n dX6_endPiece_26 (L' := [some _, some _, some _, none, none]) (by decide) rfl ?_
      refine i_aload_n dX6_endPiece_27 rfl ?_
      refine i_aload_n dX6_endPiece_28 rfl ?_
      refine u_getQ (v := v) (k := 2) (vv := .int (iI (V (200 + 16 * v + 3 * 2)))) dX6_endPiece_29 fX6_132 (by omega) (by decide) rfl ?_
      refine RW.ti (show _ = bl from hl.2.1.2.2) ?_
      refine i_aload_n dX6_endPiece_32 rfl ?_
      refine u_getQ (v := v) (k := 3) (vv := .int (iI (V (199 + 16 * v + 3 * 3)))) dX6_endPiece_33 fX6_129 (by omega) (by decide) rfl ?_
      refine RW.ti (show _ = qf from hQ.2.1) ?_
      refine u_callV (i := 3) (mc := 0) (ms := 0) (As := [_, _]) dX6_endPiece_36 cfX6_addFollow imX6_addFollow seX6_addFollow lX6_141 (by decide) rfl rfl rfl rfl rfl (Nat.le_of_ble_eq_true rfl) (Nat.zero_add _).symm (Nat.zero_add _).symm ?_
      refine q_addFollow (b := bl) (x := qf) (by omega) (by omega) hf (fun C5 sc5 e5 => RK.n0 ?_)
      refine i_aload_n dX6_endPiece_39 rfl ?_
      refine u_getQ (v := v) (k := 2) (vv := .int (iI (V (198 + 16 * v + 3 * 2)))) dX6_endPiece_40 fX6_123 (by omega) (by decide) rfl ?_
      refine RW.ti (hl.2.1.1.trans bI_t) ?_
      refine i_if_eq (tgt := 58) dX6_endPiece_43 (by decide) (by decide) (fun c43 => by omega) (fun c43 => ?_)
      refine i_aload_n dX6_endPiece_46 rfl ?_
      refine u_getQ (v := v) (k := 2) (vv := .int (iI (V (199 + 16 * v + 3 * 2)))) dX6_endPiece_47 fX6_129 (by omega) (by decide) rfl ?_
      refine RW.ti (show _ = bf from hl.2.1.2.1) ?_
      refine i_aload_n dX6_endPiece_50 rfl ?_
      refine u_getQ (v := v) (k := 3) (vv := .int (iI (V (199 + 16 * v + 3 * 3)))) dX6_endPiece_51 fX6_129 (by omega) (by decide) rfl ?_
      refine RW.ti (show _ = qf from hQ.2.1) ?_
      refine i_or dX6_endPiece_54 (by omega) (by omega) ?_
      refine i_goto (tgt := 62) dX6_endPiece_55 (by decide) ?_
      refine i_istore_n dX6_endPiece_62 (L' := [some _, some _, some _, some _, none]) (by decide) rfl ?_
      refine i_aload_n dX6_endPiece_63 rfl ?_
      refine u_getQ (v := v) (k := 3) (vv := .int (iI (V (198 + 16 * v + 3 * 3)))) dX6_endPiece_64 fX6_123 (by omega) (by decide) rfl ?_
      refine RW.ti (hQ.1.trans bI_f) ?_
      refine i_if_eq (tgt := 82) dX6_endPiece_67 (by decide) (by decide) (fun c67 => ?_) (fun c67 => by omega)
      refine i_aload_n dX6_endPiece_82 rfl ?_
      refine u_getQ (v := v) (k := 3) (vv := .int (iI (V (200 + 16 * v + 3 * 3)))) dX6_endPiece_83 fX6_132 (by omega) (by decide) rfl ?_
      refine RW.ti (show _ = ql from hQ.2.2) ?_
      refine i_istore dX6_endPiece_86 (L' := [some _, some _, some _, some _, some _]) (by decide) rfl ?_
      refine i_aload_n dX6_endPiece_88 rfl ?_
      refine i_aload_n dX6_endPiece_89 rfl ?_
      refine u_getQ (v := v) (k := 2) (vv := .int (iI (V (198 + 16 * v + 3 * 2)))) dX6_endPiece_90 fX6_123 (by omega) (by decide) rfl ?_
      refine RW.ti (hl.2.1.1.trans bI_t) ?_
      refine i_if_eq (tgt := 107) dX6_endPiece_93 (by decide) (by decide) (fun c93 => by omega) (fun c93 => ?_)
      refine i_aload_n dX6_endPiece_96 rfl ?_
      refine u_getQ (v := v) (k := 3) (vv := .int (iI (V (198 + 16 * v + 3 * 3)))) dX6_endPiece_97 fX6_123 (by omega) (by decide) rfl ?_
      refine RW.ti (hQ.1.trans bI_f) ?_
      refine i_if_eq (tgt := 107) dX6_endPiece_100 (by decide) (by decide) (fun c100 => ?_) (fun c100 => by omega)
      refine i_const dX6_endPiece_107 ?_
      refine i_iload_n dX6_endPiece_108 rfl ?_
      refine i_iload dX6_endPiece_109 rfl ?_
      refine u_callV (i := 100 + 4 * v + 2) (mc := 0) (ms := 0) (As := [_, _, _]) dX6_endPiece_111 cfX4_set imX4_set seX4_set lX6_148 (c_okL (v := v) (k := 2) (by omega) (by decide)) (c_cellQ (v := v) (k := 2) (by omega) (by decide)) rfl rfl rfl rfl (Nat.le_of_ble_eq_true rfl) (Nat.zero_add _).symm (Nat.zero_add _).symm ?_
      refine q_set (v := v) (k := 2) (q := (false, zo bf qf, ql)) (by omega) (by decide) (fun V6 pa6 pf6 => RK.n0 ?_)
      have h9s : V6 9 = (v : Int) := (pf6 9 (by omega)).trans h9
      refine i_aload_n dX6_endPiece_114 rfl ?_
      refine u_get (i := 3) (vv := .ref (Y (100 + 4 * v))) dX6_endPiece_115 fX6_40 (by decide) rfl (c_l9 h9s) ?_
      refine i_const dX6_endPiece_118 ?_
      refine u_putL (v := v) dX6_endPiece_119 fX6_135 (by omega) rfl rfl ?_
      refine i_return dX6_endPiece_122 rfl ?_
      refine hp _ _ ⟨hl.1.cg (fun i i0 i1 => ?_), pa6.cg (fun i i0 i1 => vu_ne (by omega)), Or.inl ⟨rfl, vu_at⟩⟩ e5 (fun i hi => ?_) sc5
      · rw [vu_ne (by omega)]; exact pf6 i (by omega)
      · rw [vu_ne (by omega)]; exact pf6 i (by omega)
    · -- True True
      refine i_aload_n dX6_endPiece_0 rfl ?_
      refine u_get (i := 3) (vv := .ref (Y (100 + 4 * v))) dX6_endPiece_1 fX6_40 (by decide) rfl (c_l9 h9) ?_
      refine u_getL (v := v) (vv := .int (iI (V (200 + 16 * v)))) dX6_endPiece_4 fX6_135 (by omega) rfl ?_
      refine RW.ti h1 ?_
      refine i_if_ne (tgt := 11) dX6_endPiece_7 (by decide) (by decide) (fun c7 => ?_) (fun c7 => by omega)
      refine i_aload_n dX6_endPiece_11 rfl ?_
      refine u_get (i := 3) (vv := .ref (Y (100 + 4 * v))) dX6_endPiece_12 fX6_40 (by decide) rfl (c_l9 h9) ?_
      refine u_getL (v := v) (vv := .ref (Y (100 + 4 * v + 2))) dX6_endPiece_15 fX6_145 (by omega) c_lf2 ?_
      refine i_astore_n dX6_endPiece_18 (L' := [some _, some _, none, none, none]) (by decide) rfl ?_
      refine i_aload_n dX6_endPiece_19 rfl ?_
      refine u_get (i := 3) (vv := .ref (Y (100 + 4 * v))) dX6_endPiece_20 fX6_40 (by decide) rfl (c_l9 h9) ?_
      refine u_getL (v := v) (vv := .ref (Y (100 + 4 * v + 3))) dX6_endPiece_23 fX6_138 (by omega) c_lf3 ?_
      refine i_astore_n dX6_endPiece_26 (L' := [some _, some _, some _, none, none]) (by decide) rfl ?_
      refine i_aload_n dX6_endPiece_27 rfl ?_
      refine i_aload_n dX6_endPiece_28 rfl ?_
      refine u_getQ (v := v) (k := 2) (vv := .int (iI (V (200 + 16 * v + 3 * 2)))) dX6_endPiece_29 fX6_132 (by omega) (by decide) rfl ?_
      refine RW.ti (show _ = bl from hl.2.1.2.2) ?_
      refine i_aload_n dX6_endPiece_32 rfl ?_
      refine u_getQ (v := v) (k := 3) (vv := .int (iI (V (199 + 16 * v + 3 * 3)))) dX6_endPiece_33 fX6_129 (by omega) (by decide) rfl ?_
      refine RW.ti (show _ = qf from hQ.2.1) ?_
      refine u_callV (i := 3) (mc := 0) (ms := 0) (As := [_, _]) dX6_endPiece_36 cfX6_addFollow imX6_addFollow seX6_addFollow lX6_141 (by decide) rfl rfl rfl rfl rfl (Nat.le_of_ble_eq_true rfl) (Nat.zero_add _).symm (Nat.zero_add _).symm ?_
      refine q_addFollow (b := bl) (x := qf) (by omega) (by omega) hf (fun C7 sc7 e7 => RK.n0 ?_)
      refine i_aload_n dX6_endPiece_39 rfl ?_
      refine u_getQ (v := v) (k := 2) (vv := .int (iI (V (198 + 16 * v + 3 * 2)))) dX6_endPiece_40 fX6_123 (by omega) (by decide) rfl ?_
      refine RW.ti (hl.2.1.1.trans bI_t) ?_
      refine i_if_eq (tgt := 58) dX6_endPiece_43 (by decide) (by decide) (fun c43 => by omega) (fun c43 => ?_)
      refine i_aload_n dX6_endPiece_46 rfl ?_
      refine u_getQ (v := v) (k := 2) (vv := .int (iI (V (199 + 16 * v + 3 * 2)))) dX6_endPiece_47 fX6_129 (by omega) (by decide) rfl ?_
      refine RW.ti (show _ = bf from hl.2.1.2.1) ?_
      refine i_aload_n dX6_endPiece_50 rfl ?_
      refine u_getQ (v := v) (k := 3) (vv := .int (iI (V (199 + 16 * v + 3 * 3)))) dX6_endPiece_51 fX6_129 (by omega) (by decide) rfl ?_
      refine RW.ti (show _ = qf from hQ.2.1) ?_
      refine i_or dX6_endPiece_54 (by omega) (by omega) ?_
      refine i_goto (tgt := 62) dX6_endPiece_55 (by decide) ?_
      refine i_istore_n dX6_endPiece_62 (L' := [some _, some _, some _, some _, none]) (by decide) rfl ?_
      refine i_aload_n dX6_endPiece_63 rfl ?_
      refine u_getQ (v := v) (k := 3) (vv := .int (iI (V (198 + 16 * v + 3 * 3)))) dX6_endPiece_64 fX6_123 (by omega) (by decide) rfl ?_
      refine RW.ti (hQ.1.trans bI_t) ?_
      refine i_if_eq (tgt := 82) dX6_endPiece_67 (by decide) (by decide) (fun c67 => by omega) (fun c67 => ?_)
      refine i_aload_n dX6_endPiece_70 rfl ?_
      refine u_getQ (v := v) (k := 2) (vv := .int (iI (V (200 + 16 * v + 3 * 2)))) dX6_endPiece_71 fX6_132 (by omega) (by decide) rfl ?_
      refine RW.ti (show _ = bl from hl.2.1.2.2) ?_
      refine i_aload_n dX6_endPiece_74 rfl ?_
      refine u_getQ (v := v) (k := 3) (vv := .int (iI (V (200 + 16 * v + 3 * 3)))) dX6_endPiece_75 fX6_132 (by omega) (by decide) rfl ?_
      refine RW.ti (show _ = ql from hQ.2.2) ?_
      refine i_or dX6_endPiece_78 (by omega) (by omega) ?_
      refine i_goto (tgt := 86) dX6_endPiece_79 (by decide) ?_
      refine i_istore dX6_endPiece_86 (L' := [some _, some _, some _, some _, some _]) (by decide) rfl ?_
      refine i_aload_n dX6_endPiece_88 rfl ?_
      refine i_aload_n dX6_endPiece_89 rfl ?_
      refine u_getQ (v := v) (k := 2) (vv := .int (iI (V (198 + 16 * v + 3 * 2)))) dX6_endPiece_90 fX6_123 (by omega) (by decide) rfl ?_
      refine RW.ti (hl.2.1.1.trans bI_t) ?_
      refine i_if_eq (tgt := 107) dX6_endPiece_93 (by decide) (by decide) (fun c93 => by omega) (fun c93 => ?_)
      refine i_aload_n dX6_endPiece_96 rfl ?_
      refine u_getQ (v := v) (k := 3) (vv := .int (iI (V (198 + 16 * v + 3 * 3)))) dX6_endPiece_97 fX6_123 (by omega) (by decide) rfl ?_
      refine RW.ti (hQ.1.trans bI_t) ?_
      refine i_if_eq (tgt := 107) dX6_endPiece_100 (by decide) (by decide) (fun c100 => by omega) (fun c100 => ?_)
      refine i_const dX6_endPiece_103 ?_
      refine i_goto (tgt := 108) dX6_endPiece_104 (by decide) ?_
      refine i_iload_n dX6_endPiece_108 rfl ?_
      refine i_iload dX6_endPiece_109 rfl ?_
      refine u_callV (i := 100 + 4 * v + 2) (mc := 0) (ms := 0) (As := [_, _, _]) dX6_endPiece_111 cfX4_set imX4_set seX4_set lX6_148 (c_okL (v := v) (k := 2) (by omega) (by decide)) (c_cellQ (v := v) (k := 2) (by omega) (by decide)) rfl rfl rfl rfl (Nat.le_of_ble_eq_true rfl) (Nat.zero_add _).symm (Nat.zero_add _).symm ?_
      refine q_set (v := v) (k := 2) (q := (true, zo bf qf, zo bl ql)) (by omega) (by decide) (fun V8 pa8 pf8 => RK.n0 ?_)
      have h9s : V8 9 = (v : Int) := (pf8 9 (by omega)).trans h9
      refine i_aload_n dX6_endPiece_114 rfl ?_
      refine u_get (i := 3) (vv := .ref (Y (100 + 4 * v))) dX6_endPiece_115 fX6_40 (by decide) rfl (c_l9 h9s) ?_
      refine i_const dX6_endPiece_118 ?_
      refine u_putL (v := v) dX6_endPiece_119 fX6_135 (by omega) rfl rfl ?_
      refine i_return dX6_endPiece_122 rfl ?_
      refine hp _ _ ⟨hl.1.cg (fun i i0 i1 => ?_), pa8.cg (fun i i0 i1 => vu_ne (by omega)), Or.inl ⟨rfl, vu_at⟩⟩ e7 (fun i hi => ?_) sc7
      · rw [vu_ne (by omega)]; exact pf8 i (by omega)
      · rw [vu_ne (by omega)]; exact pf8 i (by omega)
theorem q_endBranch  (h9 : V 9 = (v : Int)) (hv : v < 21) (hl : cLv V v l) (ho : zOKl l) (hf : zOKf (C 5)) (hp : ∀ V' C', cLv V' v ((zEb (C 5) l).2, (true, 0, 0), none) → C' 5 = (zEb (C 5) l).1 → lFr v V V' → sC [5] C C' → P (.inl none) (V', C', J)) : RM G mX6_endBranch (c_I Y h0) [.ref (Y 3)] (d + 2) 0 0 P (V, C, J) := by
  refine RM.of (L := [some (.ref (Y 3)), none, none]) cfX6_endBranch rfl (Nat.le_of_ble_eq_true rfl) ?_
  refine i_aload_n dX6_endBranch_0 rfl ?_
  refine u_callV (i := 3) (mc := 0) (ms := 0) (As := []) dX6_endBranch_1 cfX6_endPiece imX6_endPiece seX6_endPiece lX6_113 (by decide) rfl rfl rfl rfl rfl (Nat.le_of_ble_eq_true rfl) (Nat.zero_add _).symm (Nat.zero_add _).symm ?_
  refine q_endPiece h9 hv hl ho hf (fun V1 C1 ll1 e1 lf1 sc1 => RK.n0 ?_)
  have ho2 := (ho.ep hf).2
  have h92 : V1 9 = (v : Int) := (lf1 9 (by omega)).trans h9
  unfold zEb at hp
  obtain ⟨E, hE⟩ : ∃ E, E = (zEp (C 5) l).2 := ⟨_, rfl⟩
  rw [← hE] at hp ho2 ll1
  obtain ⟨⟨a1, af, al⟩, B, o⟩ := l
  obtain ⟨ee, ef, el⟩ := E
  have r1 : zMr af := ho.1.1
  have r2 : zMr al := ho.1.2
  have r3 : zMr ef := ho2.1
  have r4 : zMr el := ho2.2
  clear hE
  cases a1 <;> cases ee
  · -- False False
    refine i_aload_n dX6_endBranch_4 rfl ?_
    refine u_get (i := 3) (vv := .ref (Y (100 + 4 * v))) dX6_endBranch_5 fX6_40 (by decide) rfl (c_l9 h92) ?_
    refine u_getL (v := v) (vv := .ref (Y (100 + 4 * v + 1))) dX6_endBranch_8 fX6_47 (by omega) c_lf1 ?_
    refine i_astore_n dX6_endBranch_11 (L' := [some _, some _, none]) (by decide) rfl ?_
    refine i_aload_n dX6_endBranch_12 rfl ?_
    refine u_get (i := 3) (vv := .ref (Y (100 + 4 * v))) dX6_endBranch_13 fX6_40 (by decide) rfl (c_l9 h92) ?_
    refine u_getL (v := v) (vv := .ref (Y (100 + 4 * v + 2))) dX6_endBranch_16 fX6_145 (by omega) c_lf2 ?_
    refine i_astore_n dX6_endBranch_19 (L' := [some _, some _, some _]) (by decide) rfl ?_
    refine i_aload_n dX6_endBranch_20 rfl ?_
    refine i_aload_n dX6_endBranch_21 rfl ?_
    refine u_getQ (v := v) (k := 1) (vv := .int (iI (V1 (198 + 16 * v + 3 * 1)))) dX6_endBranch_22 fX6_123 (by omega) (by decide) rfl ?_
    refine RW.ti (ll1.1.1.trans bI_f) ?_
    refine i_if_ne (tgt := 35) dX6_endBranch_25 (by decide) (by decide) (fun c25 => by omega) (fun c25 => ?_)
    refine i_aload_n dX6_endBranch_28 rfl ?_
    refine u_getQ (v := v) (k := 2) (vv := .int (iI (V1 (198 + 16 * v + 3 * 2)))) dX6_endBranch_29 fX6_123 (by omega) (by decide) rfl ?_
    refine RW.ti (ll1.2.1.1.trans bI_f) ?_
    refine i_if_eq (tgt := 39) dX6_endBranch_32 (by decide) (by decide) (fun c32 => ?_) (fun c32 => by omega)
    refine i_const dX6_endBranch_39 ?_
    refine i_aload_n dX6_endBranch_40 rfl ?_
    refine u_getQ (v := v) (k := 1) (vv := .int (iI (V1 (199 + 16 * v + 3 * 1)))) dX6_endBranch_41 fX6_129 (by omega) (by decide) rfl ?_
    refine RW.ti (show _ = af from ll1.1.2.1) ?_
    refine i_aload_n dX6_endBranch_44 rfl ?_
    refine u_getQ (v := v) (k := 2) (vv := .int (iI (V1 (199 + 16 * v + 3 * 2)))) dX6_endBranch_45 fX6_129 (by omega) (by decide) rfl ?_
    refine RW.ti (show _ = ef from ll1.2.1.2.1) ?_
    refine i_or dX6_endBranch_48 (by omega) (by omega) ?_
    refine i_aload_n dX6_endBranch_49 rfl ?_
    refine u_getQ (v := v) (k := 1) (vv := .int (iI (V1 (200 + 16 * v + 3 * 1)))) dX6_endBranch_50 fX6_132 (by omega) (by decide) rfl ?_
    refine RW.ti (show _ = al from ll1.1.2.2) ?_
    refine i_aload_n dX6_endBranch_53 rfl ?_
    refine u_getQ (v := v) (k := 2) (vv := .int (iI (V1 (200 + 16 * v + 3 * 2)))) dX6_endBranch_54 fX6_132 (by omega) (by decide) rfl ?_
    refine RW.ti (show _ = el from ll1.2.1.2.2) ?_
    refine i_or dX6_endBranch_57 (by omega) (by omega) ?_
    refine u_callV (i := 100 + 4 * v + 1) (mc := 0) (ms := 0) (As := [_, _, _]) dX6_endBranch_58 cfX4_set imX4_set seX4_set lX6_148 (c_okL (v := v) (k := 1) (by omega) (by decide)) (c_cellQ (v := v) (k := 1) (by omega) (by decide)) rfl rfl rfl rfl (Nat.le_of_ble_eq_true rfl) (Nat.zero_add _).symm (Nat.zero_add _).symm ?_
    refine q_set (v := v) (k := 1) (q := (false, zo af ef, zo al el)) (by omega) (by decide) (fun V2 pa2 pf2 => RK.n0 ?_)
    have h93 : V2 9 = (v : Int) := (pf2 9 (by omega)).trans h92
    have hl3 : cLv V2 v (_, _, none) := ⟨pa2, ll1.2.1.cg (fun i i0 i1 => pf2 i (by omega)), Or.inl ⟨rfl, (pf2 _ (by omega)).trans (ll1.2.2.elim (fun z => z.2) (fun ⟨_, z, _⟩ => nomatch z))⟩⟩
    refine i_aload_n dX6_endBranch_61 rfl ?_
    refine u_get (i := 3) (vv := .ref (Y (100 + 4 * v))) dX6_endBranch_62 fX6_40 (by decide) rfl (c_l9 h93) ?_
    refine u_callV (i := 100 + 4 * v) (mc := 0) (ms := 0) (As := []) dX6_endBranch_65 cfX2_beginBranch imX2_beginBranch seX2_beginBranch lX6_151 (c_okL (v := v) (k := 0) (by omega) (by decide)) (c_cellL (v := v) (by omega)) rfl rfl rfl rfl (Nat.le_of_ble_eq_true rfl) (Nat.zero_add _).symm (Nat.zero_add _).symm ?_
    refine q_beginBranch (v := v) (by omega) hl3 (fun V3 bl3 bf3 => RK.n0 ?_)
    refine i_return dX6_endBranch_68 rfl ?_
    refine hp _ _ bl3 e1 (fun i hi => (bf3 i hi).trans ((pf2 i (by omega)).trans (lf1 i hi))) sc1
  · -- False True
    refine i_aload_n dX6_endBranch_4 rfl ?_
    refine u_get (i := 3) (vv := .ref (Y (100 + 4 * v))) dX6_endBranch_5 fX6_40 (by decide) rfl (c_l9 h92) ?_
    refine u_getL (v := v) (vv := .ref (Y (100 + 4 * v + 1))) dX6_endBranch_8 fX6_47 (by omega) c_lf1 ?_
    refine i_astore_n dX6_endBranch_11 (L' := [some _, some _, none]) (by decide) rfl ?_
    refine i_aload_n dX6_endBranch_12 rfl ?_
    refine u_get (i := 3) (vv := .ref (Y (100 + 4 * v))) dX6_endBranch_13 fX6_40 (by decide) rfl (c_l9 h92) ?_
    refine u_getL (v := v) (vv := .ref (Y (100 + 4 * v + 2))) dX6_endBranch_16 fX6_145 (by omega) c_lf2 ?_
    refine i_astore_n dX6_endBranch_19 (L' := [some _, some _, some _]) (by decide) rfl ?_
    refine i_aload_n dX6_endBranch_20 rfl ?_
    refine i_aload_n dX6_endBranch_21 rfl ?_
    refine u_getQ (v := v) (k := 1) (vv := .int (iI (V1 (198 + 16 * v + 3 * 1)))) dX6_endBranch_22 fX6_123 (by omega) (by decide) rfl ?_
    refine RW.ti (ll1.1.1.trans bI_f) ?_
    refine i_if_ne (tgt := 35) dX6_endBranch_25 (by decide) (by decide) (fun c25 => by omega) (fun c25 => ?_)
    refine i_aload_n dX6_endBranch_28 rfl ?_
    refine u_getQ (v := v) (k := 2) (vv := .int (iI (V1 (198 + 16 * v + 3 * 2)))) dX6_endBranch_29 fX6_123 (by omega) (by decide) rfl ?_
    refine RW.ti (ll1.2.1.1.trans bI_t) ?_
    refine i_if_eq (tgt := 39) dX6_endBranch_32 (by decide) (by decide) (fun c32 => by omega) (fun c32 => ?_)
    refine i_const dX6_endBranch_35 ?_
    refine i_goto (tgt := 40) dX6_endBranch_36 (by decide) ?_
    refine i_aload_n dX6_endBranch_40 rfl ?_
    refine u_getQ (v := v) (k := 1) (vv := .int (iI (V1 (199 + 16 * v + 3 * 1)))) dX6_endBranch_41 fX6_129 (by omega) (by decide) rfl ?_
    refine RW.ti (show _ = af from ll1.1.2.1) ?_
    refine i_aload_n dX6_endBranch_44 rfl ?_
    refine u_getQ (v := v) (k := 2) (vv := .int (iI (V1 (199 + 16 * v + 3 * 2)))) dX6_endBranch_45 fX6_129 (by omega) (by decide) rfl ?_
    refine RW.ti (show _ = ef from ll1.2.1.2.1) ?_
    refine i_or dX6_endBranch_48 (by omega) (by omega) ?_
    refine i_aload_n dX6_endBranch_49 rfl ?_
    refine u_getQ (v := v) (k := 1) (vv := .int (iI (V1 (200 + 16 * v + 3 * 1)))) dX6_endBranch_50 fX6_132 (by omega) (by decide) rfl ?_
    refine RW.ti (show _ = al from ll1.1.2.2) ?_
    refine i_aload_n dX6_endBranch_53 rfl ?_
    refine u_getQ (v := v) (k := 2) (vv := .int (iI (V1 (200 + 16 * v + 3 * 2)))) dX6_endBranch_54 fX6_132 (by omega) (by decide) rfl ?_
    refine RW.ti (show _ = el from ll1.2.1.2.2) ?_
    refine i_or dX6_endBranch_57 (by omega) (by omega) ?_
    refine u_callV (i := 100 + 4 * v + 1) (mc := 0) (ms := 0) (As := [_, _, _]) dX6_endBranch_58 cfX4_set imX4_set seX4_set lX6_148 (c_okL (v := v) (k := 1) (by omega) (by decide)) (c_cellQ (v := v) (k := 1) (by omega) (by decide)) rfl rfl rfl rfl (Nat.le_of_ble_eq_true rfl) (Nat.zero_add _).symm (Nat.zero_add _).symm ?_
    refine q_set (v := v) (k := 1) (q := (true, zo af ef, zo al el)) (by omega) (by decide) (fun V4 pa4 pf4 => RK.n0 ?_)
    have h93 : V4 9 = (v : Int) := (pf4 9 (by omega)).trans h92
    have hl3 : cLv V4 v (_, _, none) := ⟨pa4, ll1.2.1.cg (fun i i0 i1 => pf4 i (by omega)), Or.inl ⟨rfl, (pf4 _ (by omega)).trans (ll1.2.2.elim (fun z => z.2) (fun ⟨_, z, _⟩ => nomatch z))⟩⟩
    refine i_aload_n dX6_endBranch_61 rfl ?_
    refine u_get (i := 3) (vv := .ref (Y (100 + 4 * v))) dX6_endBranch_62 fX6_40 (by decide) rfl (c_l9 h93) ?_
    refine u_callV (i := 100 + 4 * v) (mc := 0) (ms := 0) (As := []) dX6_endBranch_65 cfX2_beginBranch imX2_beginBranch seX2_beginBranch lX6_151 (c_okL (v := v) (k := 0) (by omega) (by decide)) (c_cellL (v := v) (by omega)) rfl rfl rfl rfl (Nat.le_of_ble_eq_true rfl) (Nat.zero_add _).symm (Nat.zero_add _).symm ?_
    refine q_beginBranch (v := v) (by omega) hl3 (fun V5 bl5 bf5 => RK.n0 ?_)
    refine i_return dX6_endBranch_68 rfl ?_
    refine hp _ _ bl5 e1 (fun i hi => (bf5 i hi).trans ((pf4 i (by omega)).trans (lf1 i hi))) sc1
  · -- True False
    refine i_aload_n dX6_endBranch_4 rfl ?_
    refine u_get (i := 3) (vv := .ref (Y (100 + 4 * v))) dX6_endBranch_5 fX6_40 (by decide) rfl (c_l9 h92) ?_
    refine u_getL (v := v) (vv := .ref (Y (100 + 4 * v + 1))) dX6_endBranch_8 fX6_47 (by omega) c_lf1 ?_
    refine i_astore_n dX6_endBranch_11 (L' := [some _, some _, none]) (by decide) rfl ?_
    refine i_aload_n dX6_endBranch_12 rfl ?_
    refine u_get (i := 3) (vv := .ref (Y (100 + 4 * v))) dX6_endBranch_13 fX6_40 (by decide) rfl (c_l9 h92) ?_
    refine u_getL (v := v) (vv := .ref (Y (100 + 4 * v + 2))) dX6_endBranch_16 fX6_145 (by omega) c_lf2 ?_
    refine i_astore_n dX6_endBranch_19 (L' := [some _, some _, some _]) (by decide) rfl ?_
    refine i_aload_n dX6_endBranch_20 rfl ?_
    refine i_aload_n dX6_endBranch_21 rfl ?_
    refine u_getQ (v := v) (k := 1) (vv := .int (iI (V1 (198 + 16 * v + 3 * 1)))) dX6_endBranch_22 fX6_123 (by omega) (by decide) rfl ?_
    refine RW.ti (ll1.1.1.trans bI_t) ?_
    refine i_if_ne (tgt := 35) dX6_endBranch_25 (by decide) (by decide) (fun c25 => ?_) (fun c25 => by omega)
    refine i_const dX6_endBranch_35 ?_
    refine i_goto (tgt := 40) dX6_endBranch_36 (by decide) ?_
    refine i_aload_n dX6_endBranch_40 rfl ?_
    refine u_getQ (v := v) (k := 1) (vv := .int (iI (V1 (199 + 16 * v + 3 * 1)))) dX6_endBranch_41 fX6_129 (by omega) (by decide) rfl ?_
    refine RW.ti (show _ = af from ll1.1.2.1) ?_
    refine i_aload_n dX6_endBranch_44 rfl ?_
    refine u_getQ (v := v) (k := 2) (vv := .int (iI (V1 (199 + 16 * v + 3 * 2)))) dX6_endBranch_45 fX6_129 (by omega) (by decide) rfl ?_
    refine RW.ti (show _ = ef from ll1.2.1.2.1) ?_
    refine i_or dX6_endBranch_48 (by omega) (by omega) ?_
    refine i_aload_n dX6_endBranch_49 rfl ?_
    refine u_getQ (v := v) (k := 1) (vv := .int (iI (V1 (200 + 16 * v + 3 * 1)))) dX6_endBranch_50 fX6_132 (by omega) (by decide) rfl ?_
    refine RW.ti (show _ = al from ll1.1.2.2) ?_
    refine i_aload_n dX6_endBranch_53 rfl ?_
    refine u_getQ (v := v) (k := 2) (vv := .int (iI (V1 (200 + 16 * v + 3 * 2)))) dX6_endBranch_54 fX6_132 (by omega) (by decide) rfl ?_
    refine RW.ti (show _ = el from ll1.2.1.2.2) ?_
    refine i_or dX6_endBranch_57 (by omega) (by omega) ?_
    refine u_callV (i := 100 + 4 * v + 1) (mc := 0) (ms := 0) (As := [_, _, _]) dX6_endBranch_58 cfX4_set imX4_set seX4_set lX6_148 (c_okL (v := v) (k := 1) (by omega) (by decide)) (c_cellQ (v := v) (k := 1) (by omega) (by decide)) rfl rfl rfl rfl (Nat.le_of_ble_eq_true rfl) (Nat.zero_add _).symm (Nat.zero_add _).symm ?_
    refine q_set (v := v) (k := 1) (q := (true, zo af ef, zo al el)) (by omega) (by decide) (fun V6 pa6 pf6 => RK.n0 ?_)
    have h93 : V6 9 = (v : Int) := (pf6 9 (by omega)).trans h92
    have hl3 : cLv V6 v (_, _, none) := ⟨pa6, ll1.2.1.cg (fun i i0 i1 => pf6 i (by omega)), Or.inl ⟨rfl, (pf6 _ (by omega)).trans (ll1.2.2.elim (fun z => z.2) (fun ⟨_, z, _⟩ => nomatch z))⟩⟩
    refine i_aload_n dX6_endBranch_61 rfl ?_
    refine u_get (i := 3) (vv := .ref (Y (100 + 4 * v))) dX6_endBranch_62 fX6_40 (by decide) rfl (c_l9 h93) ?_
    refine u_callV (i := 100 + 4 * v) (mc := 0) (ms := 0) (As := []) dX6_endBranch_65 cfX2_beginBranch imX2_beginBranch seX2_beginBranch lX6_151 (c_okL (v := v) (k := 0) (by omega) (by decide)) (c_cellL (v := v) (by omega)) rfl rfl rfl rfl (Nat.le_of_ble_eq_true rfl) (Nat.zero_add _).symm (Nat.zero_add _).symm ?_
    refine q_beginBranch (v := v) (by omega) hl3 (fun V7 bl7 bf7 => RK.n0 ?_)
    refine i_return dX6_endBranch_68 rfl ?_
    refine hp _ _ bl7 e1 (fun i hi => (bf7 i hi).trans ((pf6 i (by omega)).trans (lf1 i hi))) sc1
  · -- True True
    refine i_aload_n dX6_endBranch_4 rfl ?_
    refine u_get (i := 3) (vv := .ref (Y (100 + 4 * v))) dX6_endBranch_5 fX6_40 (by decide) rfl (c_l9 h92) ?_
    refine u_getL (v := v) (vv := .ref (Y (100 + 4 * v + 1))) dX6_endBranch_8 fX6_47 (by omega) c_lf1 ?_
    refine i_astore_n dX6_endBranch_11 (L' := [some _, some _, none]) (by decide) rfl ?_
    refine i_aload_n dX6_endBranch_12 rfl ?_
    refine u_get (i := 3) (vv := .ref (Y (100 + 4 * v))) dX6_endBranch_13 fX6_40 (by decide) rfl (c_l9 h92) ?_
    refine u_getL (v := v) (vv := .ref (Y (100 + 4 * v + 2))) dX6_endBranch_16 fX6_145 (by omega) c_lf2 ?_
    refine i_astore_n dX6_endBranch_19 (L' := [some _, some _, some _]) (by decide) rfl ?_
    refine i_aload_n dX6_endBranch_20 rfl ?_
    refine i_aload_n dX6_endBranch_21 rfl ?_
    refine u_getQ (v := v) (k := 1) (vv := .int (iI (V1 (198 + 16 * v + 3 * 1)))) dX6_endBranch_22 fX6_123 (by omega) (by decide) rfl ?_
    refine RW.ti (ll1.1.1.trans bI_t) ?_
    refine i_if_ne (tgt := 35) dX6_endBranch_25 (by decide) (by decide) (fun c25 => ?_) (fun c25 => by omega)
    refine i_const dX6_endBranch_35 ?_
    refine i_goto (tgt := 40) dX6_endBranch_36 (by decide) ?_
    refine i_aload_n dX6_endBranch_40 rfl ?_
    refine u_getQ (v := v) (k := 1) (vv := .int (iI (V1 (199 + 16 * v + 3 * 1)))) dX6_endBranch_41 fX6_129 (by omega) (by decide) rfl ?_
    refine RW.ti (show _ = af from ll1.1.2.1) ?_
    refine i_aload_n dX6_endBranch_44 rfl ?_
    refine u_getQ (v := v) (k := 2) (vv := .int (iI (V1 (199 + 16 * v + 3 * 2)))) dX6_endBranch_45 fX6_129 (by omega) (by decide) rfl ?_
    refine RW.ti (show _ = ef from ll1.2.1.2.1) ?_
    refine i_or dX6_endBranch_48 (by omega) (by omega) ?_
    refine i_aload_n dX6_endBranch_49 rfl ?_
    refine u_getQ (v := v) (k := 1) (vv := .int (iI (V1 (200 + 16 * v + 3 * 1)))) dX6_endBranch_50 fX6_132 (by omega) (by decide) rfl ?_
    refine RW.ti (show _ = al from ll1.1.2.2) ?_
    refine i_aload_n dX6_endBranch_53 rfl ?_
    refine u_getQ (v := v) (k := 2) (vv := .int (iI (V1 (200 + 16 * v + 3 * 2)))) dX6_endBranch_54 fX6_132 (by omega) (by decide) rfl ?_
    refine RW.ti (show _ = el from ll1.2.1.2.2) ?_
    refine i_or dX6_endBranch_57 (by omega) (by omega) ?_
    refine u_callV (i := 100 + 4 * v + 1) (mc := 0) (ms := 0) (As := [_, _, _]) dX6_endBranch_58 cfX4_set imX4_set seX4_set lX6_148 (c_okL (v := v) (k := 1) (by omega) (by decide)) (c_cellQ (v := v) (k := 1) (by omega) (by decide)) rfl rfl rfl rfl (Nat.le_of_ble_eq_true rfl) (Nat.zero_add _).symm (Nat.zero_add _).symm ?_
    refine q_set (v := v) (k := 1) (q := (true, zo af ef, zo al el)) (by omega) (by decide) (fun V8 pa8 pf8 => RK.n0 ?_)
    have h93 : V8 9 = (v : Int) := (pf8 9 (by omega)).trans h92
    have hl3 : cLv V8 v (_, _, none) := ⟨pa8, ll1.2.1.cg (fun i i0 i1 => pf8 i (by omega)), Or.inl ⟨rfl, (pf8 _ (by omega)).trans (ll1.2.2.elim (fun z => z.2) (fun ⟨_, z, _⟩ => nomatch z))⟩⟩
    refine i_aload_n dX6_endBranch_61 rfl ?_
    refine u_get (i := 3) (vv := .ref (Y (100 + 4 * v))) dX6_endBranch_62 fX6_40 (by decide) rfl (c_l9 h93) ?_
    refine u_callV (i := 100 + 4 * v) (mc := 0) (ms := 0) (As := []) dX6_endBranch_65 cfX2_beginBranch imX2_beginBranch seX2_beginBranch lX6_151 (c_okL (v := v) (k := 0) (by omega) (by decide)) (c_cellL (v := v) (by omega)) rfl rfl rfl rfl (Nat.le_of_ble_eq_true rfl) (Nat.zero_add _).symm (Nat.zero_add _).symm ?_
    refine q_beginBranch (v := v) (by omega) hl3 (fun V9 bl9 bf9 => RK.n0 ?_)
    refine i_return dX6_endBranch_68 rfl ?_
    refine hp _ _ bl9 e1 (fun i hi => (bf9 i hi).trans ((pf8 i (by omega)).trans (lf1 i hi))) sc1
theorem q_readOp0 {b : Int} (h9 : V 9 = (v : Int)) (hv : v < 21) (hl : cLv V v l) (he : l.2.2 = none) (hp : P (.inl (some (.int (iI 1)))) (V, C, J)) : RM G mX6_readOperator (c_I Y h0) [.ref (Y 3), .int (iI b)] (d) 0 0 P (V, C, J) := by
  refine RM.of (L := [some (.ref (Y 3)), some (.int (iI b)), none]) cfX6_readOperator rfl (Nat.le_of_ble_eq_true rfl) ?_
  have h0 : V (200 + 16 * v) = 0 := hl.2.2.elim (fun z => z.2) (fun ⟨Q, z, _⟩ => by rw [he] at z; exact nomatch z)
  refine i_aload_n dX6_readOperator_0 rfl ?_
  refine u_get (i := 3) (vv := .ref (Y (100 + 4 * v))) dX6_readOperator_1 fX6_40 (by decide) rfl (c_l9 h9) ?_
  refine u_getL (v := v) (vv := .int (iI (V (200 + 16 * v)))) dX6_readOperator_4 fX6_135 (by omega) rfl ?_
  refine RW.ti h0 ?_
  refine i_if_ne (tgt := 12) dX6_readOperator_7 (by decide) (by decide) (fun c7 => by omega) (fun c7 => ?_)
  refine i_const dX6_readOperator_10 ?_
  refine i_ireturn dX6_readOperator_11 rfl rfl ?_
  exact hp
theorem q_readOp {b : Int} {Q : zPt} (h9 : V 9 = (v : Int)) (hv : v < 21) (hl : cLv V v l) (ho : zOKl l) (hf : zOKf (C 5)) (hb : b = 42 ∨ b = 43 ∨ b = 63) (he : l.2.2 = some Q) (hp : ∀ V' C', cLv V' v (l.1, l.2.1, some (zOp b (C 5) Q).2) → C' 5 = (zOp b (C 5) Q).1 → V' 6 = (if b ≠ 63 then V 6 + 1 else V 6) → (∀ i, (i < 200 + 16 * v ∨ 210 + 16 * v ≤ i) → i ≠ 6 → V' i = V i) → sC [5] C C' → P (.inl (some (.int (iI 0)))) (V', C', J)) : RM G mX6_readOperator (c_I Y h0) [.ref (Y 3), .int (iI b)] (d + 1) 0 0 P (V, C, J) := by
  refine RM.of (L := [some (.ref (Y 3)), some (.int (iI b)), none]) cfX6_readOperator rfl (Nat.le_of_ble_eq_true rfl) ?_
  obtain ⟨A, B, o⟩ := l
  obtain ⟨q1, qf, ql⟩ := Q
  obtain rfl : o = some (q1, qf, ql) := he
  obtain ⟨h1, hQ⟩ : V (200 + 16 * v) = 1 ∧ cPa V v 3 (q1, qf, ql) := hl.2.2.elim (fun z => nomatch z.1) (fun ⟨Q, z, z1, z2⟩ => by obtain rfl : (q1, qf, ql) = Q := Option.some.inj z; exact ⟨z1, z2⟩)
  have r3 : zMr qf := (ho.2.2 _ rfl).1
  have r4 : zMr ql := (ho.2.2 _ rfl).2
  rcases hb with rfl | rfl | rfl <;> cases q1
  · -- 42
    refine i_aload_n dX6_readOperator_0 rfl ?_
    refine u_get (i := 3) (vv := .ref (Y (100 + 4 * v))) dX6_readOperator_1 fX6_40 (by decide) rfl (c_l9 h9) ?_
    refine u_getL (v := v) (vv := .int (iI (V (200 + 16 * v)))) dX6_readOperator_4 fX6_135 (by omega) rfl ?_
    refine RW.ti h1 ?_
    refine i_if_ne (tgt := 12) dX6_readOperator_7 (by decide) (by decide) (fun c7 => ?_) (fun c7 => by omega)
    refine i_aload_n dX6_readOperator_12 rfl ?_
    refine u_get (i := 3) (vv := .ref (Y (100 + 4 * v))) dX6_readOperator_13 fX6_40 (by decide) rfl (c_l9 h9) ?_
    refine u_getL (v := v) (vv := .ref (Y (100 + 4 * v + 3))) dX6_readOperator_16 fX6_138 (by omega) c_lf3 ?_
    refine i_astore_n dX6_readOperator_19 (L' := [some _, some _, some _]) (by decide) rfl ?_
    refine i_iload_n dX6_readOperator_20 rfl ?_
    refine i_bipush dX6_readOperator_21 (by decide) ?_
    refine i_icmp_eq (tgt := 48) dX6_readOperator_23 (by decide) (by decide) (by decide) (fun c23 => by omega) (fun c23 => ?_)
    refine i_aload_n dX6_readOperator_26 rfl ?_
    refine i_dup dX6_readOperator_27 rfl ?_
    refine u_get (i := 3) (vv := .int (iI (V 6))) dX6_readOperator_28 fX6_81 (by decide) rfl rfl ?_
    refine i_const dX6_readOperator_31 ?_
    refine i_add dX6_readOperator_32 ?_
    refine u_put (i := 3) (kV := 6) dX6_readOperator_33 fX6_81 (by decide) rfl rfl rfl (Nat.le_of_ble_eq_true rfl) rfl rfl ?_
    refine u_gen (fun V1 hV1 C1 hC1 => ?_)
    have f1 : ∀ i, i ≠ 6 → V1 i = V i := fun i h => by rw [hV1]; exact vu_ne h
    have e6 : V1 6 = V 6 + 1 := by rw [hV1]; exact vu_at
    obtain rfl : C1 = C := hC1
    have hQ1 : cPa V1 v 3 (_, qf, ql) := hQ.cg (fun i i0 i1 => f1 i (by omega))
    have hl1 := hl.cg (V' := V1) (fun i i0 i1 => f1 i (by omega))
    clear hV1
    refine i_aload_n dX6_readOperator_36 rfl ?_
    refine i_aload_n dX6_readOperator_37 rfl ?_
    refine u_getQ (v := v) (k := 3) (vv := .int (iI (V1 (200 + 16 * v + 3 * 3)))) dX6_readOperator_38 fX6_132 (by omega) (by decide) rfl ?_
    refine RW.ti (show _ = ql from hQ1.2.2) ?_
    refine i_aload_n dX6_readOperator_41 rfl ?_
    refine u_getQ (v := v) (k := 3) (vv := .int (iI (V1 (199 + 16 * v + 3 * 3)))) dX6_readOperator_42 fX6_129 (by omega) (by decide) rfl ?_
    refine RW.ti (show _ = qf from hQ1.2.1) ?_
    refine u_callV (i := 3) (mc := 0) (ms := 0) (As := [_, _]) dX6_readOperator_45 cfX6_addFollow imX6_addFollow seX6_addFollow lX6_141 (by decide) rfl rfl rfl rfl rfl (Nat.le_of_ble_eq_true rfl) (Nat.zero_add _).symm (Nat.zero_add _).symm ?_
    refine q_addFollow (b := ql) (x := qf) (by omega) (by omega) hf (fun C1 sc1 e1 => RK.n0 ?_)
    refine i_iload_n dX6_readOperator_48 rfl ?_
    refine i_bipush dX6_readOperator_49 (by decide) ?_
    refine i_icmp_eq (tgt := 59) dX6_readOperator_51 (by decide) (by decide) (by decide) (fun c51 => by omega) (fun c51 => ?_)
    refine i_aload_n dX6_readOperator_54 rfl ?_
    refine i_const dX6_readOperator_55 ?_
    refine u_putQ0 (v := v) (k := 3) dX6_readOperator_56 fX6_123 (by omega) (by first | decide | omega) rfl rfl ?_
    refine i_const dX6_readOperator_59 ?_
    refine i_ireturn dX6_readOperator_60 rfl rfl ?_
    refine hp _ _ ⟨hl1.1.cg (fun i i0 i1 => vu_ne (by omega)), hl1.2.1.cg (fun i i0 i1 => vu_ne (by omega)), Or.inr ⟨(true, qf, ql), rfl, ?_, vu_at, ?_, ?_⟩⟩ e1 ?_ (fun i hi h6 => ?_) sc1
    · exact (vu_ne (by omega)).trans ((f1 _ (by omega)).trans h1)
    · exact (vu_ne (by omega)).trans ((f1 _ (by omega)).trans hQ.2.1)
    · exact (vu_ne (by omega)).trans ((f1 _ (by omega)).trans hQ.2.2)
    · exact (vu_ne (by omega)).trans e6
    · exact (vu_ne (by omega)).trans (f1 i h6)
  · -- 42
    refine i_aload_n dX6_readOperator_0 rfl ?_
    refine u_get (i := 3) (vv := .ref (Y (100 + 4 * v))) dX6_readOperator_1 fX6_40 (by decide) rfl (c_l9 h9) ?_
    refine u_getL (v := v) (vv := .int (iI (V (200 + 16 * v)))) dX6_readOperator_4 fX6_135 (by omega) rfl ?_
    refine RW.ti h1 ?_
    refine i_if_ne (tgt := 12) dX6_readOperator_7 (by decide) (by decide) (fun c7 => ?_) (fun c7 => by omega)
    refine i_aload_n dX6_readOperator_12 rfl ?_
    refine u_get (i := 3) (vv := .ref (Y (100 + 4 * v))) dX6_readOperator_13 fX6_40 (by decide) rfl (c_l9 h9) ?_
    refine u_getL (v := v) (vv := .ref (Y (100 + 4 * v + 3))) dX6_readOperator_16 fX6_138 (by omega) c_lf3 ?_
    refine i_astore_n dX6_readOperator_19 (L' := [some _, some _, some _]) (by decide) rfl ?_
    refine i_iload_n dX6_readOperator_20 rfl ?_
    refine i_bipush dX6_readOperator_21 (by decide) ?_
    refine i_icmp_eq (tgt := 48) dX6_readOperator_23 (by decide) (by decide) (by decide) (fun c23 => by omega) (fun c23 => ?_)
    refine i_aload_n dX6_readOperator_26 rfl ?_
    refine i_dup dX6_readOperator_27 rfl ?_
    refine u_get (i := 3) (vv := .int (iI (V 6))) dX6_readOperator_28 fX6_81 (by decide) rfl rfl ?_
    refine i_const dX6_readOperator_31 ?_
    refine i_add dX6_readOperator_32 ?_
    refine u_put (i := 3) (kV := 6) dX6_readOperator_33 fX6_81 (by decide) rfl rfl rfl (Nat.le_of_ble_eq_true rfl) rfl rfl ?_
    refine u_gen (fun V1 hV1 C1 hC1 => ?_)
    have f1 : ∀ i, i ≠ 6 → V1 i = V i := fun i h => by rw [hV1]; exact vu_ne h
    have e6 : V1 6 = V 6 + 1 := by rw [hV1]; exact vu_at
    obtain rfl : C1 = C := hC1
    have hQ1 : cPa V1 v 3 (_, qf, ql) := hQ.cg (fun i i0 i1 => f1 i (by omega))
    have hl1 := hl.cg (V' := V1) (fun i i0 i1 => f1 i (by omega))
    clear hV1
    refine i_aload_n dX6_readOperator_36 rfl ?_
    refine i_aload_n dX6_readOperator_37 rfl ?_
    refine u_getQ (v := v) (k := 3) (vv := .int (iI (V1 (200 + 16 * v + 3 * 3)))) dX6_readOperator_38 fX6_132 (by omega) (by decide) rfl ?_
    refine RW.ti (show _ = ql from hQ1.2.2) ?_
    refine i_aload_n dX6_readOperator_41 rfl ?_
    refine u_getQ (v := v) (k := 3) (vv := .int (iI (V1 (199 + 16 * v + 3 * 3)))) dX6_readOperator_42 fX6_129 (by omega) (by decide) rfl ?_
    refine RW.ti (show _ = qf from hQ1.2.1) ?_
    refine u_callV (i := 3) (mc := 0) (ms := 0) (As := [_, _]) dX6_readOperator_45 cfX6_addFollow imX6_addFollow seX6_addFollow lX6_141 (by decide) rfl rfl rfl rfl rfl (Nat.le_of_ble_eq_true rfl) (Nat.zero_add _).symm (Nat.zero_add _).symm ?_
    refine q_addFollow (b := ql) (x := qf) (by omega) (by omega) hf (fun C2 sc2 e2 => RK.n0 ?_)
    refine i_iload_n dX6_readOperator_48 rfl ?_
    refine i_bipush dX6_readOperator_49 (by decide) ?_
    refine i_icmp_eq (tgt := 59) dX6_readOperator_51 (by decide) (by decide) (by decide) (fun c51 => by omega) (fun c51 => ?_)
    refine i_aload_n dX6_readOperator_54 rfl ?_
    refine i_const dX6_readOperator_55 ?_
    refine u_putQ0 (v := v) (k := 3) dX6_readOperator_56 fX6_123 (by omega) (by first | decide | omega) rfl rfl ?_
    refine i_const dX6_readOperator_59 ?_
    refine i_ireturn dX6_readOperator_60 rfl rfl ?_
    refine hp _ _ ⟨hl1.1.cg (fun i i0 i1 => vu_ne (by omega)), hl1.2.1.cg (fun i i0 i1 => vu_ne (by omega)), Or.inr ⟨(true, qf, ql), rfl, ?_, vu_at, ?_, ?_⟩⟩ e2 ?_ (fun i hi h6 => ?_) sc2
    · exact (vu_ne (by omega)).trans ((f1 _ (by omega)).trans h1)
    · exact (vu_ne (by omega)).trans ((f1 _ (by omega)).trans hQ.2.1)
    · exact (vu_ne (by omega)).trans ((f1 _ (by omega)).trans hQ.2.2)
    · exact (vu_ne (by omega)).trans e6
    · exact (vu_ne (by omega)).trans (f1 i h6)
  · -- 43
    refine i_aload_n dX6_readOperator_0 rfl ?_
    refine u_get (i := 3) (vv := .ref (Y (100 + 4 * v))) dX6_readOperator_1 fX6_40 (by decide) rfl (c_l9 h9) ?_
    refine u_getL (v := v) (vv := .int (iI (V (200 + 16 * v)))) dX6_readOperator_4 fX6_135 (by omega) rfl ?_
    refine RW.ti h1 ?_
    refine i_if_ne (tgt := 12) dX6_readOperator_7 (by decide) (by decide) (fun c7 => ?_) (fun c7 => by omega)
    refine i_aload_n dX6_readOperator_12 rfl ?_
    refine u_get (i := 3) (vv := .ref (Y (100 + 4 * v))) dX6_readOperator_13 fX6_40 (by decide) rfl (c_l9 h9) ?_
    refine u_getL (v := v) (vv := .ref (Y (100 + 4 * v + 3))) dX6_readOperator_16 fX6_138 (by omega) c_lf3 ?_
    refine i_astore_n dX6_readOperator_19 (L' := [some _, some _, some _]) (by decide) rfl ?_
    refine i_iload_n dX6_readOperator_20 rfl ?_
    refine i_bipush dX6_readOperator_21 (by decide) ?_
    refine i_icmp_eq (tgt := 48) dX6_readOperator_23 (by decide) (by decide) (by decide) (fun c23 => by omega) (fun c23 => ?_)
    refine i_aload_n dX6_readOperator_26 rfl ?_
    refine i_dup dX6_readOperator_27 rfl ?_
    refine u_get (i := 3) (vv := .int (iI (V 6))) dX6_readOperator_28 fX6_81 (by decide) rfl rfl ?_
    refine i_const dX6_readOperator_31 ?_
    refine i_add dX6_readOperator_32 ?_
    refine u_put (i := 3) (kV := 6) dX6_readOperator_33 fX6_81 (by decide) rfl rfl rfl (Nat.le_of_ble_eq_true rfl) rfl rfl ?_
    refine u_gen (fun V1 hV1 C1 hC1 => ?_)
    have f1 : ∀ i, i ≠ 6 → V1 i = V i := fun i h => by rw [hV1]; exact vu_ne h
    have e6 : V1 6 = V 6 + 1 := by rw [hV1]; exact vu_at
    obtain rfl : C1 = C := hC1
    have hQ1 : cPa V1 v 3 (_, qf, ql) := hQ.cg (fun i i0 i1 => f1 i (by omega))
    have hl1 := hl.cg (V' := V1) (fun i i0 i1 => f1 i (by omega))
    clear hV1
    refine i_aload_n dX6_readOperator_36 rfl ?_
    refine i_aload_n dX6_readOperator_37 rfl ?_
    refine u_getQ (v := v) (k := 3) (vv := .int (iI (V1 (200 + 16 * v + 3 * 3)))) dX6_readOperator_38 fX6_132 (by omega) (by decide) rfl ?_
    refine RW.ti (show _ = ql from hQ1.2.2) ?_
    refine i_aload_n dX6_readOperator_41 rfl ?_
    refine u_getQ (v := v) (k := 3) (vv := .int (iI (V1 (199 + 16 * v + 3 * 3)))) dX6_readOperator_42 fX6_129 (by omega) (by decide) rfl ?_
    refine RW.ti (show _ = qf from hQ1.2.1) ?_
    refine u_callV (i := 3) (mc := 0) (ms := 0) (As := [_, _]) dX6_readOperator_45 cfX6_addFollow imX6_addFollow seX6_addFollow lX6_141 (by decide) rfl rfl rfl rfl rfl (Nat.le_of_ble_eq_true rfl) (Nat.zero_add _).symm (Nat.zero_add _).symm ?_
    refine q_addFollow (b := ql) (x := qf) (by omega) (by omega) hf (fun C3 sc3 e3 => RK.n0 ?_)
    refine i_iload_n dX6_readOperator_48 rfl ?_
    refine i_bipush dX6_readOperator_49 (by decide) ?_
    refine i_icmp_eq (tgt := 59) dX6_readOperator_51 (by decide) (by decide) (by decide) (fun c51 => ?_) (fun c51 => by omega)
    refine i_const dX6_readOperator_59 ?_
    refine i_ireturn dX6_readOperator_60 rfl rfl ?_
    exact hp V1 _ (hl1) e3 e6 (fun i hi h6 => f1 i h6) sc3
  · -- 43
    refine i_aload_n dX6_readOperator_0 rfl ?_
    refine u_get (i := 3) (vv := .ref (Y (100 + 4 * v))) dX6_readOperator_1 fX6_40 (by decide) rfl (c_l9 h9) ?_
    refine u_getL (v := v) (vv := .int (iI (V (200 + 16 * v)))) dX6_readOperator_4 fX6_135 (by omega) rfl ?_
    refine RW.ti h1 ?_
    refine i_if_ne (tgt := 12) dX6_readOperator_7 (by decide) (by decide) (fun c7 => ?_) (fun c7 => by omega)
    refine i_aload_n dX6_readOperator_12 rfl ?_
    refine u_get (i := 3) (vv := .ref (Y (100 + 4 * v))) dX6_readOperator_13 fX6_40 (by decide) rfl (c_l9 h9) ?_
    refine u_getL (v := v) (vv := .ref (Y (100 + 4 * v + 3))) dX6_readOperator_16 fX6_138 (by omega) c_lf3 ?_
    refine i_astore_n dX6_readOperator_19 (L' := [some _, some _, some _]) (by decide) rfl ?_
    refine i_iload_n dX6_readOperator_20 rfl ?_
    refine i_bipush dX6_readOperator_21 (by decide) ?_
    refine i_icmp_eq (tgt := 48) dX6_readOperator_23 (by decide) (by decide) (by decide) (fun c23 => by omega) (fun c23 => ?_)
    refine i_aload_n dX6_readOperator_26 rfl ?_
    refine i_dup dX6_readOperator_27 rfl ?_
    refine u_get (i := 3) (vv := .int (iI (V 6))) dX6_readOperator_28 fX6_81 (by decide) rfl rfl ?_
    refine i_const dX6_readOperator_31 ?_
    refine i_add dX6_readOperator_32 ?_
    refine u_put (i := 3) (kV := 6) dX6_readOperator_33 fX6_81 (by decide) rfl rfl rfl (Nat.le_of_ble_eq_true rfl) rfl rfl ?_
    refine u_gen (fun V1 hV1 C1 hC1 => ?_)
    have f1 : ∀ i, i ≠ 6 → V1 i = V i := fun i h => by rw [hV1]; exact vu_ne h
    have e6 : V1 6 = V 6 + 1 := by rw [hV1]; exact vu_at
    obtain rfl : C1 = C := hC1
    have hQ1 : cPa V1 v 3 (_, qf, ql) := hQ.cg (fun i i0 i1 => f1 i (by omega))
    have hl1 := hl.cg (V' := V1) (fun i i0 i1 => f1 i (by omega))
    clear hV1
    refine i_aload_n dX6_readOperator_36 rfl ?_
    refine i_aload_n dX6_readOperator_37 rfl ?_
    refine u_getQ (v := v) (k := 3) (vv := .int (iI (V1 (200 + 16 * v + 3 * 3)))) dX6_readOperator_38 fX6_132 (by omega) (by decide) rfl ?_
    refine RW.ti (show _ = ql from hQ1.2.2) ?_
    refine i_aload_n dX6_readOperator_41 rfl ?_
    refine u_getQ (v := v) (k := 3) (vv := .int (iI (V1 (199 + 16 * v + 3 * 3)))) dX6_readOperator_42 fX6_129 (by omega) (by decide) rfl ?_
    refine RW.ti (show _ = qf from hQ1.2.1) ?_
    refine u_callV (i := 3) (mc := 0) (ms := 0) (As := [_, _]) dX6_readOperator_45 cfX6_addFollow imX6_addFollow seX6_addFollow lX6_141 (by decide) rfl rfl rfl rfl rfl (Nat.le_of_ble_eq_true rfl) (Nat.zero_add _).symm (Nat.zero_add _).symm ?_
    refine q_addFollow (b := ql) (x := qf) (by omega) (by omega) hf (fun C4 sc4 e4 => RK.n0 ?_)
    refine i_iload_n dX6_readOperator_48 rfl ?_
    refine i_bipush dX6_readOperator_49 (by decide) ?_
    refine i_icmp_eq (tgt := 59) dX6_readOperator_51 (by decide) (by decide) (by decide) (fun c51 => ?_) (fun c51 => by omega)
    refine i_const dX6_readOperator_59 ?_
    refine i_ireturn dX6_readOperator_60 rfl rfl ?_
    exact hp V1 _ (hl1) e4 e6 (fun i hi h6 => f1 i h6) sc4
  · -- 63
    refine i_aload_n dX6_readOperator_0 rfl ?_
    refine u_get (i := 3) (vv := .ref (Y (100 + 4 * v))) dX6_readOperator_1 fX6_40 (by decide) rfl (c_l9 h9) ?_
    refine u_getL (v := v) (vv := .int (iI (V (200 + 16 * v)))) dX6_readOperator_4 fX6_135 (by omega) rfl ?_
    refine RW.ti h1 ?_
    refine i_if_ne (tgt := 12) dX6_readOperator_7 (by decide) (by decide) (fun c7 => ?_) (fun c7 => by omega)
    refine i_aload_n dX6_readOperator_12 rfl ?_
    refine u_get (i := 3) (vv := .ref (Y (100 + 4 * v))) dX6_readOperator_13 fX6_40 (by decide) rfl (c_l9 h9) ?_
    refine u_getL (v := v) (vv := .ref (Y (100 + 4 * v + 3))) dX6_readOperator_16 fX6_138 (by omega) c_lf3 ?_
    refine i_astore_n dX6_readOperator_19 (L' := [some _, some _, some _]) (by decide) rfl ?_
    refine i_iload_n dX6_readOperator_20 rfl ?_
    refine i_bipush dX6_readOperator_21 (by decide) ?_
    refine i_icmp_eq (tgt := 48) dX6_readOperator_23 (by decide) (by decide) (by decide) (fun c23 => ?_) (fun c23 => by omega)
    refine i_iload_n dX6_readOperator_48 rfl ?_
    refine i_bipush dX6_readOperator_49 (by decide) ?_
    refine i_icmp_eq (tgt := 59) dX6_readOperator_51 (by decide) (by decide) (by decide) (fun c51 => by omega) (fun c51 => ?_)
    refine i_aload_n dX6_readOperator_54 rfl ?_
    refine i_const dX6_readOperator_55 ?_
    refine u_putQ0 (v := v) (k := 3) dX6_readOperator_56 fX6_123 (by omega) (by first | decide | omega) rfl rfl ?_
    refine i_const dX6_readOperator_59 ?_
    refine i_ireturn dX6_readOperator_60 rfl rfl ?_
    refine hp _ _ ⟨hl.1.cg (fun i i0 i1 => vu_ne (by omega)), hl.2.1.cg (fun i i0 i1 => vu_ne (by omega)), Or.inr ⟨(true, qf, ql), rfl, ?_, vu_at, ?_, ?_⟩⟩ rfl ?_ (fun i hi h6 => ?_) sC.rfl
    · exact (vu_ne (by omega)).trans h1
    · exact (vu_ne (by omega)).trans hQ.2.1
    · exact (vu_ne (by omega)).trans hQ.2.2
    · exact vu_ne (by omega)
    · exact vu_ne (by omega)
  · -- 63
    refine i_aload_n dX6_readOperator_0 rfl ?_
    refine u_get (i := 3) (vv := .ref (Y (100 + 4 * v))) dX6_readOperator_1 fX6_40 (by decide) rfl (c_l9 h9) ?_
    refine u_getL (v := v) (vv := .int (iI (V (200 + 16 * v)))) dX6_readOperator_4 fX6_135 (by omega) rfl ?_
    refine RW.ti h1 ?_
    refine i_if_ne (tgt := 12) dX6_readOperator_7 (by decide) (by decide) (fun c7 => ?_) (fun c7 => by omega)
    refine i_aload_n dX6_readOperator_12 rfl ?_
    refine u_get (i := 3) (vv := .ref (Y (100 + 4 * v))) dX6_readOperator_13 fX6_40 (by decide) rfl (c_l9 h9) ?_
    refine u_getL (v := v) (vv := .ref (Y (100 + 4 * v + 3))) dX6_readOperator_16 fX6_138 (by omega) c_lf3 ?_
    refine i_astore_n dX6_readOperator_19 (L' := [some _, some _, some _]) (by decide) rfl ?_
    refine i_iload_n dX6_readOperator_20 rfl ?_
    refine i_bipush dX6_readOperator_21 (by decide) ?_
    refine i_icmp_eq (tgt := 48) dX6_readOperator_23 (by decide) (by decide) (by decide) (fun c23 => ?_) (fun c23 => by omega)
    refine i_iload_n dX6_readOperator_48 rfl ?_
    refine i_bipush dX6_readOperator_49 (by decide) ?_
    refine i_icmp_eq (tgt := 59) dX6_readOperator_51 (by decide) (by decide) (by decide) (fun c51 => by omega) (fun c51 => ?_)
    refine i_aload_n dX6_readOperator_54 rfl ?_
    refine i_const dX6_readOperator_55 ?_
    refine u_putQ0 (v := v) (k := 3) dX6_readOperator_56 fX6_123 (by omega) (by first | decide | omega) rfl rfl ?_
    refine i_const dX6_readOperator_59 ?_
    refine i_ireturn dX6_readOperator_60 rfl rfl ?_
    refine hp _ _ ⟨hl.1.cg (fun i i0 i1 => vu_ne (by omega)), hl.2.1.cg (fun i i0 i1 => vu_ne (by omega)), Or.inr ⟨(true, qf, ql), rfl, ?_, vu_at, ?_, ?_⟩⟩ rfl ?_ (fun i hi h6 => ?_) sC.rfl
    · exact (vu_ne (by omega)).trans h1
    · exact (vu_ne (by omega)).trans hQ.2.1
    · exact (vu_ne (by omega)).trans hQ.2.2
    · exact vu_ne (by omega)
    · exact vu_ne (by omega)
end C77
