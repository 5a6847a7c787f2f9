/-! ===== methods, links: by program ===== -/
theorem p_t1 {w : Cond} (h : w ∈ tables_1_1) : w ∈ lw_tbl := List.mem_append_right _ (List.mem_append_left _ h)
theorem p_t2 {w : Cond} (h : w ∈ tables_1_2) : w ∈ lw_tbl := List.mem_append_right _ (List.mem_append_right _ (List.mem_append_left _ h))
theorem p_t3 {w : Cond} (h : w ∈ tables_1_3) : w ∈ lw_tbl := List.mem_append_right _ (List.mem_append_right _ (List.mem_append_right _ (List.mem_append_left _ h)))
theorem p_t4 {w : Cond} (h : w ∈ tables_1_4) : w ∈ lw_tbl := List.mem_append_right _ (List.mem_append_right _ (List.mem_append_right _ (List.mem_append_right _ (List.mem_append_left _ h))))
theorem p_t5 {w : Cond} (h : w ∈ tables_1_5) : w ∈ lw_tbl := List.mem_append_right _ (List.mem_append_right _ (List.mem_append_right _ (List.mem_append_right _ (List.mem_append_right _ (List.mem_append_left _ h)))))
theorem p_t6 {w : Cond} (h : w ∈ tables_1_6) : w ∈ lw_tbl := List.mem_append_right _ (List.mem_append_right _ (List.mem_append_right _ (List.mem_append_right _ (List.mem_append_right _ (List.mem_append_right _ (List.mem_append_left _ h))))))
theorem p_t7 {w : Cond} (h : w ∈ tables_1_7) : w ∈ lw_tbl := List.mem_append_right _ (List.mem_append_right _ (List.mem_append_right _ (List.mem_append_right _ (List.mem_append_right _ (List.mem_append_right _ (List.mem_append_right _ (List.mem_append_left _ h)))))))
theorem p_t8 {w : Cond} (h : w ∈ tables_1_8) : w ∈ lw_tbl := List.mem_append_right _ (List.mem_append_right _ (List.mem_append_right _ (List.mem_append_right _ (List.mem_append_right _ (List.mem_append_right _ (List.mem_append_right _ (List.mem_append_right _ (h))))))))
abbrev mX0_init : p_M := (yX0_init, cX0_init, 4, none)
theorem cfX0_init : p_cf mX0_init 2 := p_cf.of (p_t2 (List.mem_of_getElem? (i := 173) rfl)) (p_t1 (List.mem_of_getElem? (i := 13) (by decide +kernel))) (by decide +kernel)
theorem imX0_init : Cond.instanceMethod yX0_init ∈ p_ws := p_in (p_t2 (List.mem_of_getElem? (i := 172) (by decide +kernel))) rfl
abbrev mX0_size : p_M := (yX0_size, cX0_size, 1, (some .int))
theorem cfX0_size : p_cf mX0_size 0 := p_cf.of (p_t3 (List.mem_of_getElem? (i := 91) rfl)) (p_t1 (List.mem_of_getElem? (i := 13) (by decide +kernel))) (by decide +kernel)
theorem imX0_size : Cond.instanceMethod yX0_size ∈ p_ws := p_in (p_t3 (List.mem_of_getElem? (i := 89) (by decide +kernel))) rfl
theorem seX0_size : Cond.selects yX0_size.cls yX0_size yX0_size ∈ p_ws := p_in (p_t3 (List.mem_of_getElem? (i := 90) (by decide +kernel))) rfl
abbrev mX0_forgetAll : p_M := (yX0_forgetAll, cX0_forgetAll, 1, none)
theorem cfX0_forgetAll : p_cf mX0_forgetAll 0 := p_cf.of (p_t5 (List.mem_of_getElem? (i := 4) rfl)) (p_t1 (List.mem_of_getElem? (i := 13) (by decide +kernel))) (by decide +kernel)
theorem imX0_forgetAll : Cond.instanceMethod yX0_forgetAll ∈ p_ws := p_in (p_t5 (List.mem_of_getElem? (i := 2) (by decide +kernel))) rfl
theorem seX0_forgetAll : Cond.selects yX0_forgetAll.cls yX0_forgetAll yX0_forgetAll ∈ p_ws := p_in (p_t5 (List.mem_of_getElem? (i := 3) (by decide +kernel))) rfl
abbrev mX0_remember : p_M := (yX0_remember, cX0_remember, 3, none)
theorem cfX0_remember : p_cf mX0_remember 1 := p_cf.of (p_t3 (List.mem_of_getElem? (i := 61) rfl)) (p_t1 (List.mem_of_getElem? (i := 13) (by decide +kernel))) (by decide +kernel)
theorem imX0_remember : Cond.instanceMethod yX0_remember ∈ p_ws := p_in (p_t3 (List.mem_of_getElem? (i := 59) (by decide +kernel))) rfl
theorem seX0_remember : Cond.selects yX0_remember.cls yX0_remember yX0_remember ∈ p_ws := p_in (p_t3 (List.mem_of_getElem? (i := 60) (by decide +kernel))) rfl
abbrev mX0_takeBack : p_M := (yX0_takeBack, cX0_takeBack, 4, (some .boolean))
theorem cfX0_takeBack : p_cf mX0_takeBack 1 := p_cf.of (p_t3 (List.mem_of_getElem? (i := 87) rfl)) (p_t1 (List.mem_of_getElem? (i := 13) (by decide +kernel))) (by decide +kernel)
theorem imX0_takeBack : Cond.instanceMethod yX0_takeBack ∈ p_ws := p_in (p_t3 (List.mem_of_getElem? (i := 85) (by decide +kernel))) rfl
theorem seX0_takeBack : Cond.selects yX0_takeBack.cls yX0_takeBack yX0_takeBack ∈ p_ws := p_in (p_t3 (List.mem_of_getElem? (i := 86) (by decide +kernel))) rfl
abbrev mX1_init : p_M := (yX1_init, cX1_init, 1, none)
theorem cfX1_init : p_cf mX1_init 0 := p_cf.of (p_t1 (List.mem_of_getElem? (i := 40) rfl)) (p_t1 (List.mem_of_getElem? (i := 2) (by decide +kernel))) (by decide +kernel)
theorem imX1_init : Cond.instanceMethod yX1_init ∈ p_ws := p_in (p_t1 (List.mem_of_getElem? (i := 39) (by decide +kernel))) rfl
abbrev mX1_size : p_M := (yX1_size, cX1_size, 1, (some .int))
theorem cfX1_size : p_cf mX1_size 0 := p_cf.of (p_t2 (List.mem_of_getElem? (i := 3) rfl)) (p_t1 (List.mem_of_getElem? (i := 2) (by decide +kernel))) (by decide +kernel)
theorem imX1_size : Cond.instanceMethod yX1_size ∈ p_ws := p_in (p_t2 (List.mem_of_getElem? (i := 1) (by decide +kernel))) rfl
theorem seX1_size : Cond.selects yX1_size.cls yX1_size yX1_size ∈ p_ws := p_in (p_t2 (List.mem_of_getElem? (i := 2) (by decide +kernel))) rfl
abbrev mX1_put : p_M := (yX1_put, cX1_put, 3, none)
theorem cfX1_put : p_cf mX1_put 1 := p_cf.of (p_t1 (List.mem_of_getElem? (i := 161) rfl)) (p_t1 (List.mem_of_getElem? (i := 2) (by decide +kernel))) (by decide +kernel)
theorem imX1_put : Cond.instanceMethod yX1_put ∈ p_ws := p_in (p_t1 (List.mem_of_getElem? (i := 159) (by decide +kernel))) rfl
theorem seX1_put : Cond.selects yX1_put.cls yX1_put yX1_put ∈ p_ws := p_in (p_t1 (List.mem_of_getElem? (i := 160) (by decide +kernel))) rfl
abbrev mX1_addFourBytes : p_M := (yX1_addFourBytes, cX1_addFourBytes, 2, none)
theorem cfX1_addFourBytes : p_cf mX1_addFourBytes 1 := p_cf.of (p_t3 (List.mem_of_getElem? (i := 49) rfl)) (p_t1 (List.mem_of_getElem? (i := 2) (by decide +kernel))) (by decide +kernel)
theorem imX1_addFourBytes : Cond.instanceMethod yX1_addFourBytes ∈ p_ws := p_in (p_t3 (List.mem_of_getElem? (i := 47) (by decide +kernel))) rfl
theorem seX1_addFourBytes : Cond.selects yX1_addFourBytes.cls yX1_addFourBytes yX1_addFourBytes ∈ p_ws := p_in (p_t3 (List.mem_of_getElem? (i := 48) (by decide +kernel))) rfl
abbrev mX1_shorten : p_M := (yX1_shorten, cX1_shorten, 2, none)
theorem cfX1_shorten : p_cf mX1_shorten 1 := p_cf.of (p_t2 (List.mem_of_getElem? (i := 128) rfl)) (p_t1 (List.mem_of_getElem? (i := 2) (by decide +kernel))) (by decide +kernel)
theorem imX1_shorten : Cond.instanceMethod yX1_shorten ∈ p_ws := p_in (p_t2 (List.mem_of_getElem? (i := 126) (by decide +kernel))) rfl
theorem seX1_shorten : Cond.selects yX1_shorten.cls yX1_shorten yX1_shorten ∈ p_ws := p_in (p_t2 (List.mem_of_getElem? (i := 127) (by decide +kernel))) rfl
abbrev mX1_value : p_M := (yX1_value, cX1_value, 2, (some .int))
theorem cfX1_value : p_cf mX1_value 1 := p_cf.of (p_t2 (List.mem_of_getElem? (i := 7) rfl)) (p_t1 (List.mem_of_getElem? (i := 2) (by decide +kernel))) (by decide +kernel)
theorem imX1_value : Cond.instanceMethod yX1_value ∈ p_ws := p_in (p_t2 (List.mem_of_getElem? (i := 5) (by decide +kernel))) rfl
theorem seX1_value : Cond.selects yX1_value.cls yX1_value yX1_value ∈ p_ws := p_in (p_t2 (List.mem_of_getElem? (i := 6) (by decide +kernel))) rfl
abbrev mX1_street : p_M := (yX1_street, cX1_street, 3, (some .int))
theorem cfX1_street : p_cf mX1_street 1 := p_cf.of (p_t4 (List.mem_of_getElem? (i := 196) rfl)) (p_t1 (List.mem_of_getElem? (i := 2) (by decide +kernel))) (by decide +kernel)
theorem imX1_street : Cond.instanceMethod yX1_street ∈ p_ws := p_in (p_t4 (List.mem_of_getElem? (i := 194) (by decide +kernel))) rfl
theorem seX1_street : Cond.selects yX1_street.cls yX1_street yX1_street ∈ p_ws := p_in (p_t4 (List.mem_of_getElem? (i := 195) (by decide +kernel))) rfl
abbrev mX1_addByte : p_M := (yX1_addByte, cX1_addByte, 2, none)
theorem cfX1_addByte : p_cf mX1_addByte 1 := p_cf.of (p_t1 (List.mem_of_getElem? (i := 213) rfl)) (p_t1 (List.mem_of_getElem? (i := 2) (by decide +kernel))) (by decide +kernel)
theorem imX1_addByte : Cond.instanceMethod yX1_addByte ∈ p_ws := p_in (p_t1 (List.mem_of_getElem? (i := 212) (by decide +kernel))) rfl
theorem seX1_addByte : Cond.selects yX1_addByte.cls yX1_addByte yX1_addByte ∈ p_ws := p_in (List.mem_append_left _ (List.mem_of_getElem? (i := 0) (by decide +kernel))) rfl
abbrev mX2_init : p_M := (yX2_init, cX2_init, 2, none)
theorem cfX2_init : p_cf mX2_init 1 := p_cf.of (p_t1 (List.mem_of_getElem? (i := 60) rfl)) (p_t1 (List.mem_of_getElem? (i := 4) (by decide +kernel))) (by decide +kernel)
theorem imX2_init : Cond.instanceMethod yX2_init ∈ p_ws := p_in (p_t1 (List.mem_of_getElem? (i := 59) (by decide +kernel))) rfl
abbrev mX2_makeInner : p_M := (yX2_makeInner, cX2_makeInner, 2, (some (.object "StreetAutomata$Level")))
theorem cfX2_makeInner : p_cf mX2_makeInner 0 := p_cf.of (p_t1 (List.mem_of_getElem? (i := 112) rfl)) (p_t1 (List.mem_of_getElem? (i := 4) (by decide +kernel))) (by decide +kernel)
theorem imX2_makeInner : Cond.instanceMethod yX2_makeInner ∈ p_ws := p_in (p_t1 (List.mem_of_getElem? (i := 110) (by decide +kernel))) rfl
theorem seX2_makeInner : Cond.selects yX2_makeInner.cls yX2_makeInner yX2_makeInner ∈ p_ws := p_in (p_t1 (List.mem_of_getElem? (i := 111) (by decide +kernel))) rfl
abbrev mX2_begin : p_M := (yX2_begin, cX2_begin, 1, none)
theorem cfX2_begin : p_cf mX2_begin 0 := p_cf.of (p_t1 (List.mem_of_getElem? (i := 228) rfl)) (p_t1 (List.mem_of_getElem? (i := 4) (by decide +kernel))) (by decide +kernel)
theorem imX2_begin : Cond.instanceMethod yX2_begin ∈ p_ws := p_in (p_t1 (List.mem_of_getElem? (i := 226) (by decide +kernel))) rfl
theorem seX2_begin : Cond.selects yX2_begin.cls yX2_begin yX2_begin ∈ p_ws := p_in (p_t1 (List.mem_of_getElem? (i := 227) (by decide +kernel))) rfl
abbrev mX2_beginBranch : p_M := (yX2_beginBranch, cX2_beginBranch, 1, none)
theorem cfX2_beginBranch : p_cf mX2_beginBranch 0 := p_cf.of (p_t1 (List.mem_of_getElem? (i := 236) rfl)) (p_t1 (List.mem_of_getElem? (i := 4) (by decide +kernel))) (by decide +kernel)
theorem imX2_beginBranch : Cond.instanceMethod yX2_beginBranch ∈ p_ws := p_in (p_t1 (List.mem_of_getElem? (i := 234) (by decide +kernel))) rfl
theorem seX2_beginBranch : Cond.selects yX2_beginBranch.cls yX2_beginBranch yX2_beginBranch ∈ p_ws := p_in (p_t1 (List.mem_of_getElem? (i := 235) (by decide +kernel))) rfl
abbrev mX2_beginPiece : p_M := (yX2_beginPiece, cX2_beginPiece, 4, none)
theorem cfX2_beginPiece : p_cf mX2_beginPiece 3 := p_cf.of (p_t2 (List.mem_of_getElem? (i := 37) rfl)) (p_t1 (List.mem_of_getElem? (i := 4) (by decide +kernel))) (by decide +kernel)
theorem imX2_beginPiece : Cond.instanceMethod yX2_beginPiece ∈ p_ws := p_in (p_t2 (List.mem_of_getElem? (i := 35) (by decide +kernel))) rfl
theorem seX2_beginPiece : Cond.selects yX2_beginPiece.cls yX2_beginPiece yX2_beginPiece ∈ p_ws := p_in (p_t2 (List.mem_of_getElem? (i := 36) (by decide +kernel))) rfl
abbrev mX3_init : p_M := (yX3_init, cX3_init, 1, none)
theorem cfX3_init : p_cf mX3_init 0 := p_cf.of (p_t2 (List.mem_of_getElem? (i := 192) rfl)) (p_t1 (List.mem_of_getElem? (i := 14) (by decide +kernel))) (by decide +kernel)
theorem imX3_init : Cond.instanceMethod yX3_init ∈ p_ws := p_in (p_t2 (List.mem_of_getElem? (i := 191) (by decide +kernel))) rfl
abbrev mX3_size : p_M := (yX3_size, cX3_size, 1, (some .int))
theorem cfX3_size : p_cf mX3_size 0 := p_cf.of (p_t3 (List.mem_of_getElem? (i := 172) rfl)) (p_t1 (List.mem_of_getElem? (i := 14) (by decide +kernel))) (by decide +kernel)
theorem imX3_size : Cond.instanceMethod yX3_size ∈ p_ws := p_in (p_t3 (List.mem_of_getElem? (i := 170) (by decide +kernel))) rfl
theorem seX3_size : Cond.selects yX3_size.cls yX3_size yX3_size ∈ p_ws := p_in (p_t3 (List.mem_of_getElem? (i := 171) (by decide +kernel))) rfl
abbrev mX3_find : p_M := (yX3_find, cX3_find, 11, (some .int))
theorem cfX3_find : p_cf mX3_find 5 := p_cf.of (p_t3 (List.mem_of_getElem? (i := 124) rfl)) (p_t1 (List.mem_of_getElem? (i := 14) (by decide +kernel))) (by decide +kernel)
theorem imX3_find : Cond.instanceMethod yX3_find ∈ p_ws := p_in (p_t3 (List.mem_of_getElem? (i := 122) (by decide +kernel))) rfl
theorem seX3_find : Cond.selects yX3_find.cls yX3_find yX3_find ∈ p_ws := p_in (p_t3 (List.mem_of_getElem? (i := 123) (by decide +kernel))) rfl
abbrev mX3_streetInto : p_M := (yX3_streetInto, cX3_streetInto, 2, (some .int))
theorem cfX3_streetInto : p_cf mX3_streetInto 1 := p_cf.of (p_t3 (List.mem_of_getElem? (i := 215) rfl)) (p_t1 (List.mem_of_getElem? (i := 14) (by decide +kernel))) (by decide +kernel)
theorem imX3_streetInto : Cond.instanceMethod yX3_streetInto ∈ p_ws := p_in (p_t3 (List.mem_of_getElem? (i := 213) (by decide +kernel))) rfl
theorem seX3_streetInto : Cond.selects yX3_streetInto.cls yX3_streetInto yX3_streetInto ∈ p_ws := p_in (p_t3 (List.mem_of_getElem? (i := 214) (by decide +kernel))) rfl
abbrev mX3_before : p_M := (yX3_before, cX3_before, 2, (some .int))
theorem cfX3_before : p_cf mX3_before 1 := p_cf.of (p_t3 (List.mem_of_getElem? (i := 160) rfl)) (p_t1 (List.mem_of_getElem? (i := 14) (by decide +kernel))) (by decide +kernel)
theorem imX3_before : Cond.instanceMethod yX3_before ∈ p_ws := p_in (p_t3 (List.mem_of_getElem? (i := 158) (by decide +kernel))) rfl
theorem seX3_before : Cond.selects yX3_before.cls yX3_before yX3_before ∈ p_ws := p_in (p_t3 (List.mem_of_getElem? (i := 159) (by decide +kernel))) rfl
abbrev mX3_stepsTo : p_M := (yX3_stepsTo, cX3_stepsTo, 5, (some .int))
theorem cfX3_stepsTo : p_cf mX3_stepsTo 1 := p_cf.of (p_t3 (List.mem_of_getElem? (i := 156) rfl)) (p_t1 (List.mem_of_getElem? (i := 14) (by decide +kernel))) (by decide +kernel)
theorem imX3_stepsTo : Cond.instanceMethod yX3_stepsTo ∈ p_ws := p_in (p_t3 (List.mem_of_getElem? (i := 154) (by decide +kernel))) rfl
theorem seX3_stepsTo : Cond.selects yX3_stepsTo.cls yX3_stepsTo yX3_stepsTo ∈ p_ws := p_in (p_t3 (List.mem_of_getElem? (i := 155) (by decide +kernel))) rfl
abbrev mX3_firstStreetTo : p_M := (yX3_firstStreetTo, cX3_firstStreetTo, 5, (some .int))
theorem cfX3_firstStreetTo : p_cf mX3_firstStreetTo 1 := p_cf.of (p_t6 (List.mem_of_getElem? (i := 89) rfl)) (p_t1 (List.mem_of_getElem? (i := 14) (by decide +kernel))) (by decide +kernel)
theorem imX3_firstStreetTo : Cond.instanceMethod yX3_firstStreetTo ∈ p_ws := p_in (p_t6 (List.mem_of_getElem? (i := 87) (by decide +kernel))) rfl
theorem seX3_firstStreetTo : Cond.selects yX3_firstStreetTo.cls yX3_firstStreetTo yX3_firstStreetTo ∈ p_ws := p_in (p_t6 (List.mem_of_getElem? (i := 88) (by decide +kernel))) rfl
abbrev mX3_forget : p_M := (yX3_forget, cX3_forget, 2, none)
theorem cfX3_forget : p_cf mX3_forget 0 := p_cf.of (p_t3 (List.mem_of_getElem? (i := 128) rfl)) (p_t1 (List.mem_of_getElem? (i := 14) (by decide +kernel))) (by decide +kernel)
theorem imX3_forget : Cond.instanceMethod yX3_forget ∈ p_ws := p_in (p_t3 (List.mem_of_getElem? (i := 127) (by decide +kernel))) rfl
theorem seX3_forget : Cond.selects yX3_forget.cls yX3_forget yX3_forget ∈ p_ws := p_in (List.mem_append_left _ (List.mem_of_getElem? (i := 15) (by decide +kernel))) rfl
abbrev mX3_add : p_M := (yX3_add, cX3_add, 4, none)
theorem cfX3_add : p_cf mX3_add 3 := p_cf.of (p_t3 (List.mem_of_getElem? (i := 133) rfl)) (p_t1 (List.mem_of_getElem? (i := 14) (by decide +kernel))) (by decide +kernel)
theorem imX3_add : Cond.instanceMethod yX3_add ∈ p_ws := p_in (p_t3 (List.mem_of_getElem? (i := 132) (by decide +kernel))) rfl
theorem seX3_add : Cond.selects yX3_add.cls yX3_add yX3_add ∈ p_ws := p_in (List.mem_append_left _ (List.mem_of_getElem? (i := 16) (by decide +kernel))) rfl
abbrev mX3_meets : p_M := (yX3_meets, cX3_meets, 3, (some .boolean))
theorem cfX3_meets : p_cf mX3_meets 3 := p_cf.of (p_t3 (List.mem_of_getElem? (i := 144) rfl)) (p_t1 (List.mem_of_getElem? (i := 14) (by decide +kernel))) (by decide +kernel)
theorem stX3_meets : Cond.static yX3_meets ∈ p_ws := p_in (p_t3 (List.mem_of_getElem? (i := 143) (by decide +kernel))) rfl
abbrev mX4_init : p_M := (yX4_init, cX4_init, 1, none)
theorem cfX4_init : p_cf mX4_init 0 := p_cf.of (p_t1 (List.mem_of_getElem? (i := 66) rfl)) (p_t1 (List.mem_of_getElem? (i := 5) (by decide +kernel))) (by decide +kernel)
theorem imX4_init : Cond.instanceMethod yX4_init ∈ p_ws := p_in (p_t1 (List.mem_of_getElem? (i := 65) (by decide +kernel))) rfl
abbrev mX4_set : p_M := (yX4_set, cX4_set, 4, none)
theorem cfX4_set : p_cf mX4_set 3 := p_cf.of (p_t1 (List.mem_of_getElem? (i := 232) rfl)) (p_t1 (List.mem_of_getElem? (i := 5) (by decide +kernel))) (by decide +kernel)
theorem imX4_set : Cond.instanceMethod yX4_set ∈ p_ws := p_in (p_t1 (List.mem_of_getElem? (i := 230) (by decide +kernel))) rfl
theorem seX4_set : Cond.selects yX4_set.cls yX4_set yX4_set ∈ p_ws := p_in (p_t1 (List.mem_of_getElem? (i := 231) (by decide +kernel))) rfl
abbrev mX5_init : p_M := (yX5_init, cX5_init, 3, none)
theorem cfX5_init : p_cf mX5_init 1 := p_cf.of (p_t2 (List.mem_of_getElem? (i := 71) rfl)) (p_t1 (List.mem_of_getElem? (i := 11) (by decide +kernel))) (by decide +kernel)
theorem imX5_init : Cond.instanceMethod yX5_init ∈ p_ws := p_in (p_t2 (List.mem_of_getElem? (i := 70) (by decide +kernel))) rfl
abbrev mX5_streetOf : p_M := (yX5_streetOf, cX5_streetOf, 2, (some .int))
theorem cfX5_streetOf : p_cf mX5_streetOf 1 := p_cf.of (p_t5 (List.mem_of_getElem? (i := 30) rfl)) (p_t1 (List.mem_of_getElem? (i := 11) (by decide +kernel))) (by decide +kernel)
theorem imX5_streetOf : Cond.instanceMethod yX5_streetOf ∈ p_ws := p_in (p_t5 (List.mem_of_getElem? (i := 28) (by decide +kernel))) rfl
theorem seX5_streetOf : Cond.selects yX5_streetOf.cls yX5_streetOf yX5_streetOf ∈ p_ws := p_in (p_t5 (List.mem_of_getElem? (i := 29) (by decide +kernel))) rfl
abbrev mX5_followOf : p_M := (yX5_followOf, cX5_followOf, 2, (some .int))
theorem cfX5_followOf : p_cf mX5_followOf 1 := p_cf.of (p_t5 (List.mem_of_getElem? (i := 62) rfl)) (p_t1 (List.mem_of_getElem? (i := 11) (by decide +kernel))) (by decide +kernel)
theorem imX5_followOf : Cond.instanceMethod yX5_followOf ∈ p_ws := p_in (p_t5 (List.mem_of_getElem? (i := 60) (by decide +kernel))) rfl
theorem seX5_followOf : Cond.selects yX5_followOf.cls yX5_followOf yX5_followOf ∈ p_ws := p_in (p_t5 (List.mem_of_getElem? (i := 61) (by decide +kernel))) rfl
abbrev mX5_positionsAlong : p_M := (yX5_positionsAlong, cX5_positionsAlong, 2, (some .int))
theorem cfX5_positionsAlong : p_cf mX5_positionsAlong 1 := p_cf.of (p_t5 (List.mem_of_getElem? (i := 80) rfl)) (p_t1 (List.mem_of_getElem? (i := 11) (by decide +kernel))) (by decide +kernel)
theorem imX5_positionsAlong : Cond.instanceMethod yX5_positionsAlong ∈ p_ws := p_in (p_t5 (List.mem_of_getElem? (i := 78) (by decide +kernel))) rfl
theorem seX5_positionsAlong : Cond.selects yX5_positionsAlong.cls yX5_positionsAlong yX5_positionsAlong ∈ p_ws := p_in (p_t5 (List.mem_of_getElem? (i := 79) (by decide +kernel))) rfl
abbrev mX5_after : p_M := (yX5_after, cX5_after, 4, (some .int))
theorem cfX5_after : p_cf mX5_after 2 := p_cf.of (p_t3 (List.mem_of_getElem? (i := 148) rfl)) (p_t1 (List.mem_of_getElem? (i := 11) (by decide +kernel))) (by decide +kernel)
theorem imX5_after : Cond.instanceMethod yX5_after ∈ p_ws := p_in (p_t3 (List.mem_of_getElem? (i := 146) (by decide +kernel))) rfl
theorem seX5_after : Cond.selects yX5_after.cls yX5_after yX5_after ∈ p_ws := p_in (p_t3 (List.mem_of_getElem? (i := 147) (by decide +kernel))) rfl
abbrev mX5_accepts : p_M := (yX5_accepts, cX5_accepts, 2, (some .boolean))
theorem cfX5_accepts : p_cf mX5_accepts 1 := p_cf.of (p_t3 (List.mem_of_getElem? (i := 137) rfl)) (p_t1 (List.mem_of_getElem? (i := 11) (by decide +kernel))) (by decide +kernel)
theorem imX5_accepts : Cond.instanceMethod yX5_accepts ∈ p_ws := p_in (p_t3 (List.mem_of_getElem? (i := 135) (by decide +kernel))) rfl
theorem seX5_accepts : Cond.selects yX5_accepts.cls yX5_accepts yX5_accepts ∈ p_ws := p_in (p_t3 (List.mem_of_getElem? (i := 136) (by decide +kernel))) rfl
abbrev mX5_positionsIn : p_M := (yX5_positionsIn, cX5_positionsIn, 2, (some .int))
theorem cfX5_positionsIn : p_cf mX5_positionsIn 1 := p_cf.of (p_t3 (List.mem_of_getElem? (i := 141) rfl)) (p_t1 (List.mem_of_getElem? (i := 11) (by decide +kernel))) (by decide +kernel)
theorem imX5_positionsIn : Cond.instanceMethod yX5_positionsIn ∈ p_ws := p_in (p_t3 (List.mem_of_getElem? (i := 139) (by decide +kernel))) rfl
theorem seX5_positionsIn : Cond.selects yX5_positionsIn.cls yX5_positionsIn yX5_positionsIn ∈ p_ws := p_in (p_t3 (List.mem_of_getElem? (i := 140) (by decide +kernel))) rfl
abbrev mX5_emptySetState : p_M := (yX5_emptySetState, cX5_emptySetState, 2, (some .int))
theorem cfX5_emptySetState : p_cf mX5_emptySetState 0 := p_cf.of (p_t5 (List.mem_of_getElem? (i := 125) rfl)) (p_t1 (List.mem_of_getElem? (i := 11) (by decide +kernel))) (by decide +kernel)
theorem imX5_emptySetState : Cond.instanceMethod yX5_emptySetState ∈ p_ws := p_in (p_t5 (List.mem_of_getElem? (i := 123) (by decide +kernel))) rfl
theorem seX5_emptySetState : Cond.selects yX5_emptySetState.cls yX5_emptySetState yX5_emptySetState ∈ p_ws := p_in (p_t5 (List.mem_of_getElem? (i := 124) (by decide +kernel))) rfl
abbrev mX5_longestWord : p_M := (yX5_longestWord, cX5_longestWord, 5, (some .int))
theorem cfX5_longestWord : p_cf mX5_longestWord 0 := p_cf.of (p_t6 (List.mem_of_getElem? (i := 10) rfl)) (p_t1 (List.mem_of_getElem? (i := 11) (by decide +kernel))) (by decide +kernel)
theorem imX5_longestWord : Cond.instanceMethod yX5_longestWord ∈ p_ws := p_in (p_t6 (List.mem_of_getElem? (i := 8) (by decide +kernel))) rfl
theorem seX5_longestWord : Cond.selects yX5_longestWord.cls yX5_longestWord yX5_longestWord ∈ p_ws := p_in (p_t6 (List.mem_of_getElem? (i := 9) (by decide +kernel))) rfl
abbrev mX5_anyAccepts : p_M := (yX5_anyAccepts, cX5_anyAccepts, 4, (some .boolean))
theorem cfX5_anyAccepts : p_cf mX5_anyAccepts 1 := p_cf.of (p_t6 (List.mem_of_getElem? (i := 14) rfl)) (p_t1 (List.mem_of_getElem? (i := 11) (by decide +kernel))) (by decide +kernel)
theorem imX5_anyAccepts : Cond.instanceMethod yX5_anyAccepts ∈ p_ws := p_in (p_t6 (List.mem_of_getElem? (i := 13) (by decide +kernel))) rfl
theorem seX5_anyAccepts : Cond.selects yX5_anyAccepts.cls yX5_anyAccepts yX5_anyAccepts ∈ p_ws := p_in (List.mem_append_left _ (List.mem_of_getElem? (i := 28) (by decide +kernel))) rfl
abbrev mX5_aliveAfter : p_M := (yX5_aliveAfter, cX5_aliveAfter, 6, (some .long))
theorem cfX5_aliveAfter : p_cf mX5_aliveAfter 1 := p_cf.of (p_t6 (List.mem_of_getElem? (i := 19) rfl)) (p_t1 (List.mem_of_getElem? (i := 11) (by decide +kernel))) (by decide +kernel)
theorem imX5_aliveAfter : Cond.instanceMethod yX5_aliveAfter ∈ p_ws := p_in (p_t6 (List.mem_of_getElem? (i := 18) (by decide +kernel))) rfl
theorem seX5_aliveAfter : Cond.selects yX5_aliveAfter.cls yX5_aliveAfter yX5_aliveAfter ∈ p_ws := p_in (List.mem_append_left _ (List.mem_of_getElem? (i := 29) (by decide +kernel))) rfl
abbrev mX5_aliveAfterState : p_M := (yX5_aliveAfterState, cX5_aliveAfterState, 6, (some .long))
theorem cfX5_aliveAfterState : p_cf mX5_aliveAfterState 1 := p_cf.of (p_t6 (List.mem_of_getElem? (i := 23) rfl)) (p_t1 (List.mem_of_getElem? (i := 11) (by decide +kernel))) (by decide +kernel)
theorem imX5_aliveAfterState : Cond.instanceMethod yX5_aliveAfterState ∈ p_ws := p_in (p_t6 (List.mem_of_getElem? (i := 22) (by decide +kernel))) rfl
theorem seX5_aliveAfterState : Cond.selects yX5_aliveAfterState.cls yX5_aliveAfterState yX5_aliveAfterState ∈ p_ws := p_in (List.mem_append_left _ (List.mem_of_getElem? (i := 30) (by decide +kernel))) rfl
abbrev mX6_init : p_M := (yX6_init, cX6_init, 3, none)
theorem cfX6_init : p_cf mX6_init 0 := p_cf.of (p_t1 (List.mem_of_getElem? (i := 54) rfl)) (p_t1 (List.mem_of_getElem? (i := 3) (by decide +kernel))) (by decide +kernel)
theorem imX6_init : Cond.instanceMethod yX6_init ∈ p_ws := p_in (p_t1 (List.mem_of_getElem? (i := 53) (by decide +kernel))) rfl
abbrev mX6_errorOffset : p_M := (yX6_errorOffset, cX6_errorOffset, 1, (some .int))
theorem cfX6_errorOffset : p_cf mX6_errorOffset 0 := p_cf.of (p_t4 (List.mem_of_getElem? (i := 96) rfl)) (p_t1 (List.mem_of_getElem? (i := 3) (by decide +kernel))) (by decide +kernel)
theorem imX6_errorOffset : Cond.instanceMethod yX6_errorOffset ∈ p_ws := p_in (p_t4 (List.mem_of_getElem? (i := 94) (by decide +kernel))) rfl
theorem seX6_errorOffset : Cond.selects yX6_errorOffset.cls yX6_errorOffset yX6_errorOffset ∈ p_ws := p_in (p_t4 (List.mem_of_getElem? (i := 95) (by decide +kernel))) rfl
abbrev mX6_whole : p_M := (yX6_whole, cX6_whole, 1, (some (.object "StreetAutomata$Part")))
theorem cfX6_whole : p_cf mX6_whole 0 := p_cf.of (p_t2 (List.mem_of_getElem? (i := 66) rfl)) (p_t1 (List.mem_of_getElem? (i := 3) (by decide +kernel))) (by decide +kernel)
theorem imX6_whole : Cond.instanceMethod yX6_whole ∈ p_ws := p_in (p_t2 (List.mem_of_getElem? (i := 64) (by decide +kernel))) rfl
theorem seX6_whole : Cond.selects yX6_whole.cls yX6_whole yX6_whole ∈ p_ws := p_in (p_t2 (List.mem_of_getElem? (i := 65) (by decide +kernel))) rfl
abbrev mX6_read : p_M := (yX6_read, cX6_read, 4, (some .int))
theorem cfX6_read : p_cf mX6_read 1 := p_cf.of (p_t1 (List.mem_of_getElem? (i := 220) rfl)) (p_t1 (List.mem_of_getElem? (i := 3) (by decide +kernel))) (by decide +kernel)
theorem imX6_read : Cond.instanceMethod yX6_read ∈ p_ws := p_in (p_t1 (List.mem_of_getElem? (i := 218) (by decide +kernel))) rfl
theorem seX6_read : Cond.selects yX6_read.cls yX6_read yX6_read ∈ p_ws := p_in (p_t1 (List.mem_of_getElem? (i := 219) (by decide +kernel))) rfl
abbrev mX6_begin : p_M := (yX6_begin, cX6_begin, 1, none)
theorem cfX6_begin : p_cf mX6_begin 0 := p_cf.of (p_t1 (List.mem_of_getElem? (i := 224) rfl)) (p_t1 (List.mem_of_getElem? (i := 3) (by decide +kernel))) (by decide +kernel)
theorem imX6_begin : Cond.instanceMethod yX6_begin ∈ p_ws := p_in (p_t1 (List.mem_of_getElem? (i := 223) (by decide +kernel))) rfl
theorem seX6_begin : Cond.selects yX6_begin.cls yX6_begin yX6_begin ∈ p_ws := p_in (List.mem_append_left _ (List.mem_of_getElem? (i := 1) (by decide +kernel))) rfl
abbrev mX6_readByte : p_M := (yX6_readByte, cX6_readByte, 2, (some .int))
theorem cfX6_readByte : p_cf mX6_readByte 1 := p_cf.of (p_t2 (List.mem_of_getElem? (i := 11) rfl)) (p_t1 (List.mem_of_getElem? (i := 3) (by decide +kernel))) (by decide +kernel)
theorem imX6_readByte : Cond.instanceMethod yX6_readByte ∈ p_ws := p_in (p_t2 (List.mem_of_getElem? (i := 10) (by decide +kernel))) rfl
theorem seX6_readByte : Cond.selects yX6_readByte.cls yX6_readByte yX6_readByte ∈ p_ws := p_in (List.mem_append_left _ (List.mem_of_getElem? (i := 2) (by decide +kernel))) rfl
abbrev mX6_readLetter : p_M := (yX6_readLetter, cX6_readLetter, 2, (some .int))
theorem cfX6_readLetter : p_cf mX6_readLetter 1 := p_cf.of (p_t2 (List.mem_of_getElem? (i := 49) rfl)) (p_t1 (List.mem_of_getElem? (i := 3) (by decide +kernel))) (by decide +kernel)
theorem imX6_readLetter : Cond.instanceMethod yX6_readLetter ∈ p_ws := p_in (p_t2 (List.mem_of_getElem? (i := 48) (by decide +kernel))) rfl
theorem seX6_readLetter : Cond.selects yX6_readLetter.cls yX6_readLetter yX6_readLetter ∈ p_ws := p_in (List.mem_append_left _ (List.mem_of_getElem? (i := 10) (by decide +kernel))) rfl
abbrev mX6_readPosition : p_M := (yX6_readPosition, cX6_readPosition, 5, (some .int))
theorem cfX6_readPosition : p_cf mX6_readPosition 2 := p_cf.of (p_t2 (List.mem_of_getElem? (i := 45) rfl)) (p_t1 (List.mem_of_getElem? (i := 3) (by decide +kernel))) (by decide +kernel)
theorem imX6_readPosition : Cond.instanceMethod yX6_readPosition ∈ p_ws := p_in (p_t2 (List.mem_of_getElem? (i := 44) (by decide +kernel))) rfl
theorem seX6_readPosition : Cond.selects yX6_readPosition.cls yX6_readPosition yX6_readPosition ∈ p_ws := p_in (List.mem_append_left _ (List.mem_of_getElem? (i := 9) (by decide +kernel))) rfl
abbrev mX6_openGroup : p_M := (yX6_openGroup, cX6_openGroup, 2, (some .int))
theorem cfX6_openGroup : p_cf mX6_openGroup 0 := p_cf.of (p_t2 (List.mem_of_getElem? (i := 15) rfl)) (p_t1 (List.mem_of_getElem? (i := 3) (by decide +kernel))) (by decide +kernel)
theorem imX6_openGroup : Cond.instanceMethod yX6_openGroup ∈ p_ws := p_in (p_t2 (List.mem_of_getElem? (i := 14) (by decide +kernel))) rfl
theorem seX6_openGroup : Cond.selects yX6_openGroup.cls yX6_openGroup yX6_openGroup ∈ p_ws := p_in (List.mem_append_left _ (List.mem_of_getElem? (i := 3) (by decide +kernel))) rfl
abbrev mX6_closeGroup : p_M := (yX6_closeGroup, cX6_closeGroup, 3, (some .int))
theorem cfX6_closeGroup : p_cf mX6_closeGroup 0 := p_cf.of (p_t2 (List.mem_of_getElem? (i := 28) rfl)) (p_t1 (List.mem_of_getElem? (i := 3) (by decide +kernel))) (by decide +kernel)
theorem imX6_closeGroup : Cond.instanceMethod yX6_closeGroup ∈ p_ws := p_in (p_t2 (List.mem_of_getElem? (i := 27) (by decide +kernel))) rfl
theorem seX6_closeGroup : Cond.selects yX6_closeGroup.cls yX6_closeGroup yX6_closeGroup ∈ p_ws := p_in (List.mem_append_left _ (List.mem_of_getElem? (i := 6) (by decide +kernel))) rfl
abbrev mX6_readOperator : p_M := (yX6_readOperator, cX6_readOperator, 3, (some .int))
theorem cfX6_readOperator : p_cf mX6_readOperator 1 := p_cf.of (p_t2 (List.mem_of_getElem? (i := 41) rfl)) (p_t1 (List.mem_of_getElem? (i := 3) (by decide +kernel))) (by decide +kernel)
theorem imX6_readOperator : Cond.instanceMethod yX6_readOperator ∈ p_ws := p_in (p_t2 (List.mem_of_getElem? (i := 40) (by decide +kernel))) rfl
theorem seX6_readOperator : Cond.selects yX6_readOperator.cls yX6_readOperator yX6_readOperator ∈ p_ws := p_in (List.mem_append_left _ (List.mem_of_getElem? (i := 8) (by decide +kernel))) rfl
abbrev mX6_endPiece : p_M := (yX6_endPiece, cX6_endPiece, 5, none)
theorem cfX6_endPiece : p_cf mX6_endPiece 0 := p_cf.of (p_t2 (List.mem_of_getElem? (i := 19) rfl)) (p_t1 (List.mem_of_getElem? (i := 3) (by decide +kernel))) (by decide +kernel)
theorem imX6_endPiece : Cond.instanceMethod yX6_endPiece ∈ p_ws := p_in (p_t2 (List.mem_of_getElem? (i := 18) (by decide +kernel))) rfl
theorem seX6_endPiece : Cond.selects yX6_endPiece.cls yX6_endPiece yX6_endPiece ∈ p_ws := p_in (List.mem_append_left _ (List.mem_of_getElem? (i := 4) (by decide +kernel))) rfl
abbrev mX6_endBranch : p_M := (yX6_endBranch, cX6_endBranch, 3, none)
theorem cfX6_endBranch : p_cf mX6_endBranch 0 := p_cf.of (p_t2 (List.mem_of_getElem? (i := 32) rfl)) (p_t1 (List.mem_of_getElem? (i := 3) (by decide +kernel))) (by decide +kernel)
theorem imX6_endBranch : Cond.instanceMethod yX6_endBranch ∈ p_ws := p_in (p_t2 (List.mem_of_getElem? (i := 31) (by decide +kernel))) rfl
theorem seX6_endBranch : Cond.selects yX6_endBranch.cls yX6_endBranch yX6_endBranch ∈ p_ws := p_in (List.mem_append_left _ (List.mem_of_getElem? (i := 7) (by decide +kernel))) rfl
abbrev mX6_addFollow : p_M := (yX6_addFollow, cX6_addFollow, 4, none)
theorem cfX6_addFollow : p_cf mX6_addFollow 2 := p_cf.of (p_t2 (List.mem_of_getElem? (i := 23) rfl)) (p_t1 (List.mem_of_getElem? (i := 3) (by decide +kernel))) (by decide +kernel)
theorem imX6_addFollow : Cond.instanceMethod yX6_addFollow ∈ p_ws := p_in (p_t2 (List.mem_of_getElem? (i := 22) (by decide +kernel))) rfl
theorem seX6_addFollow : Cond.selects yX6_addFollow.cls yX6_addFollow yX6_addFollow ∈ p_ws := p_in (List.mem_append_left _ (List.mem_of_getElem? (i := 5) (by decide +kernel))) rfl
abbrev mX6_findStates : p_M := (yX6_findStates, cX6_findStates, 5, (some .boolean))
theorem cfX6_findStates : p_cf mX6_findStates 0 := p_cf.of (p_t2 (List.mem_of_getElem? (i := 54) rfl)) (p_t1 (List.mem_of_getElem? (i := 3) (by decide +kernel))) (by decide +kernel)
theorem imX6_findStates : Cond.instanceMethod yX6_findStates ∈ p_ws := p_in (p_t2 (List.mem_of_getElem? (i := 53) (by decide +kernel))) rfl
theorem seX6_findStates : Cond.selects yX6_findStates.cls yX6_findStates yX6_findStates ∈ p_ws := p_in (List.mem_append_left _ (List.mem_of_getElem? (i := 11) (by decide +kernel))) rfl
abbrev mX6_positionsAfter : p_M := (yX6_positionsAfter, cX6_positionsAfter, 4, (some .int))
theorem cfX6_positionsAfter : p_cf mX6_positionsAfter 1 := p_cf.of (p_t2 (List.mem_of_getElem? (i := 62) rfl)) (p_t1 (List.mem_of_getElem? (i := 3) (by decide +kernel))) (by decide +kernel)
theorem imX6_positionsAfter : Cond.instanceMethod yX6_positionsAfter ∈ p_ws := p_in (p_t2 (List.mem_of_getElem? (i := 61) (by decide +kernel))) rfl
theorem seX6_positionsAfter : Cond.selects yX6_positionsAfter.cls yX6_positionsAfter yX6_positionsAfter ∈ p_ws := p_in (List.mem_append_left _ (List.mem_of_getElem? (i := 13) (by decide +kernel))) rfl
abbrev mX6_stateOfSet : p_M := (yX6_stateOfSet, cX6_stateOfSet, 3, (some .int))
theorem cfX6_stateOfSet : p_cf mX6_stateOfSet 1 := p_cf.of (p_t2 (List.mem_of_getElem? (i := 58) rfl)) (p_t1 (List.mem_of_getElem? (i := 3) (by decide +kernel))) (by decide +kernel)
theorem imX6_stateOfSet : Cond.instanceMethod yX6_stateOfSet ∈ p_ws := p_in (p_t2 (List.mem_of_getElem? (i := 57) (by decide +kernel))) rfl
theorem seX6_stateOfSet : Cond.selects yX6_stateOfSet.cls yX6_stateOfSet yX6_stateOfSet ∈ p_ws := p_in (List.mem_append_left _ (List.mem_of_getElem? (i := 12) (by decide +kernel))) rfl
abbrev mX7_init : p_M := (yX7_init, cX7_init, 1, none)
theorem cfX7_init : p_cf mX7_init 0 := p_cf.of (p_t2 (List.mem_of_getElem? (i := 226) rfl)) (p_t1 (List.mem_of_getElem? (i := 16) (by decide +kernel))) (by decide +kernel)
theorem imX7_init : Cond.instanceMethod yX7_init ∈ p_ws := p_in (p_t2 (List.mem_of_getElem? (i := 225) (by decide +kernel))) rfl
abbrev mX7_size : p_M := (yX7_size, cX7_size, 1, (some .int))
theorem cfX7_size : p_cf mX7_size 0 := p_cf.of (p_t5 (List.mem_of_getElem? (i := 183) rfl)) (p_t1 (List.mem_of_getElem? (i := 16) (by decide +kernel))) (by decide +kernel)
theorem imX7_size : Cond.instanceMethod yX7_size ∈ p_ws := p_in (p_t5 (List.mem_of_getElem? (i := 181) (by decide +kernel))) rfl
theorem seX7_size : Cond.selects yX7_size.cls yX7_size yX7_size ∈ p_ws := p_in (p_t5 (List.mem_of_getElem? (i := 182) (by decide +kernel))) rfl
abbrev mX7_classOf : p_M := (yX7_classOf, cX7_classOf, 2, (some .int))
theorem cfX7_classOf : p_cf mX7_classOf 1 := p_cf.of (p_t5 (List.mem_of_getElem? (i := 165) rfl)) (p_t1 (List.mem_of_getElem? (i := 16) (by decide +kernel))) (by decide +kernel)
theorem imX7_classOf : Cond.instanceMethod yX7_classOf ∈ p_ws := p_in (p_t5 (List.mem_of_getElem? (i := 163) (by decide +kernel))) rfl
theorem seX7_classOf : Cond.selects yX7_classOf.cls yX7_classOf yX7_classOf ∈ p_ws := p_in (p_t5 (List.mem_of_getElem? (i := 164) (by decide +kernel))) rfl
abbrev mX7_sort : p_M := (yX7_sort, cX7_sort, 4, none)
theorem cfX7_sort : p_cf mX7_sort 1 := p_cf.of (p_t5 (List.mem_of_getElem? (i := 148) rfl)) (p_t1 (List.mem_of_getElem? (i := 16) (by decide +kernel))) (by decide +kernel)
theorem imX7_sort : Cond.instanceMethod yX7_sort ∈ p_ws := p_in (p_t5 (List.mem_of_getElem? (i := 146) (by decide +kernel))) rfl
theorem seX7_sort : Cond.selects yX7_sort.cls yX7_sort yX7_sort ∈ p_ws := p_in (p_t5 (List.mem_of_getElem? (i := 147) (by decide +kernel))) rfl
abbrev mX7_split : p_M := (yX7_split, cX7_split, 3, none)
theorem cfX7_split : p_cf mX7_split 1 := p_cf.of (p_t5 (List.mem_of_getElem? (i := 153) rfl)) (p_t1 (List.mem_of_getElem? (i := 16) (by decide +kernel))) (by decide +kernel)
theorem imX7_split : Cond.instanceMethod yX7_split ∈ p_ws := p_in (p_t5 (List.mem_of_getElem? (i := 152) (by decide +kernel))) rfl
theorem seX7_split : Cond.selects yX7_split.cls yX7_split yX7_split ∈ p_ws := p_in (List.mem_append_left _ (List.mem_of_getElem? (i := 23) (by decide +kernel))) rfl
abbrev mX7_finerClass : p_M := (yX7_finerClass, cX7_finerClass, 4, (some .int))
theorem cfX7_finerClass : p_cf mX7_finerClass 2 := p_cf.of (p_t5 (List.mem_of_getElem? (i := 157) rfl)) (p_t1 (List.mem_of_getElem? (i := 16) (by decide +kernel))) (by decide +kernel)
theorem imX7_finerClass : Cond.instanceMethod yX7_finerClass ∈ p_ws := p_in (p_t5 (List.mem_of_getElem? (i := 156) (by decide +kernel))) rfl
theorem seX7_finerClass : Cond.selects yX7_finerClass.cls yX7_finerClass yX7_finerClass ∈ p_ws := p_in (List.mem_append_left _ (List.mem_of_getElem? (i := 24) (by decide +kernel))) rfl
abbrev mX7_seemEqual : p_M := (yX7_seemEqual, cX7_seemEqual, 5, (some .boolean))
theorem cfX7_seemEqual : p_cf mX7_seemEqual 3 := p_cf.of (p_t5 (List.mem_of_getElem? (i := 161) rfl)) (p_t1 (List.mem_of_getElem? (i := 16) (by decide +kernel))) (by decide +kernel)
theorem imX7_seemEqual : Cond.instanceMethod yX7_seemEqual ∈ p_ws := p_in (p_t5 (List.mem_of_getElem? (i := 160) (by decide +kernel))) rfl
theorem seX7_seemEqual : Cond.selects yX7_seemEqual.cls yX7_seemEqual yX7_seemEqual ∈ p_ws := p_in (List.mem_append_left _ (List.mem_of_getElem? (i := 25) (by decide +kernel))) rfl
abbrev mX8_init : p_M := (yX8_init, cX8_init, 1, none)
theorem cfX8_init : p_cf mX8_init 0 := p_cf.of (p_t2 (List.mem_of_getElem? (i := 215) rfl)) (p_t1 (List.mem_of_getElem? (i := 15) (by decide +kernel))) (by decide +kernel)
theorem imX8_init : Cond.instanceMethod yX8_init ∈ p_ws := p_in (p_t2 (List.mem_of_getElem? (i := 214) (by decide +kernel))) rfl
abbrev mX8_fill : p_M := (yX8_fill, cX8_fill, 5, none)
theorem cfX8_fill : p_cf mX8_fill 2 := p_cf.of (p_t5 (List.mem_of_getElem? (i := 209) rfl)) (p_t1 (List.mem_of_getElem? (i := 15) (by decide +kernel))) (by decide +kernel)
theorem imX8_fill : Cond.instanceMethod yX8_fill ∈ p_ws := p_in (p_t5 (List.mem_of_getElem? (i := 207) (by decide +kernel))) rfl
theorem seX8_fill : Cond.selects yX8_fill.cls yX8_fill yX8_fill ∈ p_ws := p_in (p_t5 (List.mem_of_getElem? (i := 208) (by decide +kernel))) rfl
abbrev mX8_from : p_M := (yX8_from, cX8_from, 4, (some .long))
theorem cfX8_from : p_cf mX8_from 2 := p_cf.of (p_t5 (List.mem_of_getElem? (i := 224) rfl)) (p_t1 (List.mem_of_getElem? (i := 15) (by decide +kernel))) (by decide +kernel)
theorem imX8_from : Cond.instanceMethod yX8_from ∈ p_ws := p_in (p_t5 (List.mem_of_getElem? (i := 222) (by decide +kernel))) rfl
theorem seX8_from : Cond.selects yX8_from.cls yX8_from yX8_from ∈ p_ws := p_in (p_t5 (List.mem_of_getElem? (i := 223) (by decide +kernel))) rfl
abbrev mX8_wordsBefore : p_M := (yX8_wordsBefore, cX8_wordsBefore, 8, (some .long))
theorem cfX8_wordsBefore : p_cf mX8_wordsBefore 4 := p_cf.of (p_t5 (List.mem_of_getElem? (i := 219) rfl)) (p_t1 (List.mem_of_getElem? (i := 15) (by decide +kernel))) (by decide +kernel)
theorem imX8_wordsBefore : Cond.instanceMethod yX8_wordsBefore ∈ p_ws := p_in (p_t5 (List.mem_of_getElem? (i := 217) (by decide +kernel))) rfl
theorem seX8_wordsBefore : Cond.selects yX8_wordsBefore.cls yX8_wordsBefore yX8_wordsBefore ∈ p_ws := p_in (p_t5 (List.mem_of_getElem? (i := 218) (by decide +kernel))) rfl
abbrev mX8_streetToWord : p_M := (yX8_streetToWord, cX8_streetToWord, 7, (some .int))
theorem cfX8_streetToWord : p_cf mX8_streetToWord 4 := p_cf.of (p_t6 (List.mem_of_getElem? (i := 122) rfl)) (p_t1 (List.mem_of_getElem? (i := 15) (by decide +kernel))) (by decide +kernel)
theorem imX8_streetToWord : Cond.instanceMethod yX8_streetToWord ∈ p_ws := p_in (p_t6 (List.mem_of_getElem? (i := 120) (by decide +kernel))) rfl
theorem seX8_streetToWord : Cond.selects yX8_streetToWord.cls yX8_streetToWord yX8_streetToWord ∈ p_ws := p_in (p_t6 (List.mem_of_getElem? (i := 121) (by decide +kernel))) rfl
abbrev mX8_put : p_M := (yX8_put, cX8_put, 6, none)
theorem cfX8_put : p_cf mX8_put 3 := p_cf.of (p_t5 (List.mem_of_getElem? (i := 214) rfl)) (p_t1 (List.mem_of_getElem? (i := 15) (by decide +kernel))) (by decide +kernel)
theorem imX8_put : Cond.instanceMethod yX8_put ∈ p_ws := p_in (p_t5 (List.mem_of_getElem? (i := 213) (by decide +kernel))) rfl
theorem seX8_put : Cond.selects yX8_put.cls yX8_put yX8_put ∈ p_ws := p_in (List.mem_append_left _ (List.mem_of_getElem? (i := 27) (by decide +kernel))) rfl
abbrev mX9_init : p_M := (yX9_init, cX9_init, 3, none)
theorem cfX9_init : p_cf mX9_init 2 := p_cf.of (p_t2 (List.mem_of_getElem? (i := 133) rfl)) (p_t1 (List.mem_of_getElem? (i := 12) (by decide +kernel))) (by decide +kernel)
theorem imX9_init : Cond.instanceMethod yX9_init ∈ p_ws := p_in (p_t2 (List.mem_of_getElem? (i := 132) (by decide +kernel))) rfl
abbrev mX9_copyFrom : p_M := (yX9_copyFrom, cX9_copyFrom, 3, none)
theorem cfX9_copyFrom : p_cf mX9_copyFrom 1 := p_cf.of (p_t3 (List.mem_of_getElem? (i := 66) rfl)) (p_t1 (List.mem_of_getElem? (i := 12) (by decide +kernel))) (by decide +kernel)
theorem imX9_copyFrom : Cond.instanceMethod yX9_copyFrom ∈ p_ws := p_in (p_t3 (List.mem_of_getElem? (i := 64) (by decide +kernel))) rfl
theorem seX9_copyFrom : Cond.selects yX9_copyFrom.cls yX9_copyFrom yX9_copyFrom ∈ p_ws := p_in (p_t3 (List.mem_of_getElem? (i := 65) (by decide +kernel))) rfl
abbrev mX9_pattern : p_M := (yX9_pattern, cX9_pattern, 2, (some (.object "StreetAutomata$Pattern")))
theorem cfX9_pattern : p_cf mX9_pattern 1 := p_cf.of (p_t3 (List.mem_of_getElem? (i := 120) rfl)) (p_t1 (List.mem_of_getElem? (i := 12) (by decide +kernel))) (by decide +kernel)
theorem imX9_pattern : Cond.instanceMethod yX9_pattern ∈ p_ws := p_in (p_t3 (List.mem_of_getElem? (i := 118) (by decide +kernel))) rfl
theorem seX9_pattern : Cond.selects yX9_pattern.cls yX9_pattern yX9_pattern ∈ p_ws := p_in (p_t3 (List.mem_of_getElem? (i := 119) (by decide +kernel))) rfl
abbrev mX9_patternOfWalker : p_M := (yX9_patternOfWalker, cX9_patternOfWalker, 2, (some (.object "StreetAutomata$Pattern")))
theorem cfX9_patternOfWalker : p_cf mX9_patternOfWalker 1 := p_cf.of (p_t3 (List.mem_of_getElem? (i := 192) rfl)) (p_t1 (List.mem_of_getElem? (i := 12) (by decide +kernel))) (by decide +kernel)
theorem imX9_patternOfWalker : Cond.instanceMethod yX9_patternOfWalker ∈ p_ws := p_in (p_t3 (List.mem_of_getElem? (i := 190) (by decide +kernel))) rfl
theorem seX9_patternOfWalker : Cond.selects yX9_patternOfWalker.cls yX9_patternOfWalker yX9_patternOfWalker ∈ p_ws := p_in (p_t3 (List.mem_of_getElem? (i := 191) (by decide +kernel))) rfl
abbrev mX9_putPattern : p_M := (yX9_putPattern, cX9_putPattern, 4, none)
theorem cfX9_putPattern : p_cf mX9_putPattern 2 := p_cf.of (p_t4 (List.mem_of_getElem? (i := 100) rfl)) (p_t1 (List.mem_of_getElem? (i := 12) (by decide +kernel))) (by decide +kernel)
theorem imX9_putPattern : Cond.instanceMethod yX9_putPattern ∈ p_ws := p_in (p_t4 (List.mem_of_getElem? (i := 98) (by decide +kernel))) rfl
theorem seX9_putPattern : Cond.selects yX9_putPattern.cls yX9_putPattern yX9_putPattern ∈ p_ws := p_in (p_t4 (List.mem_of_getElem? (i := 99) (by decide +kernel))) rfl
abbrev mX9_openStreets : p_M := (yX9_openStreets, cX9_openStreets, 1, (some .int))
theorem cfX9_openStreets : p_cf mX9_openStreets 0 := p_cf.of (p_t3 (List.mem_of_getElem? (i := 73) rfl)) (p_t1 (List.mem_of_getElem? (i := 12) (by decide +kernel))) (by decide +kernel)
theorem imX9_openStreets : Cond.instanceMethod yX9_openStreets ∈ p_ws := p_in (p_t3 (List.mem_of_getElem? (i := 71) (by decide +kernel))) rfl
theorem seX9_openStreets : Cond.selects yX9_openStreets.cls yX9_openStreets yX9_openStreets ∈ p_ws := p_in (p_t3 (List.mem_of_getElem? (i := 72) (by decide +kernel))) rfl
abbrev mX9_isOpen : p_M := (yX9_isOpen, cX9_isOpen, 2, (some .boolean))
theorem cfX9_isOpen : p_cf mX9_isOpen 1 := p_cf.of (p_t4 (List.mem_of_getElem? (i := 177) rfl)) (p_t1 (List.mem_of_getElem? (i := 12) (by decide +kernel))) (by decide +kernel)
theorem imX9_isOpen : Cond.instanceMethod yX9_isOpen ∈ p_ws := p_in (p_t4 (List.mem_of_getElem? (i := 175) (by decide +kernel))) rfl
theorem seX9_isOpen : Cond.selects yX9_isOpen.cls yX9_isOpen yX9_isOpen ∈ p_ws := p_in (p_t4 (List.mem_of_getElem? (i := 176) (by decide +kernel))) rfl
abbrev mX9_putGate : p_M := (yX9_putGate, cX9_putGate, 7, (some .boolean))
theorem cfX9_putGate : p_cf mX9_putGate 3 := p_cf.of (p_t4 (List.mem_of_getElem? (i := 216) rfl)) (p_t1 (List.mem_of_getElem? (i := 12) (by decide +kernel))) (by decide +kernel)
theorem imX9_putGate : Cond.instanceMethod yX9_putGate ∈ p_ws := p_in (p_t4 (List.mem_of_getElem? (i := 214) (by decide +kernel))) rfl
theorem seX9_putGate : Cond.selects yX9_putGate.cls yX9_putGate yX9_putGate ∈ p_ws := p_in (p_t4 (List.mem_of_getElem? (i := 215) (by decide +kernel))) rfl
abbrev mX9_slotOf : p_M := (yX9_slotOf, cX9_slotOf, 2, (some .int))
theorem cfX9_slotOf : p_cf mX9_slotOf 1 := p_cf.of (p_t3 (List.mem_of_getElem? (i := 196) rfl)) (p_t1 (List.mem_of_getElem? (i := 12) (by decide +kernel))) (by decide +kernel)
theorem imX9_slotOf : Cond.instanceMethod yX9_slotOf ∈ p_ws := p_in (p_t3 (List.mem_of_getElem? (i := 194) (by decide +kernel))) rfl
theorem seX9_slotOf : Cond.selects yX9_slotOf.cls yX9_slotOf yX9_slotOf ∈ p_ws := p_in (p_t3 (List.mem_of_getElem? (i := 195) (by decide +kernel))) rfl
abbrev mX9_stateOf : p_M := (yX9_stateOf, cX9_stateOf, 2, (some .int))
theorem cfX9_stateOf : p_cf mX9_stateOf 1 := p_cf.of (p_t3 (List.mem_of_getElem? (i := 202) rfl)) (p_t1 (List.mem_of_getElem? (i := 12) (by decide +kernel))) (by decide +kernel)
theorem imX9_stateOf : Cond.instanceMethod yX9_stateOf ∈ p_ws := p_in (p_t3 (List.mem_of_getElem? (i := 200) (by decide +kernel))) rfl
theorem seX9_stateOf : Cond.selects yX9_stateOf.cls yX9_stateOf yX9_stateOf ∈ p_ws := p_in (p_t3 (List.mem_of_getElem? (i := 201) (by decide +kernel))) rfl
abbrev mX9_stepsOf : p_M := (yX9_stepsOf, cX9_stepsOf, 2, (some .int))
theorem cfX9_stepsOf : p_cf mX9_stepsOf 1 := p_cf.of (p_t4 (List.mem_of_getElem? (i := 158) rfl)) (p_t1 (List.mem_of_getElem? (i := 12) (by decide +kernel))) (by decide +kernel)
theorem imX9_stepsOf : Cond.instanceMethod yX9_stepsOf ∈ p_ws := p_in (p_t4 (List.mem_of_getElem? (i := 156) (by decide +kernel))) rfl
theorem seX9_stepsOf : Cond.selects yX9_stepsOf.cls yX9_stepsOf yX9_stepsOf ∈ p_ws := p_in (p_t4 (List.mem_of_getElem? (i := 157) (by decide +kernel))) rfl
abbrev mX9_bringWalker : p_M := (yX9_bringWalker, cX9_bringWalker, 3, (some .int))
theorem cfX9_bringWalker : p_cf mX9_bringWalker 1 := p_cf.of (p_t4 (List.mem_of_getElem? (i := 142) rfl)) (p_t1 (List.mem_of_getElem? (i := 12) (by decide +kernel))) (by decide +kernel)
theorem imX9_bringWalker : Cond.instanceMethod yX9_bringWalker ∈ p_ws := p_in (p_t4 (List.mem_of_getElem? (i := 140) (by decide +kernel))) rfl
theorem seX9_bringWalker : Cond.selects yX9_bringWalker.cls yX9_bringWalker yX9_bringWalker ∈ p_ws := p_in (p_t4 (List.mem_of_getElem? (i := 141) (by decide +kernel))) rfl
abbrev mX9_dropWalker : p_M := (yX9_dropWalker, cX9_dropWalker, 3, none)
theorem cfX9_dropWalker : p_cf mX9_dropWalker 1 := p_cf.of (p_t4 (List.mem_of_getElem? (i := 162) rfl)) (p_t1 (List.mem_of_getElem? (i := 12) (by decide +kernel))) (by decide +kernel)
theorem imX9_dropWalker : Cond.instanceMethod yX9_dropWalker ∈ p_ws := p_in (p_t4 (List.mem_of_getElem? (i := 160) (by decide +kernel))) rfl
theorem seX9_dropWalker : Cond.selects yX9_dropWalker.cls yX9_dropWalker yX9_dropWalker ∈ p_ws := p_in (p_t4 (List.mem_of_getElem? (i := 161) (by decide +kernel))) rfl
abbrev mX9_moveWalker : p_M := (yX9_moveWalker, cX9_moveWalker, 3, none)
theorem cfX9_moveWalker : p_cf mX9_moveWalker 2 := p_cf.of (p_t4 (List.mem_of_getElem? (i := 183) rfl)) (p_t1 (List.mem_of_getElem? (i := 12) (by decide +kernel))) (by decide +kernel)
theorem imX9_moveWalker : Cond.instanceMethod yX9_moveWalker ∈ p_ws := p_in (p_t4 (List.mem_of_getElem? (i := 181) (by decide +kernel))) rfl
theorem seX9_moveWalker : Cond.selects yX9_moveWalker.cls yX9_moveWalker yX9_moveWalker ∈ p_ws := p_in (p_t4 (List.mem_of_getElem? (i := 182) (by decide +kernel))) rfl
abbrev mX9_beginAnew : p_M := (yX9_beginAnew, cX9_beginAnew, 2, none)
theorem cfX9_beginAnew : p_cf mX9_beginAnew 1 := p_cf.of (p_t4 (List.mem_of_getElem? (i := 104) rfl)) (p_t1 (List.mem_of_getElem? (i := 12) (by decide +kernel))) (by decide +kernel)
theorem imX9_beginAnew : Cond.instanceMethod yX9_beginAnew ∈ p_ws := p_in (p_t4 (List.mem_of_getElem? (i := 102) (by decide +kernel))) rfl
theorem seX9_beginAnew : Cond.selects yX9_beginAnew.cls yX9_beginAnew yX9_beginAnew ∈ p_ws := p_in (p_t4 (List.mem_of_getElem? (i := 103) (by decide +kernel))) rfl
abbrev mX10_init : p_M := (yX10_init, cX10_init, 5, none)
theorem cfX10_init : p_cf mX10_init 0 := p_cf.of (p_t1 (List.mem_of_getElem? (i := 32) rfl)) (p_t1 (List.mem_of_getElem? (i := 1) (by decide +kernel))) (by decide +kernel)
theorem imX10_init : Cond.instanceMethod yX10_init ∈ p_ws := p_in (p_t1 (List.mem_of_getElem? (i := 31) (by decide +kernel))) rfl
abbrev mX10_append : p_M := (yX10_append, cX10_append, 6, (some .int))
theorem cfX10_append : p_cf mX10_append 5 := p_cf.of (p_t3 (List.mem_of_getElem? (i := 44) rfl)) (p_t1 (List.mem_of_getElem? (i := 1) (by decide +kernel))) (by decide +kernel)
theorem imX10_append : Cond.instanceMethod yX10_append ∈ p_ws := p_in (p_t3 (List.mem_of_getElem? (i := 42) (by decide +kernel))) rfl
theorem seX10_append : Cond.selects yX10_append.cls yX10_append yX10_append ∈ p_ws := p_in (p_t3 (List.mem_of_getElem? (i := 43) (by decide +kernel))) rfl
abbrev mX10_truncateInput : p_M := (yX10_truncateInput, cX10_truncateInput, 2, (some .int))
theorem cfX10_truncateInput : p_cf mX10_truncateInput 1 := p_cf.of (p_t3 (List.mem_of_getElem? (i := 237) rfl)) (p_t1 (List.mem_of_getElem? (i := 1) (by decide +kernel))) (by decide +kernel)
theorem imX10_truncateInput : Cond.instanceMethod yX10_truncateInput ∈ p_ws := p_in (p_t3 (List.mem_of_getElem? (i := 235) (by decide +kernel))) rfl
theorem seX10_truncateInput : Cond.selects yX10_truncateInput.cls yX10_truncateInput yX10_truncateInput ∈ p_ws := p_in (p_t3 (List.mem_of_getElem? (i := 236) (by decide +kernel))) rfl
abbrev mX10_inputLength : p_M := (yX10_inputLength, cX10_inputLength, 1, (some .int))
theorem cfX10_inputLength : p_cf mX10_inputLength 0 := p_cf.of (p_t3 (List.mem_of_getElem? (i := 53) rfl)) (p_t1 (List.mem_of_getElem? (i := 1) (by decide +kernel))) (by decide +kernel)
theorem imX10_inputLength : Cond.instanceMethod yX10_inputLength ∈ p_ws := p_in (p_t3 (List.mem_of_getElem? (i := 51) (by decide +kernel))) rfl
theorem seX10_inputLength : Cond.selects yX10_inputLength.cls yX10_inputLength yX10_inputLength ∈ p_ws := p_in (p_t3 (List.mem_of_getElem? (i := 52) (by decide +kernel))) rfl
abbrev mX10_compile : p_M := (yX10_compile, cX10_compile, 3, (some .int))
theorem cfX10_compile : p_cf mX10_compile 1 := p_cf.of (p_t4 (List.mem_of_getElem? (i := 73) rfl)) (p_t1 (List.mem_of_getElem? (i := 1) (by decide +kernel))) (by decide +kernel)
theorem imX10_compile : Cond.instanceMethod yX10_compile ∈ p_ws := p_in (p_t4 (List.mem_of_getElem? (i := 71) (by decide +kernel))) rfl
theorem seX10_compile : Cond.selects yX10_compile.cls yX10_compile yX10_compile ∈ p_ws := p_in (p_t4 (List.mem_of_getElem? (i := 72) (by decide +kernel))) rfl
abbrev mX10_copyPattern : p_M := (yX10_copyPattern, cX10_copyPattern, 3, (some .int))
theorem cfX10_copyPattern : p_cf mX10_copyPattern 1 := p_cf.of (p_t4 (List.mem_of_getElem? (i := 111) rfl)) (p_t1 (List.mem_of_getElem? (i := 1) (by decide +kernel))) (by decide +kernel)
theorem imX10_copyPattern : Cond.instanceMethod yX10_copyPattern ∈ p_ws := p_in (p_t4 (List.mem_of_getElem? (i := 109) (by decide +kernel))) rfl
theorem seX10_copyPattern : Cond.selects yX10_copyPattern.cls yX10_copyPattern yX10_copyPattern ∈ p_ws := p_in (p_t4 (List.mem_of_getElem? (i := 110) (by decide +kernel))) rfl
abbrev mX10_addWalker : p_M := (yX10_addWalker, cX10_addWalker, 2, (some .int))
theorem cfX10_addWalker : p_cf mX10_addWalker 1 := p_cf.of (p_t4 (List.mem_of_getElem? (i := 122) rfl)) (p_t1 (List.mem_of_getElem? (i := 1) (by decide +kernel))) (by decide +kernel)
theorem imX10_addWalker : Cond.instanceMethod yX10_addWalker ∈ p_ws := p_in (p_t4 (List.mem_of_getElem? (i := 120) (by decide +kernel))) rfl
theorem seX10_addWalker : Cond.selects yX10_addWalker.cls yX10_addWalker yX10_addWalker ∈ p_ws := p_in (p_t4 (List.mem_of_getElem? (i := 121) (by decide +kernel))) rfl
abbrev mX10_removeWalker : p_M := (yX10_removeWalker, cX10_removeWalker, 3, (some .int))
theorem cfX10_removeWalker : p_cf mX10_removeWalker 1 := p_cf.of (p_t4 (List.mem_of_getElem? (i := 149) rfl)) (p_t1 (List.mem_of_getElem? (i := 1) (by decide +kernel))) (by decide +kernel)
theorem imX10_removeWalker : Cond.instanceMethod yX10_removeWalker ∈ p_ws := p_in (p_t4 (List.mem_of_getElem? (i := 147) (by decide +kernel))) rfl
theorem seX10_removeWalker : Cond.selects yX10_removeWalker.cls yX10_removeWalker yX10_removeWalker ∈ p_ws := p_in (p_t4 (List.mem_of_getElem? (i := 148) (by decide +kernel))) rfl
abbrev mX10_step : p_M := (yX10_step, cX10_step, 3, (some .int))
theorem cfX10_step : p_cf mX10_step 2 := p_cf.of (p_t4 (List.mem_of_getElem? (i := 169) rfl)) (p_t1 (List.mem_of_getElem? (i := 1) (by decide +kernel))) (by decide +kernel)
theorem imX10_step : Cond.instanceMethod yX10_step ∈ p_ws := p_in (p_t4 (List.mem_of_getElem? (i := 167) (by decide +kernel))) rfl
theorem seX10_step : Cond.selects yX10_step.cls yX10_step yX10_step ∈ p_ws := p_in (p_t4 (List.mem_of_getElem? (i := 168) (by decide +kernel))) rfl
abbrev mX10_walkWord : p_M := (yX10_walkWord, cX10_walkWord, 5, (some .int))
theorem cfX10_walkWord : p_cf mX10_walkWord 1 := p_cf.of (p_t4 (List.mem_of_getElem? (i := 192) rfl)) (p_t1 (List.mem_of_getElem? (i := 1) (by decide +kernel))) (by decide +kernel)
theorem imX10_walkWord : Cond.instanceMethod yX10_walkWord ∈ p_ws := p_in (p_t4 (List.mem_of_getElem? (i := 190) (by decide +kernel))) rfl
theorem seX10_walkWord : Cond.selects yX10_walkWord.cls yX10_walkWord yX10_walkWord ∈ p_ws := p_in (p_t4 (List.mem_of_getElem? (i := 191) (by decide +kernel))) rfl
abbrev mX10_restartWalker : p_M := (yX10_restartWalker, cX10_restartWalker, 3, (some .int))
theorem cfX10_restartWalker : p_cf mX10_restartWalker 1 := p_cf.of (p_t4 (List.mem_of_getElem? (i := 204) rfl)) (p_t1 (List.mem_of_getElem? (i := 1) (by decide +kernel))) (by decide +kernel)
theorem imX10_restartWalker : Cond.instanceMethod yX10_restartWalker ∈ p_ws := p_in (p_t4 (List.mem_of_getElem? (i := 202) (by decide +kernel))) rfl
theorem seX10_restartWalker : Cond.selects yX10_restartWalker.cls yX10_restartWalker yX10_restartWalker ∈ p_ws := p_in (p_t4 (List.mem_of_getElem? (i := 203) (by decide +kernel))) rfl
abbrev mX10_setGate : p_M := (yX10_setGate, cX10_setGate, 4, (some .boolean))
theorem cfX10_setGate : p_cf mX10_setGate 3 := p_cf.of (p_t4 (List.mem_of_getElem? (i := 212) rfl)) (p_t1 (List.mem_of_getElem? (i := 1) (by decide +kernel))) (by decide +kernel)
theorem imX10_setGate : Cond.instanceMethod yX10_setGate ∈ p_ws := p_in (p_t4 (List.mem_of_getElem? (i := 210) (by decide +kernel))) rfl
theorem seX10_setGate : Cond.selects yX10_setGate.cls yX10_setGate yX10_setGate ∈ p_ws := p_in (p_t4 (List.mem_of_getElem? (i := 211) (by decide +kernel))) rfl
abbrev mX10_setNight : p_M := (yX10_setNight, cX10_setNight, 2, (some .int))
theorem cfX10_setNight : p_cf mX10_setNight 1 := p_cf.of (p_t3 (List.mem_of_getElem? (i := 57) rfl)) (p_t1 (List.mem_of_getElem? (i := 1) (by decide +kernel))) (by decide +kernel)
theorem imX10_setNight : Cond.instanceMethod yX10_setNight ∈ p_ws := p_in (p_t3 (List.mem_of_getElem? (i := 55) (by decide +kernel))) rfl
theorem seX10_setNight : Cond.selects yX10_setNight.cls yX10_setNight yX10_setNight ∈ p_ws := p_in (p_t3 (List.mem_of_getElem? (i := 56) (by decide +kernel))) rfl
abbrev mX10_undo : p_M := (yX10_undo, cX10_undo, 1, (some .int))
theorem cfX10_undo : p_cf mX10_undo 0 := p_cf.of (p_t3 (List.mem_of_getElem? (i := 83) rfl)) (p_t1 (List.mem_of_getElem? (i := 1) (by decide +kernel))) (by decide +kernel)
theorem imX10_undo : Cond.instanceMethod yX10_undo ∈ p_ws := p_in (p_t3 (List.mem_of_getElem? (i := 81) (by decide +kernel))) rfl
theorem seX10_undo : Cond.selects yX10_undo.cls yX10_undo yX10_undo ∈ p_ws := p_in (p_t3 (List.mem_of_getElem? (i := 82) (by decide +kernel))) rfl
abbrev mX10_undoCount : p_M := (yX10_undoCount, cX10_undoCount, 1, (some .int))
theorem cfX10_undoCount : p_cf mX10_undoCount 0 := p_cf.of (p_t3 (List.mem_of_getElem? (i := 95) rfl)) (p_t1 (List.mem_of_getElem? (i := 1) (by decide +kernel))) (by decide +kernel)
theorem imX10_undoCount : Cond.instanceMethod yX10_undoCount ∈ p_ws := p_in (p_t3 (List.mem_of_getElem? (i := 93) (by decide +kernel))) rfl
theorem seX10_undoCount : Cond.selects yX10_undoCount.cls yX10_undoCount yX10_undoCount ∈ p_ws := p_in (p_t3 (List.mem_of_getElem? (i := 94) (by decide +kernel))) rfl
abbrev mX10_saveSnapshot : p_M := (yX10_saveSnapshot, cX10_saveSnapshot, 1, (some .int))
theorem cfX10_saveSnapshot : p_cf mX10_saveSnapshot 0 := p_cf.of (p_t3 (List.mem_of_getElem? (i := 99) rfl)) (p_t1 (List.mem_of_getElem? (i := 1) (by decide +kernel))) (by decide +kernel)
theorem imX10_saveSnapshot : Cond.instanceMethod yX10_saveSnapshot ∈ p_ws := p_in (p_t3 (List.mem_of_getElem? (i := 97) (by decide +kernel))) rfl
theorem seX10_saveSnapshot : Cond.selects yX10_saveSnapshot.cls yX10_saveSnapshot yX10_saveSnapshot ∈ p_ws := p_in (p_t3 (List.mem_of_getElem? (i := 98) (by decide +kernel))) rfl
abbrev mX10_restoreSnapshot : p_M := (yX10_restoreSnapshot, cX10_restoreSnapshot, 1, (some .int))
theorem cfX10_restoreSnapshot : p_cf mX10_restoreSnapshot 0 := p_cf.of (p_t4 (List.mem_of_getElem? (i := 224) rfl)) (p_t1 (List.mem_of_getElem? (i := 1) (by decide +kernel))) (by decide +kernel)
theorem imX10_restoreSnapshot : Cond.instanceMethod yX10_restoreSnapshot ∈ p_ws := p_in (p_t4 (List.mem_of_getElem? (i := 222) (by decide +kernel))) rfl
theorem seX10_restoreSnapshot : Cond.selects yX10_restoreSnapshot.cls yX10_restoreSnapshot yX10_restoreSnapshot ∈ p_ws := p_in (p_t4 (List.mem_of_getElem? (i := 223) (by decide +kernel))) rfl
abbrev mX10_patternErrorKind : p_M := (yX10_patternErrorKind, cX10_patternErrorKind, 1, (some .int))
theorem cfX10_patternErrorKind : p_cf mX10_patternErrorKind 0 := p_cf.of (p_t3 (List.mem_of_getElem? (i := 104) rfl)) (p_t1 (List.mem_of_getElem? (i := 1) (by decide +kernel))) (by decide +kernel)
theorem imX10_patternErrorKind : Cond.instanceMethod yX10_patternErrorKind ∈ p_ws := p_in (p_t3 (List.mem_of_getElem? (i := 102) (by decide +kernel))) rfl
theorem seX10_patternErrorKind : Cond.selects yX10_patternErrorKind.cls yX10_patternErrorKind yX10_patternErrorKind ∈ p_ws := p_in (p_t3 (List.mem_of_getElem? (i := 103) (by decide +kernel))) rfl
abbrev mX10_patternErrorOffset : p_M := (yX10_patternErrorOffset, cX10_patternErrorOffset, 1, (some .int))
theorem cfX10_patternErrorOffset : p_cf mX10_patternErrorOffset 0 := p_cf.of (p_t3 (List.mem_of_getElem? (i := 108) rfl)) (p_t1 (List.mem_of_getElem? (i := 1) (by decide +kernel))) (by decide +kernel)
theorem imX10_patternErrorOffset : Cond.instanceMethod yX10_patternErrorOffset ∈ p_ws := p_in (p_t3 (List.mem_of_getElem? (i := 106) (by decide +kernel))) rfl
theorem seX10_patternErrorOffset : Cond.selects yX10_patternErrorOffset.cls yX10_patternErrorOffset yX10_patternErrorOffset ∈ p_ws := p_in (p_t3 (List.mem_of_getElem? (i := 107) (by decide +kernel))) rfl
abbrev mX10_positionCount : p_M := (yX10_positionCount, cX10_positionCount, 2, (some .int))
theorem cfX10_positionCount : p_cf mX10_positionCount 1 := p_cf.of (p_t5 (List.mem_of_getElem? (i := 11) rfl)) (p_t1 (List.mem_of_getElem? (i := 1) (by decide +kernel))) (by decide +kernel)
theorem imX10_positionCount : Cond.instanceMethod yX10_positionCount ∈ p_ws := p_in (p_t5 (List.mem_of_getElem? (i := 9) (by decide +kernel))) rfl
theorem seX10_positionCount : Cond.selects yX10_positionCount.cls yX10_positionCount yX10_positionCount ∈ p_ws := p_in (p_t5 (List.mem_of_getElem? (i := 10) (by decide +kernel))) rfl
abbrev mX10_streetAt : p_M := (yX10_streetAt, cX10_streetAt, 4, (some .int))
theorem cfX10_streetAt : p_cf mX10_streetAt 2 := p_cf.of (p_t5 (List.mem_of_getElem? (i := 22) rfl)) (p_t1 (List.mem_of_getElem? (i := 1) (by decide +kernel))) (by decide +kernel)
theorem imX10_streetAt : Cond.instanceMethod yX10_streetAt ∈ p_ws := p_in (p_t5 (List.mem_of_getElem? (i := 20) (by decide +kernel))) rfl
theorem seX10_streetAt : Cond.selects yX10_streetAt.cls yX10_streetAt yX10_streetAt ∈ p_ws := p_in (p_t5 (List.mem_of_getElem? (i := 21) (by decide +kernel))) rfl
abbrev mX10_acceptsEmptyWord : p_M := (yX10_acceptsEmptyWord, cX10_acceptsEmptyWord, 2, (some .boolean))
theorem cfX10_acceptsEmptyWord : p_cf mX10_acceptsEmptyWord 1 := p_cf.of (p_t5 (List.mem_of_getElem? (i := 37) rfl)) (p_t1 (List.mem_of_getElem? (i := 1) (by decide +kernel))) (by decide +kernel)
theorem imX10_acceptsEmptyWord : Cond.instanceMethod yX10_acceptsEmptyWord ∈ p_ws := p_in (p_t5 (List.mem_of_getElem? (i := 35) (by decide +kernel))) rfl
theorem seX10_acceptsEmptyWord : Cond.selects yX10_acceptsEmptyWord.cls yX10_acceptsEmptyWord yX10_acceptsEmptyWord ∈ p_ws := p_in (p_t5 (List.mem_of_getElem? (i := 36) (by decide +kernel))) rfl
abbrev mX10_firstPositions : p_M := (yX10_firstPositions, cX10_firstPositions, 2, (some .int))
theorem cfX10_firstPositions : p_cf mX10_firstPositions 1 := p_cf.of (p_t5 (List.mem_of_getElem? (i := 44) rfl)) (p_t1 (List.mem_of_getElem? (i := 1) (by decide +kernel))) (by decide +kernel)
theorem imX10_firstPositions : Cond.instanceMethod yX10_firstPositions ∈ p_ws := p_in (p_t5 (List.mem_of_getElem? (i := 42) (by decide +kernel))) rfl
theorem seX10_firstPositions : Cond.selects yX10_firstPositions.cls yX10_firstPositions yX10_firstPositions ∈ p_ws := p_in (p_t5 (List.mem_of_getElem? (i := 43) (by decide +kernel))) rfl
abbrev mX10_lastPositions : p_M := (yX10_lastPositions, cX10_lastPositions, 2, (some .int))
theorem cfX10_lastPositions : p_cf mX10_lastPositions 1 := p_cf.of (p_t5 (List.mem_of_getElem? (i := 51) rfl)) (p_t1 (List.mem_of_getElem? (i := 1) (by decide +kernel))) (by decide +kernel)
theorem imX10_lastPositions : Cond.instanceMethod yX10_lastPositions ∈ p_ws := p_in (p_t5 (List.mem_of_getElem? (i := 49) (by decide +kernel))) rfl
theorem seX10_lastPositions : Cond.selects yX10_lastPositions.cls yX10_lastPositions yX10_lastPositions ∈ p_ws := p_in (p_t5 (List.mem_of_getElem? (i := 50) (by decide +kernel))) rfl
abbrev mX10_followPositions : p_M := (yX10_followPositions, cX10_followPositions, 4, (some .int))
theorem cfX10_followPositions : p_cf mX10_followPositions 2 := p_cf.of (p_t5 (List.mem_of_getElem? (i := 58) rfl)) (p_t1 (List.mem_of_getElem? (i := 1) (by decide +kernel))) (by decide +kernel)
theorem imX10_followPositions : Cond.instanceMethod yX10_followPositions ∈ p_ws := p_in (p_t5 (List.mem_of_getElem? (i := 56) (by decide +kernel))) rfl
theorem seX10_followPositions : Cond.selects yX10_followPositions.cls yX10_followPositions yX10_followPositions ∈ p_ws := p_in (p_t5 (List.mem_of_getElem? (i := 57) (by decide +kernel))) rfl
abbrev mX10_loopCount : p_M := (yX10_loopCount, cX10_loopCount, 2, (some .int))
theorem cfX10_loopCount : p_cf mX10_loopCount 1 := p_cf.of (p_t5 (List.mem_of_getElem? (i := 69) rfl)) (p_t1 (List.mem_of_getElem? (i := 1) (by decide +kernel))) (by decide +kernel)
theorem imX10_loopCount : Cond.instanceMethod yX10_loopCount ∈ p_ws := p_in (p_t5 (List.mem_of_getElem? (i := 67) (by decide +kernel))) rfl
theorem seX10_loopCount : Cond.selects yX10_loopCount.cls yX10_loopCount yX10_loopCount ∈ p_ws := p_in (p_t5 (List.mem_of_getElem? (i := 68) (by decide +kernel))) rfl
abbrev mX10_isDeterministicAt : p_M := (yX10_isDeterministicAt, cX10_isDeterministicAt, 6, (some .boolean))
theorem cfX10_isDeterministicAt : p_cf mX10_isDeterministicAt 2 := p_cf.of (p_t5 (List.mem_of_getElem? (i := 76) rfl)) (p_t1 (List.mem_of_getElem? (i := 1) (by decide +kernel))) (by decide +kernel)
theorem imX10_isDeterministicAt : Cond.instanceMethod yX10_isDeterministicAt ∈ p_ws := p_in (p_t5 (List.mem_of_getElem? (i := 74) (by decide +kernel))) rfl
theorem seX10_isDeterministicAt : Cond.selects yX10_isDeterministicAt.cls yX10_isDeterministicAt yX10_isDeterministicAt ∈ p_ws := p_in (p_t5 (List.mem_of_getElem? (i := 75) (by decide +kernel))) rfl
abbrev mX10_stateCount : p_M := (yX10_stateCount, cX10_stateCount, 2, (some .int))
theorem cfX10_stateCount : p_cf mX10_stateCount 1 := p_cf.of (p_t5 (List.mem_of_getElem? (i := 87) rfl)) (p_t1 (List.mem_of_getElem? (i := 1) (by decide +kernel))) (by decide +kernel)
theorem imX10_stateCount : Cond.instanceMethod yX10_stateCount ∈ p_ws := p_in (p_t5 (List.mem_of_getElem? (i := 85) (by decide +kernel))) rfl
theorem seX10_stateCount : Cond.selects yX10_stateCount.cls yX10_stateCount yX10_stateCount ∈ p_ws := p_in (p_t5 (List.mem_of_getElem? (i := 86) (by decide +kernel))) rfl
abbrev mX10_transition : p_M := (yX10_transition, cX10_transition, 5, (some .int))
theorem cfX10_transition : p_cf mX10_transition 3 := p_cf.of (p_t5 (List.mem_of_getElem? (i := 94) rfl)) (p_t1 (List.mem_of_getElem? (i := 1) (by decide +kernel))) (by decide +kernel)
theorem imX10_transition : Cond.instanceMethod yX10_transition ∈ p_ws := p_in (p_t5 (List.mem_of_getElem? (i := 92) (by decide +kernel))) rfl
theorem seX10_transition : Cond.selects yX10_transition.cls yX10_transition yX10_transition ∈ p_ws := p_in (p_t5 (List.mem_of_getElem? (i := 93) (by decide +kernel))) rfl
abbrev mX10_isAccepting : p_M := (yX10_isAccepting, cX10_isAccepting, 4, (some .boolean))
theorem cfX10_isAccepting : p_cf mX10_isAccepting 2 := p_cf.of (p_t5 (List.mem_of_getElem? (i := 106) rfl)) (p_t1 (List.mem_of_getElem? (i := 1) (by decide +kernel))) (by decide +kernel)
theorem imX10_isAccepting : Cond.instanceMethod yX10_isAccepting ∈ p_ws := p_in (p_t5 (List.mem_of_getElem? (i := 104) (by decide +kernel))) rfl
theorem seX10_isAccepting : Cond.selects yX10_isAccepting.cls yX10_isAccepting yX10_isAccepting ∈ p_ws := p_in (p_t5 (List.mem_of_getElem? (i := 105) (by decide +kernel))) rfl
abbrev mX10_statePositions : p_M := (yX10_statePositions, cX10_statePositions, 4, (some .int))
theorem cfX10_statePositions : p_cf mX10_statePositions 2 := p_cf.of (p_t5 (List.mem_of_getElem? (i := 113) rfl)) (p_t1 (List.mem_of_getElem? (i := 1) (by decide +kernel))) (by decide +kernel)
theorem imX10_statePositions : Cond.instanceMethod yX10_statePositions ∈ p_ws := p_in (p_t5 (List.mem_of_getElem? (i := 111) (by decide +kernel))) rfl
theorem seX10_statePositions : Cond.selects yX10_statePositions.cls yX10_statePositions yX10_statePositions ∈ p_ws := p_in (p_t5 (List.mem_of_getElem? (i := 112) (by decide +kernel))) rfl
abbrev mX10_deadState : p_M := (yX10_deadState, cX10_deadState, 2, (some .int))
theorem cfX10_deadState : p_cf mX10_deadState 1 := p_cf.of (p_t5 (List.mem_of_getElem? (i := 121) rfl)) (p_t1 (List.mem_of_getElem? (i := 1) (by decide +kernel))) (by decide +kernel)
theorem imX10_deadState : Cond.instanceMethod yX10_deadState ∈ p_ws := p_in (p_t5 (List.mem_of_getElem? (i := 119) (by decide +kernel))) rfl
theorem seX10_deadState : Cond.selects yX10_deadState.cls yX10_deadState yX10_deadState ∈ p_ws := p_in (p_t5 (List.mem_of_getElem? (i := 120) (by decide +kernel))) rfl
abbrev mX10_distanceToAccepting : p_M := (yX10_distanceToAccepting, cX10_distanceToAccepting, 4, (some .int))
theorem cfX10_distanceToAccepting : p_cf mX10_distanceToAccepting 2 := p_cf.of (p_t5 (List.mem_of_getElem? (i := 132) rfl)) (p_t1 (List.mem_of_getElem? (i := 1) (by decide +kernel))) (by decide +kernel)
theorem imX10_distanceToAccepting : Cond.instanceMethod yX10_distanceToAccepting ∈ p_ws := p_in (p_t5 (List.mem_of_getElem? (i := 130) (by decide +kernel))) rfl
theorem seX10_distanceToAccepting : Cond.selects yX10_distanceToAccepting.cls yX10_distanceToAccepting yX10_distanceToAccepting ∈ p_ws := p_in (p_t5 (List.mem_of_getElem? (i := 131) (by decide +kernel))) rfl
abbrev mX10_areEquivalentStates : p_M := (yX10_areEquivalentStates, cX10_areEquivalentStates, 5, (some .boolean))
theorem cfX10_areEquivalentStates : p_cf mX10_areEquivalentStates 3 := p_cf.of (p_t5 (List.mem_of_getElem? (i := 144) rfl)) (p_t1 (List.mem_of_getElem? (i := 1) (by decide +kernel))) (by decide +kernel)
theorem imX10_areEquivalentStates : Cond.instanceMethod yX10_areEquivalentStates ∈ p_ws := p_in (p_t5 (List.mem_of_getElem? (i := 142) (by decide +kernel))) rfl
theorem seX10_areEquivalentStates : Cond.selects yX10_areEquivalentStates.cls yX10_areEquivalentStates yX10_areEquivalentStates ∈ p_ws := p_in (p_t5 (List.mem_of_getElem? (i := 143) (by decide +kernel))) rfl
abbrev mX10_minimalStateCount : p_M := (yX10_minimalStateCount, cX10_minimalStateCount, 2, (some .int))
theorem cfX10_minimalStateCount : p_cf mX10_minimalStateCount 1 := p_cf.of (p_t5 (List.mem_of_getElem? (i := 179) rfl)) (p_t1 (List.mem_of_getElem? (i := 1) (by decide +kernel))) (by decide +kernel)
theorem imX10_minimalStateCount : Cond.instanceMethod yX10_minimalStateCount ∈ p_ws := p_in (p_t5 (List.mem_of_getElem? (i := 177) (by decide +kernel))) rfl
theorem seX10_minimalStateCount : Cond.selects yX10_minimalStateCount.cls yX10_minimalStateCount yX10_minimalStateCount ∈ p_ws := p_in (p_t5 (List.mem_of_getElem? (i := 178) (by decide +kernel))) rfl
abbrev mX10_acceptsInput : p_M := (yX10_acceptsInput, cX10_acceptsInput, 3, (some .boolean))
theorem cfX10_acceptsInput : p_cf mX10_acceptsInput 1 := p_cf.of (p_t5 (List.mem_of_getElem? (i := 190) rfl)) (p_t1 (List.mem_of_getElem? (i := 1) (by decide +kernel))) (by decide +kernel)
theorem imX10_acceptsInput : Cond.instanceMethod yX10_acceptsInput ∈ p_ws := p_in (p_t5 (List.mem_of_getElem? (i := 188) (by decide +kernel))) rfl
theorem seX10_acceptsInput : Cond.selects yX10_acceptsInput.cls yX10_acceptsInput yX10_acceptsInput ∈ p_ws := p_in (p_t5 (List.mem_of_getElem? (i := 189) (by decide +kernel))) rfl
abbrev mX10_wordCount : p_M := (yX10_wordCount, cX10_wordCount, 4, (some .long))
theorem cfX10_wordCount : p_cf mX10_wordCount 2 := p_cf.of (p_t5 (List.mem_of_getElem? (i := 201) rfl)) (p_t1 (List.mem_of_getElem? (i := 1) (by decide +kernel))) (by decide +kernel)
theorem imX10_wordCount : Cond.instanceMethod yX10_wordCount ∈ p_ws := p_in (p_t5 (List.mem_of_getElem? (i := 199) (by decide +kernel))) rfl
theorem seX10_wordCount : Cond.selects yX10_wordCount.cls yX10_wordCount yX10_wordCount ∈ p_ws := p_in (p_t5 (List.mem_of_getElem? (i := 200) (by decide +kernel))) rfl
abbrev mX10_wordCountWithPrefix : p_M := (yX10_wordCountWithPrefix, cX10_wordCountWithPrefix, 6, (some .long))
theorem cfX10_wordCountWithPrefix : p_cf mX10_wordCountWithPrefix 2 := p_cf.of (p_t5 (List.mem_of_getElem? (i := 232) rfl)) (p_t1 (List.mem_of_getElem? (i := 1) (by decide +kernel))) (by decide +kernel)
theorem imX10_wordCountWithPrefix : Cond.instanceMethod yX10_wordCountWithPrefix ∈ p_ws := p_in (p_t5 (List.mem_of_getElem? (i := 230) (by decide +kernel))) rfl
theorem seX10_wordCountWithPrefix : Cond.selects yX10_wordCountWithPrefix.cls yX10_wordCountWithPrefix yX10_wordCountWithPrefix ∈ p_ws := p_in (p_t5 (List.mem_of_getElem? (i := 231) (by decide +kernel))) rfl
abbrev mX10_shortestLength : p_M := (yX10_shortestLength, cX10_shortestLength, 2, (some .int))
theorem cfX10_shortestLength : p_cf mX10_shortestLength 1 := p_cf.of (p_t5 (List.mem_of_getElem? (i := 239) rfl)) (p_t1 (List.mem_of_getElem? (i := 1) (by decide +kernel))) (by decide +kernel)
theorem imX10_shortestLength : Cond.instanceMethod yX10_shortestLength ∈ p_ws := p_in (p_t5 (List.mem_of_getElem? (i := 237) (by decide +kernel))) rfl
theorem seX10_shortestLength : Cond.selects yX10_shortestLength.cls yX10_shortestLength yX10_shortestLength ∈ p_ws := p_in (p_t5 (List.mem_of_getElem? (i := 238) (by decide +kernel))) rfl
abbrev mX10_isFinite : p_M := (yX10_isFinite, cX10_isFinite, 2, (some .boolean))
theorem cfX10_isFinite : p_cf mX10_isFinite 1 := p_cf.of (p_t6 (List.mem_of_getElem? (i := 6) rfl)) (p_t1 (List.mem_of_getElem? (i := 1) (by decide +kernel))) (by decide +kernel)
theorem imX10_isFinite : Cond.instanceMethod yX10_isFinite ∈ p_ws := p_in (p_t6 (List.mem_of_getElem? (i := 4) (by decide +kernel))) rfl
theorem seX10_isFinite : Cond.selects yX10_isFinite.cls yX10_isFinite yX10_isFinite ∈ p_ws := p_in (p_t6 (List.mem_of_getElem? (i := 5) (by decide +kernel))) rfl
abbrev mX10_longestLength : p_M := (yX10_longestLength, cX10_longestLength, 2, (some .int))
theorem cfX10_longestLength : p_cf mX10_longestLength 1 := p_cf.of (p_t6 (List.mem_of_getElem? (i := 31) rfl)) (p_t1 (List.mem_of_getElem? (i := 1) (by decide +kernel))) (by decide +kernel)
theorem imX10_longestLength : Cond.instanceMethod yX10_longestLength ∈ p_ws := p_in (p_t6 (List.mem_of_getElem? (i := 29) (by decide +kernel))) rfl
theorem seX10_longestLength : Cond.selects yX10_longestLength.cls yX10_longestLength yX10_longestLength ∈ p_ws := p_in (p_t6 (List.mem_of_getElem? (i := 30) (by decide +kernel))) rfl
abbrev mX10_isSubset : p_M := (yX10_isSubset, cX10_isSubset, 4, (some .boolean))
theorem cfX10_isSubset : p_cf mX10_isSubset 1 := p_cf.of (p_t6 (List.mem_of_getElem? (i := 38) rfl)) (p_t1 (List.mem_of_getElem? (i := 1) (by decide +kernel))) (by decide +kernel)
theorem imX10_isSubset : Cond.instanceMethod yX10_isSubset ∈ p_ws := p_in (p_t6 (List.mem_of_getElem? (i := 36) (by decide +kernel))) rfl
theorem seX10_isSubset : Cond.selects yX10_isSubset.cls yX10_isSubset yX10_isSubset ∈ p_ws := p_in (p_t6 (List.mem_of_getElem? (i := 37) (by decide +kernel))) rfl
abbrev mX10_differenceLength : p_M := (yX10_differenceLength, cX10_differenceLength, 1, (some .int))
theorem cfX10_differenceLength : p_cf mX10_differenceLength 0 := p_cf.of (p_t3 (List.mem_of_getElem? (i := 112) rfl)) (p_t1 (List.mem_of_getElem? (i := 1) (by decide +kernel))) (by decide +kernel)
theorem imX10_differenceLength : Cond.instanceMethod yX10_differenceLength ∈ p_ws := p_in (p_t3 (List.mem_of_getElem? (i := 110) (by decide +kernel))) rfl
theorem seX10_differenceLength : Cond.selects yX10_differenceLength.cls yX10_differenceLength yX10_differenceLength ∈ p_ws := p_in (p_t3 (List.mem_of_getElem? (i := 111) (by decide +kernel))) rfl
abbrev mX10_sharedLength : p_M := (yX10_sharedLength, cX10_sharedLength, 1, (some .int))
theorem cfX10_sharedLength : p_cf mX10_sharedLength 0 := p_cf.of (p_t3 (List.mem_of_getElem? (i := 164) rfl)) (p_t1 (List.mem_of_getElem? (i := 1) (by decide +kernel))) (by decide +kernel)
theorem imX10_sharedLength : Cond.instanceMethod yX10_sharedLength ∈ p_ws := p_in (p_t3 (List.mem_of_getElem? (i := 162) (by decide +kernel))) rfl
theorem seX10_sharedLength : Cond.selects yX10_sharedLength.cls yX10_sharedLength yX10_sharedLength ∈ p_ws := p_in (p_t3 (List.mem_of_getElem? (i := 163) (by decide +kernel))) rfl
abbrev mX10_reachablePairs : p_M := (yX10_reachablePairs, cX10_reachablePairs, 1, (some .int))
theorem cfX10_reachablePairs : p_cf mX10_reachablePairs 0 := p_cf.of (p_t3 (List.mem_of_getElem? (i := 168) rfl)) (p_t1 (List.mem_of_getElem? (i := 1) (by decide +kernel))) (by decide +kernel)
theorem imX10_reachablePairs : Cond.instanceMethod yX10_reachablePairs ∈ p_ws := p_in (p_t3 (List.mem_of_getElem? (i := 166) (by decide +kernel))) rfl
theorem seX10_reachablePairs : Cond.selects yX10_reachablePairs.cls yX10_reachablePairs yX10_reachablePairs ∈ p_ws := p_in (p_t3 (List.mem_of_getElem? (i := 167) (by decide +kernel))) rfl
abbrev mX10_isPassable : p_M := (yX10_isPassable, cX10_isPassable, 2, (some .boolean))
theorem cfX10_isPassable : p_cf mX10_isPassable 1 := p_cf.of (p_t6 (List.mem_of_getElem? (i := 45) rfl)) (p_t1 (List.mem_of_getElem? (i := 1) (by decide +kernel))) (by decide +kernel)
theorem imX10_isPassable : Cond.instanceMethod yX10_isPassable ∈ p_ws := p_in (p_t6 (List.mem_of_getElem? (i := 43) (by decide +kernel))) rfl
theorem seX10_isPassable : Cond.selects yX10_isPassable.cls yX10_isPassable yX10_isPassable ∈ p_ws := p_in (p_t6 (List.mem_of_getElem? (i := 44) (by decide +kernel))) rfl
abbrev mX10_isNight : p_M := (yX10_isNight, cX10_isNight, 1, (some .boolean))
theorem cfX10_isNight : p_cf mX10_isNight 0 := p_cf.of (p_t3 (List.mem_of_getElem? (i := 176) rfl)) (p_t1 (List.mem_of_getElem? (i := 1) (by decide +kernel))) (by decide +kernel)
theorem imX10_isNight : Cond.instanceMethod yX10_isNight ∈ p_ws := p_in (p_t3 (List.mem_of_getElem? (i := 174) (by decide +kernel))) rfl
theorem seX10_isNight : Cond.selects yX10_isNight.cls yX10_isNight yX10_isNight ∈ p_ws := p_in (p_t3 (List.mem_of_getElem? (i := 175) (by decide +kernel))) rfl
abbrev mX10_walkerCount : p_M := (yX10_walkerCount, cX10_walkerCount, 1, (some .int))
theorem cfX10_walkerCount : p_cf mX10_walkerCount 0 := p_cf.of (p_t3 (List.mem_of_getElem? (i := 180) rfl)) (p_t1 (List.mem_of_getElem? (i := 1) (by decide +kernel))) (by decide +kernel)
theorem imX10_walkerCount : Cond.instanceMethod yX10_walkerCount ∈ p_ws := p_in (p_t3 (List.mem_of_getElem? (i := 178) (by decide +kernel))) rfl
theorem seX10_walkerCount : Cond.selects yX10_walkerCount.cls yX10_walkerCount yX10_walkerCount ∈ p_ws := p_in (p_t3 (List.mem_of_getElem? (i := 179) (by decide +kernel))) rfl
abbrev mX10_walkerSlot : p_M := (yX10_walkerSlot, cX10_walkerSlot, 2, (some .int))
theorem cfX10_walkerSlot : p_cf mX10_walkerSlot 1 := p_cf.of (p_t6 (List.mem_of_getElem? (i := 52) rfl)) (p_t1 (List.mem_of_getElem? (i := 1) (by decide +kernel))) (by decide +kernel)
theorem imX10_walkerSlot : Cond.instanceMethod yX10_walkerSlot ∈ p_ws := p_in (p_t6 (List.mem_of_getElem? (i := 50) (by decide +kernel))) rfl
theorem seX10_walkerSlot : Cond.selects yX10_walkerSlot.cls yX10_walkerSlot yX10_walkerSlot ∈ p_ws := p_in (p_t6 (List.mem_of_getElem? (i := 51) (by decide +kernel))) rfl
abbrev mX10_walkerState : p_M := (yX10_walkerState, cX10_walkerState, 2, (some .int))
theorem cfX10_walkerState : p_cf mX10_walkerState 1 := p_cf.of (p_t6 (List.mem_of_getElem? (i := 60) rfl)) (p_t1 (List.mem_of_getElem? (i := 1) (by decide +kernel))) (by decide +kernel)
theorem imX10_walkerState : Cond.instanceMethod yX10_walkerState ∈ p_ws := p_in (p_t6 (List.mem_of_getElem? (i := 58) (by decide +kernel))) rfl
theorem seX10_walkerState : Cond.selects yX10_walkerState.cls yX10_walkerState yX10_walkerState ∈ p_ws := p_in (p_t6 (List.mem_of_getElem? (i := 59) (by decide +kernel))) rfl
abbrev mX10_walkerSteps : p_M := (yX10_walkerSteps, cX10_walkerSteps, 2, (some .int))
theorem cfX10_walkerSteps : p_cf mX10_walkerSteps 1 := p_cf.of (p_t6 (List.mem_of_getElem? (i := 67) rfl)) (p_t1 (List.mem_of_getElem? (i := 1) (by decide +kernel))) (by decide +kernel)
theorem imX10_walkerSteps : Cond.instanceMethod yX10_walkerSteps ∈ p_ws := p_in (p_t6 (List.mem_of_getElem? (i := 65) (by decide +kernel))) rfl
theorem seX10_walkerSteps : Cond.selects yX10_walkerSteps.cls yX10_walkerSteps yX10_walkerSteps ∈ p_ws := p_in (p_t6 (List.mem_of_getElem? (i := 66) (by decide +kernel))) rfl
abbrev mX10_stepsHome : p_M := (yX10_stepsHome, cX10_stepsHome, 2, (some .int))
theorem cfX10_stepsHome : p_cf mX10_stepsHome 1 := p_cf.of (p_t6 (List.mem_of_getElem? (i := 74) rfl)) (p_t1 (List.mem_of_getElem? (i := 1) (by decide +kernel))) (by decide +kernel)
theorem imX10_stepsHome : Cond.instanceMethod yX10_stepsHome ∈ p_ws := p_in (p_t6 (List.mem_of_getElem? (i := 72) (by decide +kernel))) rfl
theorem seX10_stepsHome : Cond.selects yX10_stepsHome.cls yX10_stepsHome yX10_stepsHome ∈ p_ws := p_in (p_t6 (List.mem_of_getElem? (i := 73) (by decide +kernel))) rfl
abbrev mX10_streetHome : p_M := (yX10_streetHome, cX10_streetHome, 2, (some .int))
theorem cfX10_streetHome : p_cf mX10_streetHome 1 := p_cf.of (p_t6 (List.mem_of_getElem? (i := 85) rfl)) (p_t1 (List.mem_of_getElem? (i := 1) (by decide +kernel))) (by decide +kernel)
theorem imX10_streetHome : Cond.instanceMethod yX10_streetHome ∈ p_ws := p_in (p_t6 (List.mem_of_getElem? (i := 83) (by decide +kernel))) rfl
theorem seX10_streetHome : Cond.selects yX10_streetHome.cls yX10_streetHome yX10_streetHome ∈ p_ws := p_in (p_t6 (List.mem_of_getElem? (i := 84) (by decide +kernel))) rfl
abbrev mX10_walkersInState : p_M := (yX10_walkersInState, cX10_walkersInState, 5, (some .int))
theorem cfX10_walkersInState : p_cf mX10_walkersInState 2 := p_cf.of (p_t6 (List.mem_of_getElem? (i := 97) rfl)) (p_t1 (List.mem_of_getElem? (i := 1) (by decide +kernel))) (by decide +kernel)
theorem imX10_walkersInState : Cond.instanceMethod yX10_walkersInState ∈ p_ws := p_in (p_t6 (List.mem_of_getElem? (i := 95) (by decide +kernel))) rfl
theorem seX10_walkersInState : Cond.selects yX10_walkersInState.cls yX10_walkersInState yX10_walkersInState ∈ p_ws := p_in (p_t6 (List.mem_of_getElem? (i := 96) (by decide +kernel))) rfl
abbrev mX10_meetingSteps : p_M := (yX10_meetingSteps, cX10_meetingSteps, 4, (some .int))
theorem cfX10_meetingSteps : p_cf mX10_meetingSteps 2 := p_cf.of (p_t6 (List.mem_of_getElem? (i := 104) rfl)) (p_t1 (List.mem_of_getElem? (i := 1) (by decide +kernel))) (by decide +kernel)
theorem imX10_meetingSteps : Cond.instanceMethod yX10_meetingSteps ∈ p_ws := p_in (p_t6 (List.mem_of_getElem? (i := 102) (by decide +kernel))) rfl
theorem seX10_meetingSteps : Cond.selects yX10_meetingSteps.cls yX10_meetingSteps yX10_meetingSteps ∈ p_ws := p_in (p_t6 (List.mem_of_getElem? (i := 103) (by decide +kernel))) rfl
abbrev mX10_totalSteps : p_M := (yX10_totalSteps, cX10_totalSteps, 1, (some .int))
theorem cfX10_totalSteps : p_cf mX10_totalSteps 0 := p_cf.of (p_t3 (List.mem_of_getElem? (i := 184) rfl)) (p_t1 (List.mem_of_getElem? (i := 1) (by decide +kernel))) (by decide +kernel)
theorem imX10_totalSteps : Cond.instanceMethod yX10_totalSteps ∈ p_ws := p_in (p_t3 (List.mem_of_getElem? (i := 182) (by decide +kernel))) rfl
theorem seX10_totalSteps : Cond.selects yX10_totalSteps.cls yX10_totalSteps yX10_totalSteps ∈ p_ws := p_in (p_t3 (List.mem_of_getElem? (i := 183) (by decide +kernel))) rfl
abbrev mX10_homeShare : p_M := (yX10_homeShare, cX10_homeShare, 3, (some .float))
theorem cfX10_homeShare : p_cf mX10_homeShare 0 := p_cf.of (p_t3 (List.mem_of_getElem? (i := 188) rfl)) (p_t1 (List.mem_of_getElem? (i := 1) (by decide +kernel))) (by decide +kernel)
theorem imX10_homeShare : Cond.instanceMethod yX10_homeShare ∈ p_ws := p_in (p_t3 (List.mem_of_getElem? (i := 186) (by decide +kernel))) rfl
theorem seX10_homeShare : Cond.selects yX10_homeShare.cls yX10_homeShare yX10_homeShare ∈ p_ws := p_in (p_t3 (List.mem_of_getElem? (i := 187) (by decide +kernel))) rfl
abbrev mX10_meanSetSize : p_M := (yX10_meanSetSize, cX10_meanSetSize, 5, (some .double))
theorem cfX10_meanSetSize : p_cf mX10_meanSetSize 1 := p_cf.of (p_t6 (List.mem_of_getElem? (i := 111) rfl)) (p_t1 (List.mem_of_getElem? (i := 1) (by decide +kernel))) (by decide +kernel)
theorem imX10_meanSetSize : Cond.instanceMethod yX10_meanSetSize ∈ p_ws := p_in (p_t6 (List.mem_of_getElem? (i := 109) (by decide +kernel))) rfl
theorem seX10_meanSetSize : Cond.selects yX10_meanSetSize.cls yX10_meanSetSize yX10_meanSetSize ∈ p_ws := p_in (p_t6 (List.mem_of_getElem? (i := 110) (by decide +kernel))) rfl
abbrev mX10_writeWord : p_M := (yX10_writeWord, cX10_writeWord, 12, (some .int))
theorem cfX10_writeWord : p_cf mX10_writeWord 3 := p_cf.of (p_t6 (List.mem_of_getElem? (i := 118) rfl)) (p_t1 (List.mem_of_getElem? (i := 1) (by decide +kernel))) (by decide +kernel)
theorem imX10_writeWord : Cond.instanceMethod yX10_writeWord ∈ p_ws := p_in (p_t6 (List.mem_of_getElem? (i := 116) (by decide +kernel))) rfl
theorem seX10_writeWord : Cond.selects yX10_writeWord.cls yX10_writeWord yX10_writeWord ∈ p_ws := p_in (p_t6 (List.mem_of_getElem? (i := 117) (by decide +kernel))) rfl
abbrev mX10_writeDifference : p_M := (yX10_writeDifference, cX10_writeDifference, 1, (some .int))
theorem cfX10_writeDifference : p_cf mX10_writeDifference 0 := p_cf.of (p_t3 (List.mem_of_getElem? (i := 207) rfl)) (p_t1 (List.mem_of_getElem? (i := 1) (by decide +kernel))) (by decide +kernel)
theorem imX10_writeDifference : Cond.instanceMethod yX10_writeDifference ∈ p_ws := p_in (p_t3 (List.mem_of_getElem? (i := 205) (by decide +kernel))) rfl
theorem seX10_writeDifference : Cond.selects yX10_writeDifference.cls yX10_writeDifference yX10_writeDifference ∈ p_ws := p_in (p_t3 (List.mem_of_getElem? (i := 206) (by decide +kernel))) rfl
abbrev mX10_writeSharedWord : p_M := (yX10_writeSharedWord, cX10_writeSharedWord, 1, (some .int))
theorem cfX10_writeSharedWord : p_cf mX10_writeSharedWord 0 := p_cf.of (p_t3 (List.mem_of_getElem? (i := 225) rfl)) (p_t1 (List.mem_of_getElem? (i := 1) (by decide +kernel))) (by decide +kernel)
theorem imX10_writeSharedWord : Cond.instanceMethod yX10_writeSharedWord ∈ p_ws := p_in (p_t3 (List.mem_of_getElem? (i := 223) (by decide +kernel))) rfl
theorem seX10_writeSharedWord : Cond.selects yX10_writeSharedWord.cls yX10_writeSharedWord yX10_writeSharedWord ∈ p_ws := p_in (p_t3 (List.mem_of_getElem? (i := 224) (by decide +kernel))) rfl
abbrev mX10_reportByte : p_M := (yX10_reportByte, cX10_reportByte, 2, (some .int))
theorem cfX10_reportByte : p_cf mX10_reportByte 1 := p_cf.of (p_t3 (List.mem_of_getElem? (i := 229) rfl)) (p_t1 (List.mem_of_getElem? (i := 1) (by decide +kernel))) (by decide +kernel)
theorem imX10_reportByte : Cond.instanceMethod yX10_reportByte ∈ p_ws := p_in (p_t3 (List.mem_of_getElem? (i := 227) (by decide +kernel))) rfl
theorem seX10_reportByte : Cond.selects yX10_reportByte.cls yX10_reportByte yX10_reportByte ∈ p_ws := p_in (p_t3 (List.mem_of_getElem? (i := 228) (by decide +kernel))) rfl
abbrev mX10_isIndex : p_M := (yX10_isIndex, cX10_isIndex, 2, (some .boolean))
theorem cfX10_isIndex : p_cf mX10_isIndex 2 := p_cf.of (p_t1 (List.mem_of_getElem? (i := 216) rfl)) (p_t1 (List.mem_of_getElem? (i := 1) (by decide +kernel))) (by decide +kernel)
theorem stX10_isIndex : Cond.static yX10_isIndex ∈ p_ws := p_in (p_t1 (List.mem_of_getElem? (i := 215) (by decide +kernel))) rfl
abbrev mX10_otherSlot : p_M := (yX10_otherSlot, cX10_otherSlot, 1, (some .int))
theorem cfX10_otherSlot : p_cf mX10_otherSlot 1 := p_cf.of (p_t4 (List.mem_of_getElem? (i := 114) rfl)) (p_t1 (List.mem_of_getElem? (i := 1) (by decide +kernel))) (by decide +kernel)
theorem stX10_otherSlot : Cond.static yX10_otherSlot ∈ p_ws := p_in (p_t4 (List.mem_of_getElem? (i := 113) (by decide +kernel))) rfl
abbrev mX10_pairOf : p_M := (yX10_pairOf, cX10_pairOf, 2, (some .int))
theorem cfX10_pairOf : p_cf mX10_pairOf 2 := p_cf.of (p_t3 (List.mem_of_getElem? (i := 152) rfl)) (p_t1 (List.mem_of_getElem? (i := 1) (by decide +kernel))) (by decide +kernel)
theorem stX10_pairOf : Cond.static yX10_pairOf ∈ p_ws := p_in (p_t3 (List.mem_of_getElem? (i := 151) (by decide +kernel))) rfl
abbrev mX10_checkSlot : p_M := (yX10_checkSlot, cX10_checkSlot, 1, none)
theorem cfX10_checkSlot : p_cf mX10_checkSlot 1 := p_cf.of (p_t4 (List.mem_of_getElem? (i := 76) rfl)) (p_t1 (List.mem_of_getElem? (i := 1) (by decide +kernel))) (by decide +kernel)
theorem stX10_checkSlot : Cond.static yX10_checkSlot ∈ p_ws := p_in (p_t4 (List.mem_of_getElem? (i := 75) (by decide +kernel))) rfl
abbrev mX10_checkStreet : p_M := (yX10_checkStreet, cX10_checkStreet, 1, none)
theorem cfX10_checkStreet : p_cf mX10_checkStreet 1 := p_cf.of (p_t4 (List.mem_of_getElem? (i := 172) rfl)) (p_t1 (List.mem_of_getElem? (i := 1) (by decide +kernel))) (by decide +kernel)
theorem stX10_checkStreet : Cond.static yX10_checkStreet ∈ p_ws := p_in (p_t4 (List.mem_of_getElem? (i := 171) (by decide +kernel))) rfl
abbrev mX10_checkPosition : p_M := (yX10_checkPosition, cX10_checkPosition, 2, none)
theorem cfX10_checkPosition : p_cf mX10_checkPosition 2 := p_cf.of (p_t5 (List.mem_of_getElem? (i := 25) rfl)) (p_t1 (List.mem_of_getElem? (i := 1) (by decide +kernel))) (by decide +kernel)
theorem stX10_checkPosition : Cond.static yX10_checkPosition ∈ p_ws := p_in (p_t5 (List.mem_of_getElem? (i := 24) (by decide +kernel))) rfl
abbrev mX10_checkState : p_M := (yX10_checkState, cX10_checkState, 2, none)
theorem cfX10_checkState : p_cf mX10_checkState 2 := p_cf.of (p_t5 (List.mem_of_getElem? (i := 97) rfl)) (p_t1 (List.mem_of_getElem? (i := 1) (by decide +kernel))) (by decide +kernel)
theorem stX10_checkState : Cond.static yX10_checkState ∈ p_ws := p_in (p_t5 (List.mem_of_getElem? (i := 96) (by decide +kernel))) rfl
abbrev mX10_checkWordLength : p_M := (yX10_checkWordLength, cX10_checkWordLength, 1, none)
theorem cfX10_checkWordLength : p_cf mX10_checkWordLength 1 := p_cf.of (p_t5 (List.mem_of_getElem? (i := 204) rfl)) (p_t1 (List.mem_of_getElem? (i := 1) (by decide +kernel))) (by decide +kernel)
theorem stX10_checkWordLength : Cond.static yX10_checkWordLength ∈ p_ws := p_in (p_t5 (List.mem_of_getElem? (i := 203) (by decide +kernel))) rfl
abbrev mX10_checkWalker : p_M := (yX10_checkWalker, cX10_checkWalker, 2, none)
theorem cfX10_checkWalker : p_cf mX10_checkWalker 1 := p_cf.of (p_t4 (List.mem_of_getElem? (i := 153) rfl)) (p_t1 (List.mem_of_getElem? (i := 1) (by decide +kernel))) (by decide +kernel)
theorem imX10_checkWalker : Cond.instanceMethod yX10_checkWalker ∈ p_ws := p_in (p_t4 (List.mem_of_getElem? (i := 152) (by decide +kernel))) rfl
theorem seX10_checkWalker : Cond.selects yX10_checkWalker.cls yX10_checkWalker yX10_checkWalker ∈ p_ws := p_in (List.mem_append_left _ (List.mem_of_getElem? (i := 20) (by decide +kernel))) rfl
abbrev mX10_checkedPattern : p_M := (yX10_checkedPattern, cX10_checkedPattern, 2, (some (.object "StreetAutomata$Pattern")))
theorem cfX10_checkedPattern : p_cf mX10_checkedPattern 1 := p_cf.of (p_t5 (List.mem_of_getElem? (i := 15) rfl)) (p_t1 (List.mem_of_getElem? (i := 1) (by decide +kernel))) (by decide +kernel)
theorem imX10_checkedPattern : Cond.instanceMethod yX10_checkedPattern ∈ p_ws := p_in (p_t5 (List.mem_of_getElem? (i := 14) (by decide +kernel))) rfl
theorem seX10_checkedPattern : Cond.selects yX10_checkedPattern.cls yX10_checkedPattern yX10_checkedPattern ∈ p_ws := p_in (List.mem_append_left _ (List.mem_of_getElem? (i := 21) (by decide +kernel))) rfl
abbrev mX10_stateAfterInput : p_M := (yX10_stateAfterInput, cX10_stateAfterInput, 4, (some .int))
theorem cfX10_stateAfterInput : p_cf mX10_stateAfterInput 1 := p_cf.of (p_t5 (List.mem_of_getElem? (i := 194) rfl)) (p_t1 (List.mem_of_getElem? (i := 1) (by decide +kernel))) (by decide +kernel)
theorem imX10_stateAfterInput : Cond.instanceMethod yX10_stateAfterInput ∈ p_ws := p_in (p_t5 (List.mem_of_getElem? (i := 193) (by decide +kernel))) rfl
theorem seX10_stateAfterInput : Cond.selects yX10_stateAfterInput.cls yX10_stateAfterInput yX10_stateAfterInput ∈ p_ws := p_in (List.mem_append_left _ (List.mem_of_getElem? (i := 26) (by decide +kernel))) rfl
abbrev mX10_findAcceptance : p_M := (yX10_findAcceptance, cX10_findAcceptance, 4, (some .int))
theorem cfX10_findAcceptance : p_cf mX10_findAcceptance 3 := p_cf.of (p_t5 (List.mem_of_getElem? (i := 136) rfl)) (p_t1 (List.mem_of_getElem? (i := 1) (by decide +kernel))) (by decide +kernel)
theorem imX10_findAcceptance : Cond.instanceMethod yX10_findAcceptance ∈ p_ws := p_in (p_t5 (List.mem_of_getElem? (i := 135) (by decide +kernel))) rfl
theorem seX10_findAcceptance : Cond.selects yX10_findAcceptance.cls yX10_findAcceptance yX10_findAcceptance ∈ p_ws := p_in (List.mem_append_left _ (List.mem_of_getElem? (i := 22) (by decide +kernel))) rfl
abbrev mX10_findHome : p_M := (yX10_findHome, cX10_findHome, 2, (some .int))
theorem cfX10_findHome : p_cf mX10_findHome 1 := p_cf.of (p_t6 (List.mem_of_getElem? (i := 78) rfl)) (p_t1 (List.mem_of_getElem? (i := 1) (by decide +kernel))) (by decide +kernel)
theorem imX10_findHome : Cond.instanceMethod yX10_findHome ∈ p_ws := p_in (p_t6 (List.mem_of_getElem? (i := 77) (by decide +kernel))) rfl
theorem seX10_findHome : Cond.selects yX10_findHome.cls yX10_findHome yX10_findHome ∈ p_ws := p_in (List.mem_append_left _ (List.mem_of_getElem? (i := 31) (by decide +kernel))) rfl
abbrev mX10_compareBoth : p_M := (yX10_compareBoth, cX10_compareBoth, 2, (some .int))
theorem cfX10_compareBoth : p_cf mX10_compareBoth 1 := p_cf.of (p_t3 (List.mem_of_getElem? (i := 116) rfl)) (p_t1 (List.mem_of_getElem? (i := 1) (by decide +kernel))) (by decide +kernel)
theorem imX10_compareBoth : Cond.instanceMethod yX10_compareBoth ∈ p_ws := p_in (p_t3 (List.mem_of_getElem? (i := 115) (by decide +kernel))) rfl
theorem seX10_compareBoth : Cond.selects yX10_compareBoth.cls yX10_compareBoth yX10_compareBoth ∈ p_ws := p_in (List.mem_append_left _ (List.mem_of_getElem? (i := 14) (by decide +kernel))) rfl
abbrev mX10_writeFound : p_M := (yX10_writeFound, cX10_writeFound, 4, (some .int))
theorem cfX10_writeFound : p_cf mX10_writeFound 1 := p_cf.of (p_t3 (List.mem_of_getElem? (i := 211) rfl)) (p_t1 (List.mem_of_getElem? (i := 1) (by decide +kernel))) (by decide +kernel)
theorem imX10_writeFound : Cond.instanceMethod yX10_writeFound ∈ p_ws := p_in (p_t3 (List.mem_of_getElem? (i := 210) (by decide +kernel))) rfl
theorem seX10_writeFound : Cond.selects yX10_writeFound.cls yX10_writeFound yX10_writeFound ∈ p_ws := p_in (List.mem_append_left _ (List.mem_of_getElem? (i := 17) (by decide +kernel))) rfl
abbrev mX10_putReportByte : p_M := (yX10_putReportByte, cX10_putReportByte, 3, none)
theorem cfX10_putReportByte : p_cf mX10_putReportByte 2 := p_cf.of (p_t3 (List.mem_of_getElem? (i := 219) rfl)) (p_t1 (List.mem_of_getElem? (i := 1) (by decide +kernel))) (by decide +kernel)
theorem imX10_putReportByte : Cond.instanceMethod yX10_putReportByte ∈ p_ws := p_in (p_t3 (List.mem_of_getElem? (i := 218) (by decide +kernel))) rfl
theorem seX10_putReportByte : Cond.selects yX10_putReportByte.cls yX10_putReportByte yX10_putReportByte ∈ p_ws := p_in (List.mem_append_left _ (List.mem_of_getElem? (i := 18) (by decide +kernel))) rfl
abbrev mX11_init : p_M := (yX11_init, cX11_init, 2, none)
theorem cfX11_init : p_cf mX11_init 0 := p_cf.of (p_t6 (List.mem_of_getElem? (i := 128) rfl)) (p_t1 (List.mem_of_getElem? (i := 17) (by decide +kernel))) (by decide +kernel)
theorem imX11_init : Cond.instanceMethod yX11_init ∈ p_ws := p_in (p_t6 (List.mem_of_getElem? (i := 127) (by decide +kernel))) rfl
abbrev mX11_type : p_M := (yX11_type, cX11_type, 3, none)
theorem cfX11_type : p_cf mX11_type 1 := p_cf.of (p_t6 (List.mem_of_getElem? (i := 134) rfl)) (p_t1 (List.mem_of_getElem? (i := 17) (by decide +kernel))) (by decide +kernel)
theorem imX11_type : Cond.instanceMethod yX11_type ∈ p_ws := p_in (p_t6 (List.mem_of_getElem? (i := 133) (by decide +kernel))) rfl
theorem seX11_type : Cond.selects yX11_type.cls yX11_type yX11_type ∈ p_ws := p_in (List.mem_append_left _ (List.mem_of_getElem? (i := 32) (by decide +kernel))) rfl
abbrev mX11_thrown : p_M := (yX11_thrown, cX11_thrown, 1, (some .int))
theorem cfX11_thrown : p_cf mX11_thrown 0 := p_cf.of (p_t7 (List.mem_of_getElem? (i := 100) rfl)) (p_t1 (List.mem_of_getElem? (i := 17) (by decide +kernel))) (by decide +kernel)
theorem imX11_thrown : Cond.instanceMethod yX11_thrown ∈ p_ws := p_in (p_t7 (List.mem_of_getElem? (i := 98) (by decide +kernel))) rfl
theorem seX11_thrown : Cond.selects yX11_thrown.cls yX11_thrown yX11_thrown ∈ p_ws := p_in (p_t7 (List.mem_of_getElem? (i := 99) (by decide +kernel))) rfl
abbrev mX11_in : p_M := (yX11_in, cX11_in, 3, (some .boolean))
theorem cfX11_in : p_cf mX11_in 3 := p_cf.of (p_t6 (List.mem_of_getElem? (i := 171) rfl)) (p_t1 (List.mem_of_getElem? (i := 17) (by decide +kernel))) (by decide +kernel)
theorem stX11_in : Cond.static yX11_in ∈ p_ws := p_in (p_t6 (List.mem_of_getElem? (i := 170) (by decide +kernel))) rfl
abbrev mX11_throwsOne : p_M := (yX11_throwsOne, cX11_throwsOne, 2, (some .boolean))
theorem cfX11_throwsOne : p_cf mX11_throwsOne 1 := p_cf.of (p_t7 (List.mem_of_getElem? (i := 116) rfl)) (p_t1 (List.mem_of_getElem? (i := 17) (by decide +kernel))) (by decide +kernel)
theorem imX11_throwsOne : Cond.instanceMethod yX11_throwsOne ∈ p_ws := p_in (p_t7 (List.mem_of_getElem? (i := 115) (by decide +kernel))) rfl
theorem seX11_throwsOne : Cond.selects yX11_throwsOne.cls yX11_throwsOne yX11_throwsOne ∈ p_ws := p_in (List.mem_append_left _ (List.mem_of_getElem? (i := 54) (by decide +kernel))) rfl
abbrev mX11_throwsOne_ : p_M := (yX11_throwsOne_, cX11_throwsOne_, 3, (some .boolean))
theorem cfX11_throwsOne_ : p_cf mX11_throwsOne_ 2 := p_cf.of (p_t7 (List.mem_of_getElem? (i := 151) rfl)) (p_t1 (List.mem_of_getElem? (i := 17) (by decide +kernel))) (by decide +kernel)
theorem imX11_throwsOne_ : Cond.instanceMethod yX11_throwsOne_ ∈ p_ws := p_in (p_t7 (List.mem_of_getElem? (i := 150) (by decide +kernel))) rfl
theorem seX11_throwsOne_ : Cond.selects yX11_throwsOne_.cls yX11_throwsOne_ yX11_throwsOne_ ∈ p_ws := p_in (List.mem_append_left _ (List.mem_of_getElem? (i := 58) (by decide +kernel))) rfl
abbrev mX11_isSlot : p_M := (yX11_isSlot, cX11_isSlot, 1, (some .boolean))
theorem cfX11_isSlot : p_cf mX11_isSlot 1 := p_cf.of (p_t7 (List.mem_of_getElem? (i := 127) rfl)) (p_t1 (List.mem_of_getElem? (i := 17) (by decide +kernel))) (by decide +kernel)
theorem stX11_isSlot : Cond.static yX11_isSlot ∈ p_ws := p_in (p_t7 (List.mem_of_getElem? (i := 126) (by decide +kernel))) rfl
abbrev mX11_isStreet : p_M := (yX11_isStreet, cX11_isStreet, 1, (some .boolean))
theorem cfX11_isStreet : p_cf mX11_isStreet 1 := p_cf.of (p_t7 (List.mem_of_getElem? (i := 166) rfl)) (p_t1 (List.mem_of_getElem? (i := 17) (by decide +kernel))) (by decide +kernel)
theorem stX11_isStreet : Cond.static yX11_isStreet ∈ p_ws := p_in (p_t7 (List.mem_of_getElem? (i := 165) (by decide +kernel))) rfl
abbrev mX11_of : p_M := (yX11_of, cX11_of, 3, (some .int))
theorem cfX11_of : p_cf mX11_of 2 := p_cf.of (p_t6 (List.mem_of_getElem? (i := 207) rfl)) (p_t1 (List.mem_of_getElem? (i := 17) (by decide +kernel))) (by decide +kernel)
theorem imX11_of : Cond.instanceMethod yX11_of ∈ p_ws := p_in (p_t6 (List.mem_of_getElem? (i := 206) (by decide +kernel))) rfl
theorem seX11_of : Cond.selects yX11_of.cls yX11_of yX11_of ∈ p_ws := p_in (List.mem_append_left _ (List.mem_of_getElem? (i := 49) (by decide +kernel))) rfl
abbrev mX11_to : p_M := (yX11_to, cX11_to, 4, none)
theorem cfX11_to : p_cf mX11_to 3 := p_cf.of (p_t6 (List.mem_of_getElem? (i := 148) rfl)) (p_t1 (List.mem_of_getElem? (i := 17) (by decide +kernel))) (by decide +kernel)
theorem imX11_to : Cond.instanceMethod yX11_to ∈ p_ws := p_in (p_t6 (List.mem_of_getElem? (i := 147) (by decide +kernel))) rfl
theorem seX11_to : Cond.selects yX11_to.cls yX11_to yX11_to ∈ p_ws := p_in (List.mem_append_left _ (List.mem_of_getElem? (i := 35) (by decide +kernel))) rfl
abbrev mX11_isPosition : p_M := (yX11_isPosition, cX11_isPosition, 3, (some .boolean))
theorem cfX11_isPosition : p_cf mX11_isPosition 2 := p_cf.of (p_t7 (List.mem_of_getElem? (i := 234) rfl)) (p_t1 (List.mem_of_getElem? (i := 17) (by decide +kernel))) (by decide +kernel)
theorem imX11_isPosition : Cond.instanceMethod yX11_isPosition ∈ p_ws := p_in (p_t7 (List.mem_of_getElem? (i := 233) (by decide +kernel))) rfl
theorem seX11_isPosition : Cond.selects yX11_isPosition.cls yX11_isPosition yX11_isPosition ∈ p_ws := p_in (List.mem_append_left _ (List.mem_of_getElem? (i := 64) (by decide +kernel))) rfl
abbrev mX11_isState : p_M := (yX11_isState, cX11_isState, 3, (some .boolean))
theorem cfX11_isState : p_cf mX11_isState 2 := p_cf.of (p_t8 (List.mem_of_getElem? (i := 30) rfl)) (p_t1 (List.mem_of_getElem? (i := 17) (by decide +kernel))) (by decide +kernel)
theorem imX11_isState : Cond.instanceMethod yX11_isState ∈ p_ws := p_in (p_t8 (List.mem_of_getElem? (i := 29) (by decide +kernel))) rfl
theorem seX11_isState : Cond.selects yX11_isState.cls yX11_isState yX11_isState ∈ p_ws := p_in (List.mem_append_left _ (List.mem_of_getElem? (i := 65) (by decide +kernel))) rfl
abbrev mX11_isWalker : p_M := (yX11_isWalker, cX11_isWalker, 2, (some .boolean))
theorem cfX11_isWalker : p_cf mX11_isWalker 1 := p_cf.of (p_t7 (List.mem_of_getElem? (i := 159) rfl)) (p_t1 (List.mem_of_getElem? (i := 17) (by decide +kernel))) (by decide +kernel)
theorem imX11_isWalker : Cond.instanceMethod yX11_isWalker ∈ p_ws := p_in (p_t7 (List.mem_of_getElem? (i := 158) (by decide +kernel))) rfl
theorem seX11_isWalker : Cond.selects yX11_isWalker.cls yX11_isWalker yX11_isWalker ∈ p_ws := p_in (List.mem_append_left _ (List.mem_of_getElem? (i := 59) (by decide +kernel))) rfl
abbrev mX11_walkerOf : p_M := (yX11_walkerOf, cX11_walkerOf, 3, (some .int))
theorem cfX11_walkerOf : p_cf mX11_walkerOf 2 := p_cf.of (p_t6 (List.mem_of_getElem? (i := 219) rfl)) (p_t1 (List.mem_of_getElem? (i := 17) (by decide +kernel))) (by decide +kernel)
theorem imX11_walkerOf : Cond.instanceMethod yX11_walkerOf ∈ p_ws := p_in (p_t6 (List.mem_of_getElem? (i := 218) (by decide +kernel))) rfl
theorem seX11_walkerOf : Cond.selects yX11_walkerOf.cls yX11_walkerOf yX11_walkerOf ∈ p_ws := p_in (List.mem_append_left _ (List.mem_of_getElem? (i := 52) (by decide +kernel))) rfl
abbrev mX11_goes : p_M := (yX11_goes, cX11_goes, 4, (some .int))
theorem cfX11_goes : p_cf mX11_goes 3 := p_cf.of (p_t7 (List.mem_of_getElem? (i := 178) rfl)) (p_t1 (List.mem_of_getElem? (i := 17) (by decide +kernel))) (by decide +kernel)
theorem imX11_goes : Cond.instanceMethod yX11_goes ∈ p_ws := p_in (p_t7 (List.mem_of_getElem? (i := 177) (by decide +kernel))) rfl
theorem seX11_goes : Cond.selects yX11_goes.cls yX11_goes yX11_goes ∈ p_ws := p_in (List.mem_append_left _ (List.mem_of_getElem? (i := 62) (by decide +kernel))) rfl
abbrev mX11_accepts : p_M := (yX11_accepts, cX11_accepts, 4, (some .boolean))
theorem cfX11_accepts : p_cf mX11_accepts 2 := p_cf.of (p_t8 (List.mem_of_getElem? (i := 38) rfl)) (p_t1 (List.mem_of_getElem? (i := 17) (by decide +kernel))) (by decide +kernel)
theorem imX11_accepts : Cond.instanceMethod yX11_accepts ∈ p_ws := p_in (p_t8 (List.mem_of_getElem? (i := 37) (by decide +kernel))) rfl
theorem seX11_accepts : Cond.selects yX11_accepts.cls yX11_accepts yX11_accepts ∈ p_ws := p_in (List.mem_append_left _ (List.mem_of_getElem? (i := 66) (by decide +kernel))) rfl
abbrev mX11_bits : p_M := (yX11_bits, cX11_bits, 3, (some .int))
theorem cfX11_bits : p_cf mX11_bits 1 := p_cf.of (p_t8 (List.mem_of_getElem? (i := 185) rfl)) (p_t1 (List.mem_of_getElem? (i := 17) (by decide +kernel))) (by decide +kernel)
theorem stX11_bits : Cond.static yX11_bits ∈ p_ws := p_in (p_t8 (List.mem_of_getElem? (i := 184) (by decide +kernel))) rfl
abbrev mX11_node : p_M := (yX11_node, cX11_node, 1, (some .int))
theorem cfX11_node : p_cf mX11_node 0 := p_cf.of (p_t6 (List.mem_of_getElem? (i := 156) rfl)) (p_t1 (List.mem_of_getElem? (i := 17) (by decide +kernel))) (by decide +kernel)
theorem imX11_node : Cond.instanceMethod yX11_node ∈ p_ws := p_in (p_t6 (List.mem_of_getElem? (i := 155) (by decide +kernel))) rfl
theorem seX11_node : Cond.selects yX11_node.cls yX11_node yX11_node ∈ p_ws := p_in (List.mem_append_left _ (List.mem_of_getElem? (i := 37) (by decide +kernel))) rfl
abbrev mX11_edge : p_M := (yX11_edge, cX11_edge, 3, none)
theorem cfX11_edge : p_cf mX11_edge 2 := p_cf.of (p_t6 (List.mem_of_getElem? (i := 187) rfl)) (p_t1 (List.mem_of_getElem? (i := 17) (by decide +kernel))) (by decide +kernel)
theorem imX11_edge : Cond.instanceMethod yX11_edge ∈ p_ws := p_in (p_t6 (List.mem_of_getElem? (i := 186) (by decide +kernel))) rfl
theorem seX11_edge : Cond.selects yX11_edge.cls yX11_edge yX11_edge ∈ p_ws := p_in (List.mem_append_left _ (List.mem_of_getElem? (i := 44) (by decide +kernel))) rfl
abbrev mX11_fail : p_M := (yX11_fail, cX11_fail, 2, (some .boolean))
theorem cfX11_fail : p_cf mX11_fail 1 := p_cf.of (p_t6 (List.mem_of_getElem? (i := 183) rfl)) (p_t1 (List.mem_of_getElem? (i := 17) (by decide +kernel))) (by decide +kernel)
theorem imX11_fail : Cond.instanceMethod yX11_fail ∈ p_ws := p_in (p_t6 (List.mem_of_getElem? (i := 182) (by decide +kernel))) rfl
theorem seX11_fail : Cond.selects yX11_fail.cls yX11_fail yX11_fail ∈ p_ws := p_in (List.mem_append_left _ (List.mem_of_getElem? (i := 43) (by decide +kernel))) rfl
abbrev mX11_ahead : p_M := (yX11_ahead, cX11_ahead, 1, (some .int))
theorem cfX11_ahead : p_cf mX11_ahead 0 := p_cf.of (p_t6 (List.mem_of_getElem? (i := 168) rfl)) (p_t1 (List.mem_of_getElem? (i := 17) (by decide +kernel))) (by decide +kernel)
theorem imX11_ahead : Cond.instanceMethod yX11_ahead ∈ p_ws := p_in (p_t6 (List.mem_of_getElem? (i := 167) (by decide +kernel))) rfl
theorem seX11_ahead : Cond.selects yX11_ahead.cls yX11_ahead yX11_ahead ∈ p_ws := p_in (List.mem_append_left _ (List.mem_of_getElem? (i := 40) (by decide +kernel))) rfl
abbrev mX11_isAtom : p_M := (yX11_isAtom, cX11_isAtom, 1, (some .boolean))
theorem cfX11_isAtom : p_cf mX11_isAtom 0 := p_cf.of (p_t6 (List.mem_of_getElem? (i := 164) rfl)) (p_t1 (List.mem_of_getElem? (i := 17) (by decide +kernel))) (by decide +kernel)
theorem imX11_isAtom : Cond.instanceMethod yX11_isAtom ∈ p_ws := p_in (p_t6 (List.mem_of_getElem? (i := 163) (by decide +kernel))) rfl
theorem seX11_isAtom : Cond.selects yX11_isAtom.cls yX11_isAtom yX11_isAtom ∈ p_ws := p_in (List.mem_append_left _ (List.mem_of_getElem? (i := 39) (by decide +kernel))) rfl
abbrev mX11_readsPattern : p_M := (yX11_readsPattern, cX11_readsPattern, 5, (some .boolean))
theorem cfX11_readsPattern : p_cf mX11_readsPattern 1 := p_cf.of (p_t6 (List.mem_of_getElem? (i := 152) rfl)) (p_t1 (List.mem_of_getElem? (i := 17) (by decide +kernel))) (by decide +kernel)
theorem imX11_readsPattern : Cond.instanceMethod yX11_readsPattern ∈ p_ws := p_in (p_t6 (List.mem_of_getElem? (i := 151) (by decide +kernel))) rfl
theorem seX11_readsPattern : Cond.selects yX11_readsPattern.cls yX11_readsPattern yX11_readsPattern ∈ p_ws := p_in (List.mem_append_left _ (List.mem_of_getElem? (i := 36) (by decide +kernel))) rfl
abbrev mX11_readsBranch : p_M := (yX11_readsBranch, cX11_readsBranch, 4, (some .boolean))
theorem cfX11_readsBranch : p_cf mX11_readsBranch 1 := p_cf.of (p_t6 (List.mem_of_getElem? (i := 160) rfl)) (p_t1 (List.mem_of_getElem? (i := 17) (by decide +kernel))) (by decide +kernel)
theorem imX11_readsBranch : Cond.instanceMethod yX11_readsBranch ∈ p_ws := p_in (p_t6 (List.mem_of_getElem? (i := 159) (by decide +kernel))) rfl
theorem seX11_readsBranch : Cond.selects yX11_readsBranch.cls yX11_readsBranch yX11_readsBranch ∈ p_ws := p_in (List.mem_append_left _ (List.mem_of_getElem? (i := 38) (by decide +kernel))) rfl
abbrev mX11_readsPiece : p_M := (yX11_readsPiece, cX11_readsPiece, 5, (some .boolean))
theorem cfX11_readsPiece : p_cf mX11_readsPiece 1 := p_cf.of (p_t6 (List.mem_of_getElem? (i := 175) rfl)) (p_t1 (List.mem_of_getElem? (i := 17) (by decide +kernel))) (by decide +kernel)
theorem imX11_readsPiece : Cond.instanceMethod yX11_readsPiece ∈ p_ws := p_in (p_t6 (List.mem_of_getElem? (i := 174) (by decide +kernel))) rfl
theorem seX11_readsPiece : Cond.selects yX11_readsPiece.cls yX11_readsPiece yX11_readsPiece ∈ p_ws := p_in (List.mem_append_left _ (List.mem_of_getElem? (i := 41) (by decide +kernel))) rfl
abbrev mX11_readsAtom : p_M := (yX11_readsAtom, cX11_readsAtom, 2, (some .boolean))
theorem cfX11_readsAtom : p_cf mX11_readsAtom 1 := p_cf.of (p_t6 (List.mem_of_getElem? (i := 179) rfl)) (p_t1 (List.mem_of_getElem? (i := 17) (by decide +kernel))) (by decide +kernel)
theorem imX11_readsAtom : Cond.instanceMethod yX11_readsAtom ∈ p_ws := p_in (p_t6 (List.mem_of_getElem? (i := 178) (by decide +kernel))) rfl
theorem seX11_readsAtom : Cond.selects yX11_readsAtom.cls yX11_readsAtom yX11_readsAtom ∈ p_ws := p_in (List.mem_append_left _ (List.mem_of_getElem? (i := 42) (by decide +kernel))) rfl
abbrev mX11_reaches : p_M := (yX11_reaches, cX11_reaches, 6, (some .int))
theorem cfX11_reaches : p_cf mX11_reaches 1 := p_cf.of (p_t6 (List.mem_of_getElem? (i := 195) rfl)) (p_t1 (List.mem_of_getElem? (i := 17) (by decide +kernel))) (by decide +kernel)
theorem imX11_reaches : Cond.instanceMethod yX11_reaches ∈ p_ws := p_in (p_t6 (List.mem_of_getElem? (i := 194) (by decide +kernel))) rfl
theorem seX11_reaches : Cond.selects yX11_reaches.cls yX11_reaches yX11_reaches ∈ p_ws := p_in (List.mem_append_left _ (List.mem_of_getElem? (i := 46) (by decide +kernel))) rfl
abbrev mX11_follows : p_M := (yX11_follows, cX11_follows, 6, none)
theorem cfX11_follows : p_cf mX11_follows 3 := p_cf.of (p_t6 (List.mem_of_getElem? (i := 191) rfl)) (p_t1 (List.mem_of_getElem? (i := 17) (by decide +kernel))) (by decide +kernel)
theorem imX11_follows : Cond.instanceMethod yX11_follows ∈ p_ws := p_in (p_t6 (List.mem_of_getElem? (i := 190) (by decide +kernel))) rfl
theorem seX11_follows : Cond.selects yX11_follows.cls yX11_follows yX11_follows ∈ p_ws := p_in (List.mem_append_left _ (List.mem_of_getElem? (i := 45) (by decide +kernel))) rfl
abbrev mX11_leads : p_M := (yX11_leads, cX11_leads, 8, (some .int))
theorem cfX11_leads : p_cf mX11_leads 3 := p_cf.of (p_t6 (List.mem_of_getElem? (i := 211) rfl)) (p_t1 (List.mem_of_getElem? (i := 17) (by decide +kernel))) (by decide +kernel)
theorem imX11_leads : Cond.instanceMethod yX11_leads ∈ p_ws := p_in (p_t6 (List.mem_of_getElem? (i := 210) (by decide +kernel))) rfl
theorem seX11_leads : Cond.selects yX11_leads.cls yX11_leads yX11_leads ∈ p_ws := p_in (List.mem_append_left _ (List.mem_of_getElem? (i := 50) (by decide +kernel))) rfl
abbrev mX11_stateOf : p_M := (yX11_stateOf, cX11_stateOf, 5, (some .int))
theorem cfX11_stateOf : p_cf mX11_stateOf 2 := p_cf.of (p_t6 (List.mem_of_getElem? (i := 203) rfl)) (p_t1 (List.mem_of_getElem? (i := 17) (by decide +kernel))) (by decide +kernel)
theorem imX11_stateOf : Cond.instanceMethod yX11_stateOf ∈ p_ws := p_in (p_t6 (List.mem_of_getElem? (i := 202) (by decide +kernel))) rfl
theorem seX11_stateOf : Cond.selects yX11_stateOf.cls yX11_stateOf yX11_stateOf ∈ p_ws := p_in (List.mem_append_left _ (List.mem_of_getElem? (i := 48) (by decide +kernel))) rfl
abbrev mX11_determines : p_M := (yX11_determines, cX11_determines, 5, (some .boolean))
theorem cfX11_determines : p_cf mX11_determines 1 := p_cf.of (p_t6 (List.mem_of_getElem? (i := 199) rfl)) (p_t1 (List.mem_of_getElem? (i := 17) (by decide +kernel))) (by decide +kernel)
theorem imX11_determines : Cond.instanceMethod yX11_determines ∈ p_ws := p_in (p_t6 (List.mem_of_getElem? (i := 198) (by decide +kernel))) rfl
theorem seX11_determines : Cond.selects yX11_determines.cls yX11_determines yX11_determines ∈ p_ws := p_in (List.mem_append_left _ (List.mem_of_getElem? (i := 47) (by decide +kernel))) rfl
abbrev mX11_restarts : p_M := (yX11_restarts, cX11_restarts, 3, none)
theorem cfX11_restarts : p_cf mX11_restarts 1 := p_cf.of (p_t6 (List.mem_of_getElem? (i := 215) rfl)) (p_t1 (List.mem_of_getElem? (i := 17) (by decide +kernel))) (by decide +kernel)
theorem imX11_restarts : Cond.instanceMethod yX11_restarts ∈ p_ws := p_in (p_t6 (List.mem_of_getElem? (i := 214) (by decide +kernel))) rfl
theorem seX11_restarts : Cond.selects yX11_restarts.cls yX11_restarts yX11_restarts ∈ p_ws := p_in (List.mem_append_left _ (List.mem_of_getElem? (i := 51) (by decide +kernel))) rfl
abbrev mX11_clears : p_M := (yX11_clears, cX11_clears, 3, none)
theorem cfX11_clears : p_cf mX11_clears 1 := p_cf.of (p_t6 (List.mem_of_getElem? (i := 144) rfl)) (p_t1 (List.mem_of_getElem? (i := 17) (by decide +kernel))) (by decide +kernel)
theorem imX11_clears : Cond.instanceMethod yX11_clears ∈ p_ws := p_in (p_t6 (List.mem_of_getElem? (i := 143) (by decide +kernel))) rfl
theorem seX11_clears : Cond.selects yX11_clears.cls yX11_clears yX11_clears ∈ p_ws := p_in (List.mem_append_left _ (List.mem_of_getElem? (i := 34) (by decide +kernel))) rfl
abbrev mX11_compiles : p_M := (yX11_compiles, cX11_compiles, 2, (some .boolean))
theorem cfX11_compiles : p_cf mX11_compiles 1 := p_cf.of (p_t6 (List.mem_of_getElem? (i := 140) rfl)) (p_t1 (List.mem_of_getElem? (i := 17) (by decide +kernel))) (by decide +kernel)
theorem imX11_compiles : Cond.instanceMethod yX11_compiles ∈ p_ws := p_in (p_t6 (List.mem_of_getElem? (i := 139) (by decide +kernel))) rfl
theorem seX11_compiles : Cond.selects yX11_compiles.cls yX11_compiles yX11_compiles ∈ p_ws := p_in (List.mem_append_left _ (List.mem_of_getElem? (i := 33) (by decide +kernel))) rfl
abbrev mX11_append : p_M := (yX11_append, cX11_append, 6, (some .int))
theorem cfX11_append : p_cf mX11_append 5 := p_cf.of (p_t7 (List.mem_of_getElem? (i := 104) rfl)) (p_t1 (List.mem_of_getElem? (i := 17) (by decide +kernel))) (by decide +kernel)
theorem imX11_append : Cond.instanceMethod yX11_append ∈ p_ws := p_in (p_t7 (List.mem_of_getElem? (i := 102) (by decide +kernel))) rfl
theorem seX11_append : Cond.selects yX11_append.cls yX11_append yX11_append ∈ p_ws := p_in (p_t7 (List.mem_of_getElem? (i := 103) (by decide +kernel))) rfl
abbrev mX11_put : p_M := (yX11_put, cX11_put, 3, none)
theorem cfX11_put : p_cf mX11_put 1 := p_cf.of (p_t7 (List.mem_of_getElem? (i := 108) rfl)) (p_t1 (List.mem_of_getElem? (i := 17) (by decide +kernel))) (by decide +kernel)
theorem imX11_put : Cond.instanceMethod yX11_put ∈ p_ws := p_in (p_t7 (List.mem_of_getElem? (i := 107) (by decide +kernel))) rfl
theorem seX11_put : Cond.selects yX11_put.cls yX11_put yX11_put ∈ p_ws := p_in (List.mem_append_left _ (List.mem_of_getElem? (i := 53) (by decide +kernel))) rfl
abbrev mX11_truncateInput : p_M := (yX11_truncateInput, cX11_truncateInput, 2, (some .int))
theorem cfX11_truncateInput : p_cf mX11_truncateInput 1 := p_cf.of (p_t7 (List.mem_of_getElem? (i := 112) rfl)) (p_t1 (List.mem_of_getElem? (i := 17) (by decide +kernel))) (by decide +kernel)
theorem imX11_truncateInput : Cond.instanceMethod yX11_truncateInput ∈ p_ws := p_in (p_t7 (List.mem_of_getElem? (i := 110) (by decide +kernel))) rfl
theorem seX11_truncateInput : Cond.selects yX11_truncateInput.cls yX11_truncateInput yX11_truncateInput ∈ p_ws := p_in (p_t7 (List.mem_of_getElem? (i := 111) (by decide +kernel))) rfl
abbrev mX11_inputLength : p_M := (yX11_inputLength, cX11_inputLength, 1, (some .int))
theorem cfX11_inputLength : p_cf mX11_inputLength 0 := p_cf.of (p_t7 (List.mem_of_getElem? (i := 120) rfl)) (p_t1 (List.mem_of_getElem? (i := 17) (by decide +kernel))) (by decide +kernel)
theorem imX11_inputLength : Cond.instanceMethod yX11_inputLength ∈ p_ws := p_in (p_t7 (List.mem_of_getElem? (i := 118) (by decide +kernel))) rfl
theorem seX11_inputLength : Cond.selects yX11_inputLength.cls yX11_inputLength yX11_inputLength ∈ p_ws := p_in (p_t7 (List.mem_of_getElem? (i := 119) (by decide +kernel))) rfl
abbrev mX11_begins : p_M := (yX11_begins, cX11_begins, 2, none)
theorem cfX11_begins : p_cf mX11_begins 0 := p_cf.of (p_t7 (List.mem_of_getElem? (i := 131) rfl)) (p_t1 (List.mem_of_getElem? (i := 17) (by decide +kernel))) (by decide +kernel)
theorem imX11_begins : Cond.instanceMethod yX11_begins ∈ p_ws := p_in (p_t7 (List.mem_of_getElem? (i := 130) (by decide +kernel))) rfl
theorem seX11_begins : Cond.selects yX11_begins.cls yX11_begins yX11_begins ∈ p_ws := p_in (List.mem_append_left _ (List.mem_of_getElem? (i := 55) (by decide +kernel))) rfl
abbrev mX11_takesBack : p_M := (yX11_takesBack, cX11_takesBack, 2, none)
theorem cfX11_takesBack : p_cf mX11_takesBack 0 := p_cf.of (p_t7 (List.mem_of_getElem? (i := 135) rfl)) (p_t1 (List.mem_of_getElem? (i := 17) (by decide +kernel))) (by decide +kernel)
theorem imX11_takesBack : Cond.instanceMethod yX11_takesBack ∈ p_ws := p_in (p_t7 (List.mem_of_getElem? (i := 134) (by decide +kernel))) rfl
theorem seX11_takesBack : Cond.selects yX11_takesBack.cls yX11_takesBack yX11_takesBack ∈ p_ws := p_in (List.mem_append_left _ (List.mem_of_getElem? (i := 56) (by decide +kernel))) rfl
abbrev mX11_remember : p_M := (yX11_remember, cX11_remember, 2, none)
theorem cfX11_remember : p_cf mX11_remember 0 := p_cf.of (p_t7 (List.mem_of_getElem? (i := 139) rfl)) (p_t1 (List.mem_of_getElem? (i := 17) (by decide +kernel))) (by decide +kernel)
theorem imX11_remember : Cond.instanceMethod yX11_remember ∈ p_ws := p_in (p_t7 (List.mem_of_getElem? (i := 138) (by decide +kernel))) rfl
theorem seX11_remember : Cond.selects yX11_remember.cls yX11_remember yX11_remember ∈ p_ws := p_in (List.mem_append_left _ (List.mem_of_getElem? (i := 57) (by decide +kernel))) rfl
abbrev mX11_compile : p_M := (yX11_compile, cX11_compile, 3, (some .int))
theorem cfX11_compile : p_cf mX11_compile 1 := p_cf.of (p_t7 (List.mem_of_getElem? (i := 124) rfl)) (p_t1 (List.mem_of_getElem? (i := 17) (by decide +kernel))) (by decide +kernel)
theorem imX11_compile : Cond.instanceMethod yX11_compile ∈ p_ws := p_in (p_t7 (List.mem_of_getElem? (i := 122) (by decide +kernel))) rfl
theorem seX11_compile : Cond.selects yX11_compile.cls yX11_compile yX11_compile ∈ p_ws := p_in (p_t7 (List.mem_of_getElem? (i := 123) (by decide +kernel))) rfl
abbrev mX11_copyPattern : p_M := (yX11_copyPattern, cX11_copyPattern, 3, (some .int))
theorem cfX11_copyPattern : p_cf mX11_copyPattern 1 := p_cf.of (p_t7 (List.mem_of_getElem? (i := 143) rfl)) (p_t1 (List.mem_of_getElem? (i := 17) (by decide +kernel))) (by decide +kernel)
theorem imX11_copyPattern : Cond.instanceMethod yX11_copyPattern ∈ p_ws := p_in (p_t7 (List.mem_of_getElem? (i := 141) (by decide +kernel))) rfl
theorem seX11_copyPattern : Cond.selects yX11_copyPattern.cls yX11_copyPattern yX11_copyPattern ∈ p_ws := p_in (p_t7 (List.mem_of_getElem? (i := 142) (by decide +kernel))) rfl
abbrev mX11_addWalker : p_M := (yX11_addWalker, cX11_addWalker, 4, (some .int))
theorem cfX11_addWalker : p_cf mX11_addWalker 1 := p_cf.of (p_t7 (List.mem_of_getElem? (i := 147) rfl)) (p_t1 (List.mem_of_getElem? (i := 17) (by decide +kernel))) (by decide +kernel)
theorem imX11_addWalker : Cond.instanceMethod yX11_addWalker ∈ p_ws := p_in (p_t7 (List.mem_of_getElem? (i := 145) (by decide +kernel))) rfl
theorem seX11_addWalker : Cond.selects yX11_addWalker.cls yX11_addWalker yX11_addWalker ∈ p_ws := p_in (p_t7 (List.mem_of_getElem? (i := 146) (by decide +kernel))) rfl
abbrev mX11_removeWalker : p_M := (yX11_removeWalker, cX11_removeWalker, 4, (some .int))
theorem cfX11_removeWalker : p_cf mX11_removeWalker 1 := p_cf.of (p_t7 (List.mem_of_getElem? (i := 155) rfl)) (p_t1 (List.mem_of_getElem? (i := 17) (by decide +kernel))) (by decide +kernel)
theorem imX11_removeWalker : Cond.instanceMethod yX11_removeWalker ∈ p_ws := p_in (p_t7 (List.mem_of_getElem? (i := 153) (by decide +kernel))) rfl
theorem seX11_removeWalker : Cond.selects yX11_removeWalker.cls yX11_removeWalker yX11_removeWalker ∈ p_ws := p_in (p_t7 (List.mem_of_getElem? (i := 154) (by decide +kernel))) rfl
abbrev mX11_passes : p_M := (yX11_passes, cX11_passes, 2, (some .boolean))
theorem cfX11_passes : p_cf mX11_passes 1 := p_cf.of (p_t7 (List.mem_of_getElem? (i := 170) rfl)) (p_t1 (List.mem_of_getElem? (i := 17) (by decide +kernel))) (by decide +kernel)
theorem imX11_passes : Cond.instanceMethod yX11_passes ∈ p_ws := p_in (p_t7 (List.mem_of_getElem? (i := 169) (by decide +kernel))) rfl
theorem seX11_passes : Cond.selects yX11_passes.cls yX11_passes yX11_passes ∈ p_ws := p_in (List.mem_append_left _ (List.mem_of_getElem? (i := 60) (by decide +kernel))) rfl
abbrev mX11_steps : p_M := (yX11_steps, cX11_steps, 4, (some .int))
theorem cfX11_steps : p_cf mX11_steps 2 := p_cf.of (p_t7 (List.mem_of_getElem? (i := 174) rfl)) (p_t1 (List.mem_of_getElem? (i := 17) (by decide +kernel))) (by decide +kernel)
theorem imX11_steps : Cond.instanceMethod yX11_steps ∈ p_ws := p_in (p_t7 (List.mem_of_getElem? (i := 173) (by decide +kernel))) rfl
theorem seX11_steps : Cond.selects yX11_steps.cls yX11_steps yX11_steps ∈ p_ws := p_in (List.mem_append_left _ (List.mem_of_getElem? (i := 61) (by decide +kernel))) rfl
abbrev mX11_step : p_M := (yX11_step, cX11_step, 5, (some .int))
theorem cfX11_step : p_cf mX11_step 2 := p_cf.of (p_t7 (List.mem_of_getElem? (i := 163) rfl)) (p_t1 (List.mem_of_getElem? (i := 17) (by decide +kernel))) (by decide +kernel)
theorem imX11_step : Cond.instanceMethod yX11_step ∈ p_ws := p_in (p_t7 (List.mem_of_getElem? (i := 161) (by decide +kernel))) rfl
theorem seX11_step : Cond.selects yX11_step.cls yX11_step yX11_step ∈ p_ws := p_in (p_t7 (List.mem_of_getElem? (i := 162) (by decide +kernel))) rfl
abbrev mX11_walkWord : p_M := (yX11_walkWord, cX11_walkWord, 3, (some .int))
theorem cfX11_walkWord : p_cf mX11_walkWord 1 := p_cf.of (p_t7 (List.mem_of_getElem? (i := 182) rfl)) (p_t1 (List.mem_of_getElem? (i := 17) (by decide +kernel))) (by decide +kernel)
theorem imX11_walkWord : Cond.instanceMethod yX11_walkWord ∈ p_ws := p_in (p_t7 (List.mem_of_getElem? (i := 180) (by decide +kernel))) rfl
theorem seX11_walkWord : Cond.selects yX11_walkWord.cls yX11_walkWord yX11_walkWord ∈ p_ws := p_in (p_t7 (List.mem_of_getElem? (i := 181) (by decide +kernel))) rfl
abbrev mX11_restartWalker : p_M := (yX11_restartWalker, cX11_restartWalker, 3, (some .int))
theorem cfX11_restartWalker : p_cf mX11_restartWalker 1 := p_cf.of (p_t7 (List.mem_of_getElem? (i := 186) rfl)) (p_t1 (List.mem_of_getElem? (i := 17) (by decide +kernel))) (by decide +kernel)
theorem imX11_restartWalker : Cond.instanceMethod yX11_restartWalker ∈ p_ws := p_in (p_t7 (List.mem_of_getElem? (i := 184) (by decide +kernel))) rfl
theorem seX11_restartWalker : Cond.selects yX11_restartWalker.cls yX11_restartWalker yX11_restartWalker ∈ p_ws := p_in (p_t7 (List.mem_of_getElem? (i := 185) (by decide +kernel))) rfl
abbrev mX11_setGate : p_M := (yX11_setGate, cX11_setGate, 6, (some .boolean))
theorem cfX11_setGate : p_cf mX11_setGate 3 := p_cf.of (p_t7 (List.mem_of_getElem? (i := 190) rfl)) (p_t1 (List.mem_of_getElem? (i := 17) (by decide +kernel))) (by decide +kernel)
theorem imX11_setGate : Cond.instanceMethod yX11_setGate ∈ p_ws := p_in (p_t7 (List.mem_of_getElem? (i := 188) (by decide +kernel))) rfl
theorem seX11_setGate : Cond.selects yX11_setGate.cls yX11_setGate yX11_setGate ∈ p_ws := p_in (p_t7 (List.mem_of_getElem? (i := 189) (by decide +kernel))) rfl
abbrev mX11_setNight : p_M := (yX11_setNight, cX11_setNight, 4, (some .int))
theorem cfX11_setNight : p_cf mX11_setNight 1 := p_cf.of (p_t7 (List.mem_of_getElem? (i := 194) rfl)) (p_t1 (List.mem_of_getElem? (i := 17) (by decide +kernel))) (by decide +kernel)
theorem imX11_setNight : Cond.instanceMethod yX11_setNight ∈ p_ws := p_in (p_t7 (List.mem_of_getElem? (i := 192) (by decide +kernel))) rfl
theorem seX11_setNight : Cond.selects yX11_setNight.cls yX11_setNight yX11_setNight ∈ p_ws := p_in (p_t7 (List.mem_of_getElem? (i := 193) (by decide +kernel))) rfl
abbrev mX11_undo : p_M := (yX11_undo, cX11_undo, 2, (some .int))
theorem cfX11_undo : p_cf mX11_undo 0 := p_cf.of (p_t7 (List.mem_of_getElem? (i := 198) rfl)) (p_t1 (List.mem_of_getElem? (i := 17) (by decide +kernel))) (by decide +kernel)
theorem imX11_undo : Cond.instanceMethod yX11_undo ∈ p_ws := p_in (p_t7 (List.mem_of_getElem? (i := 196) (by decide +kernel))) rfl
theorem seX11_undo : Cond.selects yX11_undo.cls yX11_undo yX11_undo ∈ p_ws := p_in (p_t7 (List.mem_of_getElem? (i := 197) (by decide +kernel))) rfl
abbrev mX11_undoCount : p_M := (yX11_undoCount, cX11_undoCount, 1, (some .int))
theorem cfX11_undoCount : p_cf mX11_undoCount 0 := p_cf.of (p_t7 (List.mem_of_getElem? (i := 202) rfl)) (p_t1 (List.mem_of_getElem? (i := 17) (by decide +kernel))) (by decide +kernel)
theorem imX11_undoCount : Cond.instanceMethod yX11_undoCount ∈ p_ws := p_in (p_t7 (List.mem_of_getElem? (i := 200) (by decide +kernel))) rfl
theorem seX11_undoCount : Cond.selects yX11_undoCount.cls yX11_undoCount yX11_undoCount ∈ p_ws := p_in (p_t7 (List.mem_of_getElem? (i := 201) (by decide +kernel))) rfl
abbrev mX11_saveSnapshot : p_M := (yX11_saveSnapshot, cX11_saveSnapshot, 2, (some .int))
theorem cfX11_saveSnapshot : p_cf mX11_saveSnapshot 0 := p_cf.of (p_t7 (List.mem_of_getElem? (i := 206) rfl)) (p_t1 (List.mem_of_getElem? (i := 17) (by decide +kernel))) (by decide +kernel)
theorem imX11_saveSnapshot : Cond.instanceMethod yX11_saveSnapshot ∈ p_ws := p_in (p_t7 (List.mem_of_getElem? (i := 204) (by decide +kernel))) rfl
theorem seX11_saveSnapshot : Cond.selects yX11_saveSnapshot.cls yX11_saveSnapshot yX11_saveSnapshot ∈ p_ws := p_in (p_t7 (List.mem_of_getElem? (i := 205) (by decide +kernel))) rfl
abbrev mX11_restoreSnapshot : p_M := (yX11_restoreSnapshot, cX11_restoreSnapshot, 2, (some .int))
theorem cfX11_restoreSnapshot : p_cf mX11_restoreSnapshot 0 := p_cf.of (p_t7 (List.mem_of_getElem? (i := 210) rfl)) (p_t1 (List.mem_of_getElem? (i := 17) (by decide +kernel))) (by decide +kernel)
theorem imX11_restoreSnapshot : Cond.instanceMethod yX11_restoreSnapshot ∈ p_ws := p_in (p_t7 (List.mem_of_getElem? (i := 208) (by decide +kernel))) rfl
theorem seX11_restoreSnapshot : Cond.selects yX11_restoreSnapshot.cls yX11_restoreSnapshot yX11_restoreSnapshot ∈ p_ws := p_in (p_t7 (List.mem_of_getElem? (i := 209) (by decide +kernel))) rfl
abbrev mX11_patternErrorKind : p_M := (yX11_patternErrorKind, cX11_patternErrorKind, 1, (some .int))
theorem cfX11_patternErrorKind : p_cf mX11_patternErrorKind 0 := p_cf.of (p_t7 (List.mem_of_getElem? (i := 214) rfl)) (p_t1 (List.mem_of_getElem? (i := 17) (by decide +kernel))) (by decide +kernel)
theorem imX11_patternErrorKind : Cond.instanceMethod yX11_patternErrorKind ∈ p_ws := p_in (p_t7 (List.mem_of_getElem? (i := 212) (by decide +kernel))) rfl
theorem seX11_patternErrorKind : Cond.selects yX11_patternErrorKind.cls yX11_patternErrorKind yX11_patternErrorKind ∈ p_ws := p_in (p_t7 (List.mem_of_getElem? (i := 213) (by decide +kernel))) rfl
abbrev mX11_patternErrorOffset : p_M := (yX11_patternErrorOffset, cX11_patternErrorOffset, 1, (some .int))
theorem cfX11_patternErrorOffset : p_cf mX11_patternErrorOffset 0 := p_cf.of (p_t7 (List.mem_of_getElem? (i := 218) rfl)) (p_t1 (List.mem_of_getElem? (i := 17) (by decide +kernel))) (by decide +kernel)
theorem imX11_patternErrorOffset : Cond.instanceMethod yX11_patternErrorOffset ∈ p_ws := p_in (p_t7 (List.mem_of_getElem? (i := 216) (by decide +kernel))) rfl
theorem seX11_patternErrorOffset : Cond.selects yX11_patternErrorOffset.cls yX11_patternErrorOffset yX11_patternErrorOffset ∈ p_ws := p_in (p_t7 (List.mem_of_getElem? (i := 217) (by decide +kernel))) rfl
abbrev mX11_told : p_M := (yX11_told, cX11_told, 3, (some .int))
theorem cfX11_told : p_cf mX11_told 2 := p_cf.of (p_t7 (List.mem_of_getElem? (i := 226) rfl)) (p_t1 (List.mem_of_getElem? (i := 17) (by decide +kernel))) (by decide +kernel)
theorem imX11_told : Cond.instanceMethod yX11_told ∈ p_ws := p_in (p_t7 (List.mem_of_getElem? (i := 225) (by decide +kernel))) rfl
theorem seX11_told : Cond.selects yX11_told.cls yX11_told yX11_told ∈ p_ws := p_in (List.mem_append_left _ (List.mem_of_getElem? (i := 63) (by decide +kernel))) rfl
abbrev mX11_positionCount : p_M := (yX11_positionCount, cX11_positionCount, 2, (some .int))
theorem cfX11_positionCount : p_cf mX11_positionCount 1 := p_cf.of (p_t7 (List.mem_of_getElem? (i := 222) rfl)) (p_t1 (List.mem_of_getElem? (i := 17) (by decide +kernel))) (by decide +kernel)
theorem imX11_positionCount : Cond.instanceMethod yX11_positionCount ∈ p_ws := p_in (p_t7 (List.mem_of_getElem? (i := 220) (by decide +kernel))) rfl
theorem seX11_positionCount : Cond.selects yX11_positionCount.cls yX11_positionCount yX11_positionCount ∈ p_ws := p_in (p_t7 (List.mem_of_getElem? (i := 221) (by decide +kernel))) rfl
abbrev mX11_streetAt : p_M := (yX11_streetAt, cX11_streetAt, 4, (some .int))
theorem cfX11_streetAt : p_cf mX11_streetAt 2 := p_cf.of (p_t7 (List.mem_of_getElem? (i := 230) rfl)) (p_t1 (List.mem_of_getElem? (i := 17) (by decide +kernel))) (by decide +kernel)
theorem imX11_streetAt : Cond.instanceMethod yX11_streetAt ∈ p_ws := p_in (p_t7 (List.mem_of_getElem? (i := 228) (by decide +kernel))) rfl
theorem seX11_streetAt : Cond.selects yX11_streetAt.cls yX11_streetAt yX11_streetAt ∈ p_ws := p_in (p_t7 (List.mem_of_getElem? (i := 229) (by decide +kernel))) rfl
abbrev mX11_acceptsEmptyWord : p_M := (yX11_acceptsEmptyWord, cX11_acceptsEmptyWord, 2, (some .boolean))
theorem cfX11_acceptsEmptyWord : p_cf mX11_acceptsEmptyWord 1 := p_cf.of (p_t7 (List.mem_of_getElem? (i := 238) rfl)) (p_t1 (List.mem_of_getElem? (i := 17) (by decide +kernel))) (by decide +kernel)
theorem imX11_acceptsEmptyWord : Cond.instanceMethod yX11_acceptsEmptyWord ∈ p_ws := p_in (p_t7 (List.mem_of_getElem? (i := 236) (by decide +kernel))) rfl
theorem seX11_acceptsEmptyWord : Cond.selects yX11_acceptsEmptyWord.cls yX11_acceptsEmptyWord yX11_acceptsEmptyWord ∈ p_ws := p_in (p_t7 (List.mem_of_getElem? (i := 237) (by decide +kernel))) rfl
abbrev mX11_firstPositions : p_M := (yX11_firstPositions, cX11_firstPositions, 2, (some .int))
theorem cfX11_firstPositions : p_cf mX11_firstPositions 1 := p_cf.of (p_t8 (List.mem_of_getElem? (i := 2) rfl)) (p_t1 (List.mem_of_getElem? (i := 17) (by decide +kernel))) (by decide +kernel)
theorem imX11_firstPositions : Cond.instanceMethod yX11_firstPositions ∈ p_ws := p_in (p_t8 (List.mem_of_getElem? (i := 0) (by decide +kernel))) rfl
theorem seX11_firstPositions : Cond.selects yX11_firstPositions.cls yX11_firstPositions yX11_firstPositions ∈ p_ws := p_in (p_t8 (List.mem_of_getElem? (i := 1) (by decide +kernel))) rfl
abbrev mX11_lastPositions : p_M := (yX11_lastPositions, cX11_lastPositions, 2, (some .int))
theorem cfX11_lastPositions : p_cf mX11_lastPositions 1 := p_cf.of (p_t8 (List.mem_of_getElem? (i := 6) rfl)) (p_t1 (List.mem_of_getElem? (i := 17) (by decide +kernel))) (by decide +kernel)
theorem imX11_lastPositions : Cond.instanceMethod yX11_lastPositions ∈ p_ws := p_in (p_t8 (List.mem_of_getElem? (i := 4) (by decide +kernel))) rfl
theorem seX11_lastPositions : Cond.selects yX11_lastPositions.cls yX11_lastPositions yX11_lastPositions ∈ p_ws := p_in (p_t8 (List.mem_of_getElem? (i := 5) (by decide +kernel))) rfl
abbrev mX11_followPositions : p_M := (yX11_followPositions, cX11_followPositions, 3, (some .int))
theorem cfX11_followPositions : p_cf mX11_followPositions 2 := p_cf.of (p_t8 (List.mem_of_getElem? (i := 10) rfl)) (p_t1 (List.mem_of_getElem? (i := 17) (by decide +kernel))) (by decide +kernel)
theorem imX11_followPositions : Cond.instanceMethod yX11_followPositions ∈ p_ws := p_in (p_t8 (List.mem_of_getElem? (i := 8) (by decide +kernel))) rfl
theorem seX11_followPositions : Cond.selects yX11_followPositions.cls yX11_followPositions yX11_followPositions ∈ p_ws := p_in (p_t8 (List.mem_of_getElem? (i := 9) (by decide +kernel))) rfl
abbrev mX11_loopCount : p_M := (yX11_loopCount, cX11_loopCount, 2, (some .int))
theorem cfX11_loopCount : p_cf mX11_loopCount 1 := p_cf.of (p_t8 (List.mem_of_getElem? (i := 14) rfl)) (p_t1 (List.mem_of_getElem? (i := 17) (by decide +kernel))) (by decide +kernel)
theorem imX11_loopCount : Cond.instanceMethod yX11_loopCount ∈ p_ws := p_in (p_t8 (List.mem_of_getElem? (i := 12) (by decide +kernel))) rfl
theorem seX11_loopCount : Cond.selects yX11_loopCount.cls yX11_loopCount yX11_loopCount ∈ p_ws := p_in (p_t8 (List.mem_of_getElem? (i := 13) (by decide +kernel))) rfl
abbrev mX11_isDeterministicAt : p_M := (yX11_isDeterministicAt, cX11_isDeterministicAt, 7, (some .boolean))
theorem cfX11_isDeterministicAt : p_cf mX11_isDeterministicAt 2 := p_cf.of (p_t8 (List.mem_of_getElem? (i := 18) rfl)) (p_t1 (List.mem_of_getElem? (i := 17) (by decide +kernel))) (by decide +kernel)
theorem imX11_isDeterministicAt : Cond.instanceMethod yX11_isDeterministicAt ∈ p_ws := p_in (p_t8 (List.mem_of_getElem? (i := 16) (by decide +kernel))) rfl
theorem seX11_isDeterministicAt : Cond.selects yX11_isDeterministicAt.cls yX11_isDeterministicAt yX11_isDeterministicAt ∈ p_ws := p_in (p_t8 (List.mem_of_getElem? (i := 17) (by decide +kernel))) rfl
abbrev mX11_stateCount : p_M := (yX11_stateCount, cX11_stateCount, 2, (some .int))
theorem cfX11_stateCount : p_cf mX11_stateCount 1 := p_cf.of (p_t8 (List.mem_of_getElem? (i := 22) rfl)) (p_t1 (List.mem_of_getElem? (i := 17) (by decide +kernel))) (by decide +kernel)
theorem imX11_stateCount : Cond.instanceMethod yX11_stateCount ∈ p_ws := p_in (p_t8 (List.mem_of_getElem? (i := 20) (by decide +kernel))) rfl
theorem seX11_stateCount : Cond.selects yX11_stateCount.cls yX11_stateCount yX11_stateCount ∈ p_ws := p_in (p_t8 (List.mem_of_getElem? (i := 21) (by decide +kernel))) rfl
abbrev mX11_transition : p_M := (yX11_transition, cX11_transition, 4, (some .int))
theorem cfX11_transition : p_cf mX11_transition 3 := p_cf.of (p_t8 (List.mem_of_getElem? (i := 26) rfl)) (p_t1 (List.mem_of_getElem? (i := 17) (by decide +kernel))) (by decide +kernel)
theorem imX11_transition : Cond.instanceMethod yX11_transition ∈ p_ws := p_in (p_t8 (List.mem_of_getElem? (i := 24) (by decide +kernel))) rfl
theorem seX11_transition : Cond.selects yX11_transition.cls yX11_transition yX11_transition ∈ p_ws := p_in (p_t8 (List.mem_of_getElem? (i := 25) (by decide +kernel))) rfl
abbrev mX11_isAccepting : p_M := (yX11_isAccepting, cX11_isAccepting, 3, (some .boolean))
theorem cfX11_isAccepting : p_cf mX11_isAccepting 2 := p_cf.of (p_t8 (List.mem_of_getElem? (i := 34) rfl)) (p_t1 (List.mem_of_getElem? (i := 17) (by decide +kernel))) (by decide +kernel)
theorem imX11_isAccepting : Cond.instanceMethod yX11_isAccepting ∈ p_ws := p_in (p_t8 (List.mem_of_getElem? (i := 32) (by decide +kernel))) rfl
theorem seX11_isAccepting : Cond.selects yX11_isAccepting.cls yX11_isAccepting yX11_isAccepting ∈ p_ws := p_in (p_t8 (List.mem_of_getElem? (i := 33) (by decide +kernel))) rfl
abbrev mX11_statePositions : p_M := (yX11_statePositions, cX11_statePositions, 3, (some .int))
theorem cfX11_statePositions : p_cf mX11_statePositions 2 := p_cf.of (p_t8 (List.mem_of_getElem? (i := 42) rfl)) (p_t1 (List.mem_of_getElem? (i := 17) (by decide +kernel))) (by decide +kernel)
theorem imX11_statePositions : Cond.instanceMethod yX11_statePositions ∈ p_ws := p_in (p_t8 (List.mem_of_getElem? (i := 40) (by decide +kernel))) rfl
theorem seX11_statePositions : Cond.selects yX11_statePositions.cls yX11_statePositions yX11_statePositions ∈ p_ws := p_in (p_t8 (List.mem_of_getElem? (i := 41) (by decide +kernel))) rfl
abbrev mX11_deadState : p_M := (yX11_deadState, cX11_deadState, 3, (some .int))
theorem cfX11_deadState : p_cf mX11_deadState 1 := p_cf.of (p_t8 (List.mem_of_getElem? (i := 46) rfl)) (p_t1 (List.mem_of_getElem? (i := 17) (by decide +kernel))) (by decide +kernel)
theorem imX11_deadState : Cond.instanceMethod yX11_deadState ∈ p_ws := p_in (p_t8 (List.mem_of_getElem? (i := 44) (by decide +kernel))) rfl
theorem seX11_deadState : Cond.selects yX11_deadState.cls yX11_deadState yX11_deadState ∈ p_ws := p_in (p_t8 (List.mem_of_getElem? (i := 45) (by decide +kernel))) rfl
abbrev mX11_distance : p_M := (yX11_distance, cX11_distance, 10, (some .int))
theorem cfX11_distance : p_cf mX11_distance 3 := p_cf.of (p_t8 (List.mem_of_getElem? (i := 54) rfl)) (p_t1 (List.mem_of_getElem? (i := 17) (by decide +kernel))) (by decide +kernel)
theorem imX11_distance : Cond.instanceMethod yX11_distance ∈ p_ws := p_in (p_t8 (List.mem_of_getElem? (i := 53) (by decide +kernel))) rfl
theorem seX11_distance : Cond.selects yX11_distance.cls yX11_distance yX11_distance ∈ p_ws := p_in (List.mem_append_left _ (List.mem_of_getElem? (i := 67) (by decide +kernel))) rfl
abbrev mX11_distanceToAccepting : p_M := (yX11_distanceToAccepting, cX11_distanceToAccepting, 3, (some .int))
theorem cfX11_distanceToAccepting : p_cf mX11_distanceToAccepting 2 := p_cf.of (p_t8 (List.mem_of_getElem? (i := 50) rfl)) (p_t1 (List.mem_of_getElem? (i := 17) (by decide +kernel))) (by decide +kernel)
theorem imX11_distanceToAccepting : Cond.instanceMethod yX11_distanceToAccepting ∈ p_ws := p_in (p_t8 (List.mem_of_getElem? (i := 48) (by decide +kernel))) rfl
theorem seX11_distanceToAccepting : Cond.selects yX11_distanceToAccepting.cls yX11_distanceToAccepting yX11_distanceToAccepting ∈ p_ws := p_in (p_t8 (List.mem_of_getElem? (i := 49) (by decide +kernel))) rfl
abbrev mX11_tellsApart : p_M := (yX11_tellsApart, cX11_tellsApart, 6, none)
theorem cfX11_tellsApart : p_cf mX11_tellsApart 1 := p_cf.of (p_t8 (List.mem_of_getElem? (i := 62) rfl)) (p_t1 (List.mem_of_getElem? (i := 17) (by decide +kernel))) (by decide +kernel)
theorem imX11_tellsApart : Cond.instanceMethod yX11_tellsApart ∈ p_ws := p_in (p_t8 (List.mem_of_getElem? (i := 61) (by decide +kernel))) rfl
theorem seX11_tellsApart : Cond.selects yX11_tellsApart.cls yX11_tellsApart yX11_tellsApart ∈ p_ws := p_in (List.mem_append_left _ (List.mem_of_getElem? (i := 68) (by decide +kernel))) rfl
abbrev mX11_leadsApart : p_M := (yX11_leadsApart, cX11_leadsApart, 5, (some .boolean))
theorem cfX11_leadsApart : p_cf mX11_leadsApart 3 := p_cf.of (p_t8 (List.mem_of_getElem? (i := 66) rfl)) (p_t1 (List.mem_of_getElem? (i := 17) (by decide +kernel))) (by decide +kernel)
theorem imX11_leadsApart : Cond.instanceMethod yX11_leadsApart ∈ p_ws := p_in (p_t8 (List.mem_of_getElem? (i := 65) (by decide +kernel))) rfl
theorem seX11_leadsApart : Cond.selects yX11_leadsApart.cls yX11_leadsApart yX11_leadsApart ∈ p_ws := p_in (List.mem_append_left _ (List.mem_of_getElem? (i := 69) (by decide +kernel))) rfl
abbrev mX11_areEquivalentStates : p_M := (yX11_areEquivalentStates, cX11_areEquivalentStates, 4, (some .boolean))
theorem cfX11_areEquivalentStates : p_cf mX11_areEquivalentStates 3 := p_cf.of (p_t8 (List.mem_of_getElem? (i := 58) rfl)) (p_t1 (List.mem_of_getElem? (i := 17) (by decide +kernel))) (by decide +kernel)
theorem imX11_areEquivalentStates : Cond.instanceMethod yX11_areEquivalentStates ∈ p_ws := p_in (p_t8 (List.mem_of_getElem? (i := 56) (by decide +kernel))) rfl
theorem seX11_areEquivalentStates : Cond.selects yX11_areEquivalentStates.cls yX11_areEquivalentStates yX11_areEquivalentStates ∈ p_ws := p_in (p_t8 (List.mem_of_getElem? (i := 57) (by decide +kernel))) rfl
abbrev mX11_minimalStateCount : p_M := (yX11_minimalStateCount, cX11_minimalStateCount, 6, (some .int))
theorem cfX11_minimalStateCount : p_cf mX11_minimalStateCount 1 := p_cf.of (p_t8 (List.mem_of_getElem? (i := 70) rfl)) (p_t1 (List.mem_of_getElem? (i := 17) (by decide +kernel))) (by decide +kernel)
theorem imX11_minimalStateCount : Cond.instanceMethod yX11_minimalStateCount ∈ p_ws := p_in (p_t8 (List.mem_of_getElem? (i := 68) (by decide +kernel))) rfl
theorem seX11_minimalStateCount : Cond.selects yX11_minimalStateCount.cls yX11_minimalStateCount yX11_minimalStateCount ∈ p_ws := p_in (p_t8 (List.mem_of_getElem? (i := 69) (by decide +kernel))) rfl
abbrev mX11_acceptsInput : p_M := (yX11_acceptsInput, cX11_acceptsInput, 4, (some .boolean))
theorem cfX11_acceptsInput : p_cf mX11_acceptsInput 1 := p_cf.of (p_t8 (List.mem_of_getElem? (i := 74) rfl)) (p_t1 (List.mem_of_getElem? (i := 17) (by decide +kernel))) (by decide +kernel)
theorem imX11_acceptsInput : Cond.instanceMethod yX11_acceptsInput ∈ p_ws := p_in (p_t8 (List.mem_of_getElem? (i := 72) (by decide +kernel))) rfl
theorem seX11_acceptsInput : Cond.selects yX11_acceptsInput.cls yX11_acceptsInput yX11_acceptsInput ∈ p_ws := p_in (p_t8 (List.mem_of_getElem? (i := 73) (by decide +kernel))) rfl
abbrev mX11_countsWords : p_M := (yX11_countsWords, cX11_countsWords, 9, none)
theorem cfX11_countsWords : p_cf mX11_countsWords 2 := p_cf.of (p_t8 (List.mem_of_getElem? (i := 82) rfl)) (p_t1 (List.mem_of_getElem? (i := 17) (by decide +kernel))) (by decide +kernel)
theorem imX11_countsWords : Cond.instanceMethod yX11_countsWords ∈ p_ws := p_in (p_t8 (List.mem_of_getElem? (i := 81) (by decide +kernel))) rfl
theorem seX11_countsWords : Cond.selects yX11_countsWords.cls yX11_countsWords yX11_countsWords ∈ p_ws := p_in (List.mem_append_left _ (List.mem_of_getElem? (i := 70) (by decide +kernel))) rfl
abbrev mX11_wordCount : p_M := (yX11_wordCount, cX11_wordCount, 3, (some .long))
theorem cfX11_wordCount : p_cf mX11_wordCount 2 := p_cf.of (p_t8 (List.mem_of_getElem? (i := 78) rfl)) (p_t1 (List.mem_of_getElem? (i := 17) (by decide +kernel))) (by decide +kernel)
theorem imX11_wordCount : Cond.instanceMethod yX11_wordCount ∈ p_ws := p_in (p_t8 (List.mem_of_getElem? (i := 76) (by decide +kernel))) rfl
theorem seX11_wordCount : Cond.selects yX11_wordCount.cls yX11_wordCount yX11_wordCount ∈ p_ws := p_in (p_t8 (List.mem_of_getElem? (i := 77) (by decide +kernel))) rfl
abbrev mX11_wordCountWithPrefix : p_M := (yX11_wordCountWithPrefix, cX11_wordCountWithPrefix, 5, (some .long))
theorem cfX11_wordCountWithPrefix : p_cf mX11_wordCountWithPrefix 2 := p_cf.of (p_t8 (List.mem_of_getElem? (i := 86) rfl)) (p_t1 (List.mem_of_getElem? (i := 17) (by decide +kernel))) (by decide +kernel)
theorem imX11_wordCountWithPrefix : Cond.instanceMethod yX11_wordCountWithPrefix ∈ p_ws := p_in (p_t8 (List.mem_of_getElem? (i := 84) (by decide +kernel))) rfl
theorem seX11_wordCountWithPrefix : Cond.selects yX11_wordCountWithPrefix.cls yX11_wordCountWithPrefix yX11_wordCountWithPrefix ∈ p_ws := p_in (p_t8 (List.mem_of_getElem? (i := 85) (by decide +kernel))) rfl
abbrev mX11_shortestLength : p_M := (yX11_shortestLength, cX11_shortestLength, 2, (some .int))
theorem cfX11_shortestLength : p_cf mX11_shortestLength 1 := p_cf.of (p_t8 (List.mem_of_getElem? (i := 90) rfl)) (p_t1 (List.mem_of_getElem? (i := 17) (by decide +kernel))) (by decide +kernel)
theorem imX11_shortestLength : Cond.instanceMethod yX11_shortestLength ∈ p_ws := p_in (p_t8 (List.mem_of_getElem? (i := 88) (by decide +kernel))) rfl
theorem seX11_shortestLength : Cond.selects yX11_shortestLength.cls yX11_shortestLength yX11_shortestLength ∈ p_ws := p_in (p_t8 (List.mem_of_getElem? (i := 89) (by decide +kernel))) rfl
abbrev mX11_longest : p_M := (yX11_longest, cX11_longest, 7, (some .int))
theorem cfX11_longest : p_cf mX11_longest 1 := p_cf.of (p_t8 (List.mem_of_getElem? (i := 98) rfl)) (p_t1 (List.mem_of_getElem? (i := 17) (by decide +kernel))) (by decide +kernel)
theorem imX11_longest : Cond.instanceMethod yX11_longest ∈ p_ws := p_in (p_t8 (List.mem_of_getElem? (i := 97) (by decide +kernel))) rfl
theorem seX11_longest : Cond.selects yX11_longest.cls yX11_longest yX11_longest ∈ p_ws := p_in (List.mem_append_left _ (List.mem_of_getElem? (i := 71) (by decide +kernel))) rfl
abbrev mX11_isFinite : p_M := (yX11_isFinite, cX11_isFinite, 2, (some .boolean))
theorem cfX11_isFinite : p_cf mX11_isFinite 1 := p_cf.of (p_t8 (List.mem_of_getElem? (i := 94) rfl)) (p_t1 (List.mem_of_getElem? (i := 17) (by decide +kernel))) (by decide +kernel)
theorem imX11_isFinite : Cond.instanceMethod yX11_isFinite ∈ p_ws := p_in (p_t8 (List.mem_of_getElem? (i := 92) (by decide +kernel))) rfl
theorem seX11_isFinite : Cond.selects yX11_isFinite.cls yX11_isFinite yX11_isFinite ∈ p_ws := p_in (p_t8 (List.mem_of_getElem? (i := 93) (by decide +kernel))) rfl
abbrev mX11_longestLength : p_M := (yX11_longestLength, cX11_longestLength, 2, (some .int))
theorem cfX11_longestLength : p_cf mX11_longestLength 1 := p_cf.of (p_t8 (List.mem_of_getElem? (i := 102) rfl)) (p_t1 (List.mem_of_getElem? (i := 17) (by decide +kernel))) (by decide +kernel)
theorem imX11_longestLength : Cond.instanceMethod yX11_longestLength ∈ p_ws := p_in (p_t8 (List.mem_of_getElem? (i := 100) (by decide +kernel))) rfl
theorem seX11_longestLength : Cond.selects yX11_longestLength.cls yX11_longestLength yX11_longestLength ∈ p_ws := p_in (p_t8 (List.mem_of_getElem? (i := 101) (by decide +kernel))) rfl
abbrev mX11_pairs : p_M := (yX11_pairs, cX11_pairs, 7, (some .int))
theorem cfX11_pairs : p_cf mX11_pairs 0 := p_cf.of (p_t8 (List.mem_of_getElem? (i := 110) rfl)) (p_t1 (List.mem_of_getElem? (i := 17) (by decide +kernel))) (by decide +kernel)
theorem imX11_pairs : Cond.instanceMethod yX11_pairs ∈ p_ws := p_in (p_t8 (List.mem_of_getElem? (i := 109) (by decide +kernel))) rfl
theorem seX11_pairs : Cond.selects yX11_pairs.cls yX11_pairs yX11_pairs ∈ p_ws := p_in (List.mem_append_left _ (List.mem_of_getElem? (i := 72) (by decide +kernel))) rfl
abbrev mX11_isSubset : p_M := (yX11_isSubset, cX11_isSubset, 6, (some .boolean))
theorem cfX11_isSubset : p_cf mX11_isSubset 1 := p_cf.of (p_t8 (List.mem_of_getElem? (i := 106) rfl)) (p_t1 (List.mem_of_getElem? (i := 17) (by decide +kernel))) (by decide +kernel)
theorem imX11_isSubset : Cond.instanceMethod yX11_isSubset ∈ p_ws := p_in (p_t8 (List.mem_of_getElem? (i := 104) (by decide +kernel))) rfl
theorem seX11_isSubset : Cond.selects yX11_isSubset.cls yX11_isSubset yX11_isSubset ∈ p_ws := p_in (p_t8 (List.mem_of_getElem? (i := 105) (by decide +kernel))) rfl
abbrev mX11_differenceLength : p_M := (yX11_differenceLength, cX11_differenceLength, 1, (some .int))
theorem cfX11_differenceLength : p_cf mX11_differenceLength 0 := p_cf.of (p_t8 (List.mem_of_getElem? (i := 114) rfl)) (p_t1 (List.mem_of_getElem? (i := 17) (by decide +kernel))) (by decide +kernel)
theorem imX11_differenceLength : Cond.instanceMethod yX11_differenceLength ∈ p_ws := p_in (p_t8 (List.mem_of_getElem? (i := 112) (by decide +kernel))) rfl
theorem seX11_differenceLength : Cond.selects yX11_differenceLength.cls yX11_differenceLength yX11_differenceLength ∈ p_ws := p_in (p_t8 (List.mem_of_getElem? (i := 113) (by decide +kernel))) rfl
abbrev mX11_sharedLength : p_M := (yX11_sharedLength, cX11_sharedLength, 1, (some .int))
theorem cfX11_sharedLength : p_cf mX11_sharedLength 0 := p_cf.of (p_t8 (List.mem_of_getElem? (i := 118) rfl)) (p_t1 (List.mem_of_getElem? (i := 17) (by decide +kernel))) (by decide +kernel)
theorem imX11_sharedLength : Cond.instanceMethod yX11_sharedLength ∈ p_ws := p_in (p_t8 (List.mem_of_getElem? (i := 116) (by decide +kernel))) rfl
theorem seX11_sharedLength : Cond.selects yX11_sharedLength.cls yX11_sharedLength yX11_sharedLength ∈ p_ws := p_in (p_t8 (List.mem_of_getElem? (i := 117) (by decide +kernel))) rfl
abbrev mX11_reachablePairs : p_M := (yX11_reachablePairs, cX11_reachablePairs, 1, (some .int))
theorem cfX11_reachablePairs : p_cf mX11_reachablePairs 0 := p_cf.of (p_t8 (List.mem_of_getElem? (i := 122) rfl)) (p_t1 (List.mem_of_getElem? (i := 17) (by decide +kernel))) (by decide +kernel)
theorem imX11_reachablePairs : Cond.instanceMethod yX11_reachablePairs ∈ p_ws := p_in (p_t8 (List.mem_of_getElem? (i := 120) (by decide +kernel))) rfl
theorem seX11_reachablePairs : Cond.selects yX11_reachablePairs.cls yX11_reachablePairs yX11_reachablePairs ∈ p_ws := p_in (p_t8 (List.mem_of_getElem? (i := 121) (by decide +kernel))) rfl
abbrev mX11_isPassable : p_M := (yX11_isPassable, cX11_isPassable, 2, (some .boolean))
theorem cfX11_isPassable : p_cf mX11_isPassable 1 := p_cf.of (p_t8 (List.mem_of_getElem? (i := 126) rfl)) (p_t1 (List.mem_of_getElem? (i := 17) (by decide +kernel))) (by decide +kernel)
theorem imX11_isPassable : Cond.instanceMethod yX11_isPassable ∈ p_ws := p_in (p_t8 (List.mem_of_getElem? (i := 124) (by decide +kernel))) rfl
theorem seX11_isPassable : Cond.selects yX11_isPassable.cls yX11_isPassable yX11_isPassable ∈ p_ws := p_in (p_t8 (List.mem_of_getElem? (i := 125) (by decide +kernel))) rfl
abbrev mX11_isNight : p_M := (yX11_isNight, cX11_isNight, 1, (some .boolean))
theorem cfX11_isNight : p_cf mX11_isNight 0 := p_cf.of (p_t8 (List.mem_of_getElem? (i := 130) rfl)) (p_t1 (List.mem_of_getElem? (i := 17) (by decide +kernel))) (by decide +kernel)
theorem imX11_isNight : Cond.instanceMethod yX11_isNight ∈ p_ws := p_in (p_t8 (List.mem_of_getElem? (i := 128) (by decide +kernel))) rfl
theorem seX11_isNight : Cond.selects yX11_isNight.cls yX11_isNight yX11_isNight ∈ p_ws := p_in (p_t8 (List.mem_of_getElem? (i := 129) (by decide +kernel))) rfl
abbrev mX11_walkerCount : p_M := (yX11_walkerCount, cX11_walkerCount, 1, (some .int))
theorem cfX11_walkerCount : p_cf mX11_walkerCount 0 := p_cf.of (p_t8 (List.mem_of_getElem? (i := 134) rfl)) (p_t1 (List.mem_of_getElem? (i := 17) (by decide +kernel))) (by decide +kernel)
theorem imX11_walkerCount : Cond.instanceMethod yX11_walkerCount ∈ p_ws := p_in (p_t8 (List.mem_of_getElem? (i := 132) (by decide +kernel))) rfl
theorem seX11_walkerCount : Cond.selects yX11_walkerCount.cls yX11_walkerCount yX11_walkerCount ∈ p_ws := p_in (p_t8 (List.mem_of_getElem? (i := 133) (by decide +kernel))) rfl
abbrev mX11_walkerTold : p_M := (yX11_walkerTold, cX11_walkerTold, 3, (some .int))
theorem cfX11_walkerTold : p_cf mX11_walkerTold 2 := p_cf.of (p_t8 (List.mem_of_getElem? (i := 142) rfl)) (p_t1 (List.mem_of_getElem? (i := 17) (by decide +kernel))) (by decide +kernel)
theorem imX11_walkerTold : Cond.instanceMethod yX11_walkerTold ∈ p_ws := p_in (p_t8 (List.mem_of_getElem? (i := 141) (by decide +kernel))) rfl
theorem seX11_walkerTold : Cond.selects yX11_walkerTold.cls yX11_walkerTold yX11_walkerTold ∈ p_ws := p_in (List.mem_append_left _ (List.mem_of_getElem? (i := 73) (by decide +kernel))) rfl
abbrev mX11_walkerSlot : p_M := (yX11_walkerSlot, cX11_walkerSlot, 2, (some .int))
theorem cfX11_walkerSlot : p_cf mX11_walkerSlot 1 := p_cf.of (p_t8 (List.mem_of_getElem? (i := 138) rfl)) (p_t1 (List.mem_of_getElem? (i := 17) (by decide +kernel))) (by decide +kernel)
theorem imX11_walkerSlot : Cond.instanceMethod yX11_walkerSlot ∈ p_ws := p_in (p_t8 (List.mem_of_getElem? (i := 136) (by decide +kernel))) rfl
theorem seX11_walkerSlot : Cond.selects yX11_walkerSlot.cls yX11_walkerSlot yX11_walkerSlot ∈ p_ws := p_in (p_t8 (List.mem_of_getElem? (i := 137) (by decide +kernel))) rfl
abbrev mX11_walkerState : p_M := (yX11_walkerState, cX11_walkerState, 2, (some .int))
theorem cfX11_walkerState : p_cf mX11_walkerState 1 := p_cf.of (p_t8 (List.mem_of_getElem? (i := 146) rfl)) (p_t1 (List.mem_of_getElem? (i := 17) (by decide +kernel))) (by decide +kernel)
theorem imX11_walkerState : Cond.instanceMethod yX11_walkerState ∈ p_ws := p_in (p_t8 (List.mem_of_getElem? (i := 144) (by decide +kernel))) rfl
theorem seX11_walkerState : Cond.selects yX11_walkerState.cls yX11_walkerState yX11_walkerState ∈ p_ws := p_in (p_t8 (List.mem_of_getElem? (i := 145) (by decide +kernel))) rfl
abbrev mX11_walkerSteps : p_M := (yX11_walkerSteps, cX11_walkerSteps, 2, (some .int))
theorem cfX11_walkerSteps : p_cf mX11_walkerSteps 1 := p_cf.of (p_t8 (List.mem_of_getElem? (i := 150) rfl)) (p_t1 (List.mem_of_getElem? (i := 17) (by decide +kernel))) (by decide +kernel)
theorem imX11_walkerSteps : Cond.instanceMethod yX11_walkerSteps ∈ p_ws := p_in (p_t8 (List.mem_of_getElem? (i := 148) (by decide +kernel))) rfl
theorem seX11_walkerSteps : Cond.selects yX11_walkerSteps.cls yX11_walkerSteps yX11_walkerSteps ∈ p_ws := p_in (p_t8 (List.mem_of_getElem? (i := 149) (by decide +kernel))) rfl
abbrev mX11_stepsHome : p_M := (yX11_stepsHome, cX11_stepsHome, 2, (some .int))
theorem cfX11_stepsHome : p_cf mX11_stepsHome 1 := p_cf.of (p_t8 (List.mem_of_getElem? (i := 154) rfl)) (p_t1 (List.mem_of_getElem? (i := 17) (by decide +kernel))) (by decide +kernel)
theorem imX11_stepsHome : Cond.instanceMethod yX11_stepsHome ∈ p_ws := p_in (p_t8 (List.mem_of_getElem? (i := 152) (by decide +kernel))) rfl
theorem seX11_stepsHome : Cond.selects yX11_stepsHome.cls yX11_stepsHome yX11_stepsHome ∈ p_ws := p_in (p_t8 (List.mem_of_getElem? (i := 153) (by decide +kernel))) rfl
abbrev mX11_streetHome : p_M := (yX11_streetHome, cX11_streetHome, 6, (some .int))
theorem cfX11_streetHome : p_cf mX11_streetHome 1 := p_cf.of (p_t8 (List.mem_of_getElem? (i := 158) rfl)) (p_t1 (List.mem_of_getElem? (i := 17) (by decide +kernel))) (by decide +kernel)
theorem imX11_streetHome : Cond.instanceMethod yX11_streetHome ∈ p_ws := p_in (p_t8 (List.mem_of_getElem? (i := 156) (by decide +kernel))) rfl
theorem seX11_streetHome : Cond.selects yX11_streetHome.cls yX11_streetHome yX11_streetHome ∈ p_ws := p_in (p_t8 (List.mem_of_getElem? (i := 157) (by decide +kernel))) rfl
abbrev mX11_walkersInState : p_M := (yX11_walkersInState, cX11_walkersInState, 5, (some .int))
theorem cfX11_walkersInState : p_cf mX11_walkersInState 2 := p_cf.of (p_t8 (List.mem_of_getElem? (i := 162) rfl)) (p_t1 (List.mem_of_getElem? (i := 17) (by decide +kernel))) (by decide +kernel)
theorem imX11_walkersInState : Cond.instanceMethod yX11_walkersInState ∈ p_ws := p_in (p_t8 (List.mem_of_getElem? (i := 160) (by decide +kernel))) rfl
theorem seX11_walkersInState : Cond.selects yX11_walkersInState.cls yX11_walkersInState yX11_walkersInState ∈ p_ws := p_in (p_t8 (List.mem_of_getElem? (i := 161) (by decide +kernel))) rfl
abbrev mX11_bothHome : p_M := (yX11_bothHome, cX11_bothHome, 11, (some .int))
theorem cfX11_bothHome : p_cf mX11_bothHome 4 := p_cf.of (p_t8 (List.mem_of_getElem? (i := 170) rfl)) (p_t1 (List.mem_of_getElem? (i := 17) (by decide +kernel))) (by decide +kernel)
theorem imX11_bothHome : Cond.instanceMethod yX11_bothHome ∈ p_ws := p_in (p_t8 (List.mem_of_getElem? (i := 169) (by decide +kernel))) rfl
theorem seX11_bothHome : Cond.selects yX11_bothHome.cls yX11_bothHome yX11_bothHome ∈ p_ws := p_in (List.mem_append_left _ (List.mem_of_getElem? (i := 74) (by decide +kernel))) rfl
abbrev mX11_meetingSteps : p_M := (yX11_meetingSteps, cX11_meetingSteps, 3, (some .int))
theorem cfX11_meetingSteps : p_cf mX11_meetingSteps 2 := p_cf.of (p_t8 (List.mem_of_getElem? (i := 166) rfl)) (p_t1 (List.mem_of_getElem? (i := 17) (by decide +kernel))) (by decide +kernel)
theorem imX11_meetingSteps : Cond.instanceMethod yX11_meetingSteps ∈ p_ws := p_in (p_t8 (List.mem_of_getElem? (i := 164) (by decide +kernel))) rfl
theorem seX11_meetingSteps : Cond.selects yX11_meetingSteps.cls yX11_meetingSteps yX11_meetingSteps ∈ p_ws := p_in (p_t8 (List.mem_of_getElem? (i := 165) (by decide +kernel))) rfl
abbrev mX11_totalSteps : p_M := (yX11_totalSteps, cX11_totalSteps, 1, (some .int))
theorem cfX11_totalSteps : p_cf mX11_totalSteps 0 := p_cf.of (p_t8 (List.mem_of_getElem? (i := 174) rfl)) (p_t1 (List.mem_of_getElem? (i := 17) (by decide +kernel))) (by decide +kernel)
theorem imX11_totalSteps : Cond.instanceMethod yX11_totalSteps ∈ p_ws := p_in (p_t8 (List.mem_of_getElem? (i := 172) (by decide +kernel))) rfl
theorem seX11_totalSteps : Cond.selects yX11_totalSteps.cls yX11_totalSteps yX11_totalSteps ∈ p_ws := p_in (p_t8 (List.mem_of_getElem? (i := 173) (by decide +kernel))) rfl
abbrev mX11_homeShare : p_M := (yX11_homeShare, cX11_homeShare, 3, (some .float))
theorem cfX11_homeShare : p_cf mX11_homeShare 0 := p_cf.of (p_t8 (List.mem_of_getElem? (i := 178) rfl)) (p_t1 (List.mem_of_getElem? (i := 17) (by decide +kernel))) (by decide +kernel)
theorem imX11_homeShare : Cond.instanceMethod yX11_homeShare ∈ p_ws := p_in (p_t8 (List.mem_of_getElem? (i := 176) (by decide +kernel))) rfl
theorem seX11_homeShare : Cond.selects yX11_homeShare.cls yX11_homeShare yX11_homeShare ∈ p_ws := p_in (p_t8 (List.mem_of_getElem? (i := 177) (by decide +kernel))) rfl
abbrev mX11_meanSetSize : p_M := (yX11_meanSetSize, cX11_meanSetSize, 4, (some .double))
theorem cfX11_meanSetSize : p_cf mX11_meanSetSize 1 := p_cf.of (p_t8 (List.mem_of_getElem? (i := 182) rfl)) (p_t1 (List.mem_of_getElem? (i := 17) (by decide +kernel))) (by decide +kernel)
theorem imX11_meanSetSize : Cond.instanceMethod yX11_meanSetSize ∈ p_ws := p_in (p_t8 (List.mem_of_getElem? (i := 180) (by decide +kernel))) rfl
theorem seX11_meanSetSize : Cond.selects yX11_meanSetSize.cls yX11_meanSetSize yX11_meanSetSize ∈ p_ws := p_in (p_t8 (List.mem_of_getElem? (i := 181) (by decide +kernel))) rfl
abbrev mX11_writeWord : p_M := (yX11_writeWord, cX11_writeWord, 12, (some .int))
theorem cfX11_writeWord : p_cf mX11_writeWord 3 := p_cf.of (p_t8 (List.mem_of_getElem? (i := 189) rfl)) (p_t1 (List.mem_of_getElem? (i := 17) (by decide +kernel))) (by decide +kernel)
theorem imX11_writeWord : Cond.instanceMethod yX11_writeWord ∈ p_ws := p_in (p_t8 (List.mem_of_getElem? (i := 187) (by decide +kernel))) rfl
theorem seX11_writeWord : Cond.selects yX11_writeWord.cls yX11_writeWord yX11_writeWord ∈ p_ws := p_in (p_t8 (List.mem_of_getElem? (i := 188) (by decide +kernel))) rfl
abbrev mX11_writeDifference : p_M := (yX11_writeDifference, cX11_writeDifference, 1, (some .int))
theorem cfX11_writeDifference : p_cf mX11_writeDifference 0 := p_cf.of (p_t8 (List.mem_of_getElem? (i := 193) rfl)) (p_t1 (List.mem_of_getElem? (i := 17) (by decide +kernel))) (by decide +kernel)
theorem imX11_writeDifference : Cond.instanceMethod yX11_writeDifference ∈ p_ws := p_in (p_t8 (List.mem_of_getElem? (i := 191) (by decide +kernel))) rfl
theorem seX11_writeDifference : Cond.selects yX11_writeDifference.cls yX11_writeDifference yX11_writeDifference ∈ p_ws := p_in (p_t8 (List.mem_of_getElem? (i := 192) (by decide +kernel))) rfl
abbrev mX11_writeSharedWord : p_M := (yX11_writeSharedWord, cX11_writeSharedWord, 1, (some .int))
theorem cfX11_writeSharedWord : p_cf mX11_writeSharedWord 0 := p_cf.of (p_t8 (List.mem_of_getElem? (i := 201) rfl)) (p_t1 (List.mem_of_getElem? (i := 17) (by decide +kernel))) (by decide +kernel)
theorem imX11_writeSharedWord : Cond.instanceMethod yX11_writeSharedWord ∈ p_ws := p_in (p_t8 (List.mem_of_getElem? (i := 199) (by decide +kernel))) rfl
theorem seX11_writeSharedWord : Cond.selects yX11_writeSharedWord.cls yX11_writeSharedWord yX11_writeSharedWord ∈ p_ws := p_in (p_t8 (List.mem_of_getElem? (i := 200) (by decide +kernel))) rfl
abbrev mX11_writeWay : p_M := (yX11_writeWay, cX11_writeWay, 4, (some .int))
theorem cfX11_writeWay : p_cf mX11_writeWay 1 := p_cf.of (p_t8 (List.mem_of_getElem? (i := 197) rfl)) (p_t1 (List.mem_of_getElem? (i := 17) (by decide +kernel))) (by decide +kernel)
theorem imX11_writeWay : Cond.instanceMethod yX11_writeWay ∈ p_ws := p_in (p_t8 (List.mem_of_getElem? (i := 196) (by decide +kernel))) rfl
theorem seX11_writeWay : Cond.selects yX11_writeWay.cls yX11_writeWay yX11_writeWay ∈ p_ws := p_in (List.mem_append_left _ (List.mem_of_getElem? (i := 75) (by decide +kernel))) rfl
abbrev mX11_reportByte : p_M := (yX11_reportByte, cX11_reportByte, 2, (some .int))
theorem cfX11_reportByte : p_cf mX11_reportByte 1 := p_cf.of (p_t8 (List.mem_of_getElem? (i := 205) rfl)) (p_t1 (List.mem_of_getElem? (i := 17) (by decide +kernel))) (by decide +kernel)
theorem imX11_reportByte : Cond.instanceMethod yX11_reportByte ∈ p_ws := p_in (p_t8 (List.mem_of_getElem? (i := 203) (by decide +kernel))) rfl
theorem seX11_reportByte : Cond.selects yX11_reportByte.cls yX11_reportByte yX11_reportByte ∈ p_ws := p_in (p_t8 (List.mem_of_getElem? (i := 204) (by decide +kernel))) rfl
abbrev mJ6_bitCount_0f7a4 : p_M := (yJ6_bitCount_0f7a4, cJ6_bitCount_0f7a4, 1, (some .int))
theorem cfJ6_bitCount_0f7a4 : p_cf mJ6_bitCount_0f7a4 1 := p_cf.of (p_t3 (List.mem_of_getElem? (i := 76) rfl)) (p_t1 (List.mem_of_getElem? (i := 25) (by decide +kernel))) (by decide +kernel)
theorem stJ6_bitCount_0f7a4 : Cond.static yJ6_bitCount_0f7a4 ∈ p_ws := p_in (p_t3 (List.mem_of_getElem? (i := 75) (by decide +kernel))) rfl
abbrev mJ7_fill_53178 : p_M := (yJ7_fill_53178, cJ7_fill_53178, 4, none)
theorem cfJ7_fill_53178 : p_cf mJ7_fill_53178 2 := p_cf.of (p_t1 (List.mem_of_getElem? (i := 239) rfl)) (p_t1 (List.mem_of_getElem? (i := 10) (by decide +kernel))) (by decide +kernel)
theorem stJ7_fill_53178 : Cond.static yJ7_fill_53178 ∈ p_ws := p_in (p_t1 (List.mem_of_getElem? (i := 238) (by decide +kernel))) rfl
theorem lX10_3 : Cond.methodLink RX10 3 Lib.objectInit ∈ p_ws := p_in (p_t1 (List.mem_of_getElem? (i := 33) (by decide +kernel))) rfl
theorem lX10_11 : Cond.methodLinkNest RX10 11 yX1_init "StreetAutomata" ∈ lw_tbl := (p_t1 (List.mem_of_getElem? (i := 38) (by decide +kernel)))
theorem lX10_14 : Cond.methodLink RX10 14 yX6_init ∈ p_ws := p_in (p_t1 (List.mem_of_getElem? (i := 52) (by decide +kernel))) rfl
theorem lX10_17 : Cond.methodLink RX10 17 yX1_put ∈ p_ws := p_in (p_t1 (List.mem_of_getElem? (i := 158) (by decide +kernel))) rfl
theorem lX10_21 : Cond.methodLink RX10 21 yX6_read ∈ p_ws := p_in (p_t1 (List.mem_of_getElem? (i := 217) (by decide +kernel))) rfl
theorem lX10_27 : Cond.methodLink RX10 27 yX5_init ∈ p_ws := p_in (p_t2 (List.mem_of_getElem? (i := 69) (by decide +kernel))) rfl
theorem lX10_32 : Cond.methodLink RX10 32 yX1_shorten ∈ p_ws := p_in (p_t2 (List.mem_of_getElem? (i := 125) (by decide +kernel))) rfl
theorem lX10_46 : Cond.methodLink RX10 46 yX9_init ∈ p_ws := p_in (p_t2 (List.mem_of_getElem? (i := 131) (by decide +kernel))) rfl
theorem lX10_55 : Cond.methodLink RX10 55 yX0_init ∈ p_ws := p_in (p_t2 (List.mem_of_getElem? (i := 171) (by decide +kernel))) rfl
theorem lX10_72 : Cond.methodLinkNest RX10 72 yX3_init "StreetAutomata" ∈ lw_tbl := (p_t2 (List.mem_of_getElem? (i := 190) (by decide +kernel)))
theorem lX10_79 : Cond.methodLinkNest RX10 79 yX8_init "StreetAutomata" ∈ lw_tbl := (p_t2 (List.mem_of_getElem? (i := 213) (by decide +kernel)))
theorem lX10_86 : Cond.methodLinkNest RX10 86 yX7_init "StreetAutomata" ∈ lw_tbl := (p_t2 (List.mem_of_getElem? (i := 224) (by decide +kernel)))
theorem lX10_95 : Cond.methodLink RX10 95 yX1_size ∈ p_ws := p_in (p_t3 (List.mem_of_getElem? (i := 45) (by decide +kernel))) rfl
theorem lX10_99 : Cond.methodLink RX10 99 yX1_addFourBytes ∈ p_ws := p_in (p_t3 (List.mem_of_getElem? (i := 46) (by decide +kernel))) rfl
theorem lX10_108 : Cond.methodLink RX10 108 yX10_checkSlot ∈ p_ws := p_in (p_t4 (List.mem_of_getElem? (i := 74) (by decide +kernel))) rfl
theorem lX10_111 : Cond.methodLink RX10 111 yX6_errorOffset ∈ p_ws := p_in (p_t4 (List.mem_of_getElem? (i := 93) (by decide +kernel))) rfl
theorem lX10_113 : Cond.methodLink RX10 113 yX0_remember ∈ p_ws := p_in (p_t3 (List.mem_of_getElem? (i := 58) (by decide +kernel))) rfl
theorem lX10_117 : Cond.methodLink RX10 117 yX9_putPattern ∈ p_ws := p_in (p_t4 (List.mem_of_getElem? (i := 97) (by decide +kernel))) rfl
theorem lX10_124 : Cond.methodLink RX10 124 yX9_pattern ∈ p_ws := p_in (p_t3 (List.mem_of_getElem? (i := 117) (by decide +kernel))) rfl
theorem lX10_128 : Cond.methodLink RX10 128 yX10_otherSlot ∈ p_ws := p_in (p_t4 (List.mem_of_getElem? (i := 112) (by decide +kernel))) rfl
theorem lX10_143 : Cond.methodLink RX10 143 yX9_bringWalker ∈ p_ws := p_in (p_t4 (List.mem_of_getElem? (i := 139) (by decide +kernel))) rfl
theorem lX10_146 : Cond.methodLink RX10 146 yX10_checkWalker ∈ p_ws := p_in (p_t4 (List.mem_of_getElem? (i := 150) (by decide +kernel))) rfl
theorem lX10_149 : Cond.methodLink RX10 149 yX9_stepsOf ∈ p_ws := p_in (p_t4 (List.mem_of_getElem? (i := 155) (by decide +kernel))) rfl
theorem lX10_152 : Cond.methodLink RX10 152 yX9_dropWalker ∈ p_ws := p_in (p_t4 (List.mem_of_getElem? (i := 159) (by decide +kernel))) rfl
theorem lX10_155 : Cond.methodLink RX10 155 yX10_checkStreet ∈ p_ws := p_in (p_t4 (List.mem_of_getElem? (i := 170) (by decide +kernel))) rfl
theorem lX10_158 : Cond.methodLink RX10 158 yX9_isOpen ∈ p_ws := p_in (p_t4 (List.mem_of_getElem? (i := 174) (by decide +kernel))) rfl
theorem lX10_164 : Cond.methodLink RX10 164 yX9_moveWalker ∈ p_ws := p_in (p_t4 (List.mem_of_getElem? (i := 180) (by decide +kernel))) rfl
theorem lX10_168 : Cond.methodLink RX10 168 yX9_stateOf ∈ p_ws := p_in (p_t3 (List.mem_of_getElem? (i := 199) (by decide +kernel))) rfl
theorem lX10_171 : Cond.methodLink RX10 171 yX1_street ∈ p_ws := p_in (p_t4 (List.mem_of_getElem? (i := 193) (by decide +kernel))) rfl
theorem lX10_174 : Cond.methodLink RX10 174 yX9_beginAnew ∈ p_ws := p_in (p_t4 (List.mem_of_getElem? (i := 205) (by decide +kernel))) rfl
theorem lX10_177 : Cond.methodLink RX10 177 yX9_putGate ∈ p_ws := p_in (p_t4 (List.mem_of_getElem? (i := 213) (by decide +kernel))) rfl
theorem lX10_185 : Cond.methodLink RX10 185 yX9_openStreets ∈ p_ws := p_in (p_t3 (List.mem_of_getElem? (i := 70) (by decide +kernel))) rfl
theorem lX10_188 : Cond.methodLink RX10 188 yJ6_bitCount_0f7a4 ∈ p_ws := p_in (p_t3 (List.mem_of_getElem? (i := 74) (by decide +kernel))) rfl
theorem lX10_193 : Cond.methodLink RX10 193 yX0_takeBack ∈ p_ws := p_in (p_t3 (List.mem_of_getElem? (i := 84) (by decide +kernel))) rfl
theorem lX10_197 : Cond.methodLink RX10 197 yX0_size ∈ p_ws := p_in (p_t3 (List.mem_of_getElem? (i := 88) (by decide +kernel))) rfl
theorem lX10_198 : Cond.methodLink RX10 198 yX9_copyFrom ∈ p_ws := p_in (p_t3 (List.mem_of_getElem? (i := 100) (by decide +kernel))) rfl
theorem lX10_209 : Cond.methodLink RX10 209 yX0_forgetAll ∈ p_ws := p_in (p_t5 (List.mem_of_getElem? (i := 1) (by decide +kernel))) rfl
theorem lX10_212 : Cond.methodLink RX10 212 yX10_checkedPattern ∈ p_ws := p_in (p_t5 (List.mem_of_getElem? (i := 12) (by decide +kernel))) rfl
theorem lX10_215 : Cond.methodLink RX10 215 yX10_checkPosition ∈ p_ws := p_in (p_t5 (List.mem_of_getElem? (i := 23) (by decide +kernel))) rfl
theorem lX10_219 : Cond.methodLink RX10 219 yX5_streetOf ∈ p_ws := p_in (p_t5 (List.mem_of_getElem? (i := 27) (by decide +kernel))) rfl
theorem lX10_231 : Cond.methodLink RX10 231 yX5_followOf ∈ p_ws := p_in (p_t5 (List.mem_of_getElem? (i := 59) (by decide +kernel))) rfl
theorem lX10_237 : Cond.methodLink RX10 237 yX5_positionsAlong ∈ p_ws := p_in (p_t5 (List.mem_of_getElem? (i := 77) (by decide +kernel))) rfl
theorem lX10_240 : Cond.methodLink RX10 240 yX10_checkState ∈ p_ws := p_in (p_t5 (List.mem_of_getElem? (i := 95) (by decide +kernel))) rfl
theorem lX10_243 : Cond.methodLink RX10 243 yX5_after ∈ p_ws := p_in (p_t5 (List.mem_of_getElem? (i := 99) (by decide +kernel))) rfl
theorem lX10_247 : Cond.methodLink RX10 247 yX5_accepts ∈ p_ws := p_in (p_t3 (List.mem_of_getElem? (i := 203) (by decide +kernel))) rfl
theorem lX10_250 : Cond.methodLink RX10 250 yX5_positionsIn ∈ p_ws := p_in (p_t5 (List.mem_of_getElem? (i := 114) (by decide +kernel))) rfl
theorem lX10_253 : Cond.methodLink RX10 253 yX5_emptySetState ∈ p_ws := p_in (p_t5 (List.mem_of_getElem? (i := 122) (by decide +kernel))) rfl
theorem lX10_256 : Cond.methodLink RX10 256 yX10_findAcceptance ∈ p_ws := p_in (p_t5 (List.mem_of_getElem? (i := 133) (by decide +kernel))) rfl
theorem lX10_260 : Cond.methodLink RX10 260 yX3_stepsTo ∈ p_ws := p_in (p_t3 (List.mem_of_getElem? (i := 153) (by decide +kernel))) rfl
theorem lX10_263 : Cond.methodLink RX10 263 yX7_sort ∈ p_ws := p_in (p_t5 (List.mem_of_getElem? (i := 145) (by decide +kernel))) rfl
theorem lX10_267 : Cond.methodLink RX10 267 yX7_classOf ∈ p_ws := p_in (p_t5 (List.mem_of_getElem? (i := 172) (by decide +kernel))) rfl
theorem lX10_270 : Cond.methodLink RX10 270 yX7_size ∈ p_ws := p_in (p_t5 (List.mem_of_getElem? (i := 180) (by decide +kernel))) rfl
theorem lX10_271 : Cond.methodLink RX10 271 yX10_stateAfterInput ∈ p_ws := p_in (p_t5 (List.mem_of_getElem? (i := 191) (by decide +kernel))) rfl
theorem lX10_275 : Cond.methodLink RX10 275 yX10_checkWordLength ∈ p_ws := p_in (p_t5 (List.mem_of_getElem? (i := 202) (by decide +kernel))) rfl
theorem lX10_278 : Cond.methodLink RX10 278 yX8_fill ∈ p_ws := p_in (p_t5 (List.mem_of_getElem? (i := 206) (by decide +kernel))) rfl
theorem lX10_281 : Cond.methodLink RX10 281 yX8_from ∈ p_ws := p_in (p_t5 (List.mem_of_getElem? (i := 225) (by decide +kernel))) rfl
theorem lX10_285 : Cond.methodLink RX10 285 yX5_longestWord ∈ p_ws := p_in (p_t6 (List.mem_of_getElem? (i := 7) (by decide +kernel))) rfl
theorem lX10_288 : Cond.methodLink RX10 288 yX3_find ∈ p_ws := p_in (p_t3 (List.mem_of_getElem? (i := 121) (by decide +kernel))) rfl
theorem lX10_292 : Cond.methodLink RX10 292 yX10_compareBoth ∈ p_ws := p_in (p_t3 (List.mem_of_getElem? (i := 113) (by decide +kernel))) rfl
theorem lX10_295 : Cond.methodLink RX10 295 yX3_size ∈ p_ws := p_in (p_t3 (List.mem_of_getElem? (i := 169) (by decide +kernel))) rfl
theorem lX10_296 : Cond.methodLink RX10 296 yX9_slotOf ∈ p_ws := p_in (p_t6 (List.mem_of_getElem? (i := 53) (by decide +kernel))) rfl
theorem lX10_299 : Cond.methodLink RX10 299 yX10_findHome ∈ p_ws := p_in (p_t6 (List.mem_of_getElem? (i := 75) (by decide +kernel))) rfl
theorem lX10_302 : Cond.methodLink RX10 302 yX3_firstStreetTo ∈ p_ws := p_in (p_t6 (List.mem_of_getElem? (i := 86) (by decide +kernel))) rfl
theorem lX10_305 : Cond.methodLink RX10 305 yX10_pairOf ∈ p_ws := p_in (p_t5 (List.mem_of_getElem? (i := 137) (by decide +kernel))) rfl
theorem lX10_308 : Cond.methodLink RX10 308 yX9_patternOfWalker ∈ p_ws := p_in (p_t3 (List.mem_of_getElem? (i := 189) (by decide +kernel))) rfl
theorem lX10_314 : Cond.methodLink RX10 314 yX8_streetToWord ∈ p_ws := p_in (p_t6 (List.mem_of_getElem? (i := 119) (by decide +kernel))) rfl
theorem lX10_318 : Cond.methodLink RX10 318 yX8_wordsBefore ∈ p_ws := p_in (p_t6 (List.mem_of_getElem? (i := 123) (by decide +kernel))) rfl
theorem lX10_322 : Cond.methodLink RX10 322 yX10_putReportByte ∈ p_ws := p_in (p_t3 (List.mem_of_getElem? (i := 216) (by decide +kernel))) rfl
theorem lX10_328 : Cond.methodLink RX10 328 yX10_writeFound ∈ p_ws := p_in (p_t3 (List.mem_of_getElem? (i := 208) (by decide +kernel))) rfl
theorem lX10_331 : Cond.methodLink RX10 331 yX10_isIndex ∈ p_ws := p_in (p_t3 (List.mem_of_getElem? (i := 220) (by decide +kernel))) rfl
theorem lX10_350 : Cond.methodLink RX10 350 yX3_streetInto ∈ p_ws := p_in (p_t3 (List.mem_of_getElem? (i := 212) (by decide +kernel))) rfl
theorem lX10_353 : Cond.methodLink RX10 353 yX3_before ∈ p_ws := p_in (p_t3 (List.mem_of_getElem? (i := 221) (by decide +kernel))) rfl
theorem lX0_3 : Cond.methodLink RX0 3 Lib.objectInit ∈ p_ws := p_in (p_t2 (List.mem_of_getElem? (i := 174) (by decide +kernel))) rfl
theorem lX0_17 : Cond.methodLink RX0 17 yX9_init ∈ p_ws := p_in (p_t2 (List.mem_of_getElem? (i := 177) (by decide +kernel))) rfl
theorem lX0_27 : Cond.methodLinkNest RX0 27 yX10_isIndex "StreetAutomata" ∈ lw_tbl := (p_t3 (List.mem_of_getElem? (i := 62) (by decide +kernel)))
theorem lX0_31 : Cond.methodLink RX0 31 yX9_copyFrom ∈ p_ws := p_in (p_t3 (List.mem_of_getElem? (i := 63) (by decide +kernel))) rfl
theorem lX0_35 : Cond.methodLink RX0 35 yJ9_min_7cf53 ∈ p_ws := p_in (p_t3 (List.mem_of_getElem? (i := 67) (by decide +kernel))) rfl
theorem lX1_3 : Cond.methodLink RX1 3 Lib.objectInit ∈ p_ws := p_in (p_t1 (List.mem_of_getElem? (i := 41) (by decide +kernel))) rfl
theorem lX1_19 : Cond.methodLink RX1 19 yJ0_length_8abf5 ∈ p_ws := p_in (p_t1 (List.mem_of_getElem? (i := 162) (by decide +kernel))) rfl
theorem lX1_24 : Cond.methodLink RX1 24 yJ0_charAt_5068e ∈ p_ws := p_in (p_t1 (List.mem_of_getElem? (i := 172) (by decide +kernel))) rfl
theorem lX1_28 : Cond.methodLink RX1 28 yX1_addByte ∈ p_ws := p_in (p_t1 (List.mem_of_getElem? (i := 210) (by decide +kernel))) rfl
theorem lX1_32 : Cond.methodLinkNest RX1 32 yX10_isIndex "StreetAutomata" ∈ lw_tbl := (p_t1 (List.mem_of_getElem? (i := 214) (by decide +kernel)))
theorem lX1_36 : Cond.methodLink RX1 36 yX1_value ∈ p_ws := p_in (p_t4 (List.mem_of_getElem? (i := 197) (by decide +kernel))) rfl
theorem lX2_1 : Cond.methodLink RX2 1 Lib.objectInit ∈ p_ws := p_in (p_t1 (List.mem_of_getElem? (i := 61) (by decide +kernel))) rfl
theorem lX2_9 : Cond.methodLinkNest RX2 9 yX4_init "StreetAutomata" ∈ lw_tbl := (p_t1 (List.mem_of_getElem? (i := 64) (by decide +kernel)))
theorem lX2_26 : Cond.methodLink RX2 26 yX2_init ∈ p_ws := p_in (p_t1 (List.mem_of_getElem? (i := 114) (by decide +kernel))) rfl
theorem lX2_32 : Cond.methodLink RX2 32 yX4_set ∈ p_ws := p_in (p_t1 (List.mem_of_getElem? (i := 229) (by decide +kernel))) rfl
theorem lX2_36 : Cond.methodLink RX2 36 yX2_beginBranch ∈ p_ws := p_in (p_t1 (List.mem_of_getElem? (i := 233) (by decide +kernel))) rfl
theorem lX3_3 : Cond.methodLink RX3 3 Lib.objectInit ∈ p_ws := p_in (p_t2 (List.mem_of_getElem? (i := 193) (by decide +kernel))) rfl
theorem lX3_29 : Cond.methodLink RX3 29 yX3_forget ∈ p_ws := p_in (p_t3 (List.mem_of_getElem? (i := 125) (by decide +kernel))) rfl
theorem lX3_32 : Cond.methodLink RX3 32 yX3_add ∈ p_ws := p_in (p_t3 (List.mem_of_getElem? (i := 130) (by decide +kernel))) rfl
theorem lX3_36 : Cond.methodLink RX3 36 yX5_accepts ∈ p_ws := p_in (p_t3 (List.mem_of_getElem? (i := 134) (by decide +kernel))) rfl
theorem lX3_42 : Cond.methodLink RX3 42 yX3_meets ∈ p_ws := p_in (p_t3 (List.mem_of_getElem? (i := 142) (by decide +kernel))) rfl
theorem lX3_46 : Cond.methodLink RX3 46 yX5_after ∈ p_ws := p_in (p_t3 (List.mem_of_getElem? (i := 145) (by decide +kernel))) rfl
theorem lX3_50 : Cond.methodLinkNest RX3 50 yX10_pairOf "StreetAutomata" ∈ lw_tbl := (p_t3 (List.mem_of_getElem? (i := 150) (by decide +kernel)))
theorem lX3_53 : Cond.methodLinkNest RX3 53 yX10_isIndex "StreetAutomata" ∈ lw_tbl := (p_t3 (List.mem_of_getElem? (i := 129) (by decide +kernel)))
theorem lX3_57 : Cond.methodLink RX3 57 yX3_before ∈ p_ws := p_in (p_t3 (List.mem_of_getElem? (i := 157) (by decide +kernel))) rfl
theorem lX3_61 : Cond.methodLink RX3 61 yX3_streetInto ∈ p_ws := p_in (p_t6 (List.mem_of_getElem? (i := 90) (by decide +kernel))) rfl
theorem lX4_1 : Cond.methodLink RX4 1 Lib.objectInit ∈ p_ws := p_in (p_t1 (List.mem_of_getElem? (i := 67) (by decide +kernel))) rfl
theorem lX5_3 : Cond.methodLink RX5 3 Lib.objectInit ∈ p_ws := p_in (p_t2 (List.mem_of_getElem? (i := 72) (by decide +kernel))) rfl
theorem lX5_9 : Cond.methodLink RX5 9 yX6_whole ∈ p_ws := p_in (p_t2 (List.mem_of_getElem? (i := 73) (by decide +kernel))) rfl
theorem lX5_71 : Cond.methodLinkNest RX5 71 yX10_isIndex "StreetAutomata" ∈ lw_tbl := (p_t3 (List.mem_of_getElem? (i := 149) (by decide +kernel)))
theorem lX5_75 : Cond.methodLink RX5 75 yX5_positionsIn ∈ p_ws := p_in (p_t3 (List.mem_of_getElem? (i := 138) (by decide +kernel))) rfl
theorem lX5_79 : Cond.methodLink RX5 79 yX5_anyAccepts ∈ p_ws := p_in (p_t6 (List.mem_of_getElem? (i := 11) (by decide +kernel))) rfl
theorem lX5_83 : Cond.methodLink RX5 83 yX5_aliveAfter ∈ p_ws := p_in (p_t6 (List.mem_of_getElem? (i := 16) (by decide +kernel))) rfl
theorem lX5_87 : Cond.methodLink RX5 87 yX5_accepts ∈ p_ws := p_in (p_t6 (List.mem_of_getElem? (i := 15) (by decide +kernel))) rfl
theorem lX5_91 : Cond.methodLink RX5 91 yX5_aliveAfterState ∈ p_ws := p_in (p_t6 (List.mem_of_getElem? (i := 20) (by decide +kernel))) rfl
theorem lX5_95 : Cond.methodLink RX5 95 yX5_after ∈ p_ws := p_in (p_t6 (List.mem_of_getElem? (i := 24) (by decide +kernel))) rfl
theorem lX6_3 : Cond.methodLink RX6 3 Lib.objectInit ∈ p_ws := p_in (p_t1 (List.mem_of_getElem? (i := 55) (by decide +kernel))) rfl
theorem lX6_29 : Cond.methodLink RX6 29 yX2_init ∈ p_ws := p_in (p_t1 (List.mem_of_getElem? (i := 58) (by decide +kernel))) rfl
theorem lX6_36 : Cond.methodLink RX6 36 yX2_makeInner ∈ p_ws := p_in (p_t1 (List.mem_of_getElem? (i := 109) (by decide +kernel))) rfl
theorem lX6_51 : Cond.methodLink RX6 51 yX6_begin ∈ p_ws := p_in (p_t1 (List.mem_of_getElem? (i := 221) (by decide +kernel))) rfl
theorem lX6_54 : Cond.methodLink RX6 54 yX1_size ∈ p_ws := p_in (p_t2 (List.mem_of_getElem? (i := 0) (by decide +kernel))) rfl
theorem lX6_60 : Cond.methodLink RX6 60 yX1_value ∈ p_ws := p_in (p_t2 (List.mem_of_getElem? (i := 4) (by decide +kernel))) rfl
theorem lX6_64 : Cond.methodLink RX6 64 yX6_readByte ∈ p_ws := p_in (p_t2 (List.mem_of_getElem? (i := 8) (by decide +kernel))) rfl
theorem lX6_70 : Cond.methodLink RX6 70 yX6_endBranch ∈ p_ws := p_in (p_t2 (List.mem_of_getElem? (i := 29) (by decide +kernel))) rfl
theorem lX6_73 : Cond.methodLink RX6 73 yX6_findStates ∈ p_ws := p_in (p_t2 (List.mem_of_getElem? (i := 51) (by decide +kernel))) rfl
theorem lX6_77 : Cond.methodLink RX6 77 yX2_begin ∈ p_ws := p_in (p_t1 (List.mem_of_getElem? (i := 225) (by decide +kernel))) rfl
theorem lX6_87 : Cond.methodLink RX6 87 yJ7_fill_53178 ∈ p_ws := p_in (p_t1 (List.mem_of_getElem? (i := 237) (by decide +kernel))) rfl
theorem lX6_93 : Cond.methodLink RX6 93 yX6_openGroup ∈ p_ws := p_in (p_t2 (List.mem_of_getElem? (i := 12) (by decide +kernel))) rfl
theorem lX6_96 : Cond.methodLink RX6 96 yX6_closeGroup ∈ p_ws := p_in (p_t2 (List.mem_of_getElem? (i := 25) (by decide +kernel))) rfl
theorem lX6_99 : Cond.methodLink RX6 99 yX6_readOperator ∈ p_ws := p_in (p_t2 (List.mem_of_getElem? (i := 38) (by decide +kernel))) rfl
theorem lX6_102 : Cond.methodLink RX6 102 yX6_readPosition ∈ p_ws := p_in (p_t2 (List.mem_of_getElem? (i := 42) (by decide +kernel))) rfl
theorem lX6_106 : Cond.methodLink RX6 106 yX6_readLetter ∈ p_ws := p_in (p_t2 (List.mem_of_getElem? (i := 46) (by decide +kernel))) rfl
theorem lX6_109 : Cond.methodLinkNest RX6 109 yX10_isIndex "StreetAutomata" ∈ lw_tbl := (p_t2 (List.mem_of_getElem? (i := 50) (by decide +kernel)))
theorem lX6_113 : Cond.methodLink RX6 113 yX6_endPiece ∈ p_ws := p_in (p_t2 (List.mem_of_getElem? (i := 16) (by decide +kernel))) rfl
theorem lX6_116 : Cond.methodLink RX6 116 yX2_beginPiece ∈ p_ws := p_in (p_t2 (List.mem_of_getElem? (i := 34) (by decide +kernel))) rfl
theorem lX6_141 : Cond.methodLink RX6 141 yX6_addFollow ∈ p_ws := p_in (p_t2 (List.mem_of_getElem? (i := 20) (by decide +kernel))) rfl
theorem lX6_148 : Cond.methodLink RX6 148 yX4_set ∈ p_ws := p_in (p_t2 (List.mem_of_getElem? (i := 24) (by decide +kernel))) rfl
theorem lX6_151 : Cond.methodLink RX6 151 yX2_beginBranch ∈ p_ws := p_in (p_t2 (List.mem_of_getElem? (i := 33) (by decide +kernel))) rfl
theorem lX6_154 : Cond.methodLink RX6 154 yX6_stateOfSet ∈ p_ws := p_in (p_t2 (List.mem_of_getElem? (i := 55) (by decide +kernel))) rfl
theorem lX6_157 : Cond.methodLink RX6 157 yX6_positionsAfter ∈ p_ws := p_in (p_t2 (List.mem_of_getElem? (i := 59) (by decide +kernel))) rfl
theorem lX6_160 : Cond.methodLink RX6 160 yX6_whole ∈ p_ws := p_in (p_t2 (List.mem_of_getElem? (i := 63) (by decide +kernel))) rfl
theorem lX7_3 : Cond.methodLink RX7 3 Lib.objectInit ∈ p_ws := p_in (p_t2 (List.mem_of_getElem? (i := 227) (by decide +kernel))) rfl
theorem lX7_25 : Cond.methodLinkNest RX7 25 yX10_isIndex "StreetAutomata" ∈ lw_tbl := (p_t5 (List.mem_of_getElem? (i := 166) (by decide +kernel)))
theorem lX7_29 : Cond.methodLink RX7 29 yJ7_fill_53178 ∈ p_ws := p_in (p_t5 (List.mem_of_getElem? (i := 149) (by decide +kernel))) rfl
theorem lX7_35 : Cond.methodLink RX7 35 yX7_split ∈ p_ws := p_in (p_t5 (List.mem_of_getElem? (i := 150) (by decide +kernel))) rfl
theorem lX7_44 : Cond.methodLink RX7 44 yX7_finerClass ∈ p_ws := p_in (p_t5 (List.mem_of_getElem? (i := 154) (by decide +kernel))) rfl
theorem lX7_54 : Cond.methodLink RX7 54 yX7_seemEqual ∈ p_ws := p_in (p_t5 (List.mem_of_getElem? (i := 158) (by decide +kernel))) rfl
theorem lX7_58 : Cond.methodLink RX7 58 yX7_classOf ∈ p_ws := p_in (p_t5 (List.mem_of_getElem? (i := 162) (by decide +kernel))) rfl
theorem lX7_62 : Cond.methodLink RX7 62 yX5_accepts ∈ p_ws := p_in (p_t5 (List.mem_of_getElem? (i := 167) (by decide +kernel))) rfl
theorem lX7_66 : Cond.methodLink RX7 66 yX5_after ∈ p_ws := p_in (p_t5 (List.mem_of_getElem? (i := 168) (by decide +kernel))) rfl
theorem lX8_3 : Cond.methodLink RX8 3 Lib.objectInit ∈ p_ws := p_in (p_t2 (List.mem_of_getElem? (i := 216) (by decide +kernel))) rfl
theorem lX8_21 : Cond.methodLink RX8 21 yX5_accepts ∈ p_ws := p_in (p_t5 (List.mem_of_getElem? (i := 210) (by decide +kernel))) rfl
theorem lX8_25 : Cond.methodLink RX8 25 yX8_put ∈ p_ws := p_in (p_t5 (List.mem_of_getElem? (i := 211) (by decide +kernel))) rfl
theorem lX8_29 : Cond.methodLink RX8 29 yX8_wordsBefore ∈ p_ws := p_in (p_t5 (List.mem_of_getElem? (i := 216) (by decide +kernel))) rfl
theorem lX8_33 : Cond.methodLinkNest RX8 33 yX10_isIndex "StreetAutomata" ∈ lw_tbl := (p_t5 (List.mem_of_getElem? (i := 215) (by decide +kernel)))
theorem lX8_37 : Cond.methodLink RX8 37 yX5_after ∈ p_ws := p_in (p_t5 (List.mem_of_getElem? (i := 220) (by decide +kernel))) rfl
theorem lX8_41 : Cond.methodLink RX8 41 yX8_from ∈ p_ws := p_in (p_t5 (List.mem_of_getElem? (i := 221) (by decide +kernel))) rfl
theorem lX9_3 : Cond.methodLink RX9 3 Lib.objectInit ∈ p_ws := p_in (p_t2 (List.mem_of_getElem? (i := 134) (by decide +kernel))) rfl
theorem lX9_45 : Cond.methodLink RX9 45 yX9_slotOf ∈ p_ws := p_in (p_t3 (List.mem_of_getElem? (i := 193) (by decide +kernel))) rfl
theorem lX9_49 : Cond.methodLink RX9 49 yX9_pattern ∈ p_ws := p_in (p_t3 (List.mem_of_getElem? (i := 198) (by decide +kernel))) rfl
theorem lX9_53 : Cond.methodLink RX9 53 yX9_beginAnew ∈ p_ws := p_in (p_t4 (List.mem_of_getElem? (i := 101) (by decide +kernel))) rfl
theorem lX9_57 : Cond.methodLinkNest RX9 57 yX10_isIndex "StreetAutomata" ∈ lw_tbl := (p_t3 (List.mem_of_getElem? (i := 197) (by decide +kernel)))
theorem lX9_61 : Cond.methodLink RX9 61 yX9_openStreets ∈ p_ws := p_in (p_t4 (List.mem_of_getElem? (i := 178) (by decide +kernel))) rfl
theorem lX9_65 : Cond.methodLink RX9 65 yX9_patternOfWalker ∈ p_ws := p_in (p_t4 (List.mem_of_getElem? (i := 184) (by decide +kernel))) rfl
theorem lX9_68 : Cond.methodLink RX9 68 yX5_after ∈ p_ws := p_in (p_t4 (List.mem_of_getElem? (i := 185) (by decide +kernel))) rfl
theorem lL_7 : Cond.methodLink RL 7 yX10_truncateInput ∈ p_ws := p_in (p_t3 (List.mem_of_getElem? (i := 234) (by decide +kernel))) rfl
theorem lL_15 : Cond.methodLink RL 15 yX10_compile ∈ p_ws := p_in (p_t4 (List.mem_of_getElem? (i := 70) (by decide +kernel))) rfl
theorem lL_20 : Cond.methodLink RL 20 yX10_copyPattern ∈ p_ws := p_in (p_t4 (List.mem_of_getElem? (i := 108) (by decide +kernel))) rfl
theorem lL_23 : Cond.methodLink RL 23 yX10_addWalker ∈ p_ws := p_in (p_t4 (List.mem_of_getElem? (i := 119) (by decide +kernel))) rfl
theorem lL_28 : Cond.methodLink RL 28 yX10_removeWalker ∈ p_ws := p_in (p_t4 (List.mem_of_getElem? (i := 146) (by decide +kernel))) rfl
theorem lL_31 : Cond.methodLink RL 31 yX10_step ∈ p_ws := p_in (p_t4 (List.mem_of_getElem? (i := 166) (by decide +kernel))) rfl
theorem lL_35 : Cond.methodLink RL 35 yX10_walkWord ∈ p_ws := p_in (p_t4 (List.mem_of_getElem? (i := 189) (by decide +kernel))) rfl
theorem lL_38 : Cond.methodLink RL 38 yX10_restartWalker ∈ p_ws := p_in (p_t4 (List.mem_of_getElem? (i := 201) (by decide +kernel))) rfl
theorem lL_41 : Cond.methodLink RL 41 yX10_setGate ∈ p_ws := p_in (p_t4 (List.mem_of_getElem? (i := 209) (by decide +kernel))) rfl
theorem lL_45 : Cond.methodLink RL 45 yX10_restoreSnapshot ∈ p_ws := p_in (p_t4 (List.mem_of_getElem? (i := 221) (by decide +kernel))) rfl
theorem lL_51 : Cond.methodLink RL 51 yX10_positionCount ∈ p_ws := p_in (p_t5 (List.mem_of_getElem? (i := 8) (by decide +kernel))) rfl
theorem lL_54 : Cond.methodLink RL 54 yX10_streetAt ∈ p_ws := p_in (p_t5 (List.mem_of_getElem? (i := 19) (by decide +kernel))) rfl
theorem lL_57 : Cond.methodLink RL 57 yX10_acceptsEmptyWord ∈ p_ws := p_in (p_t5 (List.mem_of_getElem? (i := 34) (by decide +kernel))) rfl
theorem lL_61 : Cond.methodLink RL 61 yX10_firstPositions ∈ p_ws := p_in (p_t5 (List.mem_of_getElem? (i := 41) (by decide +kernel))) rfl
theorem lL_64 : Cond.methodLink RL 64 yX10_lastPositions ∈ p_ws := p_in (p_t5 (List.mem_of_getElem? (i := 48) (by decide +kernel))) rfl
theorem lL_67 : Cond.methodLink RL 67 yX10_followPositions ∈ p_ws := p_in (p_t5 (List.mem_of_getElem? (i := 55) (by decide +kernel))) rfl
theorem lL_70 : Cond.methodLink RL 70 yX10_loopCount ∈ p_ws := p_in (p_t5 (List.mem_of_getElem? (i := 66) (by decide +kernel))) rfl
theorem lL_73 : Cond.methodLink RL 73 yX10_isDeterministicAt ∈ p_ws := p_in (p_t5 (List.mem_of_getElem? (i := 73) (by decide +kernel))) rfl
theorem lL_77 : Cond.methodLink RL 77 yX10_stateCount ∈ p_ws := p_in (p_t5 (List.mem_of_getElem? (i := 84) (by decide +kernel))) rfl
theorem lL_80 : Cond.methodLink RL 80 yX10_transition ∈ p_ws := p_in (p_t5 (List.mem_of_getElem? (i := 91) (by decide +kernel))) rfl
theorem lL_84 : Cond.methodLink RL 84 yX10_isAccepting ∈ p_ws := p_in (p_t5 (List.mem_of_getElem? (i := 103) (by decide +kernel))) rfl
theorem lL_87 : Cond.methodLink RL 87 yX10_statePositions ∈ p_ws := p_in (p_t5 (List.mem_of_getElem? (i := 110) (by decide +kernel))) rfl
theorem lL_90 : Cond.methodLink RL 90 yX10_deadState ∈ p_ws := p_in (p_t5 (List.mem_of_getElem? (i := 118) (by decide +kernel))) rfl
theorem lL_93 : Cond.methodLink RL 93 yX10_distanceToAccepting ∈ p_ws := p_in (p_t5 (List.mem_of_getElem? (i := 129) (by decide +kernel))) rfl
theorem lL_96 : Cond.methodLink RL 96 yX10_areEquivalentStates ∈ p_ws := p_in (p_t5 (List.mem_of_getElem? (i := 141) (by decide +kernel))) rfl
theorem lL_100 : Cond.methodLink RL 100 yX10_minimalStateCount ∈ p_ws := p_in (p_t5 (List.mem_of_getElem? (i := 176) (by decide +kernel))) rfl
theorem lL_103 : Cond.methodLink RL 103 yX10_acceptsInput ∈ p_ws := p_in (p_t5 (List.mem_of_getElem? (i := 187) (by decide +kernel))) rfl
theorem lL_106 : Cond.methodLink RL 106 yX10_wordCount ∈ p_ws := p_in (p_t5 (List.mem_of_getElem? (i := 198) (by decide +kernel))) rfl
theorem lL_110 : Cond.methodLink RL 110 yX10_wordCountWithPrefix ∈ p_ws := p_in (p_t5 (List.mem_of_getElem? (i := 229) (by decide +kernel))) rfl
theorem lL_113 : Cond.methodLink RL 113 yX10_shortestLength ∈ p_ws := p_in (p_t5 (List.mem_of_getElem? (i := 236) (by decide +kernel))) rfl
theorem lL_116 : Cond.methodLink RL 116 yX10_isFinite ∈ p_ws := p_in (p_t6 (List.mem_of_getElem? (i := 3) (by decide +kernel))) rfl
theorem lL_119 : Cond.methodLink RL 119 yX10_longestLength ∈ p_ws := p_in (p_t6 (List.mem_of_getElem? (i := 28) (by decide +kernel))) rfl
theorem lL_122 : Cond.methodLink RL 122 yX10_isSubset ∈ p_ws := p_in (p_t6 (List.mem_of_getElem? (i := 35) (by decide +kernel))) rfl
theorem lL_125 : Cond.methodLink RL 125 yX10_isPassable ∈ p_ws := p_in (p_t6 (List.mem_of_getElem? (i := 42) (by decide +kernel))) rfl
theorem lL_128 : Cond.methodLink RL 128 yX10_walkerSlot ∈ p_ws := p_in (p_t6 (List.mem_of_getElem? (i := 49) (by decide +kernel))) rfl
theorem lL_131 : Cond.methodLink RL 131 yX10_walkerState ∈ p_ws := p_in (p_t6 (List.mem_of_getElem? (i := 57) (by decide +kernel))) rfl
theorem lL_134 : Cond.methodLink RL 134 yX10_walkerSteps ∈ p_ws := p_in (p_t6 (List.mem_of_getElem? (i := 64) (by decide +kernel))) rfl
theorem lL_137 : Cond.methodLink RL 137 yX10_stepsHome ∈ p_ws := p_in (p_t6 (List.mem_of_getElem? (i := 71) (by decide +kernel))) rfl
theorem lL_140 : Cond.methodLink RL 140 yX10_streetHome ∈ p_ws := p_in (p_t6 (List.mem_of_getElem? (i := 82) (by decide +kernel))) rfl
theorem lL_143 : Cond.methodLink RL 143 yX10_walkersInState ∈ p_ws := p_in (p_t6 (List.mem_of_getElem? (i := 94) (by decide +kernel))) rfl
theorem lL_146 : Cond.methodLink RL 146 yX10_meetingSteps ∈ p_ws := p_in (p_t6 (List.mem_of_getElem? (i := 101) (by decide +kernel))) rfl
theorem lL_149 : Cond.methodLink RL 149 yX10_meanSetSize ∈ p_ws := p_in (p_t6 (List.mem_of_getElem? (i := 108) (by decide +kernel))) rfl
theorem lL_153 : Cond.methodLink RL 153 yX10_writeWord ∈ p_ws := p_in (p_t6 (List.mem_of_getElem? (i := 115) (by decide +kernel))) rfl
theorem lL_157 : Cond.methodLink RL 157 yX10_init ∈ p_ws := p_in (p_t1 (List.mem_of_getElem? (i := 30) (by decide +kernel))) rfl
theorem lL_160 : Cond.methodLink RL 160 yX11_init ∈ p_ws := p_in (p_t6 (List.mem_of_getElem? (i := 126) (by decide +kernel))) rfl
theorem lL_161 : Cond.methodLink RL 161 yX10_append ∈ p_ws := p_in (p_t3 (List.mem_of_getElem? (i := 41) (by decide +kernel))) rfl
theorem lL_165 : Cond.methodLink RL 165 yX11_append ∈ p_ws := p_in (p_t7 (List.mem_of_getElem? (i := 101) (by decide +kernel))) rfl
theorem lL_166 : Cond.methodLink RL 166 yL_truncateInput ∈ p_ws := p_in (p_t3 (List.mem_of_getElem? (i := 230) (by decide +kernel))) rfl
theorem lL_171 : Cond.methodLink RL 171 yX11_truncateInput ∈ p_ws := p_in (p_t7 (List.mem_of_getElem? (i := 109) (by decide +kernel))) rfl
theorem lL_172 : Cond.methodLink RL 172 yX11_thrown ∈ p_ws := p_in (p_t7 (List.mem_of_getElem? (i := 97) (by decide +kernel))) rfl
theorem lL_175 : Cond.methodLink RL 175 yX10_inputLength ∈ p_ws := p_in (p_t3 (List.mem_of_getElem? (i := 50) (by decide +kernel))) rfl
theorem lL_178 : Cond.methodLink RL 178 yX11_inputLength ∈ p_ws := p_in (p_t7 (List.mem_of_getElem? (i := 117) (by decide +kernel))) rfl
theorem lL_179 : Cond.methodLink RL 179 yL_compile ∈ p_ws := p_in (p_t4 (List.mem_of_getElem? (i := 66) (by decide +kernel))) rfl
theorem lL_181 : Cond.methodLink RL 181 yX11_compile ∈ p_ws := p_in (p_t7 (List.mem_of_getElem? (i := 121) (by decide +kernel))) rfl
theorem lL_182 : Cond.methodLink RL 182 yL_copyPattern ∈ p_ws := p_in (p_t4 (List.mem_of_getElem? (i := 105) (by decide +kernel))) rfl
theorem lL_184 : Cond.methodLink RL 184 yX11_copyPattern ∈ p_ws := p_in (p_t7 (List.mem_of_getElem? (i := 140) (by decide +kernel))) rfl
theorem lL_185 : Cond.methodLink RL 185 yL_addWalker ∈ p_ws := p_in (p_t4 (List.mem_of_getElem? (i := 115) (by decide +kernel))) rfl
theorem lL_187 : Cond.methodLink RL 187 yX11_addWalker ∈ p_ws := p_in (p_t7 (List.mem_of_getElem? (i := 144) (by decide +kernel))) rfl
theorem lL_188 : Cond.methodLink RL 188 yL_removeWalker ∈ p_ws := p_in (p_t4 (List.mem_of_getElem? (i := 143) (by decide +kernel))) rfl
theorem lL_190 : Cond.methodLink RL 190 yX11_removeWalker ∈ p_ws := p_in (p_t7 (List.mem_of_getElem? (i := 152) (by decide +kernel))) rfl
theorem lL_191 : Cond.methodLink RL 191 yL_step ∈ p_ws := p_in (p_t4 (List.mem_of_getElem? (i := 163) (by decide +kernel))) rfl
theorem lL_194 : Cond.methodLink RL 194 yX11_step ∈ p_ws := p_in (p_t7 (List.mem_of_getElem? (i := 160) (by decide +kernel))) rfl
theorem lL_195 : Cond.methodLink RL 195 yL_walkWord ∈ p_ws := p_in (p_t4 (List.mem_of_getElem? (i := 186) (by decide +kernel))) rfl
theorem lL_197 : Cond.methodLink RL 197 yX11_walkWord ∈ p_ws := p_in (p_t7 (List.mem_of_getElem? (i := 179) (by decide +kernel))) rfl
theorem lL_198 : Cond.methodLink RL 198 yL_restartWalker ∈ p_ws := p_in (p_t4 (List.mem_of_getElem? (i := 198) (by decide +kernel))) rfl
theorem lL_200 : Cond.methodLink RL 200 yX11_restartWalker ∈ p_ws := p_in (p_t7 (List.mem_of_getElem? (i := 183) (by decide +kernel))) rfl
theorem lL_201 : Cond.methodLink RL 201 yL_setGate ∈ p_ws := p_in (p_t4 (List.mem_of_getElem? (i := 206) (by decide +kernel))) rfl
theorem lL_204 : Cond.methodLink RL 204 yX11_setGate ∈ p_ws := p_in (p_t7 (List.mem_of_getElem? (i := 187) (by decide +kernel))) rfl
theorem lL_205 : Cond.methodLink RL 205 yX10_setNight ∈ p_ws := p_in (p_t3 (List.mem_of_getElem? (i := 54) (by decide +kernel))) rfl
theorem lL_209 : Cond.methodLink RL 209 yX11_setNight ∈ p_ws := p_in (p_t7 (List.mem_of_getElem? (i := 191) (by decide +kernel))) rfl
theorem lL_210 : Cond.methodLink RL 210 yX10_undo ∈ p_ws := p_in (p_t3 (List.mem_of_getElem? (i := 80) (by decide +kernel))) rfl
theorem lL_213 : Cond.methodLink RL 213 yX11_undo ∈ p_ws := p_in (p_t7 (List.mem_of_getElem? (i := 195) (by decide +kernel))) rfl
theorem lL_214 : Cond.methodLink RL 214 yX10_undoCount ∈ p_ws := p_in (p_t3 (List.mem_of_getElem? (i := 92) (by decide +kernel))) rfl
theorem lL_217 : Cond.methodLink RL 217 yX11_undoCount ∈ p_ws := p_in (p_t7 (List.mem_of_getElem? (i := 199) (by decide +kernel))) rfl
theorem lL_218 : Cond.methodLink RL 218 yX10_saveSnapshot ∈ p_ws := p_in (p_t3 (List.mem_of_getElem? (i := 96) (by decide +kernel))) rfl
theorem lL_221 : Cond.methodLink RL 221 yX11_saveSnapshot ∈ p_ws := p_in (p_t7 (List.mem_of_getElem? (i := 203) (by decide +kernel))) rfl
theorem lL_222 : Cond.methodLink RL 222 yL_restoreSnapshot ∈ p_ws := p_in (p_t4 (List.mem_of_getElem? (i := 217) (by decide +kernel))) rfl
theorem lL_225 : Cond.methodLink RL 225 yX11_restoreSnapshot ∈ p_ws := p_in (p_t7 (List.mem_of_getElem? (i := 207) (by decide +kernel))) rfl
theorem lL_226 : Cond.methodLink RL 226 yX10_patternErrorKind ∈ p_ws := p_in (p_t3 (List.mem_of_getElem? (i := 101) (by decide +kernel))) rfl
theorem lL_229 : Cond.methodLink RL 229 yX11_patternErrorKind ∈ p_ws := p_in (p_t7 (List.mem_of_getElem? (i := 211) (by decide +kernel))) rfl
theorem lL_230 : Cond.methodLink RL 230 yX10_patternErrorOffset ∈ p_ws := p_in (p_t3 (List.mem_of_getElem? (i := 105) (by decide +kernel))) rfl
theorem lL_233 : Cond.methodLink RL 233 yX11_patternErrorOffset ∈ p_ws := p_in (p_t7 (List.mem_of_getElem? (i := 215) (by decide +kernel))) rfl
theorem lL_234 : Cond.methodLink RL 234 yL_positionCount ∈ p_ws := p_in (p_t5 (List.mem_of_getElem? (i := 5) (by decide +kernel))) rfl
theorem lL_236 : Cond.methodLink RL 236 yX11_positionCount ∈ p_ws := p_in (p_t7 (List.mem_of_getElem? (i := 219) (by decide +kernel))) rfl
theorem lL_237 : Cond.methodLink RL 237 yL_streetAt ∈ p_ws := p_in (p_t5 (List.mem_of_getElem? (i := 16) (by decide +kernel))) rfl
theorem lL_239 : Cond.methodLink RL 239 yX11_streetAt ∈ p_ws := p_in (p_t7 (List.mem_of_getElem? (i := 227) (by decide +kernel))) rfl
theorem lL_240 : Cond.methodLink RL 240 yL_acceptsEmptyWord ∈ p_ws := p_in (p_t5 (List.mem_of_getElem? (i := 31) (by decide +kernel))) rfl
theorem lL_242 : Cond.methodLink RL 242 yX11_acceptsEmptyWord ∈ p_ws := p_in (p_t7 (List.mem_of_getElem? (i := 235) (by decide +kernel))) rfl
theorem lL_243 : Cond.methodLink RL 243 yL_firstPositions ∈ p_ws := p_in (p_t5 (List.mem_of_getElem? (i := 38) (by decide +kernel))) rfl
theorem lL_245 : Cond.methodLink RL 245 yX11_firstPositions ∈ p_ws := p_in (p_t7 (List.mem_of_getElem? (i := 239) (by decide +kernel))) rfl
theorem lL_246 : Cond.methodLink RL 246 yL_lastPositions ∈ p_ws := p_in (p_t5 (List.mem_of_getElem? (i := 45) (by decide +kernel))) rfl
theorem lL_248 : Cond.methodLink RL 248 yX11_lastPositions ∈ p_ws := p_in (p_t8 (List.mem_of_getElem? (i := 3) (by decide +kernel))) rfl
theorem lL_249 : Cond.methodLink RL 249 yL_followPositions ∈ p_ws := p_in (p_t5 (List.mem_of_getElem? (i := 52) (by decide +kernel))) rfl
theorem lL_251 : Cond.methodLink RL 251 yX11_followPositions ∈ p_ws := p_in (p_t8 (List.mem_of_getElem? (i := 7) (by decide +kernel))) rfl
theorem lL_252 : Cond.methodLink RL 252 yL_loopCount ∈ p_ws := p_in (p_t5 (List.mem_of_getElem? (i := 63) (by decide +kernel))) rfl
theorem lL_254 : Cond.methodLink RL 254 yX11_loopCount ∈ p_ws := p_in (p_t8 (List.mem_of_getElem? (i := 11) (by decide +kernel))) rfl
theorem lL_255 : Cond.methodLink RL 255 yL_isDeterministicAt ∈ p_ws := p_in (p_t5 (List.mem_of_getElem? (i := 70) (by decide +kernel))) rfl
theorem lL_257 : Cond.methodLink RL 257 yX11_isDeterministicAt ∈ p_ws := p_in (p_t8 (List.mem_of_getElem? (i := 15) (by decide +kernel))) rfl
theorem lL_258 : Cond.methodLink RL 258 yL_stateCount ∈ p_ws := p_in (p_t5 (List.mem_of_getElem? (i := 81) (by decide +kernel))) rfl
theorem lL_260 : Cond.methodLink RL 260 yX11_stateCount ∈ p_ws := p_in (p_t8 (List.mem_of_getElem? (i := 19) (by decide +kernel))) rfl
theorem lL_261 : Cond.methodLink RL 261 yL_transition ∈ p_ws := p_in (p_t5 (List.mem_of_getElem? (i := 88) (by decide +kernel))) rfl
theorem lL_264 : Cond.methodLink RL 264 yX11_transition ∈ p_ws := p_in (p_t8 (List.mem_of_getElem? (i := 23) (by decide +kernel))) rfl
theorem lL_265 : Cond.methodLink RL 265 yL_isAccepting ∈ p_ws := p_in (p_t5 (List.mem_of_getElem? (i := 100) (by decide +kernel))) rfl
theorem lL_267 : Cond.methodLink RL 267 yX11_isAccepting ∈ p_ws := p_in (p_t8 (List.mem_of_getElem? (i := 31) (by decide +kernel))) rfl
theorem lL_268 : Cond.methodLink RL 268 yL_statePositions ∈ p_ws := p_in (p_t5 (List.mem_of_getElem? (i := 107) (by decide +kernel))) rfl
theorem lL_270 : Cond.methodLink RL 270 yX11_statePositions ∈ p_ws := p_in (p_t8 (List.mem_of_getElem? (i := 39) (by decide +kernel))) rfl
theorem lL_271 : Cond.methodLink RL 271 yL_deadState ∈ p_ws := p_in (p_t5 (List.mem_of_getElem? (i := 115) (by decide +kernel))) rfl
theorem lL_273 : Cond.methodLink RL 273 yX11_deadState ∈ p_ws := p_in (p_t8 (List.mem_of_getElem? (i := 43) (by decide +kernel))) rfl
theorem lL_274 : Cond.methodLink RL 274 yL_distanceToAccepting ∈ p_ws := p_in (p_t5 (List.mem_of_getElem? (i := 126) (by decide +kernel))) rfl
theorem lL_276 : Cond.methodLink RL 276 yX11_distanceToAccepting ∈ p_ws := p_in (p_t8 (List.mem_of_getElem? (i := 47) (by decide +kernel))) rfl
theorem lL_277 : Cond.methodLink RL 277 yL_areEquivalentStates ∈ p_ws := p_in (p_t5 (List.mem_of_getElem? (i := 138) (by decide +kernel))) rfl
theorem lL_279 : Cond.methodLink RL 279 yX11_areEquivalentStates ∈ p_ws := p_in (p_t8 (List.mem_of_getElem? (i := 55) (by decide +kernel))) rfl
theorem lL_280 : Cond.methodLink RL 280 yL_minimalStateCount ∈ p_ws := p_in (p_t5 (List.mem_of_getElem? (i := 173) (by decide +kernel))) rfl
theorem lL_282 : Cond.methodLink RL 282 yX11_minimalStateCount ∈ p_ws := p_in (p_t8 (List.mem_of_getElem? (i := 67) (by decide +kernel))) rfl
theorem lL_283 : Cond.methodLink RL 283 yL_acceptsInput ∈ p_ws := p_in (p_t5 (List.mem_of_getElem? (i := 184) (by decide +kernel))) rfl
theorem lL_285 : Cond.methodLink RL 285 yX11_acceptsInput ∈ p_ws := p_in (p_t8 (List.mem_of_getElem? (i := 71) (by decide +kernel))) rfl
theorem lL_286 : Cond.methodLink RL 286 yL_wordCount ∈ p_ws := p_in (p_t5 (List.mem_of_getElem? (i := 195) (by decide +kernel))) rfl
theorem lL_288 : Cond.methodLink RL 288 yX11_wordCount ∈ p_ws := p_in (p_t8 (List.mem_of_getElem? (i := 75) (by decide +kernel))) rfl
theorem lL_289 : Cond.methodLink RL 289 yL_wordCountWithPrefix ∈ p_ws := p_in (p_t5 (List.mem_of_getElem? (i := 226) (by decide +kernel))) rfl
theorem lL_291 : Cond.methodLink RL 291 yX11_wordCountWithPrefix ∈ p_ws := p_in (p_t8 (List.mem_of_getElem? (i := 83) (by decide +kernel))) rfl
theorem lL_292 : Cond.methodLink RL 292 yL_shortestLength ∈ p_ws := p_in (p_t5 (List.mem_of_getElem? (i := 233) (by decide +kernel))) rfl
theorem lL_294 : Cond.methodLink RL 294 yX11_shortestLength ∈ p_ws := p_in (p_t8 (List.mem_of_getElem? (i := 87) (by decide +kernel))) rfl
theorem lL_295 : Cond.methodLink RL 295 yL_isFinite ∈ p_ws := p_in (p_t6 (List.mem_of_getElem? (i := 0) (by decide +kernel))) rfl
theorem lL_297 : Cond.methodLink RL 297 yX11_isFinite ∈ p_ws := p_in (p_t8 (List.mem_of_getElem? (i := 91) (by decide +kernel))) rfl
theorem lL_298 : Cond.methodLink RL 298 yL_longestLength ∈ p_ws := p_in (p_t6 (List.mem_of_getElem? (i := 25) (by decide +kernel))) rfl
theorem lL_300 : Cond.methodLink RL 300 yX11_longestLength ∈ p_ws := p_in (p_t8 (List.mem_of_getElem? (i := 99) (by decide +kernel))) rfl
theorem lL_301 : Cond.methodLink RL 301 yL_isSubset ∈ p_ws := p_in (p_t6 (List.mem_of_getElem? (i := 32) (by decide +kernel))) rfl
theorem lL_303 : Cond.methodLink RL 303 yX11_isSubset ∈ p_ws := p_in (p_t8 (List.mem_of_getElem? (i := 103) (by decide +kernel))) rfl
theorem lL_304 : Cond.methodLink RL 304 yX10_differenceLength ∈ p_ws := p_in (p_t3 (List.mem_of_getElem? (i := 109) (by decide +kernel))) rfl
theorem lL_307 : Cond.methodLink RL 307 yX11_differenceLength ∈ p_ws := p_in (p_t8 (List.mem_of_getElem? (i := 111) (by decide +kernel))) rfl
theorem lL_308 : Cond.methodLink RL 308 yX10_sharedLength ∈ p_ws := p_in (p_t3 (List.mem_of_getElem? (i := 161) (by decide +kernel))) rfl
theorem lL_311 : Cond.methodLink RL 311 yX11_sharedLength ∈ p_ws := p_in (p_t8 (List.mem_of_getElem? (i := 115) (by decide +kernel))) rfl
theorem lL_312 : Cond.methodLink RL 312 yX10_reachablePairs ∈ p_ws := p_in (p_t3 (List.mem_of_getElem? (i := 165) (by decide +kernel))) rfl
theorem lL_315 : Cond.methodLink RL 315 yX11_reachablePairs ∈ p_ws := p_in (p_t8 (List.mem_of_getElem? (i := 119) (by decide +kernel))) rfl
theorem lL_316 : Cond.methodLink RL 316 yL_isPassable ∈ p_ws := p_in (p_t6 (List.mem_of_getElem? (i := 39) (by decide +kernel))) rfl
theorem lL_318 : Cond.methodLink RL 318 yX11_isPassable ∈ p_ws := p_in (p_t8 (List.mem_of_getElem? (i := 123) (by decide +kernel))) rfl
theorem lL_319 : Cond.methodLink RL 319 yX10_isNight ∈ p_ws := p_in (p_t3 (List.mem_of_getElem? (i := 173) (by decide +kernel))) rfl
theorem lL_323 : Cond.methodLink RL 323 yX11_isNight ∈ p_ws := p_in (p_t8 (List.mem_of_getElem? (i := 127) (by decide +kernel))) rfl
theorem lL_324 : Cond.methodLink RL 324 yX10_walkerCount ∈ p_ws := p_in (p_t3 (List.mem_of_getElem? (i := 177) (by decide +kernel))) rfl
theorem lL_327 : Cond.methodLink RL 327 yX11_walkerCount ∈ p_ws := p_in (p_t8 (List.mem_of_getElem? (i := 131) (by decide +kernel))) rfl
theorem lL_328 : Cond.methodLink RL 328 yL_walkerSlot ∈ p_ws := p_in (p_t6 (List.mem_of_getElem? (i := 46) (by decide +kernel))) rfl
theorem lL_330 : Cond.methodLink RL 330 yX11_walkerSlot ∈ p_ws := p_in (p_t8 (List.mem_of_getElem? (i := 135) (by decide +kernel))) rfl
theorem lL_331 : Cond.methodLink RL 331 yL_walkerState ∈ p_ws := p_in (p_t6 (List.mem_of_getElem? (i := 54) (by decide +kernel))) rfl
theorem lL_333 : Cond.methodLink RL 333 yX11_walkerState ∈ p_ws := p_in (p_t8 (List.mem_of_getElem? (i := 143) (by decide +kernel))) rfl
theorem lL_334 : Cond.methodLink RL 334 yL_walkerSteps ∈ p_ws := p_in (p_t6 (List.mem_of_getElem? (i := 61) (by decide +kernel))) rfl
theorem lL_336 : Cond.methodLink RL 336 yX11_walkerSteps ∈ p_ws := p_in (p_t8 (List.mem_of_getElem? (i := 147) (by decide +kernel))) rfl
theorem lL_337 : Cond.methodLink RL 337 yL_stepsHome ∈ p_ws := p_in (p_t6 (List.mem_of_getElem? (i := 68) (by decide +kernel))) rfl
theorem lL_339 : Cond.methodLink RL 339 yX11_stepsHome ∈ p_ws := p_in (p_t8 (List.mem_of_getElem? (i := 151) (by decide +kernel))) rfl
theorem lL_340 : Cond.methodLink RL 340 yL_streetHome ∈ p_ws := p_in (p_t6 (List.mem_of_getElem? (i := 79) (by decide +kernel))) rfl
theorem lL_342 : Cond.methodLink RL 342 yX11_streetHome ∈ p_ws := p_in (p_t8 (List.mem_of_getElem? (i := 155) (by decide +kernel))) rfl
theorem lL_343 : Cond.methodLink RL 343 yL_walkersInState ∈ p_ws := p_in (p_t6 (List.mem_of_getElem? (i := 91) (by decide +kernel))) rfl
theorem lL_345 : Cond.methodLink RL 345 yX11_walkersInState ∈ p_ws := p_in (p_t8 (List.mem_of_getElem? (i := 159) (by decide +kernel))) rfl
theorem lL_346 : Cond.methodLink RL 346 yL_meetingSteps ∈ p_ws := p_in (p_t6 (List.mem_of_getElem? (i := 98) (by decide +kernel))) rfl
theorem lL_348 : Cond.methodLink RL 348 yX11_meetingSteps ∈ p_ws := p_in (p_t8 (List.mem_of_getElem? (i := 163) (by decide +kernel))) rfl
theorem lL_349 : Cond.methodLink RL 349 yX10_totalSteps ∈ p_ws := p_in (p_t3 (List.mem_of_getElem? (i := 181) (by decide +kernel))) rfl
theorem lL_352 : Cond.methodLink RL 352 yX11_totalSteps ∈ p_ws := p_in (p_t8 (List.mem_of_getElem? (i := 171) (by decide +kernel))) rfl
theorem lL_353 : Cond.methodLink RL 353 yX10_homeShare ∈ p_ws := p_in (p_t3 (List.mem_of_getElem? (i := 185) (by decide +kernel))) rfl
theorem lL_357 : Cond.methodLink RL 357 yX11_homeShare ∈ p_ws := p_in (p_t8 (List.mem_of_getElem? (i := 175) (by decide +kernel))) rfl
theorem lL_358 : Cond.methodLink RL 358 yL_meanSetSize ∈ p_ws := p_in (p_t6 (List.mem_of_getElem? (i := 105) (by decide +kernel))) rfl
theorem lL_361 : Cond.methodLink RL 361 yX11_meanSetSize ∈ p_ws := p_in (p_t8 (List.mem_of_getElem? (i := 179) (by decide +kernel))) rfl
theorem lL_364 : Cond.methodLink RL 364 yL_writeWord ∈ p_ws := p_in (p_t6 (List.mem_of_getElem? (i := 112) (by decide +kernel))) rfl
theorem lL_367 : Cond.methodLink RL 367 yX11_writeWord ∈ p_ws := p_in (p_t8 (List.mem_of_getElem? (i := 186) (by decide +kernel))) rfl
theorem lL_368 : Cond.methodLink RL 368 yX10_writeDifference ∈ p_ws := p_in (p_t3 (List.mem_of_getElem? (i := 204) (by decide +kernel))) rfl
theorem lL_371 : Cond.methodLink RL 371 yX11_writeDifference ∈ p_ws := p_in (p_t8 (List.mem_of_getElem? (i := 190) (by decide +kernel))) rfl
theorem lL_372 : Cond.methodLink RL 372 yX10_writeSharedWord ∈ p_ws := p_in (p_t3 (List.mem_of_getElem? (i := 222) (by decide +kernel))) rfl
theorem lL_375 : Cond.methodLink RL 375 yX11_writeSharedWord ∈ p_ws := p_in (p_t8 (List.mem_of_getElem? (i := 198) (by decide +kernel))) rfl
theorem lL_376 : Cond.methodLink RL 376 yX10_reportByte ∈ p_ws := p_in (p_t3 (List.mem_of_getElem? (i := 226) (by decide +kernel))) rfl
theorem lL_379 : Cond.methodLink RL 379 yX11_reportByte ∈ p_ws := p_in (p_t8 (List.mem_of_getElem? (i := 202) (by decide +kernel))) rfl
theorem lX11_1 : Cond.methodLink RX11 1 Lib.objectInit ∈ p_ws := p_in (p_t6 (List.mem_of_getElem? (i := 129) (by decide +kernel))) rfl
theorem lX11_79 : Cond.methodLink RX11 79 yX11_type ∈ p_ws := p_in (p_t6 (List.mem_of_getElem? (i := 131) (by decide +kernel))) rfl
theorem lX11_83 : Cond.methodLink RX11 83 yX11_compiles ∈ p_ws := p_in (p_t6 (List.mem_of_getElem? (i := 137) (by decide +kernel))) rfl
theorem lX11_98 : Cond.methodLink RX11 98 yJ0_length_8abf5 ∈ p_ws := p_in (p_t6 (List.mem_of_getElem? (i := 135) (by decide +kernel))) rfl
theorem lX11_104 : Cond.methodLink RX11 104 yJ0_charAt_5068e ∈ p_ws := p_in (p_t6 (List.mem_of_getElem? (i := 136) (by decide +kernel))) rfl
theorem lX11_108 : Cond.methodLink RX11 108 yX11_in ∈ p_ws := p_in (p_t6 (List.mem_of_getElem? (i := 169) (by decide +kernel))) rfl
theorem lX11_112 : Cond.methodLink RX11 112 yX11_isSlot ∈ p_ws := p_in (p_t7 (List.mem_of_getElem? (i := 125) (by decide +kernel))) rfl
theorem lX11_115 : Cond.methodLink RX11 115 yX11_of ∈ p_ws := p_in (p_t6 (List.mem_of_getElem? (i := 204) (by decide +kernel))) rfl
theorem lX11_128 : Cond.methodLink RX11 128 yX11_ahead ∈ p_ws := p_in (p_t6 (List.mem_of_getElem? (i := 165) (by decide +kernel))) rfl
theorem lX11_131 : Cond.methodLink RX11 131 yX11_node ∈ p_ws := p_in (p_t6 (List.mem_of_getElem? (i := 153) (by decide +kernel))) rfl
theorem lX11_134 : Cond.methodLink RX11 134 yX11_readsBranch ∈ p_ws := p_in (p_t6 (List.mem_of_getElem? (i := 157) (by decide +kernel))) rfl
theorem lX11_140 : Cond.methodLink RX11 140 yX11_edge ∈ p_ws := p_in (p_t6 (List.mem_of_getElem? (i := 184) (by decide +kernel))) rfl
theorem lX11_147 : Cond.methodLink RX11 147 yX11_isAtom ∈ p_ws := p_in (p_t6 (List.mem_of_getElem? (i := 161) (by decide +kernel))) rfl
theorem lX11_151 : Cond.methodLink RX11 151 yX11_readsPiece ∈ p_ws := p_in (p_t6 (List.mem_of_getElem? (i := 172) (by decide +kernel))) rfl
theorem lX11_154 : Cond.methodLink RX11 154 yX11_readsAtom ∈ p_ws := p_in (p_t6 (List.mem_of_getElem? (i := 176) (by decide +kernel))) rfl
theorem lX11_163 : Cond.methodLink RX11 163 yX11_fail ∈ p_ws := p_in (p_t6 (List.mem_of_getElem? (i := 180) (by decide +kernel))) rfl
theorem lX11_166 : Cond.methodLink RX11 166 yX11_readsPattern ∈ p_ws := p_in (p_t6 (List.mem_of_getElem? (i := 149) (by decide +kernel))) rfl
theorem lX11_172 : Cond.methodLink RX11 172 yX11_to ∈ p_ws := p_in (p_t6 (List.mem_of_getElem? (i := 145) (by decide +kernel))) rfl
theorem lX11_179 : Cond.methodLink RX11 179 yX11_reaches ∈ p_ws := p_in (p_t6 (List.mem_of_getElem? (i := 192) (by decide +kernel))) rfl
theorem lX11_183 : Cond.methodLink RX11 183 yX11_stateOf ∈ p_ws := p_in (p_t6 (List.mem_of_getElem? (i := 200) (by decide +kernel))) rfl
theorem lX11_186 : Cond.methodLink RX11 186 yX11_leads ∈ p_ws := p_in (p_t6 (List.mem_of_getElem? (i := 208) (by decide +kernel))) rfl
theorem lX11_190 : Cond.methodLink RX11 190 yX11_walkerOf ∈ p_ws := p_in (p_t6 (List.mem_of_getElem? (i := 216) (by decide +kernel))) rfl
theorem lX11_193 : Cond.methodLink RX11 193 yX11_clears ∈ p_ws := p_in (p_t6 (List.mem_of_getElem? (i := 141) (by decide +kernel))) rfl
theorem lX11_197 : Cond.methodLink RX11 197 yX11_follows ∈ p_ws := p_in (p_t6 (List.mem_of_getElem? (i := 188) (by decide +kernel))) rfl
theorem lX11_200 : Cond.methodLink RX11 200 yX11_determines ∈ p_ws := p_in (p_t6 (List.mem_of_getElem? (i := 196) (by decide +kernel))) rfl
theorem lX11_203 : Cond.methodLink RX11 203 yX11_restarts ∈ p_ws := p_in (p_t6 (List.mem_of_getElem? (i := 212) (by decide +kernel))) rfl
theorem lX11_206 : Cond.methodLink RX11 206 yX11_put ∈ p_ws := p_in (p_t7 (List.mem_of_getElem? (i := 105) (by decide +kernel))) rfl
theorem lX11_209 : Cond.methodLink RX11 209 yX11_throwsOne ∈ p_ws := p_in (p_t7 (List.mem_of_getElem? (i := 113) (by decide +kernel))) rfl
theorem lX11_216 : Cond.methodLink RX11 216 yX11_begins ∈ p_ws := p_in (p_t7 (List.mem_of_getElem? (i := 128) (by decide +kernel))) rfl
theorem lX11_219 : Cond.methodLink RX11 219 yX11_takesBack ∈ p_ws := p_in (p_t7 (List.mem_of_getElem? (i := 132) (by decide +kernel))) rfl
theorem lX11_222 : Cond.methodLink RX11 222 yX11_remember ∈ p_ws := p_in (p_t7 (List.mem_of_getElem? (i := 136) (by decide +kernel))) rfl
theorem lX11_225 : Cond.methodLink RX11 225 yX11_throwsOne_ ∈ p_ws := p_in (p_t7 (List.mem_of_getElem? (i := 148) (by decide +kernel))) rfl
theorem lX11_228 : Cond.methodLink RX11 228 yX11_isWalker ∈ p_ws := p_in (p_t7 (List.mem_of_getElem? (i := 156) (by decide +kernel))) rfl
theorem lX11_231 : Cond.methodLink RX11 231 yX11_goes ∈ p_ws := p_in (p_t7 (List.mem_of_getElem? (i := 175) (by decide +kernel))) rfl
theorem lX11_234 : Cond.methodLink RX11 234 yX11_isStreet ∈ p_ws := p_in (p_t7 (List.mem_of_getElem? (i := 164) (by decide +kernel))) rfl
theorem lX11_237 : Cond.methodLink RX11 237 yX11_passes ∈ p_ws := p_in (p_t7 (List.mem_of_getElem? (i := 167) (by decide +kernel))) rfl
theorem lX11_240 : Cond.methodLink RX11 240 yX11_steps ∈ p_ws := p_in (p_t7 (List.mem_of_getElem? (i := 171) (by decide +kernel))) rfl
theorem lX11_247 : Cond.methodLink RX11 247 yX11_told ∈ p_ws := p_in (p_t7 (List.mem_of_getElem? (i := 223) (by decide +kernel))) rfl
theorem lX11_250 : Cond.methodLink RX11 250 yX11_isPosition ∈ p_ws := p_in (p_t7 (List.mem_of_getElem? (i := 231) (by decide +kernel))) rfl
theorem lX11_254 : Cond.methodLink RX11 254 yX11_isState ∈ p_ws := p_in (p_t8 (List.mem_of_getElem? (i := 27) (by decide +kernel))) rfl
theorem lX11_257 : Cond.methodLink RX11 257 yX11_accepts ∈ p_ws := p_in (p_t8 (List.mem_of_getElem? (i := 35) (by decide +kernel))) rfl
theorem lX11_260 : Cond.methodLink RX11 260 yX11_distance ∈ p_ws := p_in (p_t8 (List.mem_of_getElem? (i := 51) (by decide +kernel))) rfl
theorem lX11_264 : Cond.methodLink RX11 264 yX11_leadsApart ∈ p_ws := p_in (p_t8 (List.mem_of_getElem? (i := 63) (by decide +kernel))) rfl
theorem lX11_267 : Cond.methodLink RX11 267 yX11_tellsApart ∈ p_ws := p_in (p_t8 (List.mem_of_getElem? (i := 59) (by decide +kernel))) rfl
theorem lX11_270 : Cond.methodLink RX11 270 yX11_countsWords ∈ p_ws := p_in (p_t8 (List.mem_of_getElem? (i := 79) (by decide +kernel))) rfl
theorem lX11_273 : Cond.methodLink RX11 273 yX11_longest ∈ p_ws := p_in (p_t8 (List.mem_of_getElem? (i := 95) (by decide +kernel))) rfl
theorem lX11_282 : Cond.methodLink RX11 282 yX11_pairs ∈ p_ws := p_in (p_t8 (List.mem_of_getElem? (i := 107) (by decide +kernel))) rfl
theorem lX11_285 : Cond.methodLink RX11 285 yX11_walkerTold ∈ p_ws := p_in (p_t8 (List.mem_of_getElem? (i := 139) (by decide +kernel))) rfl
theorem lX11_288 : Cond.methodLink RX11 288 yX11_bothHome ∈ p_ws := p_in (p_t8 (List.mem_of_getElem? (i := 167) (by decide +kernel))) rfl
theorem lX11_292 : Cond.methodLink RX11 292 yX11_bits ∈ p_ws := p_in (p_t8 (List.mem_of_getElem? (i := 183) (by decide +kernel))) rfl
theorem lX11_298 : Cond.methodLink RX11 298 yX11_writeWay ∈ p_ws := p_in (p_t8 (List.mem_of_getElem? (i := 194) (by decide +kernel))) rfl
theorem fX10_36 : p_F RX10 36 10 0 (.object "StreetAutomata$Input") true := p_F.of (C := RX10) (T := TX10) (N := 13) tyX10 rfl (by decide) (p_t3 (List.mem_of_getElem? (i := 1) (by decide +kernel))) tyX10_ok nmX10 rfl rfl rfl
theorem fX10_40 : p_F RX10 40 10 1 (.object "StreetAutomata$PatternReader") true := p_F.of (C := RX10) (T := TX10) (N := 13) tyX10 rfl (by decide) (p_t3 (List.mem_of_getElem? (i := 2) (by decide +kernel))) tyX10_ok nmX10 rfl rfl rfl
theorem fX10_49 : p_F RX10 49 10 2 (.object "StreetAutomata$World") true := p_F.of (C := RX10) (T := TX10) (N := 13) tyX10 rfl (by decide) (p_t3 (List.mem_of_getElem? (i := 3) (by decide +kernel))) tyX10_ok nmX10 rfl rfl rfl
theorem fX10_56 : p_F RX10 56 10 3 (.object "StreetAutomata$History") true := p_F.of (C := RX10) (T := TX10) (N := 13) tyX10 rfl (by decide) (p_t3 (List.mem_of_getElem? (i := 4) (by decide +kernel))) tyX10_ok nmX10 rfl rfl rfl
theorem fX10_60 : p_F RX10 60 10 4 (.object "StreetAutomata$World") true := p_F.of (C := RX10) (T := TX10) (N := 13) tyX10 rfl (by decide) (p_t3 (List.mem_of_getElem? (i := 5) (by decide +kernel))) tyX10_ok nmX10 rfl rfl rfl
theorem fX10_63 : p_Fo RX10 63 10 6 .int false := p_Fo.of (C := RX10) (T := TX10) (N := 13) tyX10 rfl (by decide) (p_t3 (List.mem_of_getElem? (i := 7) (by decide +kernel))) tyX10_ok nmX10 rfl rfl
theorem fX10_67 : p_Fo RX10 67 10 7 .int false := p_Fo.of (C := RX10) (T := TX10) (N := 13) tyX10 rfl (by decide) (p_t3 (List.mem_of_getElem? (i := 8) (by decide +kernel))) tyX10_ok nmX10 rfl rfl
theorem fX10_73 : p_F RX10 73 10 8 (.object "StreetAutomata$PairSearch") true := p_F.of (C := RX10) (T := TX10) (N := 13) tyX10 rfl (by decide) (p_t3 (List.mem_of_getElem? (i := 9) (by decide +kernel))) tyX10_ok nmX10 rfl rfl rfl
theorem fX10_80 : p_F RX10 80 10 9 (.object "StreetAutomata$WordCounts") true := p_F.of (C := RX10) (T := TX10) (N := 13) tyX10 rfl (by decide) (p_t3 (List.mem_of_getElem? (i := 10) (by decide +kernel))) tyX10_ok nmX10 rfl rfl rfl
theorem fX10_87 : p_F RX10 87 10 10 (.object "StreetAutomata$StateClasses") true := p_F.of (C := RX10) (T := TX10) (N := 13) tyX10 rfl (by decide) (p_t3 (List.mem_of_getElem? (i := 11) (by decide +kernel))) tyX10_ok nmX10 rfl rfl rfl
theorem fX10_91 : p_F RX10 91 10 11 (.array .int) true := p_F.of (C := RX10) (T := TX10) (N := 13) tyX10 rfl (by decide) (p_t3 (List.mem_of_getElem? (i := 12) (by decide +kernel))) tyX10_ok nmX10 rfl rfl rfl
theorem fX10_121 : p_Fo RX10 121 5 0 .int true := p_Fo.of (C := RX5) (T := TX5) (N := 11) tyX5 rfl (by decide) (p_t2 (List.mem_of_getElem? (i := 82) (by decide +kernel))) tyX5_ok nmX5 rfl rfl
theorem fX10_132 : p_Fo RX10 132 5 5 .int true := p_Fo.of (C := RX5) (T := TX5) (N := 11) tyX5 rfl (by decide) (p_t2 (List.mem_of_getElem? (i := 94) (by decide +kernel))) tyX5_ok nmX5 rfl rfl
theorem fX10_135 : p_Fo RX10 135 9 1 .int false := p_Fo.of (C := RX9) (T := TX9) (N := 10) tyX9 rfl (by decide) (p_t2 (List.mem_of_getElem? (i := 138) (by decide +kernel))) tyX9_ok nmX9 rfl rfl
theorem fX10_181 : p_Fo RX10 181 9 0 .boolean false := p_Fo.of (C := RX9) (T := TX9) (N := 10) tyX9 rfl (by decide) (p_t2 (List.mem_of_getElem? (i := 136) (by decide +kernel))) tyX9_ok nmX9 rfl rfl
theorem fX10_201 : p_Fo RX10 201 10 5 .boolean false := p_Fo.of (C := RX10) (T := TX10) (N := 13) tyX10 rfl (by decide) (p_t3 (List.mem_of_getElem? (i := 6) (by decide +kernel))) tyX10_ok nmX10 rfl rfl
theorem fX10_222 : p_Fo RX10 222 5 2 .boolean true := p_Fo.of (C := RX5) (T := TX5) (N := 11) tyX5 rfl (by decide) (p_t2 (List.mem_of_getElem? (i := 86) (by decide +kernel))) tyX5_ok nmX5 rfl rfl
theorem fX10_225 : p_Fo RX10 225 5 3 .int true := p_Fo.of (C := RX5) (T := TX5) (N := 11) tyX5 rfl (by decide) (p_t2 (List.mem_of_getElem? (i := 88) (by decide +kernel))) tyX5_ok nmX5 rfl rfl
theorem fX10_228 : p_Fo RX10 228 5 4 .int true := p_Fo.of (C := RX5) (T := TX5) (N := 11) tyX5 rfl (by decide) (p_t2 (List.mem_of_getElem? (i := 90) (by decide +kernel))) tyX5_ok nmX5 rfl rfl
theorem fX10_234 : p_Fo RX10 234 5 1 .int true := p_Fo.of (C := RX5) (T := TX5) (N := 11) tyX5 rfl (by decide) (p_t2 (List.mem_of_getElem? (i := 84) (by decide +kernel))) tyX5_ok nmX5 rfl rfl
theorem fX10_311 : p_Fo RX10 311 9 2 .int false := p_Fo.of (C := RX9) (T := TX9) (N := 10) tyX9 rfl (by decide) (p_t2 (List.mem_of_getElem? (i := 140) (by decide +kernel))) tyX9_ok nmX9 rfl rfl
theorem fX10_325 : p_Fo RX10 325 10 12 .int false := p_Fo.of (C := RX10) (T := TX10) (N := 13) tyX10 rfl (by decide) (p_t3 (List.mem_of_getElem? (i := 13) (by decide +kernel))) tyX10_ok nmX10 rfl rfl
theorem fX0_11 : p_F RX0 11 0 0 (.array (.object "StreetAutomata$World")) true := p_F.of (C := RX0) (T := TX0) (N := 3) tyX0 rfl (by decide) (p_t2 (List.mem_of_getElem? (i := 178) (by decide +kernel))) tyX0_ok nmX0 rfl rfl rfl
theorem fX0_20 : p_Fo RX0 20 0 2 .int false := p_Fo.of (C := RX0) (T := TX0) (N := 3) tyX0 rfl (by decide) (p_t2 (List.mem_of_getElem? (i := 180) (by decide +kernel))) tyX0_ok nmX0 rfl rfl
theorem fX0_24 : p_Fo RX0 24 0 1 .int false := p_Fo.of (C := RX0) (T := TX0) (N := 3) tyX0 rfl (by decide) (p_t2 (List.mem_of_getElem? (i := 179) (by decide +kernel))) tyX0_ok nmX0 rfl rfl
theorem fX1_9 : p_F RX1 9 1 0 (.array .int) true := p_F.of (C := RX1) (T := TX1) (N := 2) tyX1 rfl (by decide) (p_t1 (List.mem_of_getElem? (i := 42) (by decide +kernel))) tyX1_ok nmX1 rfl rfl rfl
theorem fX1_15 : p_Fo RX1 15 1 1 .int false := p_Fo.of (C := RX1) (T := TX1) (N := 2) tyX1 rfl (by decide) (p_t1 (List.mem_of_getElem? (i := 43) (by decide +kernel))) tyX1_ok nmX1 rfl rfl
theorem fX2_10 : p_F RX2 10 2 2 (.object "StreetAutomata$Part") true := p_F.of (C := RX2) (T := TX2) (N := 6) tyX2 rfl (by decide) (p_t1 (List.mem_of_getElem? (i := 88) (by decide +kernel))) tyX2_ok nmX2 rfl rfl rfl
theorem fX2_16 : p_F RX2 16 2 3 (.object "StreetAutomata$Part") true := p_F.of (C := RX2) (T := TX2) (N := 6) tyX2 rfl (by decide) (p_t1 (List.mem_of_getElem? (i := 90) (by decide +kernel))) tyX2_ok nmX2 rfl rfl rfl
theorem fX2_19 : p_F RX2 19 2 4 (.object "StreetAutomata$Part") true := p_F.of (C := RX2) (T := TX2) (N := 6) tyX2 rfl (by decide) (p_t1 (List.mem_of_getElem? (i := 92) (by decide +kernel))) tyX2_ok nmX2 rfl rfl rfl
theorem fX2_22 : p_F RX2 22 2 0 (.object "StreetAutomata$Level") true := p_F.of (C := RX2) (T := TX2) (N := 6) tyX2 rfl (by decide) (p_t1 (List.mem_of_getElem? (i := 84) (by decide +kernel))) tyX2_ok nmX2 rfl rfl rfl
theorem fX2_29 : p_Fo RX2 29 2 1 (.object "StreetAutomata$Level") false := p_Fo.of (C := RX2) (T := TX2) (N := 6) tyX2 rfl (by decide) (p_t1 (List.mem_of_getElem? (i := 86) (by decide +kernel))) tyX2_ok nmX2 rfl rfl
theorem fX2_39 : p_Fo RX2 39 2 5 .boolean false := p_Fo.of (C := RX2) (T := TX2) (N := 6) tyX2 rfl (by decide) (p_t1 (List.mem_of_getElem? (i := 94) (by decide +kernel))) tyX2_ok nmX2 rfl rfl
theorem fX3_9 : p_F RX3 9 3 0 (.array .boolean) true := p_F.of (C := RX3) (T := TX3) (N := 5) tyX3 rfl (by decide) (p_t2 (List.mem_of_getElem? (i := 194) (by decide +kernel))) tyX3_ok nmX3 rfl rfl rfl
theorem fX3_15 : p_F RX3 15 3 1 (.array .int) true := p_F.of (C := RX3) (T := TX3) (N := 5) tyX3 rfl (by decide) (p_t2 (List.mem_of_getElem? (i := 195) (by decide +kernel))) tyX3_ok nmX3 rfl rfl rfl
theorem fX3_19 : p_F RX3 19 3 2 (.array .int) true := p_F.of (C := RX3) (T := TX3) (N := 5) tyX3 rfl (by decide) (p_t2 (List.mem_of_getElem? (i := 196) (by decide +kernel))) tyX3_ok nmX3 rfl rfl rfl
theorem fX3_22 : p_F RX3 22 3 3 (.array .int) true := p_F.of (C := RX3) (T := TX3) (N := 5) tyX3 rfl (by decide) (p_t2 (List.mem_of_getElem? (i := 197) (by decide +kernel))) tyX3_ok nmX3 rfl rfl rfl
theorem fX3_25 : p_Fo RX3 25 3 4 .int false := p_Fo.of (C := RX3) (T := TX3) (N := 5) tyX3 rfl (by decide) (p_t2 (List.mem_of_getElem? (i := 198) (by decide +kernel))) tyX3_ok nmX3 rfl rfl
theorem fX4_7 : p_Fo RX4 7 4 0 .boolean false := p_Fo.of (C := RX4) (T := TX4) (N := 3) tyX4 rfl (by decide) (p_t1 (List.mem_of_getElem? (i := 69) (by decide +kernel))) tyX4_ok nmX4 rfl rfl
theorem fX4_13 : p_Fo RX4 13 4 1 .int false := p_Fo.of (C := RX4) (T := TX4) (N := 3) tyX4 rfl (by decide) (p_t1 (List.mem_of_getElem? (i := 72) (by decide +kernel))) tyX4_ok nmX4 rfl rfl
theorem fX4_17 : p_Fo RX4 17 4 2 .int false := p_Fo.of (C := RX4) (T := TX4) (N := 3) tyX4 rfl (by decide) (p_t1 (List.mem_of_getElem? (i := 75) (by decide +kernel))) tyX4_ok nmX4 rfl rfl
theorem fX5_15 : p_Fo RX5 15 6 5 .int false := p_Fo.of (C := RX6) (T := TX6) (N := 11) tyX6 rfl (by decide) (p_t1 (List.mem_of_getElem? (i := 125) (by decide +kernel))) tyX6_ok nmX6 rfl rfl
theorem fX5_19 : p_F RX5 19 5 0 .int true := p_F.of (C := RX5) (T := TX5) (N := 11) tyX5 rfl (by decide) (p_t2 (List.mem_of_getElem? (i := 81) (by decide +kernel))) tyX5_ok nmX5 rfl rfl rfl
theorem fX5_22 : p_Fo RX5 22 6 6 .int false := p_Fo.of (C := RX6) (T := TX6) (N := 11) tyX6 rfl (by decide) (p_t1 (List.mem_of_getElem? (i := 127) (by decide +kernel))) tyX6_ok nmX6 rfl rfl
theorem fX5_25 : p_F RX5 25 5 1 .int true := p_F.of (C := RX5) (T := TX5) (N := 11) tyX5 rfl (by decide) (p_t2 (List.mem_of_getElem? (i := 83) (by decide +kernel))) tyX5_ok nmX5 rfl rfl rfl
theorem fX5_26 : p_Fo RX5 26 4 0 .boolean false := p_Fo.of (C := RX4) (T := TX4) (N := 3) tyX4 rfl (by decide) (p_t1 (List.mem_of_getElem? (i := 68) (by decide +kernel))) tyX4_ok nmX4 rfl rfl
theorem fX5_32 : p_F RX5 32 5 2 .boolean true := p_F.of (C := RX5) (T := TX5) (N := 11) tyX5 rfl (by decide) (p_t2 (List.mem_of_getElem? (i := 85) (by decide +kernel))) tyX5_ok nmX5 rfl rfl rfl
theorem fX5_33 : p_Fo RX5 33 4 1 .int false := p_Fo.of (C := RX4) (T := TX4) (N := 3) tyX4 rfl (by decide) (p_t1 (List.mem_of_getElem? (i := 71) (by decide +kernel))) tyX4_ok nmX4 rfl rfl
theorem fX5_36 : p_F RX5 36 5 3 .int true := p_F.of (C := RX5) (T := TX5) (N := 11) tyX5 rfl (by decide) (p_t2 (List.mem_of_getElem? (i := 87) (by decide +kernel))) tyX5_ok nmX5 rfl rfl rfl
theorem fX5_37 : p_Fo RX5 37 4 2 .int false := p_Fo.of (C := RX4) (T := TX4) (N := 3) tyX4 rfl (by decide) (p_t1 (List.mem_of_getElem? (i := 74) (by decide +kernel))) tyX4_ok nmX4 rfl rfl
theorem fX5_40 : p_F RX5 40 5 4 .int true := p_F.of (C := RX5) (T := TX5) (N := 11) tyX5 rfl (by decide) (p_t2 (List.mem_of_getElem? (i := 89) (by decide +kernel))) tyX5_ok nmX5 rfl rfl rfl
theorem fX5_41 : p_Fo RX5 41 6 7 .int false := p_Fo.of (C := RX6) (T := TX6) (N := 11) tyX6 rfl (by decide) (p_t1 (List.mem_of_getElem? (i := 129) (by decide +kernel))) tyX6_ok nmX6 rfl rfl
theorem fX5_44 : p_F RX5 44 5 5 .int true := p_F.of (C := RX5) (T := TX5) (N := 11) tyX5 rfl (by decide) (p_t2 (List.mem_of_getElem? (i := 91) (by decide +kernel))) tyX5_ok nmX5 rfl rfl rfl
theorem fX5_45 : p_Fo RX5 45 6 0 (.array .int) true := p_Fo.of (C := RX6) (T := TX6) (N := 11) tyX6 rfl (by decide) (p_t1 (List.mem_of_getElem? (i := 116) (by decide +kernel))) tyX6_ok nmX6 rfl rfl
theorem fX5_54 : p_F RX5 54 5 6 (.array .int) true := p_F.of (C := RX5) (T := TX5) (N := 11) tyX5 rfl (by decide) (p_t2 (List.mem_of_getElem? (i := 95) (by decide +kernel))) tyX5_ok nmX5 rfl rfl rfl
theorem fX5_55 : p_Fo RX5 55 6 1 (.array .int) true := p_Fo.of (C := RX6) (T := TX6) (N := 11) tyX6 rfl (by decide) (p_t1 (List.mem_of_getElem? (i := 118) (by decide +kernel))) tyX6_ok nmX6 rfl rfl
theorem fX5_58 : p_F RX5 58 5 7 (.array .int) true := p_F.of (C := RX5) (T := TX5) (N := 11) tyX5 rfl (by decide) (p_t2 (List.mem_of_getElem? (i := 96) (by decide +kernel))) tyX5_ok nmX5 rfl rfl rfl
theorem fX5_59 : p_Fo RX5 59 6 2 (.array .int) true := p_Fo.of (C := RX6) (T := TX6) (N := 11) tyX6 rfl (by decide) (p_t1 (List.mem_of_getElem? (i := 120) (by decide +kernel))) tyX6_ok nmX6 rfl rfl
theorem fX5_62 : p_F RX5 62 5 8 (.array .int) true := p_F.of (C := RX5) (T := TX5) (N := 11) tyX5 rfl (by decide) (p_t2 (List.mem_of_getElem? (i := 97) (by decide +kernel))) tyX5_ok nmX5 rfl rfl rfl
theorem fX5_63 : p_Fo RX5 63 6 3 (.array .int) true := p_Fo.of (C := RX6) (T := TX6) (N := 11) tyX6 rfl (by decide) (p_t1 (List.mem_of_getElem? (i := 122) (by decide +kernel))) tyX6_ok nmX6 rfl rfl
theorem fX5_66 : p_F RX5 66 5 9 (.array .int) true := p_F.of (C := RX5) (T := TX5) (N := 11) tyX5 rfl (by decide) (p_t2 (List.mem_of_getElem? (i := 98) (by decide +kernel))) tyX5_ok nmX5 rfl rfl rfl
theorem fX5_67 : p_Fo RX5 67 6 4 (.array .int) true := p_Fo.of (C := RX6) (T := TX6) (N := 11) tyX6 rfl (by decide) (p_t1 (List.mem_of_getElem? (i := 124) (by decide +kernel))) tyX6_ok nmX6 rfl rfl
theorem fX5_70 : p_F RX5 70 5 10 (.array .int) true := p_F.of (C := RX5) (T := TX5) (N := 11) tyX5 rfl (by decide) (p_t2 (List.mem_of_getElem? (i := 99) (by decide +kernel))) tyX5_ok nmX5 rfl rfl rfl
theorem fX6_9 : p_F RX6 9 6 0 (.array .int) true := p_F.of (C := RX6) (T := TX6) (N := 11) tyX6 rfl (by decide) (p_t1 (List.mem_of_getElem? (i := 115) (by decide +kernel))) tyX6_ok nmX6 rfl rfl rfl
theorem fX6_15 : p_F RX6 15 6 1 (.array .int) true := p_F.of (C := RX6) (T := TX6) (N := 11) tyX6 rfl (by decide) (p_t1 (List.mem_of_getElem? (i := 117) (by decide +kernel))) tyX6_ok nmX6 rfl rfl rfl
theorem fX6_18 : p_F RX6 18 6 2 (.array .int) true := p_F.of (C := RX6) (T := TX6) (N := 11) tyX6 rfl (by decide) (p_t1 (List.mem_of_getElem? (i := 119) (by decide +kernel))) tyX6_ok nmX6 rfl rfl rfl
theorem fX6_21 : p_F RX6 21 6 3 (.array .int) true := p_F.of (C := RX6) (T := TX6) (N := 11) tyX6 rfl (by decide) (p_t1 (List.mem_of_getElem? (i := 121) (by decide +kernel))) tyX6_ok nmX6 rfl rfl rfl
theorem fX6_24 : p_F RX6 24 6 4 (.array .int) true := p_F.of (C := RX6) (T := TX6) (N := 11) tyX6 rfl (by decide) (p_t1 (List.mem_of_getElem? (i := 123) (by decide +kernel))) tyX6_ok nmX6 rfl rfl rfl
theorem fX6_32 : p_F RX6 32 6 9 (.object "StreetAutomata$Level") true := p_F.of (C := RX6) (T := TX6) (N := 11) tyX6 rfl (by decide) (p_t1 (List.mem_of_getElem? (i := 132) (by decide +kernel))) tyX6_ok nmX6 rfl rfl rfl
theorem fX6_40 : p_Fo RX6 40 6 10 (.object "StreetAutomata$Level") false := p_Fo.of (C := RX6) (T := TX6) (N := 11) tyX6 rfl (by decide) (p_t1 (List.mem_of_getElem? (i := 133) (by decide +kernel))) tyX6_ok nmX6 rfl rfl
theorem fX6_43 : p_Fo RX6 43 6 8 .int false := p_Fo.of (C := RX6) (T := TX6) (N := 11) tyX6 rfl (by decide) (p_t1 (List.mem_of_getElem? (i := 131) (by decide +kernel))) tyX6_ok nmX6 rfl rfl
theorem fX6_47 : p_Fo RX6 47 2 2 (.object "StreetAutomata$Part") true := p_Fo.of (C := RX2) (T := TX2) (N := 6) tyX2 rfl (by decide) (p_t1 (List.mem_of_getElem? (i := 89) (by decide +kernel))) tyX2_ok nmX2 rfl rfl
theorem fX6_67 : p_Fo RX6 67 2 0 (.object "StreetAutomata$Level") true := p_Fo.of (C := RX2) (T := TX2) (N := 6) tyX2 rfl (by decide) (p_t1 (List.mem_of_getElem? (i := 85) (by decide +kernel))) tyX2_ok nmX2 rfl rfl
theorem fX6_78 : p_Fo RX6 78 6 5 .int false := p_Fo.of (C := RX6) (T := TX6) (N := 11) tyX6 rfl (by decide) (p_t1 (List.mem_of_getElem? (i := 126) (by decide +kernel))) tyX6_ok nmX6 rfl rfl
theorem fX6_81 : p_Fo RX6 81 6 6 .int false := p_Fo.of (C := RX6) (T := TX6) (N := 11) tyX6 rfl (by decide) (p_t1 (List.mem_of_getElem? (i := 128) (by decide +kernel))) tyX6_ok nmX6 rfl rfl
theorem fX6_84 : p_Fo RX6 84 6 7 .int false := p_Fo.of (C := RX6) (T := TX6) (N := 11) tyX6 rfl (by decide) (p_t1 (List.mem_of_getElem? (i := 130) (by decide +kernel))) tyX6_ok nmX6 rfl rfl
theorem fX6_120 : p_Fo RX6 120 2 1 (.object "StreetAutomata$Level") false := p_Fo.of (C := RX2) (T := TX2) (N := 6) tyX2 rfl (by decide) (p_t1 (List.mem_of_getElem? (i := 87) (by decide +kernel))) tyX2_ok nmX2 rfl rfl
theorem fX6_123 : p_Fo RX6 123 4 0 .boolean false := p_Fo.of (C := RX4) (T := TX4) (N := 3) tyX4 rfl (by decide) (p_t1 (List.mem_of_getElem? (i := 70) (by decide +kernel))) tyX4_ok nmX4 rfl rfl
theorem fX6_129 : p_Fo RX6 129 4 1 .int false := p_Fo.of (C := RX4) (T := TX4) (N := 3) tyX4 rfl (by decide) (p_t1 (List.mem_of_getElem? (i := 73) (by decide +kernel))) tyX4_ok nmX4 rfl rfl
theorem fX6_132 : p_Fo RX6 132 4 2 .int false := p_Fo.of (C := RX4) (T := TX4) (N := 3) tyX4 rfl (by decide) (p_t1 (List.mem_of_getElem? (i := 76) (by decide +kernel))) tyX4_ok nmX4 rfl rfl
theorem fX6_135 : p_Fo RX6 135 2 5 .boolean false := p_Fo.of (C := RX2) (T := TX2) (N := 6) tyX2 rfl (by decide) (p_t1 (List.mem_of_getElem? (i := 95) (by decide +kernel))) tyX2_ok nmX2 rfl rfl
theorem fX6_138 : p_Fo RX6 138 2 4 (.object "StreetAutomata$Part") true := p_Fo.of (C := RX2) (T := TX2) (N := 6) tyX2 rfl (by decide) (p_t1 (List.mem_of_getElem? (i := 93) (by decide +kernel))) tyX2_ok nmX2 rfl rfl
theorem fX6_145 : p_Fo RX6 145 2 3 (.object "StreetAutomata$Part") true := p_Fo.of (C := RX2) (T := TX2) (N := 6) tyX2 rfl (by decide) (p_t1 (List.mem_of_getElem? (i := 91) (by decide +kernel))) tyX2_ok nmX2 rfl rfl
theorem fX7_9 : p_F RX7 9 7 0 (.array .int) true := p_F.of (C := RX7) (T := TX7) (N := 4) tyX7 rfl (by decide) (p_t2 (List.mem_of_getElem? (i := 228) (by decide +kernel))) tyX7_ok nmX7 rfl rfl rfl
theorem fX7_15 : p_F RX7 15 7 1 (.array .int) true := p_F.of (C := RX7) (T := TX7) (N := 4) tyX7 rfl (by decide) (p_t2 (List.mem_of_getElem? (i := 229) (by decide +kernel))) tyX7_ok nmX7 rfl rfl rfl
theorem fX7_18 : p_F RX7 18 7 2 (.array .int) true := p_F.of (C := RX7) (T := TX7) (N := 4) tyX7 rfl (by decide) (p_t2 (List.mem_of_getElem? (i := 230) (by decide +kernel))) tyX7_ok nmX7 rfl rfl rfl
theorem fX7_21 : p_Fo RX7 21 7 3 .int false := p_Fo.of (C := RX7) (T := TX7) (N := 4) tyX7 rfl (by decide) (p_t2 (List.mem_of_getElem? (i := 231) (by decide +kernel))) tyX7_ok nmX7 rfl rfl
theorem fX7_39 : p_Fo RX7 39 5 5 .int true := p_Fo.of (C := RX5) (T := TX5) (N := 11) tyX5 rfl (by decide) (p_t2 (List.mem_of_getElem? (i := 93) (by decide +kernel))) tyX5_ok nmX5 rfl rfl
theorem fX8_9 : p_F RX8 9 8 0 (.array .long) true := p_F.of (C := RX8) (T := TX8) (N := 1) tyX8 rfl (by decide) (p_t2 (List.mem_of_getElem? (i := 217) (by decide +kernel))) tyX8_ok nmX8 rfl rfl rfl
theorem fX8_15 : p_Fo RX8 15 5 5 .int true := p_Fo.of (C := RX5) (T := TX5) (N := 11) tyX5 rfl (by decide) (p_t2 (List.mem_of_getElem? (i := 92) (by decide +kernel))) tyX5_ok nmX5 rfl rfl
theorem fX9_9 : p_Fo RX9 9 9 5 .int false := p_Fo.of (C := RX9) (T := TX9) (N := 10) tyX9 rfl (by decide) (p_t2 (List.mem_of_getElem? (i := 143) (by decide +kernel))) tyX9_ok nmX9 rfl rfl
theorem fX9_15 : p_Fo RX9 15 9 6 .int false := p_Fo.of (C := RX9) (T := TX9) (N := 10) tyX9 rfl (by decide) (p_t2 (List.mem_of_getElem? (i := 144) (by decide +kernel))) tyX9_ok nmX9 rfl rfl
theorem fX9_18 : p_F RX9 18 9 7 (.array .int) true := p_F.of (C := RX9) (T := TX9) (N := 10) tyX9 rfl (by decide) (p_t2 (List.mem_of_getElem? (i := 145) (by decide +kernel))) tyX9_ok nmX9 rfl rfl rfl
theorem fX9_22 : p_F RX9 22 9 8 (.array .int) true := p_F.of (C := RX9) (T := TX9) (N := 10) tyX9 rfl (by decide) (p_t2 (List.mem_of_getElem? (i := 146) (by decide +kernel))) tyX9_ok nmX9 rfl rfl rfl
theorem fX9_25 : p_F RX9 25 9 9 (.array .int) true := p_F.of (C := RX9) (T := TX9) (N := 10) tyX9 rfl (by decide) (p_t2 (List.mem_of_getElem? (i := 147) (by decide +kernel))) tyX9_ok nmX9 rfl rfl rfl
theorem fX9_28 : p_Fo RX9 28 9 3 (.object "StreetAutomata$Pattern") false := p_Fo.of (C := RX9) (T := TX9) (N := 10) tyX9 rfl (by decide) (p_t2 (List.mem_of_getElem? (i := 141) (by decide +kernel))) tyX9_ok nmX9 rfl rfl
theorem fX9_32 : p_Fo RX9 32 9 4 (.object "StreetAutomata$Pattern") false := p_Fo.of (C := RX9) (T := TX9) (N := 10) tyX9 rfl (by decide) (p_t2 (List.mem_of_getElem? (i := 142) (by decide +kernel))) tyX9_ok nmX9 rfl rfl
theorem fX9_35 : p_Fo RX9 35 9 0 .boolean false := p_Fo.of (C := RX9) (T := TX9) (N := 10) tyX9 rfl (by decide) (p_t2 (List.mem_of_getElem? (i := 135) (by decide +kernel))) tyX9_ok nmX9 rfl rfl
theorem fX9_39 : p_Fo RX9 39 9 1 .int false := p_Fo.of (C := RX9) (T := TX9) (N := 10) tyX9 rfl (by decide) (p_t2 (List.mem_of_getElem? (i := 137) (by decide +kernel))) tyX9_ok nmX9 rfl rfl
theorem fX9_42 : p_Fo RX9 42 9 2 .int false := p_Fo.of (C := RX9) (T := TX9) (N := 10) tyX9 rfl (by decide) (p_t2 (List.mem_of_getElem? (i := 139) (by decide +kernel))) tyX9_ok nmX9 rfl rfl
theorem fX11_7 : p_F RX11 7 11 0 (.array .int) true := p_F.of (C := RX11) (T := TX11) (N := 38) tyX11 rfl (by decide) (p_t6 (List.mem_of_getElem? (i := 221) (by decide +kernel))) tyX11_ok nmX11 rfl rfl rfl
theorem fX11_13 : p_F RX11 13 11 1 (.array .int) true := p_F.of (C := RX11) (T := TX11) (N := 38) tyX11 rfl (by decide) (p_t6 (List.mem_of_getElem? (i := 222) (by decide +kernel))) tyX11_ok nmX11 rfl rfl rfl
theorem fX11_16 : p_F RX11 16 11 2 (.array .int) true := p_F.of (C := RX11) (T := TX11) (N := 38) tyX11 rfl (by decide) (p_t6 (List.mem_of_getElem? (i := 223) (by decide +kernel))) tyX11_ok nmX11 rfl rfl rfl
theorem fX11_19 : p_F RX11 19 11 3 (.array .int) true := p_F.of (C := RX11) (T := TX11) (N := 38) tyX11 rfl (by decide) (p_t6 (List.mem_of_getElem? (i := 224) (by decide +kernel))) tyX11_ok nmX11 rfl rfl rfl
theorem fX11_22 : p_F RX11 22 11 6 (.array .int) true := p_F.of (C := RX11) (T := TX11) (N := 38) tyX11 rfl (by decide) (p_t6 (List.mem_of_getElem? (i := 227) (by decide +kernel))) tyX11_ok nmX11 rfl rfl rfl
theorem fX11_25 : p_Fo RX11 25 11 9 .int false := p_Fo.of (C := RX11) (T := TX11) (N := 38) tyX11 rfl (by decide) (p_t6 (List.mem_of_getElem? (i := 230) (by decide +kernel))) tyX11_ok nmX11 rfl rfl
theorem fX11_29 : p_F RX11 29 11 10 (.array .char) true := p_F.of (C := RX11) (T := TX11) (N := 38) tyX11 rfl (by decide) (p_t6 (List.mem_of_getElem? (i := 231) (by decide +kernel))) tyX11_ok nmX11 rfl rfl rfl
theorem fX11_33 : p_F RX11 33 11 13 (.array .int) true := p_F.of (C := RX11) (T := TX11) (N := 38) tyX11 rfl (by decide) (p_t6 (List.mem_of_getElem? (i := 234) (by decide +kernel))) tyX11_ok nmX11 rfl rfl rfl
theorem fX11_36 : p_F RX11 36 11 14 (.array .int) true := p_F.of (C := RX11) (T := TX11) (N := 38) tyX11 rfl (by decide) (p_t6 (List.mem_of_getElem? (i := 235) (by decide +kernel))) tyX11_ok nmX11 rfl rfl rfl
theorem fX11_39 : p_F RX11 39 11 15 (.array .int) true := p_F.of (C := RX11) (T := TX11) (N := 38) tyX11 rfl (by decide) (p_t6 (List.mem_of_getElem? (i := 236) (by decide +kernel))) tyX11_ok nmX11 rfl rfl rfl
theorem fX11_42 : p_F RX11 42 11 16 (.array .int) true := p_F.of (C := RX11) (T := TX11) (N := 38) tyX11 rfl (by decide) (p_t6 (List.mem_of_getElem? (i := 237) (by decide +kernel))) tyX11_ok nmX11 rfl rfl rfl
theorem fX11_45 : p_F RX11 45 11 17 (.array .int) true := p_F.of (C := RX11) (T := TX11) (N := 38) tyX11 rfl (by decide) (p_t6 (List.mem_of_getElem? (i := 238) (by decide +kernel))) tyX11_ok nmX11 rfl rfl rfl
theorem fX11_48 : p_F RX11 48 11 18 (.array .int) true := p_F.of (C := RX11) (T := TX11) (N := 38) tyX11 rfl (by decide) (p_t6 (List.mem_of_getElem? (i := 239) (by decide +kernel))) tyX11_ok nmX11 rfl rfl rfl
theorem fX11_51 : p_F RX11 51 11 19 (.array .int) true := p_F.of (C := RX11) (T := TX11) (N := 38) tyX11 rfl (by decide) (p_t7 (List.mem_of_getElem? (i := 0) (by decide +kernel))) tyX11_ok nmX11 rfl rfl rfl
theorem fX11_54 : p_F RX11 54 11 23 (.array .int) true := p_F.of (C := RX11) (T := TX11) (N := 38) tyX11 rfl (by decide) (p_t7 (List.mem_of_getElem? (i := 4) (by decide +kernel))) tyX11_ok nmX11 rfl rfl rfl
theorem fX11_57 : p_F RX11 57 11 24 (.array .int) true := p_F.of (C := RX11) (T := TX11) (N := 38) tyX11 rfl (by decide) (p_t7 (List.mem_of_getElem? (i := 5) (by decide +kernel))) tyX11_ok nmX11 rfl rfl rfl
theorem fX11_60 : p_F RX11 60 11 25 (.array .int) true := p_F.of (C := RX11) (T := TX11) (N := 38) tyX11 rfl (by decide) (p_t7 (List.mem_of_getElem? (i := 6) (by decide +kernel))) tyX11_ok nmX11 rfl rfl rfl
theorem fX11_63 : p_F RX11 63 11 26 (.array .int) true := p_F.of (C := RX11) (T := TX11) (N := 38) tyX11 rfl (by decide) (p_t7 (List.mem_of_getElem? (i := 7) (by decide +kernel))) tyX11_ok nmX11 rfl rfl rfl
theorem fX11_66 : p_F RX11 66 11 29 (.array .long) true := p_F.of (C := RX11) (T := TX11) (N := 38) tyX11 rfl (by decide) (p_t7 (List.mem_of_getElem? (i := 10) (by decide +kernel))) tyX11_ok nmX11 rfl rfl rfl
theorem fX11_70 : p_F RX11 70 11 30 (.array .boolean) true := p_F.of (C := RX11) (T := TX11) (N := 38) tyX11 rfl (by decide) (p_t7 (List.mem_of_getElem? (i := 11) (by decide +kernel))) tyX11_ok nmX11 rfl rfl rfl
theorem fX11_74 : p_F RX11 74 11 37 (.array .int) true := p_F.of (C := RX11) (T := TX11) (N := 38) tyX11 rfl (by decide) (p_t7 (List.mem_of_getElem? (i := 18) (by decide +kernel))) tyX11_ok nmX11 rfl rfl rfl
theorem fX11_89 : p_Fo RX11 89 11 7 .int false := p_Fo.of (C := RX11) (T := TX11) (N := 38) tyX11 rfl (by decide) (p_t6 (List.mem_of_getElem? (i := 228) (by decide +kernel))) tyX11_ok nmX11 rfl rfl
theorem fX11_92 : p_Fo RX11 92 11 8 .int false := p_Fo.of (C := RX11) (T := TX11) (N := 38) tyX11 rfl (by decide) (p_t6 (List.mem_of_getElem? (i := 229) (by decide +kernel))) tyX11_ok nmX11 rfl rfl
theorem fX11_95 : p_Fo RX11 95 11 12 .int false := p_Fo.of (C := RX11) (T := TX11) (N := 38) tyX11 rfl (by decide) (p_t6 (List.mem_of_getElem? (i := 233) (by decide +kernel))) tyX11_ok nmX11 rfl rfl
theorem fX11_119 : p_Fo RX11 119 11 20 .int false := p_Fo.of (C := RX11) (T := TX11) (N := 38) tyX11 rfl (by decide) (p_t7 (List.mem_of_getElem? (i := 1) (by decide +kernel))) tyX11_ok nmX11 rfl rfl
theorem fX11_122 : p_Fo RX11 122 11 21 .int false := p_Fo.of (C := RX11) (T := TX11) (N := 38) tyX11 rfl (by decide) (p_t7 (List.mem_of_getElem? (i := 2) (by decide +kernel))) tyX11_ok nmX11 rfl rfl
theorem fX11_125 : p_Fo RX11 125 11 31 .int false := p_Fo.of (C := RX11) (T := TX11) (N := 38) tyX11 rfl (by decide) (p_t7 (List.mem_of_getElem? (i := 12) (by decide +kernel))) tyX11_ok nmX11 rfl rfl
theorem fX11_137 : p_Fo RX11 137 11 33 .int false := p_Fo.of (C := RX11) (T := TX11) (N := 38) tyX11 rfl (by decide) (p_t7 (List.mem_of_getElem? (i := 14) (by decide +kernel))) tyX11_ok nmX11 rfl rfl
theorem fX11_144 : p_Fo RX11 144 11 34 .int false := p_Fo.of (C := RX11) (T := TX11) (N := 38) tyX11 rfl (by decide) (p_t7 (List.mem_of_getElem? (i := 15) (by decide +kernel))) tyX11_ok nmX11 rfl rfl
theorem fX11_157 : p_Fo RX11 157 11 35 .int false := p_Fo.of (C := RX11) (T := TX11) (N := 38) tyX11 rfl (by decide) (p_t7 (List.mem_of_getElem? (i := 16) (by decide +kernel))) tyX11_ok nmX11 rfl rfl
theorem fX11_160 : p_Fo RX11 160 11 32 .int false := p_Fo.of (C := RX11) (T := TX11) (N := 38) tyX11 rfl (by decide) (p_t7 (List.mem_of_getElem? (i := 13) (by decide +kernel))) tyX11_ok nmX11 rfl rfl
theorem fX11_169 : p_Fo RX11 169 11 36 .int false := p_Fo.of (C := RX11) (T := TX11) (N := 38) tyX11 rfl (by decide) (p_t7 (List.mem_of_getElem? (i := 17) (by decide +kernel))) tyX11_ok nmX11 rfl rfl
theorem fX11_176 : p_Fo RX11 176 11 22 .int false := p_Fo.of (C := RX11) (T := TX11) (N := 38) tyX11 rfl (by decide) (p_t7 (List.mem_of_getElem? (i := 3) (by decide +kernel))) tyX11_ok nmX11 rfl rfl
theorem fX11_213 : p_Fo RX11 213 11 4 .int false := p_Fo.of (C := RX11) (T := TX11) (N := 38) tyX11 rfl (by decide) (p_t6 (List.mem_of_getElem? (i := 225) (by decide +kernel))) tyX11_ok nmX11 rfl rfl
theorem fX11_243 : p_Fo RX11 243 11 5 .boolean false := p_Fo.of (C := RX11) (T := TX11) (N := 38) tyX11 rfl (by decide) (p_t6 (List.mem_of_getElem? (i := 226) (by decide +kernel))) tyX11_ok nmX11 rfl rfl
theorem fX11_276 : p_Fo RX11 276 11 27 .int false := p_Fo.of (C := RX11) (T := TX11) (N := 38) tyX11 rfl (by decide) (p_t7 (List.mem_of_getElem? (i := 8) (by decide +kernel))) tyX11_ok nmX11 rfl rfl
theorem fX11_279 : p_Fo RX11 279 11 28 .int false := p_Fo.of (C := RX11) (T := TX11) (N := 38) tyX11 rfl (by decide) (p_t7 (List.mem_of_getElem? (i := 9) (by decide +kernel))) tyX11_ok nmX11 rfl rfl
theorem fX11_295 : p_Fo RX11 295 11 11 .int false := p_Fo.of (C := RX11) (T := TX11) (N := 38) tyX11 rfl (by decide) (p_t6 (List.mem_of_getElem? (i := 232) (by decide +kernel))) tyX11_ok nmX11 rfl rfl
theorem nX10_9 : p_N RX10 9 1 [.null, .int 0] 2 := p_N.of (C := RX1) (T := TX1) tyX1 rfl (p_t1 (List.mem_of_getElem? (i := 36) (by decide +kernel))) (p_t1 (List.mem_of_getElem? (i := 37) (by decide +kernel))) (p_t1 (List.mem_of_getElem? (i := 2) (by decide +kernel))) tyX1_ok (fun j hj => by rcases (show j = 0 ∨ j = 1 by omega) with rfl | rfl <;> rfl)
theorem nX10_12 : p_N RX10 12 6 [.null, .null, .null, .null, .null, .int 0, .int 0, .int 0, .int 0, .null, .null] 11 := p_N.of (C := RX6) (T := TX6) tyX6 rfl (p_t1 (List.mem_of_getElem? (i := 50) (by decide +kernel))) (p_t1 (List.mem_of_getElem? (i := 51) (by decide +kernel))) (p_t1 (List.mem_of_getElem? (i := 3) (by decide +kernel))) tyX6_ok (fun j hj => by rcases (show j = 0 ∨ j = 1 ∨ j = 2 ∨ j = 3 ∨ j = 4 ∨ j = 5 ∨ j = 6 ∨ j = 7 ∨ j = 8 ∨ j = 9 ∨ j = 10 by omega) with rfl | rfl | rfl | rfl | rfl | rfl | rfl | rfl | rfl | rfl | rfl <;> rfl)
theorem nX10_25 : p_N RX10 25 5 [.int 0, .int 0, .int 0, .int 0, .int 0, .int 0, .null, .null, .null, .null, .null] 11 := p_N.of (C := RX5) (T := TX5) tyX5 rfl (p_t2 (List.mem_of_getElem? (i := 67) (by decide +kernel))) (p_t2 (List.mem_of_getElem? (i := 68) (by decide +kernel))) (p_t1 (List.mem_of_getElem? (i := 11) (by decide +kernel))) tyX5_ok (fun j hj => by rcases (show j = 0 ∨ j = 1 ∨ j = 2 ∨ j = 3 ∨ j = 4 ∨ j = 5 ∨ j = 6 ∨ j = 7 ∨ j = 8 ∨ j = 9 ∨ j = 10 by omega) with rfl | rfl | rfl | rfl | rfl | rfl | rfl | rfl | rfl | rfl | rfl <;> rfl)
theorem nX10_44 : p_N RX10 44 9 [.int 0, .int 0, .int 0, .null, .null, .int 0, .int 0, .null, .null, .null] 10 := p_N.of (C := RX9) (T := TX9) tyX9 rfl (p_t2 (List.mem_of_getElem? (i := 129) (by decide +kernel))) (p_t2 (List.mem_of_getElem? (i := 130) (by decide +kernel))) (p_t1 (List.mem_of_getElem? (i := 12) (by decide +kernel))) tyX9_ok (fun j hj => by rcases (show j = 0 ∨ j = 1 ∨ j = 2 ∨ j = 3 ∨ j = 4 ∨ j = 5 ∨ j = 6 ∨ j = 7 ∨ j = 8 ∨ j = 9 by omega) with rfl | rfl | rfl | rfl | rfl | rfl | rfl | rfl | rfl | rfl <;> rfl)
theorem nX10_53 : p_N RX10 53 0 [.null, .int 0, .int 0] 3 := p_N.of (C := RX0) (T := TX0) tyX0 rfl (p_t2 (List.mem_of_getElem? (i := 169) (by decide +kernel))) (p_t2 (List.mem_of_getElem? (i := 170) (by decide +kernel))) (p_t1 (List.mem_of_getElem? (i := 13) (by decide +kernel))) tyX0_ok (fun j hj => by rcases (show j = 0 ∨ j = 1 ∨ j = 2 by omega) with rfl | rfl | rfl <;> rfl)
theorem nX10_70 : p_N RX10 70 3 [.null, .null, .null, .null, .int 0] 5 := p_N.of (C := RX3) (T := TX3) tyX3 rfl (p_t2 (List.mem_of_getElem? (i := 188) (by decide +kernel))) (p_t2 (List.mem_of_getElem? (i := 189) (by decide +kernel))) (p_t1 (List.mem_of_getElem? (i := 14) (by decide +kernel))) tyX3_ok (fun j hj => by rcases (show j = 0 ∨ j = 1 ∨ j = 2 ∨ j = 3 ∨ j = 4 by omega) with rfl | rfl | rfl | rfl | rfl <;> rfl)
theorem nX10_77 : p_N RX10 77 8 [.null] 1 := p_N.of (C := RX8) (T := TX8) tyX8 rfl (p_t2 (List.mem_of_getElem? (i := 211) (by decide +kernel))) (p_t2 (List.mem_of_getElem? (i := 212) (by decide +kernel))) (p_t1 (List.mem_of_getElem? (i := 15) (by decide +kernel))) tyX8_ok (fun j hj => by rcases (show j = 0 by omega) with rfl <;> rfl)
theorem nX10_84 : p_N RX10 84 7 [.null, .null, .null, .int 0] 4 := p_N.of (C := RX7) (T := TX7) tyX7 rfl (p_t2 (List.mem_of_getElem? (i := 222) (by decide +kernel))) (p_t2 (List.mem_of_getElem? (i := 223) (by decide +kernel))) (p_t1 (List.mem_of_getElem? (i := 16) (by decide +kernel))) tyX7_ok (fun j hj => by rcases (show j = 0 ∨ j = 1 ∨ j = 2 ∨ j = 3 by omega) with rfl | rfl | rfl | rfl <;> rfl)
theorem nX0_9 : p_N RX0 9 9 [.int 0, .int 0, .int 0, .null, .null, .int 0, .int 0, .null, .null, .null] 10 := p_N.of (C := RX9) (T := TX9) tyX9 rfl (p_t2 (List.mem_of_getElem? (i := 175) (by decide +kernel))) (p_t2 (List.mem_of_getElem? (i := 130) (by decide +kernel))) (p_t1 (List.mem_of_getElem? (i := 12) (by decide +kernel))) tyX9_ok (fun j hj => by rcases (show j = 0 ∨ j = 1 ∨ j = 2 ∨ j = 3 ∨ j = 4 ∨ j = 5 ∨ j = 6 ∨ j = 7 ∨ j = 8 ∨ j = 9 by omega) with rfl | rfl | rfl | rfl | rfl | rfl | rfl | rfl | rfl | rfl <;> rfl)
theorem nX2_7 : p_N RX2 7 4 [.int 0, .int 0, .int 0] 3 := p_N.of (C := RX4) (T := TX4) tyX4 rfl (p_t1 (List.mem_of_getElem? (i := 62) (by decide +kernel))) (p_t1 (List.mem_of_getElem? (i := 63) (by decide +kernel))) (p_t1 (List.mem_of_getElem? (i := 5) (by decide +kernel))) tyX4_ok (fun j hj => by rcases (show j = 0 ∨ j = 1 ∨ j = 2 by omega) with rfl | rfl | rfl <;> rfl)
theorem nX2_11 : p_N RX2 11 2 [.null, .null, .null, .null, .null, .int 0] 6 := p_N.of (C := RX2) (T := TX2) tyX2 rfl (p_t1 (List.mem_of_getElem? (i := 113) (by decide +kernel))) (p_t1 (List.mem_of_getElem? (i := 57) (by decide +kernel))) (p_t1 (List.mem_of_getElem? (i := 4) (by decide +kernel))) tyX2_ok (fun j hj => by rcases (show j = 0 ∨ j = 1 ∨ j = 2 ∨ j = 3 ∨ j = 4 ∨ j = 5 by omega) with rfl | rfl | rfl | rfl | rfl | rfl <;> rfl)
theorem nX6_27 : p_N RX6 27 2 [.null, .null, .null, .null, .null, .int 0] 6 := p_N.of (C := RX2) (T := TX2) tyX2 rfl (p_t1 (List.mem_of_getElem? (i := 56) (by decide +kernel))) (p_t1 (List.mem_of_getElem? (i := 57) (by decide +kernel))) (p_t1 (List.mem_of_getElem? (i := 4) (by decide +kernel))) tyX2_ok (fun j hj => by rcases (show j = 0 ∨ j = 1 ∨ j = 2 ∨ j = 3 ∨ j = 4 ∨ j = 5 by omega) with rfl | rfl | rfl | rfl | rfl | rfl <;> rfl)
theorem nL_8 : p_N RL 8 10 [.null, .null, .null, .null, .null, .int 0, .int 0, .int 0, .null, .null, .null, .null, .int 0] 13 := p_N.of (C := RX10) (T := TX10) tyX10 rfl (p_t1 (List.mem_of_getElem? (i := 28) (by decide +kernel))) (p_t1 (List.mem_of_getElem? (i := 29) (by decide +kernel))) (p_t1 (List.mem_of_getElem? (i := 1) (by decide +kernel))) tyX10_ok (fun j hj => by rcases (show j = 0 ∨ j = 1 ∨ j = 2 ∨ j = 3 ∨ j = 4 ∨ j = 5 ∨ j = 6 ∨ j = 7 ∨ j = 8 ∨ j = 9 ∨ j = 10 ∨ j = 11 ∨ j = 12 by omega) with rfl | rfl | rfl | rfl | rfl | rfl | rfl | rfl | rfl | rfl | rfl | rfl | rfl <;> rfl)
theorem nL_158 : p_N RL 158 11 [.null, .null, .null, .null, .int 0, .int 0, .null, .int 0, .int 0, .int 0, .null, .int 0, .int 0, .null, .null, .null, .null, .null, .null, .null, .int 0, .int 0, .int 0, .null, .null, .null, .null, .int 0, .int 0, .null, .null, .int 0, .int 0, .int 0, .int 0, .int 0, .int 0, .null] 38 := p_N.of (C := RX11) (T := TX11) tyX11 rfl (p_t6 (List.mem_of_getElem? (i := 124) (by decide +kernel))) (p_t6 (List.mem_of_getElem? (i := 125) (by decide +kernel))) (p_t1 (List.mem_of_getElem? (i := 17) (by decide +kernel))) tyX11_ok (fun j hj => by rcases (show j = 0 ∨ j = 1 ∨ j = 2 ∨ j = 3 ∨ j = 4 ∨ j = 5 ∨ j = 6 ∨ j = 7 ∨ j = 8 ∨ j = 9 ∨ j = 10 ∨ j = 11 ∨ j = 12 ∨ j = 13 ∨ j = 14 ∨ j = 15 ∨ j = 16 ∨ j = 17 ∨ j = 18 ∨ j = 19 ∨ j = 20 ∨ j = 21 ∨ j = 22 ∨ j = 23 ∨ j = 24 ∨ j = 25 ∨ j = 26 ∨ j = 27 ∨ j = 28 ∨ j = 29 ∨ j = 30 ∨ j = 31 ∨ j = 32 ∨ j = 33 ∨ j = 34 ∨ j = 35 ∨ j = 36 ∨ j = 37 by omega) with rfl | rfl | rfl | rfl | rfl | rfl | rfl | rfl | rfl | rfl | rfl | rfl | rfl | rfl | rfl | rfl | rfl | rfl | rfl | rfl | rfl | rfl | rfl | rfl | rfl | rfl | rfl | rfl | rfl | rfl | rfl | rfl | rfl | rfl | rfl | rfl | rfl | rfl <;> rfl)
