/-! ===== methods, links: by program ===== -/
theorem p_t1 {w : Cond} (h : w ∈ tables_1_1) : w ∈ lw_tbl := List.mem_append_right _ (List.mem_append_left _ h)
theorem p_t2 {w : Cond} (h : w ∈ tables_1_2) : w ∈ lw_tbl := List.mem_append_right _ (List.mem_append_right _ (List.mem_append_left _ h))
theorem p_t3 {w : Cond} (h : w ∈ tables_1_3) : w ∈ lw_tbl := List.mem_append_right _ (List.mem_append_right _ (List.mem_append_right _ (List.mem_append_left _ h)))
theorem p_t4 {w : Cond} (h : w ∈ tables_1_4) : w ∈ lw_tbl := List.mem_append_right _ (List.mem_append_right _ (List.mem_append_right _ (List.mem_append_right _ (h))))
abbrev mX0_init : p_M := (yX0_init, cX0_init, 4, none)
theorem cfX0_init : p_cf mX0_init 2 := p_cf.of (p_t2 (List.mem_of_getElem? (i := 167) rfl)) (p_t1 (List.mem_of_getElem? (i := 13) (by decide +kernel))) (by decide +kernel)
theorem imX0_init : Cond.instanceMethod yX0_init ∈ p_ws := p_in (p_t2 (List.mem_of_getElem? (i := 166) (by decide +kernel))) rfl
abbrev mX0_size : p_M := (yX0_size, cX0_size, 1, (some .int))
theorem cfX0_size : p_cf mX0_size 0 := p_cf.of (p_t3 (List.mem_of_getElem? (i := 202) rfl)) (p_t1 (List.mem_of_getElem? (i := 13) (by decide +kernel))) (by decide +kernel)
theorem imX0_size : Cond.instanceMethod yX0_size ∈ p_ws := p_in (p_t3 (List.mem_of_getElem? (i := 200) (by decide +kernel))) rfl
theorem seX0_size : Cond.selects yX0_size.cls yX0_size yX0_size ∈ p_ws := p_in (p_t3 (List.mem_of_getElem? (i := 201) (by decide +kernel))) rfl
abbrev mX0_remember : p_M := (yX0_remember, cX0_remember, 3, none)
theorem cfX0_remember : p_cf mX0_remember 1 := p_cf.of (p_t3 (List.mem_of_getElem? (i := 126) rfl)) (p_t1 (List.mem_of_getElem? (i := 13) (by decide +kernel))) (by decide +kernel)
theorem imX0_remember : Cond.instanceMethod yX0_remember ∈ p_ws := p_in (p_t3 (List.mem_of_getElem? (i := 124) (by decide +kernel))) rfl
theorem seX0_remember : Cond.selects yX0_remember.cls yX0_remember yX0_remember ∈ p_ws := p_in (p_t3 (List.mem_of_getElem? (i := 125) (by decide +kernel))) rfl
abbrev mX0_takeBack : p_M := (yX0_takeBack, cX0_takeBack, 4, (some .boolean))
theorem cfX0_takeBack : p_cf mX0_takeBack 1 := p_cf.of (p_t3 (List.mem_of_getElem? (i := 198) rfl)) (p_t1 (List.mem_of_getElem? (i := 13) (by decide +kernel))) (by decide +kernel)
theorem imX0_takeBack : Cond.instanceMethod yX0_takeBack ∈ p_ws := p_in (p_t3 (List.mem_of_getElem? (i := 196) (by decide +kernel))) rfl
theorem seX0_takeBack : Cond.selects yX0_takeBack.cls yX0_takeBack yX0_takeBack ∈ p_ws := p_in (p_t3 (List.mem_of_getElem? (i := 197) (by decide +kernel))) rfl
abbrev mX1_init : p_M := (yX1_init, cX1_init, 1, none)
theorem cfX1_init : p_cf mX1_init 0 := p_cf.of (p_t1 (List.mem_of_getElem? (i := 36) rfl)) (p_t1 (List.mem_of_getElem? (i := 2) (by decide +kernel))) (by decide +kernel)
theorem imX1_init : Cond.instanceMethod yX1_init ∈ p_ws := p_in (p_t1 (List.mem_of_getElem? (i := 35) (by decide +kernel))) rfl
abbrev mX1_size : p_M := (yX1_size, cX1_size, 1, (some .int))
theorem cfX1_size : p_cf mX1_size 0 := p_cf.of (p_t1 (List.mem_of_getElem? (i := 239) rfl)) (p_t1 (List.mem_of_getElem? (i := 2) (by decide +kernel))) (by decide +kernel)
theorem imX1_size : Cond.instanceMethod yX1_size ∈ p_ws := p_in (p_t1 (List.mem_of_getElem? (i := 237) (by decide +kernel))) rfl
theorem seX1_size : Cond.selects yX1_size.cls yX1_size yX1_size ∈ p_ws := p_in (p_t1 (List.mem_of_getElem? (i := 238) (by decide +kernel))) rfl
abbrev mX1_put : p_M := (yX1_put, cX1_put, 3, none)
theorem cfX1_put : p_cf mX1_put 1 := p_cf.of (p_t1 (List.mem_of_getElem? (i := 157) rfl)) (p_t1 (List.mem_of_getElem? (i := 2) (by decide +kernel))) (by decide +kernel)
theorem imX1_put : Cond.instanceMethod yX1_put ∈ p_ws := p_in (p_t1 (List.mem_of_getElem? (i := 155) (by decide +kernel))) rfl
theorem seX1_put : Cond.selects yX1_put.cls yX1_put yX1_put ∈ p_ws := p_in (p_t1 (List.mem_of_getElem? (i := 156) (by decide +kernel))) rfl
abbrev mX1_addFourBytes : p_M := (yX1_addFourBytes, cX1_addFourBytes, 2, none)
theorem cfX1_addFourBytes : p_cf mX1_addFourBytes 1 := p_cf.of (p_t4 (List.mem_of_getElem? (i := 28) rfl)) (p_t1 (List.mem_of_getElem? (i := 2) (by decide +kernel))) (by decide +kernel)
theorem imX1_addFourBytes : Cond.instanceMethod yX1_addFourBytes ∈ p_ws := p_in (p_t4 (List.mem_of_getElem? (i := 26) (by decide +kernel))) rfl
theorem seX1_addFourBytes : Cond.selects yX1_addFourBytes.cls yX1_addFourBytes yX1_addFourBytes ∈ p_ws := p_in (p_t4 (List.mem_of_getElem? (i := 27) (by decide +kernel))) rfl
abbrev mX1_shorten : p_M := (yX1_shorten, cX1_shorten, 2, none)
theorem cfX1_shorten : p_cf mX1_shorten 1 := p_cf.of (p_t2 (List.mem_of_getElem? (i := 122) rfl)) (p_t1 (List.mem_of_getElem? (i := 2) (by decide +kernel))) (by decide +kernel)
theorem imX1_shorten : Cond.instanceMethod yX1_shorten ∈ p_ws := p_in (p_t2 (List.mem_of_getElem? (i := 120) (by decide +kernel))) rfl
theorem seX1_shorten : Cond.selects yX1_shorten.cls yX1_shorten yX1_shorten ∈ p_ws := p_in (p_t2 (List.mem_of_getElem? (i := 121) (by decide +kernel))) rfl
abbrev mX1_value : p_M := (yX1_value, cX1_value, 2, (some .int))
theorem cfX1_value : p_cf mX1_value 1 := p_cf.of (p_t2 (List.mem_of_getElem? (i := 3) rfl)) (p_t1 (List.mem_of_getElem? (i := 2) (by decide +kernel))) (by decide +kernel)
theorem imX1_value : Cond.instanceMethod yX1_value ∈ p_ws := p_in (p_t2 (List.mem_of_getElem? (i := 1) (by decide +kernel))) rfl
theorem seX1_value : Cond.selects yX1_value.cls yX1_value yX1_value ∈ p_ws := p_in (p_t2 (List.mem_of_getElem? (i := 2) (by decide +kernel))) rfl
abbrev mX1_street : p_M := (yX1_street, cX1_street, 3, (some .int))
theorem cfX1_street : p_cf mX1_street 1 := p_cf.of (p_t4 (List.mem_of_getElem? (i := 136) rfl)) (p_t1 (List.mem_of_getElem? (i := 2) (by decide +kernel))) (by decide +kernel)
theorem imX1_street : Cond.instanceMethod yX1_street ∈ p_ws := p_in (p_t4 (List.mem_of_getElem? (i := 134) (by decide +kernel))) rfl
theorem seX1_street : Cond.selects yX1_street.cls yX1_street yX1_street ∈ p_ws := p_in (p_t4 (List.mem_of_getElem? (i := 135) (by decide +kernel))) rfl
abbrev mX1_addByte : p_M := (yX1_addByte, cX1_addByte, 2, none)
theorem cfX1_addByte : p_cf mX1_addByte 1 := p_cf.of (p_t1 (List.mem_of_getElem? (i := 209) rfl)) (p_t1 (List.mem_of_getElem? (i := 2) (by decide +kernel))) (by decide +kernel)
theorem imX1_addByte : Cond.instanceMethod yX1_addByte ∈ p_ws := p_in (p_t1 (List.mem_of_getElem? (i := 208) (by decide +kernel))) rfl
theorem seX1_addByte : Cond.selects yX1_addByte.cls yX1_addByte yX1_addByte ∈ p_ws := p_in (List.mem_append_left _ (List.mem_of_getElem? (i := 0) (by decide +kernel))) rfl
abbrev mX2_init : p_M := (yX2_init, cX2_init, 2, none)
theorem cfX2_init : p_cf mX2_init 1 := p_cf.of (p_t1 (List.mem_of_getElem? (i := 56) rfl)) (p_t1 (List.mem_of_getElem? (i := 4) (by decide +kernel))) (by decide +kernel)
theorem imX2_init : Cond.instanceMethod yX2_init ∈ p_ws := p_in (p_t1 (List.mem_of_getElem? (i := 55) (by decide +kernel))) rfl
abbrev mX2_makeInner : p_M := (yX2_makeInner, cX2_makeInner, 2, (some (.object "StreetAutomata$Level")))
theorem cfX2_makeInner : p_cf mX2_makeInner 0 := p_cf.of (p_t1 (List.mem_of_getElem? (i := 108) rfl)) (p_t1 (List.mem_of_getElem? (i := 4) (by decide +kernel))) (by decide +kernel)
theorem imX2_makeInner : Cond.instanceMethod yX2_makeInner ∈ p_ws := p_in (p_t1 (List.mem_of_getElem? (i := 106) (by decide +kernel))) rfl
theorem seX2_makeInner : Cond.selects yX2_makeInner.cls yX2_makeInner yX2_makeInner ∈ p_ws := p_in (p_t1 (List.mem_of_getElem? (i := 107) (by decide +kernel))) rfl
abbrev mX2_begin : p_M := (yX2_begin, cX2_begin, 1, none)
theorem cfX2_begin : p_cf mX2_begin 0 := p_cf.of (p_t1 (List.mem_of_getElem? (i := 224) rfl)) (p_t1 (List.mem_of_getElem? (i := 4) (by decide +kernel))) (by decide +kernel)
theorem imX2_begin : Cond.instanceMethod yX2_begin ∈ p_ws := p_in (p_t1 (List.mem_of_getElem? (i := 222) (by decide +kernel))) rfl
theorem seX2_begin : Cond.selects yX2_begin.cls yX2_begin yX2_begin ∈ p_ws := p_in (p_t1 (List.mem_of_getElem? (i := 223) (by decide +kernel))) rfl
abbrev mX2_beginBranch : p_M := (yX2_beginBranch, cX2_beginBranch, 1, none)
theorem cfX2_beginBranch : p_cf mX2_beginBranch 0 := p_cf.of (p_t1 (List.mem_of_getElem? (i := 232) rfl)) (p_t1 (List.mem_of_getElem? (i := 4) (by decide +kernel))) (by decide +kernel)
theorem imX2_beginBranch : Cond.instanceMethod yX2_beginBranch ∈ p_ws := p_in (p_t1 (List.mem_of_getElem? (i := 230) (by decide +kernel))) rfl
theorem seX2_beginBranch : Cond.selects yX2_beginBranch.cls yX2_beginBranch yX2_beginBranch ∈ p_ws := p_in (p_t1 (List.mem_of_getElem? (i := 231) (by decide +kernel))) rfl
abbrev mX2_beginPiece : p_M := (yX2_beginPiece, cX2_beginPiece, 4, none)
theorem cfX2_beginPiece : p_cf mX2_beginPiece 3 := p_cf.of (p_t2 (List.mem_of_getElem? (i := 33) rfl)) (p_t1 (List.mem_of_getElem? (i := 4) (by decide +kernel))) (by decide +kernel)
theorem imX2_beginPiece : Cond.instanceMethod yX2_beginPiece ∈ p_ws := p_in (p_t2 (List.mem_of_getElem? (i := 31) (by decide +kernel))) rfl
theorem seX2_beginPiece : Cond.selects yX2_beginPiece.cls yX2_beginPiece yX2_beginPiece ∈ p_ws := p_in (p_t2 (List.mem_of_getElem? (i := 32) (by decide +kernel))) rfl
abbrev mX3_init : p_M := (yX3_init, cX3_init, 1, none)
theorem cfX3_init : p_cf mX3_init 0 := p_cf.of (p_t2 (List.mem_of_getElem? (i := 186) rfl)) (p_t1 (List.mem_of_getElem? (i := 14) (by decide +kernel))) (by decide +kernel)
theorem imX3_init : Cond.instanceMethod yX3_init ∈ p_ws := p_in (p_t2 (List.mem_of_getElem? (i := 185) (by decide +kernel))) rfl
abbrev mX4_init : p_M := (yX4_init, cX4_init, 1, none)
theorem cfX4_init : p_cf mX4_init 0 := p_cf.of (p_t1 (List.mem_of_getElem? (i := 62) rfl)) (p_t1 (List.mem_of_getElem? (i := 5) (by decide +kernel))) (by decide +kernel)
theorem imX4_init : Cond.instanceMethod yX4_init ∈ p_ws := p_in (p_t1 (List.mem_of_getElem? (i := 61) (by decide +kernel))) rfl
abbrev mX4_set : p_M := (yX4_set, cX4_set, 4, none)
theorem cfX4_set : p_cf mX4_set 3 := p_cf.of (p_t1 (List.mem_of_getElem? (i := 228) rfl)) (p_t1 (List.mem_of_getElem? (i := 5) (by decide +kernel))) (by decide +kernel)
theorem imX4_set : Cond.instanceMethod yX4_set ∈ p_ws := p_in (p_t1 (List.mem_of_getElem? (i := 226) (by decide +kernel))) rfl
theorem seX4_set : Cond.selects yX4_set.cls yX4_set yX4_set ∈ p_ws := p_in (p_t1 (List.mem_of_getElem? (i := 227) (by decide +kernel))) rfl
abbrev mX5_init : p_M := (yX5_init, cX5_init, 3, none)
theorem cfX5_init : p_cf mX5_init 1 := p_cf.of (p_t2 (List.mem_of_getElem? (i := 67) rfl)) (p_t1 (List.mem_of_getElem? (i := 11) (by decide +kernel))) (by decide +kernel)
theorem imX5_init : Cond.instanceMethod yX5_init ∈ p_ws := p_in (p_t2 (List.mem_of_getElem? (i := 66) (by decide +kernel))) rfl
abbrev mX5_streetOf : p_M := (yX5_streetOf, cX5_streetOf, 2, (some .int))
theorem cfX5_streetOf : p_cf mX5_streetOf 1 := p_cf.of (p_t4 (List.mem_of_getElem? (i := 102) rfl)) (p_t1 (List.mem_of_getElem? (i := 11) (by decide +kernel))) (by decide +kernel)
theorem imX5_streetOf : Cond.instanceMethod yX5_streetOf ∈ p_ws := p_in (p_t4 (List.mem_of_getElem? (i := 100) (by decide +kernel))) rfl
theorem seX5_streetOf : Cond.selects yX5_streetOf.cls yX5_streetOf yX5_streetOf ∈ p_ws := p_in (p_t4 (List.mem_of_getElem? (i := 101) (by decide +kernel))) rfl
abbrev mX5_followOf : p_M := (yX5_followOf, cX5_followOf, 2, (some .int))
theorem cfX5_followOf : p_cf mX5_followOf 1 := p_cf.of (p_t4 (List.mem_of_getElem? (i := 94) rfl)) (p_t1 (List.mem_of_getElem? (i := 11) (by decide +kernel))) (by decide +kernel)
theorem imX5_followOf : Cond.instanceMethod yX5_followOf ∈ p_ws := p_in (p_t4 (List.mem_of_getElem? (i := 92) (by decide +kernel))) rfl
theorem seX5_followOf : Cond.selects yX5_followOf.cls yX5_followOf yX5_followOf ∈ p_ws := p_in (p_t4 (List.mem_of_getElem? (i := 93) (by decide +kernel))) rfl
abbrev mX5_after : p_M := (yX5_after, cX5_after, 4, (some .int))
theorem cfX5_after : p_cf mX5_after 2 := p_cf.of (p_t3 (List.mem_of_getElem? (i := 185) rfl)) (p_t1 (List.mem_of_getElem? (i := 11) (by decide +kernel))) (by decide +kernel)
theorem imX5_after : Cond.instanceMethod yX5_after ∈ p_ws := p_in (p_t3 (List.mem_of_getElem? (i := 183) (by decide +kernel))) rfl
theorem seX5_after : Cond.selects yX5_after.cls yX5_after yX5_after ∈ p_ws := p_in (p_t3 (List.mem_of_getElem? (i := 184) (by decide +kernel))) rfl
abbrev mX5_accepts : p_M := (yX5_accepts, cX5_accepts, 2, (some .boolean))
theorem cfX5_accepts : p_cf mX5_accepts 1 := p_cf.of (p_t4 (List.mem_of_getElem? (i := 117) rfl)) (p_t1 (List.mem_of_getElem? (i := 11) (by decide +kernel))) (by decide +kernel)
theorem imX5_accepts : Cond.instanceMethod yX5_accepts ∈ p_ws := p_in (p_t4 (List.mem_of_getElem? (i := 115) (by decide +kernel))) rfl
theorem seX5_accepts : Cond.selects yX5_accepts.cls yX5_accepts yX5_accepts ∈ p_ws := p_in (p_t4 (List.mem_of_getElem? (i := 116) (by decide +kernel))) rfl
abbrev mX5_positionsIn : p_M := (yX5_positionsIn, cX5_positionsIn, 2, (some .int))
theorem cfX5_positionsIn : p_cf mX5_positionsIn 1 := p_cf.of (p_t4 (List.mem_of_getElem? (i := 121) rfl)) (p_t1 (List.mem_of_getElem? (i := 11) (by decide +kernel))) (by decide +kernel)
theorem imX5_positionsIn : Cond.instanceMethod yX5_positionsIn ∈ p_ws := p_in (p_t4 (List.mem_of_getElem? (i := 119) (by decide +kernel))) rfl
theorem seX5_positionsIn : Cond.selects yX5_positionsIn.cls yX5_positionsIn yX5_positionsIn ∈ p_ws := p_in (p_t4 (List.mem_of_getElem? (i := 120) (by decide +kernel))) rfl
abbrev mX6_init : p_M := (yX6_init, cX6_init, 3, none)
theorem cfX6_init : p_cf mX6_init 0 := p_cf.of (p_t1 (List.mem_of_getElem? (i := 50) rfl)) (p_t1 (List.mem_of_getElem? (i := 3) (by decide +kernel))) (by decide +kernel)
theorem imX6_init : Cond.instanceMethod yX6_init ∈ p_ws := p_in (p_t1 (List.mem_of_getElem? (i := 49) (by decide +kernel))) rfl
abbrev mX6_errorOffset : p_M := (yX6_errorOffset, cX6_errorOffset, 1, (some .int))
theorem cfX6_errorOffset : p_cf mX6_errorOffset 0 := p_cf.of (p_t4 (List.mem_of_getElem? (i := 59) rfl)) (p_t1 (List.mem_of_getElem? (i := 3) (by decide +kernel))) (by decide +kernel)
theorem imX6_errorOffset : Cond.instanceMethod yX6_errorOffset ∈ p_ws := p_in (p_t4 (List.mem_of_getElem? (i := 57) (by decide +kernel))) rfl
theorem seX6_errorOffset : Cond.selects yX6_errorOffset.cls yX6_errorOffset yX6_errorOffset ∈ p_ws := p_in (p_t4 (List.mem_of_getElem? (i := 58) (by decide +kernel))) rfl
abbrev mX6_whole : p_M := (yX6_whole, cX6_whole, 1, (some (.object "StreetAutomata$Part")))
theorem cfX6_whole : p_cf mX6_whole 0 := p_cf.of (p_t2 (List.mem_of_getElem? (i := 62) rfl)) (p_t1 (List.mem_of_getElem? (i := 3) (by decide +kernel))) (by decide +kernel)
theorem imX6_whole : Cond.instanceMethod yX6_whole ∈ p_ws := p_in (p_t2 (List.mem_of_getElem? (i := 60) (by decide +kernel))) rfl
theorem seX6_whole : Cond.selects yX6_whole.cls yX6_whole yX6_whole ∈ p_ws := p_in (p_t2 (List.mem_of_getElem? (i := 61) (by decide +kernel))) rfl
abbrev mX6_read : p_M := (yX6_read, cX6_read, 4, (some .int))
theorem cfX6_read : p_cf mX6_read 1 := p_cf.of (p_t1 (List.mem_of_getElem? (i := 216) rfl)) (p_t1 (List.mem_of_getElem? (i := 3) (by decide +kernel))) (by decide +kernel)
theorem imX6_read : Cond.instanceMethod yX6_read ∈ p_ws := p_in (p_t1 (List.mem_of_getElem? (i := 214) (by decide +kernel))) rfl
theorem seX6_read : Cond.selects yX6_read.cls yX6_read yX6_read ∈ p_ws := p_in (p_t1 (List.mem_of_getElem? (i := 215) (by decide +kernel))) rfl
abbrev mX6_begin : p_M := (yX6_begin, cX6_begin, 1, none)
theorem cfX6_begin : p_cf mX6_begin 0 := p_cf.of (p_t1 (List.mem_of_getElem? (i := 220) rfl)) (p_t1 (List.mem_of_getElem? (i := 3) (by decide +kernel))) (by decide +kernel)
theorem imX6_begin : Cond.instanceMethod yX6_begin ∈ p_ws := p_in (p_t1 (List.mem_of_getElem? (i := 219) (by decide +kernel))) rfl
theorem seX6_begin : Cond.selects yX6_begin.cls yX6_begin yX6_begin ∈ p_ws := p_in (List.mem_append_left _ (List.mem_of_getElem? (i := 1) (by decide +kernel))) rfl
abbrev mX6_readByte : p_M := (yX6_readByte, cX6_readByte, 2, (some .int))
theorem cfX6_readByte : p_cf mX6_readByte 1 := p_cf.of (p_t2 (List.mem_of_getElem? (i := 7) rfl)) (p_t1 (List.mem_of_getElem? (i := 3) (by decide +kernel))) (by decide +kernel)
theorem imX6_readByte : Cond.instanceMethod yX6_readByte ∈ p_ws := p_in (p_t2 (List.mem_of_getElem? (i := 6) (by decide +kernel))) rfl
theorem seX6_readByte : Cond.selects yX6_readByte.cls yX6_readByte yX6_readByte ∈ p_ws := p_in (List.mem_append_left _ (List.mem_of_getElem? (i := 2) (by decide +kernel))) rfl
abbrev mX6_readLetter : p_M := (yX6_readLetter, cX6_readLetter, 2, (some .int))
theorem cfX6_readLetter : p_cf mX6_readLetter 1 := p_cf.of (p_t2 (List.mem_of_getElem? (i := 45) rfl)) (p_t1 (List.mem_of_getElem? (i := 3) (by decide +kernel))) (by decide +kernel)
theorem imX6_readLetter : Cond.instanceMethod yX6_readLetter ∈ p_ws := p_in (p_t2 (List.mem_of_getElem? (i := 44) (by decide +kernel))) rfl
theorem seX6_readLetter : Cond.selects yX6_readLetter.cls yX6_readLetter yX6_readLetter ∈ p_ws := p_in (List.mem_append_left _ (List.mem_of_getElem? (i := 10) (by decide +kernel))) rfl
abbrev mX6_readPosition : p_M := (yX6_readPosition, cX6_readPosition, 5, (some .int))
theorem cfX6_readPosition : p_cf mX6_readPosition 2 := p_cf.of (p_t2 (List.mem_of_getElem? (i := 41) rfl)) (p_t1 (List.mem_of_getElem? (i := 3) (by decide +kernel))) (by decide +kernel)
theorem imX6_readPosition : Cond.instanceMethod yX6_readPosition ∈ p_ws := p_in (p_t2 (List.mem_of_getElem? (i := 40) (by decide +kernel))) rfl
theorem seX6_readPosition : Cond.selects yX6_readPosition.cls yX6_readPosition yX6_readPosition ∈ p_ws := p_in (List.mem_append_left _ (List.mem_of_getElem? (i := 9) (by decide +kernel))) rfl
abbrev mX6_openGroup : p_M := (yX6_openGroup, cX6_openGroup, 2, (some .int))
theorem cfX6_openGroup : p_cf mX6_openGroup 0 := p_cf.of (p_t2 (List.mem_of_getElem? (i := 11) rfl)) (p_t1 (List.mem_of_getElem? (i := 3) (by decide +kernel))) (by decide +kernel)
theorem imX6_openGroup : Cond.instanceMethod yX6_openGroup ∈ p_ws := p_in (p_t2 (List.mem_of_getElem? (i := 10) (by decide +kernel))) rfl
theorem seX6_openGroup : Cond.selects yX6_openGroup.cls yX6_openGroup yX6_openGroup ∈ p_ws := p_in (List.mem_append_left _ (List.mem_of_getElem? (i := 3) (by decide +kernel))) rfl
abbrev mX6_closeGroup : p_M := (yX6_closeGroup, cX6_closeGroup, 3, (some .int))
theorem cfX6_closeGroup : p_cf mX6_closeGroup 0 := p_cf.of (p_t2 (List.mem_of_getElem? (i := 24) rfl)) (p_t1 (List.mem_of_getElem? (i := 3) (by decide +kernel))) (by decide +kernel)
theorem imX6_closeGroup : Cond.instanceMethod yX6_closeGroup ∈ p_ws := p_in (p_t2 (List.mem_of_getElem? (i := 23) (by decide +kernel))) rfl
theorem seX6_closeGroup : Cond.selects yX6_closeGroup.cls yX6_closeGroup yX6_closeGroup ∈ p_ws := p_in (List.mem_append_left _ (List.mem_of_getElem? (i := 6) (by decide +kernel))) rfl
abbrev mX6_readOperator : p_M := (yX6_readOperator, cX6_readOperator, 3, (some .int))
theorem cfX6_readOperator : p_cf mX6_readOperator 1 := p_cf.of (p_t2 (List.mem_of_getElem? (i := 37) rfl)) (p_t1 (List.mem_of_getElem? (i := 3) (by decide +kernel))) (by decide +kernel)
theorem imX6_readOperator : Cond.instanceMethod yX6_readOperator ∈ p_ws := p_in (p_t2 (List.mem_of_getElem? (i := 36) (by decide +kernel))) rfl
theorem seX6_readOperator : Cond.selects yX6_readOperator.cls yX6_readOperator yX6_readOperator ∈ p_ws := p_in (List.mem_append_left _ (List.mem_of_getElem? (i := 8) (by decide +kernel))) rfl
abbrev mX6_endPiece : p_M := (yX6_endPiece, cX6_endPiece, 5, none)
theorem cfX6_endPiece : p_cf mX6_endPiece 0 := p_cf.of (p_t2 (List.mem_of_getElem? (i := 15) rfl)) (p_t1 (List.mem_of_getElem? (i := 3) (by decide +kernel))) (by decide +kernel)
theorem imX6_endPiece : Cond.instanceMethod yX6_endPiece ∈ p_ws := p_in (p_t2 (List.mem_of_getElem? (i := 14) (by decide +kernel))) rfl
theorem seX6_endPiece : Cond.selects yX6_endPiece.cls yX6_endPiece yX6_endPiece ∈ p_ws := p_in (List.mem_append_left _ (List.mem_of_getElem? (i := 4) (by decide +kernel))) rfl
abbrev mX6_endBranch : p_M := (yX6_endBranch, cX6_endBranch, 3, none)
theorem cfX6_endBranch : p_cf mX6_endBranch 0 := p_cf.of (p_t2 (List.mem_of_getElem? (i := 28) rfl)) (p_t1 (List.mem_of_getElem? (i := 3) (by decide +kernel))) (by decide +kernel)
theorem imX6_endBranch : Cond.instanceMethod yX6_endBranch ∈ p_ws := p_in (p_t2 (List.mem_of_getElem? (i := 27) (by decide +kernel))) rfl
theorem seX6_endBranch : Cond.selects yX6_endBranch.cls yX6_endBranch yX6_endBranch ∈ p_ws := p_in (List.mem_append_left _ (List.mem_of_getElem? (i := 7) (by decide +kernel))) rfl
abbrev mX6_addFollow : p_M := (yX6_addFollow, cX6_addFollow, 4, none)
theorem cfX6_addFollow : p_cf mX6_addFollow 2 := p_cf.of (p_t2 (List.mem_of_getElem? (i := 19) rfl)) (p_t1 (List.mem_of_getElem? (i := 3) (by decide +kernel))) (by decide +kernel)
theorem imX6_addFollow : Cond.instanceMethod yX6_addFollow ∈ p_ws := p_in (p_t2 (List.mem_of_getElem? (i := 18) (by decide +kernel))) rfl
theorem seX6_addFollow : Cond.selects yX6_addFollow.cls yX6_addFollow yX6_addFollow ∈ p_ws := p_in (List.mem_append_left _ (List.mem_of_getElem? (i := 5) (by decide +kernel))) rfl
abbrev mX6_findStates : p_M := (yX6_findStates, cX6_findStates, 5, (some .boolean))
theorem cfX6_findStates : p_cf mX6_findStates 0 := p_cf.of (p_t2 (List.mem_of_getElem? (i := 50) rfl)) (p_t1 (List.mem_of_getElem? (i := 3) (by decide +kernel))) (by decide +kernel)
theorem imX6_findStates : Cond.instanceMethod yX6_findStates ∈ p_ws := p_in (p_t2 (List.mem_of_getElem? (i := 49) (by decide +kernel))) rfl
theorem seX6_findStates : Cond.selects yX6_findStates.cls yX6_findStates yX6_findStates ∈ p_ws := p_in (List.mem_append_left _ (List.mem_of_getElem? (i := 11) (by decide +kernel))) rfl
abbrev mX6_positionsAfter : p_M := (yX6_positionsAfter, cX6_positionsAfter, 4, (some .int))
theorem cfX6_positionsAfter : p_cf mX6_positionsAfter 1 := p_cf.of (p_t2 (List.mem_of_getElem? (i := 58) rfl)) (p_t1 (List.mem_of_getElem? (i := 3) (by decide +kernel))) (by decide +kernel)
theorem imX6_positionsAfter : Cond.instanceMethod yX6_positionsAfter ∈ p_ws := p_in (p_t2 (List.mem_of_getElem? (i := 57) (by decide +kernel))) rfl
theorem seX6_positionsAfter : Cond.selects yX6_positionsAfter.cls yX6_positionsAfter yX6_positionsAfter ∈ p_ws := p_in (List.mem_append_left _ (List.mem_of_getElem? (i := 13) (by decide +kernel))) rfl
abbrev mX6_stateOfSet : p_M := (yX6_stateOfSet, cX6_stateOfSet, 3, (some .int))
theorem cfX6_stateOfSet : p_cf mX6_stateOfSet 1 := p_cf.of (p_t2 (List.mem_of_getElem? (i := 54) rfl)) (p_t1 (List.mem_of_getElem? (i := 3) (by decide +kernel))) (by decide +kernel)
theorem imX6_stateOfSet : Cond.instanceMethod yX6_stateOfSet ∈ p_ws := p_in (p_t2 (List.mem_of_getElem? (i := 53) (by decide +kernel))) rfl
theorem seX6_stateOfSet : Cond.selects yX6_stateOfSet.cls yX6_stateOfSet yX6_stateOfSet ∈ p_ws := p_in (List.mem_append_left _ (List.mem_of_getElem? (i := 12) (by decide +kernel))) rfl
abbrev mX7_init : p_M := (yX7_init, cX7_init, 1, none)
theorem cfX7_init : p_cf mX7_init 0 := p_cf.of (p_t2 (List.mem_of_getElem? (i := 219) rfl)) (p_t1 (List.mem_of_getElem? (i := 16) (by decide +kernel))) (by decide +kernel)
theorem imX7_init : Cond.instanceMethod yX7_init ∈ p_ws := p_in (p_t2 (List.mem_of_getElem? (i := 218) (by decide +kernel))) rfl
abbrev mX8_init : p_M := (yX8_init, cX8_init, 1, none)
theorem cfX8_init : p_cf mX8_init 0 := p_cf.of (p_t2 (List.mem_of_getElem? (i := 208) rfl)) (p_t1 (List.mem_of_getElem? (i := 15) (by decide +kernel))) (by decide +kernel)
theorem imX8_init : Cond.instanceMethod yX8_init ∈ p_ws := p_in (p_t2 (List.mem_of_getElem? (i := 207) (by decide +kernel))) rfl
abbrev mX8_fill : p_M := (yX8_fill, cX8_fill, 5, none)
theorem cfX8_fill : p_cf mX8_fill 2 := p_cf.of (p_t4 (List.mem_of_getElem? (i := 152) rfl)) (p_t1 (List.mem_of_getElem? (i := 15) (by decide +kernel))) (by decide +kernel)
theorem imX8_fill : Cond.instanceMethod yX8_fill ∈ p_ws := p_in (p_t4 (List.mem_of_getElem? (i := 150) (by decide +kernel))) rfl
theorem seX8_fill : Cond.selects yX8_fill.cls yX8_fill yX8_fill ∈ p_ws := p_in (p_t4 (List.mem_of_getElem? (i := 151) (by decide +kernel))) rfl
abbrev mX8_from : p_M := (yX8_from, cX8_from, 4, (some .long))
theorem cfX8_from : p_cf mX8_from 2 := p_cf.of (p_t4 (List.mem_of_getElem? (i := 167) rfl)) (p_t1 (List.mem_of_getElem? (i := 15) (by decide +kernel))) (by decide +kernel)
theorem imX8_from : Cond.instanceMethod yX8_from ∈ p_ws := p_in (p_t4 (List.mem_of_getElem? (i := 165) (by decide +kernel))) rfl
theorem seX8_from : Cond.selects yX8_from.cls yX8_from yX8_from ∈ p_ws := p_in (p_t4 (List.mem_of_getElem? (i := 166) (by decide +kernel))) rfl
abbrev mX8_wordsBefore : p_M := (yX8_wordsBefore, cX8_wordsBefore, 8, (some .long))
theorem cfX8_wordsBefore : p_cf mX8_wordsBefore 4 := p_cf.of (p_t4 (List.mem_of_getElem? (i := 162) rfl)) (p_t1 (List.mem_of_getElem? (i := 15) (by decide +kernel))) (by decide +kernel)
theorem imX8_wordsBefore : Cond.instanceMethod yX8_wordsBefore ∈ p_ws := p_in (p_t4 (List.mem_of_getElem? (i := 160) (by decide +kernel))) rfl
theorem seX8_wordsBefore : Cond.selects yX8_wordsBefore.cls yX8_wordsBefore yX8_wordsBefore ∈ p_ws := p_in (p_t4 (List.mem_of_getElem? (i := 161) (by decide +kernel))) rfl
abbrev mX8_streetToWord : p_M := (yX8_streetToWord, cX8_streetToWord, 7, (some .int))
theorem cfX8_streetToWord : p_cf mX8_streetToWord 4 := p_cf.of (p_t4 (List.mem_of_getElem? (i := 176) rfl)) (p_t1 (List.mem_of_getElem? (i := 15) (by decide +kernel))) (by decide +kernel)
theorem imX8_streetToWord : Cond.instanceMethod yX8_streetToWord ∈ p_ws := p_in (p_t4 (List.mem_of_getElem? (i := 174) (by decide +kernel))) rfl
theorem seX8_streetToWord : Cond.selects yX8_streetToWord.cls yX8_streetToWord yX8_streetToWord ∈ p_ws := p_in (p_t4 (List.mem_of_getElem? (i := 175) (by decide +kernel))) rfl
abbrev mX8_put : p_M := (yX8_put, cX8_put, 6, none)
theorem cfX8_put : p_cf mX8_put 3 := p_cf.of (p_t4 (List.mem_of_getElem? (i := 157) rfl)) (p_t1 (List.mem_of_getElem? (i := 15) (by decide +kernel))) (by decide +kernel)
theorem imX8_put : Cond.instanceMethod yX8_put ∈ p_ws := p_in (p_t4 (List.mem_of_getElem? (i := 156) (by decide +kernel))) rfl
theorem seX8_put : Cond.selects yX8_put.cls yX8_put yX8_put ∈ p_ws := p_in (List.mem_append_left _ (List.mem_of_getElem? (i := 18) (by decide +kernel))) rfl
abbrev mX9_init : p_M := (yX9_init, cX9_init, 3, none)
theorem cfX9_init : p_cf mX9_init 2 := p_cf.of (p_t2 (List.mem_of_getElem? (i := 127) rfl)) (p_t1 (List.mem_of_getElem? (i := 12) (by decide +kernel))) (by decide +kernel)
theorem imX9_init : Cond.instanceMethod yX9_init ∈ p_ws := p_in (p_t2 (List.mem_of_getElem? (i := 126) (by decide +kernel))) rfl
abbrev mX9_copyFrom : p_M := (yX9_copyFrom, cX9_copyFrom, 3, none)
theorem cfX9_copyFrom : p_cf mX9_copyFrom 1 := p_cf.of (p_t3 (List.mem_of_getElem? (i := 131) rfl)) (p_t1 (List.mem_of_getElem? (i := 12) (by decide +kernel))) (by decide +kernel)
theorem imX9_copyFrom : Cond.instanceMethod yX9_copyFrom ∈ p_ws := p_in (p_t3 (List.mem_of_getElem? (i := 129) (by decide +kernel))) rfl
theorem seX9_copyFrom : Cond.selects yX9_copyFrom.cls yX9_copyFrom yX9_copyFrom ∈ p_ws := p_in (p_t3 (List.mem_of_getElem? (i := 130) (by decide +kernel))) rfl
abbrev mX9_pattern : p_M := (yX9_pattern, cX9_pattern, 2, (some (.object "StreetAutomata$Pattern")))
theorem cfX9_pattern : p_cf mX9_pattern 1 := p_cf.of (p_t3 (List.mem_of_getElem? (i := 181) rfl)) (p_t1 (List.mem_of_getElem? (i := 12) (by decide +kernel))) (by decide +kernel)
theorem imX9_pattern : Cond.instanceMethod yX9_pattern ∈ p_ws := p_in (p_t3 (List.mem_of_getElem? (i := 179) (by decide +kernel))) rfl
theorem seX9_pattern : Cond.selects yX9_pattern.cls yX9_pattern yX9_pattern ∈ p_ws := p_in (p_t3 (List.mem_of_getElem? (i := 180) (by decide +kernel))) rfl
abbrev mX9_patternOfWalker : p_M := (yX9_patternOfWalker, cX9_patternOfWalker, 2, (some (.object "StreetAutomata$Pattern")))
theorem cfX9_patternOfWalker : p_cf mX9_patternOfWalker 1 := p_cf.of (p_t3 (List.mem_of_getElem? (i := 173) rfl)) (p_t1 (List.mem_of_getElem? (i := 12) (by decide +kernel))) (by decide +kernel)
theorem imX9_patternOfWalker : Cond.instanceMethod yX9_patternOfWalker ∈ p_ws := p_in (p_t3 (List.mem_of_getElem? (i := 171) (by decide +kernel))) rfl
theorem seX9_patternOfWalker : Cond.selects yX9_patternOfWalker.cls yX9_patternOfWalker yX9_patternOfWalker ∈ p_ws := p_in (p_t3 (List.mem_of_getElem? (i := 172) (by decide +kernel))) rfl
abbrev mX9_putPattern : p_M := (yX9_putPattern, cX9_putPattern, 4, none)
theorem cfX9_putPattern : p_cf mX9_putPattern 2 := p_cf.of (p_t4 (List.mem_of_getElem? (i := 63) rfl)) (p_t1 (List.mem_of_getElem? (i := 12) (by decide +kernel))) (by decide +kernel)
theorem imX9_putPattern : Cond.instanceMethod yX9_putPattern ∈ p_ws := p_in (p_t4 (List.mem_of_getElem? (i := 61) (by decide +kernel))) rfl
theorem seX9_putPattern : Cond.selects yX9_putPattern.cls yX9_putPattern yX9_putPattern ∈ p_ws := p_in (p_t4 (List.mem_of_getElem? (i := 62) (by decide +kernel))) rfl
abbrev mX9_openStreets : p_M := (yX9_openStreets, cX9_openStreets, 1, (some .int))
theorem cfX9_openStreets : p_cf mX9_openStreets 0 := p_cf.of (p_t3 (List.mem_of_getElem? (i := 164) rfl)) (p_t1 (List.mem_of_getElem? (i := 12) (by decide +kernel))) (by decide +kernel)
theorem imX9_openStreets : Cond.instanceMethod yX9_openStreets ∈ p_ws := p_in (p_t3 (List.mem_of_getElem? (i := 162) (by decide +kernel))) rfl
theorem seX9_openStreets : Cond.selects yX9_openStreets.cls yX9_openStreets yX9_openStreets ∈ p_ws := p_in (p_t3 (List.mem_of_getElem? (i := 163) (by decide +kernel))) rfl
abbrev mX9_isOpen : p_M := (yX9_isOpen, cX9_isOpen, 2, (some .boolean))
theorem cfX9_isOpen : p_cf mX9_isOpen 1 := p_cf.of (p_t3 (List.mem_of_getElem? (i := 160) rfl)) (p_t1 (List.mem_of_getElem? (i := 12) (by decide +kernel))) (by decide +kernel)
theorem imX9_isOpen : Cond.instanceMethod yX9_isOpen ∈ p_ws := p_in (p_t3 (List.mem_of_getElem? (i := 158) (by decide +kernel))) rfl
theorem seX9_isOpen : Cond.selects yX9_isOpen.cls yX9_isOpen yX9_isOpen ∈ p_ws := p_in (p_t3 (List.mem_of_getElem? (i := 159) (by decide +kernel))) rfl
abbrev mX9_slotOf : p_M := (yX9_slotOf, cX9_slotOf, 2, (some .int))
theorem cfX9_slotOf : p_cf mX9_slotOf 1 := p_cf.of (p_t3 (List.mem_of_getElem? (i := 177) rfl)) (p_t1 (List.mem_of_getElem? (i := 12) (by decide +kernel))) (by decide +kernel)
theorem imX9_slotOf : Cond.instanceMethod yX9_slotOf ∈ p_ws := p_in (p_t3 (List.mem_of_getElem? (i := 175) (by decide +kernel))) rfl
theorem seX9_slotOf : Cond.selects yX9_slotOf.cls yX9_slotOf yX9_slotOf ∈ p_ws := p_in (p_t3 (List.mem_of_getElem? (i := 176) (by decide +kernel))) rfl
abbrev mX9_stateOf : p_M := (yX9_stateOf, cX9_stateOf, 2, (some .int))
theorem cfX9_stateOf : p_cf mX9_stateOf 1 := p_cf.of (p_t3 (List.mem_of_getElem? (i := 190) rfl)) (p_t1 (List.mem_of_getElem? (i := 12) (by decide +kernel))) (by decide +kernel)
theorem imX9_stateOf : Cond.instanceMethod yX9_stateOf ∈ p_ws := p_in (p_t3 (List.mem_of_getElem? (i := 188) (by decide +kernel))) rfl
theorem seX9_stateOf : Cond.selects yX9_stateOf.cls yX9_stateOf yX9_stateOf ∈ p_ws := p_in (p_t3 (List.mem_of_getElem? (i := 189) (by decide +kernel))) rfl
abbrev mX9_stepsOf : p_M := (yX9_stepsOf, cX9_stepsOf, 2, (some .int))
theorem cfX9_stepsOf : p_cf mX9_stepsOf 1 := p_cf.of (p_t4 (List.mem_of_getElem? (i := 9) rfl)) (p_t1 (List.mem_of_getElem? (i := 12) (by decide +kernel))) (by decide +kernel)
theorem imX9_stepsOf : Cond.instanceMethod yX9_stepsOf ∈ p_ws := p_in (p_t4 (List.mem_of_getElem? (i := 7) (by decide +kernel))) rfl
theorem seX9_stepsOf : Cond.selects yX9_stepsOf.cls yX9_stepsOf yX9_stepsOf ∈ p_ws := p_in (p_t4 (List.mem_of_getElem? (i := 8) (by decide +kernel))) rfl
abbrev mX9_bringWalker : p_M := (yX9_bringWalker, cX9_bringWalker, 3, (some .int))
theorem cfX9_bringWalker : p_cf mX9_bringWalker 1 := p_cf.of (p_t3 (List.mem_of_getElem? (i := 138) rfl)) (p_t1 (List.mem_of_getElem? (i := 12) (by decide +kernel))) (by decide +kernel)
theorem imX9_bringWalker : Cond.instanceMethod yX9_bringWalker ∈ p_ws := p_in (p_t3 (List.mem_of_getElem? (i := 136) (by decide +kernel))) rfl
theorem seX9_bringWalker : Cond.selects yX9_bringWalker.cls yX9_bringWalker yX9_bringWalker ∈ p_ws := p_in (p_t3 (List.mem_of_getElem? (i := 137) (by decide +kernel))) rfl
abbrev mX9_moveWalker : p_M := (yX9_moveWalker, cX9_moveWalker, 3, none)
theorem cfX9_moveWalker : p_cf mX9_moveWalker 2 := p_cf.of (p_t3 (List.mem_of_getElem? (i := 169) rfl)) (p_t1 (List.mem_of_getElem? (i := 12) (by decide +kernel))) (by decide +kernel)
theorem imX9_moveWalker : Cond.instanceMethod yX9_moveWalker ∈ p_ws := p_in (p_t3 (List.mem_of_getElem? (i := 167) (by decide +kernel))) rfl
theorem seX9_moveWalker : Cond.selects yX9_moveWalker.cls yX9_moveWalker yX9_moveWalker ∈ p_ws := p_in (p_t3 (List.mem_of_getElem? (i := 168) (by decide +kernel))) rfl
abbrev mX9_beginAnew : p_M := (yX9_beginAnew, cX9_beginAnew, 2, none)
theorem cfX9_beginAnew : p_cf mX9_beginAnew 1 := p_cf.of (p_t3 (List.mem_of_getElem? (i := 143) rfl)) (p_t1 (List.mem_of_getElem? (i := 12) (by decide +kernel))) (by decide +kernel)
theorem imX9_beginAnew : Cond.instanceMethod yX9_beginAnew ∈ p_ws := p_in (p_t3 (List.mem_of_getElem? (i := 141) (by decide +kernel))) rfl
theorem seX9_beginAnew : Cond.selects yX9_beginAnew.cls yX9_beginAnew yX9_beginAnew ∈ p_ws := p_in (p_t3 (List.mem_of_getElem? (i := 142) (by decide +kernel))) rfl
abbrev mX10_init : p_M := (yX10_init, cX10_init, 5, none)
theorem cfX10_init : p_cf mX10_init 0 := p_cf.of (p_t1 (List.mem_of_getElem? (i := 28) rfl)) (p_t1 (List.mem_of_getElem? (i := 1) (by decide +kernel))) (by decide +kernel)
theorem imX10_init : Cond.instanceMethod yX10_init ∈ p_ws := p_in (p_t1 (List.mem_of_getElem? (i := 27) (by decide +kernel))) rfl
abbrev mX10_append : p_M := (yX10_append, cX10_append, 6, (some .int))
theorem cfX10_append : p_cf mX10_append 5 := p_cf.of (p_t4 (List.mem_of_getElem? (i := 23) rfl)) (p_t1 (List.mem_of_getElem? (i := 1) (by decide +kernel))) (by decide +kernel)
theorem imX10_append : Cond.instanceMethod yX10_append ∈ p_ws := p_in (p_t4 (List.mem_of_getElem? (i := 21) (by decide +kernel))) rfl
theorem seX10_append : Cond.selects yX10_append.cls yX10_append yX10_append ∈ p_ws := p_in (p_t4 (List.mem_of_getElem? (i := 22) (by decide +kernel))) rfl
abbrev mX10_truncateInput : p_M := (yX10_truncateInput, cX10_truncateInput, 2, (some .int))
theorem cfX10_truncateInput : p_cf mX10_truncateInput 1 := p_cf.of (p_t4 (List.mem_of_getElem? (i := 35) rfl)) (p_t1 (List.mem_of_getElem? (i := 1) (by decide +kernel))) (by decide +kernel)
theorem imX10_truncateInput : Cond.instanceMethod yX10_truncateInput ∈ p_ws := p_in (p_t4 (List.mem_of_getElem? (i := 33) (by decide +kernel))) rfl
theorem seX10_truncateInput : Cond.selects yX10_truncateInput.cls yX10_truncateInput yX10_truncateInput ∈ p_ws := p_in (p_t4 (List.mem_of_getElem? (i := 34) (by decide +kernel))) rfl
abbrev mX10_compile : p_M := (yX10_compile, cX10_compile, 3, (some .int))
theorem cfX10_compile : p_cf mX10_compile 1 := p_cf.of (p_t4 (List.mem_of_getElem? (i := 55) rfl)) (p_t1 (List.mem_of_getElem? (i := 1) (by decide +kernel))) (by decide +kernel)
theorem imX10_compile : Cond.instanceMethod yX10_compile ∈ p_ws := p_in (p_t4 (List.mem_of_getElem? (i := 53) (by decide +kernel))) rfl
theorem seX10_compile : Cond.selects yX10_compile.cls yX10_compile yX10_compile ∈ p_ws := p_in (p_t4 (List.mem_of_getElem? (i := 54) (by decide +kernel))) rfl
abbrev mX10_addWalker : p_M := (yX10_addWalker, cX10_addWalker, 2, (some .int))
theorem cfX10_addWalker : p_cf mX10_addWalker 1 := p_cf.of (p_t3 (List.mem_of_getElem? (i := 35) rfl)) (p_t1 (List.mem_of_getElem? (i := 1) (by decide +kernel))) (by decide +kernel)
theorem imX10_addWalker : Cond.instanceMethod yX10_addWalker ∈ p_ws := p_in (p_t3 (List.mem_of_getElem? (i := 33) (by decide +kernel))) rfl
theorem seX10_addWalker : Cond.selects yX10_addWalker.cls yX10_addWalker yX10_addWalker ∈ p_ws := p_in (p_t3 (List.mem_of_getElem? (i := 34) (by decide +kernel))) rfl
abbrev mX10_step : p_M := (yX10_step, cX10_step, 3, (some .int))
theorem cfX10_step : p_cf mX10_step 2 := p_cf.of (p_t3 (List.mem_of_getElem? (i := 147) rfl)) (p_t1 (List.mem_of_getElem? (i := 1) (by decide +kernel))) (by decide +kernel)
theorem imX10_step : Cond.instanceMethod yX10_step ∈ p_ws := p_in (p_t3 (List.mem_of_getElem? (i := 145) (by decide +kernel))) rfl
theorem seX10_step : Cond.selects yX10_step.cls yX10_step yX10_step ∈ p_ws := p_in (p_t3 (List.mem_of_getElem? (i := 146) (by decide +kernel))) rfl
abbrev mX10_undo : p_M := (yX10_undo, cX10_undo, 1, (some .int))
theorem cfX10_undo : p_cf mX10_undo 0 := p_cf.of (p_t3 (List.mem_of_getElem? (i := 194) rfl)) (p_t1 (List.mem_of_getElem? (i := 1) (by decide +kernel))) (by decide +kernel)
theorem imX10_undo : Cond.instanceMethod yX10_undo ∈ p_ws := p_in (p_t3 (List.mem_of_getElem? (i := 192) (by decide +kernel))) rfl
theorem seX10_undo : Cond.selects yX10_undo.cls yX10_undo yX10_undo ∈ p_ws := p_in (p_t3 (List.mem_of_getElem? (i := 193) (by decide +kernel))) rfl
abbrev mX10_undoCount : p_M := (yX10_undoCount, cX10_undoCount, 1, (some .int))
theorem cfX10_undoCount : p_cf mX10_undoCount 0 := p_cf.of (p_t3 (List.mem_of_getElem? (i := 206) rfl)) (p_t1 (List.mem_of_getElem? (i := 1) (by decide +kernel))) (by decide +kernel)
theorem imX10_undoCount : Cond.instanceMethod yX10_undoCount ∈ p_ws := p_in (p_t3 (List.mem_of_getElem? (i := 204) (by decide +kernel))) rfl
theorem seX10_undoCount : Cond.selects yX10_undoCount.cls yX10_undoCount yX10_undoCount ∈ p_ws := p_in (p_t3 (List.mem_of_getElem? (i := 205) (by decide +kernel))) rfl
abbrev mX10_patternErrorKind : p_M := (yX10_patternErrorKind, cX10_patternErrorKind, 1, (some .int))
theorem cfX10_patternErrorKind : p_cf mX10_patternErrorKind 0 := p_cf.of (p_t3 (List.mem_of_getElem? (i := 210) rfl)) (p_t1 (List.mem_of_getElem? (i := 1) (by decide +kernel))) (by decide +kernel)
theorem imX10_patternErrorKind : Cond.instanceMethod yX10_patternErrorKind ∈ p_ws := p_in (p_t3 (List.mem_of_getElem? (i := 208) (by decide +kernel))) rfl
theorem seX10_patternErrorKind : Cond.selects yX10_patternErrorKind.cls yX10_patternErrorKind yX10_patternErrorKind ∈ p_ws := p_in (p_t3 (List.mem_of_getElem? (i := 209) (by decide +kernel))) rfl
abbrev mX10_patternErrorOffset : p_M := (yX10_patternErrorOffset, cX10_patternErrorOffset, 1, (some .int))
theorem cfX10_patternErrorOffset : p_cf mX10_patternErrorOffset 0 := p_cf.of (p_t3 (List.mem_of_getElem? (i := 214) rfl)) (p_t1 (List.mem_of_getElem? (i := 1) (by decide +kernel))) (by decide +kernel)
theorem imX10_patternErrorOffset : Cond.instanceMethod yX10_patternErrorOffset ∈ p_ws := p_in (p_t3 (List.mem_of_getElem? (i := 212) (by decide +kernel))) rfl
theorem seX10_patternErrorOffset : Cond.selects yX10_patternErrorOffset.cls yX10_patternErrorOffset yX10_patternErrorOffset ∈ p_ws := p_in (p_t3 (List.mem_of_getElem? (i := 213) (by decide +kernel))) rfl
abbrev mX10_positionCount : p_M := (yX10_positionCount, cX10_positionCount, 2, (some .int))
theorem cfX10_positionCount : p_cf mX10_positionCount 1 := p_cf.of (p_t4 (List.mem_of_getElem? (i := 82) rfl)) (p_t1 (List.mem_of_getElem? (i := 1) (by decide +kernel))) (by decide +kernel)
theorem imX10_positionCount : Cond.instanceMethod yX10_positionCount ∈ p_ws := p_in (p_t4 (List.mem_of_getElem? (i := 80) (by decide +kernel))) rfl
theorem seX10_positionCount : Cond.selects yX10_positionCount.cls yX10_positionCount yX10_positionCount ∈ p_ws := p_in (p_t4 (List.mem_of_getElem? (i := 81) (by decide +kernel))) rfl
abbrev mX10_streetAt : p_M := (yX10_streetAt, cX10_streetAt, 4, (some .int))
theorem cfX10_streetAt : p_cf mX10_streetAt 2 := p_cf.of (p_t4 (List.mem_of_getElem? (i := 98) rfl)) (p_t1 (List.mem_of_getElem? (i := 1) (by decide +kernel))) (by decide +kernel)
theorem imX10_streetAt : Cond.instanceMethod yX10_streetAt ∈ p_ws := p_in (p_t4 (List.mem_of_getElem? (i := 96) (by decide +kernel))) rfl
theorem seX10_streetAt : Cond.selects yX10_streetAt.cls yX10_streetAt yX10_streetAt ∈ p_ws := p_in (p_t4 (List.mem_of_getElem? (i := 97) (by decide +kernel))) rfl
abbrev mX10_acceptsEmptyWord : p_M := (yX10_acceptsEmptyWord, cX10_acceptsEmptyWord, 2, (some .boolean))
theorem cfX10_acceptsEmptyWord : p_cf mX10_acceptsEmptyWord 1 := p_cf.of (p_t4 (List.mem_of_getElem? (i := 74) rfl)) (p_t1 (List.mem_of_getElem? (i := 1) (by decide +kernel))) (by decide +kernel)
theorem imX10_acceptsEmptyWord : Cond.instanceMethod yX10_acceptsEmptyWord ∈ p_ws := p_in (p_t4 (List.mem_of_getElem? (i := 72) (by decide +kernel))) rfl
theorem seX10_acceptsEmptyWord : Cond.selects yX10_acceptsEmptyWord.cls yX10_acceptsEmptyWord yX10_acceptsEmptyWord ∈ p_ws := p_in (p_t4 (List.mem_of_getElem? (i := 73) (by decide +kernel))) rfl
abbrev mX10_firstPositions : p_M := (yX10_firstPositions, cX10_firstPositions, 2, (some .int))
theorem cfX10_firstPositions : p_cf mX10_firstPositions 1 := p_cf.of (p_t4 (List.mem_of_getElem? (i := 78) rfl)) (p_t1 (List.mem_of_getElem? (i := 1) (by decide +kernel))) (by decide +kernel)
theorem imX10_firstPositions : Cond.instanceMethod yX10_firstPositions ∈ p_ws := p_in (p_t4 (List.mem_of_getElem? (i := 76) (by decide +kernel))) rfl
theorem seX10_firstPositions : Cond.selects yX10_firstPositions.cls yX10_firstPositions yX10_firstPositions ∈ p_ws := p_in (p_t4 (List.mem_of_getElem? (i := 77) (by decide +kernel))) rfl
abbrev mX10_lastPositions : p_M := (yX10_lastPositions, cX10_lastPositions, 2, (some .int))
theorem cfX10_lastPositions : p_cf mX10_lastPositions 1 := p_cf.of (p_t4 (List.mem_of_getElem? (i := 106) rfl)) (p_t1 (List.mem_of_getElem? (i := 1) (by decide +kernel))) (by decide +kernel)
theorem imX10_lastPositions : Cond.instanceMethod yX10_lastPositions ∈ p_ws := p_in (p_t4 (List.mem_of_getElem? (i := 104) (by decide +kernel))) rfl
theorem seX10_lastPositions : Cond.selects yX10_lastPositions.cls yX10_lastPositions yX10_lastPositions ∈ p_ws := p_in (p_t4 (List.mem_of_getElem? (i := 105) (by decide +kernel))) rfl
abbrev mX10_followPositions : p_M := (yX10_followPositions, cX10_followPositions, 4, (some .int))
theorem cfX10_followPositions : p_cf mX10_followPositions 2 := p_cf.of (p_t4 (List.mem_of_getElem? (i := 86) rfl)) (p_t1 (List.mem_of_getElem? (i := 1) (by decide +kernel))) (by decide +kernel)
theorem imX10_followPositions : Cond.instanceMethod yX10_followPositions ∈ p_ws := p_in (p_t4 (List.mem_of_getElem? (i := 84) (by decide +kernel))) rfl
theorem seX10_followPositions : Cond.selects yX10_followPositions.cls yX10_followPositions yX10_followPositions ∈ p_ws := p_in (p_t4 (List.mem_of_getElem? (i := 85) (by decide +kernel))) rfl
abbrev mX10_stateCount : p_M := (yX10_stateCount, cX10_stateCount, 2, (some .int))
theorem cfX10_stateCount : p_cf mX10_stateCount 1 := p_cf.of (p_t4 (List.mem_of_getElem? (i := 200) rfl)) (p_t1 (List.mem_of_getElem? (i := 1) (by decide +kernel))) (by decide +kernel)
theorem imX10_stateCount : Cond.instanceMethod yX10_stateCount ∈ p_ws := p_in (p_t4 (List.mem_of_getElem? (i := 198) (by decide +kernel))) rfl
theorem seX10_stateCount : Cond.selects yX10_stateCount.cls yX10_stateCount yX10_stateCount ∈ p_ws := p_in (p_t4 (List.mem_of_getElem? (i := 199) (by decide +kernel))) rfl
abbrev mX10_transition : p_M := (yX10_transition, cX10_transition, 5, (some .int))
theorem cfX10_transition : p_cf mX10_transition 3 := p_cf.of (p_t3 (List.mem_of_getElem? (i := 218) rfl)) (p_t1 (List.mem_of_getElem? (i := 1) (by decide +kernel))) (by decide +kernel)
theorem imX10_transition : Cond.instanceMethod yX10_transition ∈ p_ws := p_in (p_t3 (List.mem_of_getElem? (i := 216) (by decide +kernel))) rfl
theorem seX10_transition : Cond.selects yX10_transition.cls yX10_transition yX10_transition ∈ p_ws := p_in (p_t3 (List.mem_of_getElem? (i := 217) (by decide +kernel))) rfl
abbrev mX10_isAccepting : p_M := (yX10_isAccepting, cX10_isAccepting, 4, (some .boolean))
theorem cfX10_isAccepting : p_cf mX10_isAccepting 2 := p_cf.of (p_t4 (List.mem_of_getElem? (i := 113) rfl)) (p_t1 (List.mem_of_getElem? (i := 1) (by decide +kernel))) (by decide +kernel)
theorem imX10_isAccepting : Cond.instanceMethod yX10_isAccepting ∈ p_ws := p_in (p_t4 (List.mem_of_getElem? (i := 111) (by decide +kernel))) rfl
theorem seX10_isAccepting : Cond.selects yX10_isAccepting.cls yX10_isAccepting yX10_isAccepting ∈ p_ws := p_in (p_t4 (List.mem_of_getElem? (i := 112) (by decide +kernel))) rfl
abbrev mX10_statePositions : p_M := (yX10_statePositions, cX10_statePositions, 4, (some .int))
theorem cfX10_statePositions : p_cf mX10_statePositions 2 := p_cf.of (p_t4 (List.mem_of_getElem? (i := 204) rfl)) (p_t1 (List.mem_of_getElem? (i := 1) (by decide +kernel))) (by decide +kernel)
theorem imX10_statePositions : Cond.instanceMethod yX10_statePositions ∈ p_ws := p_in (p_t4 (List.mem_of_getElem? (i := 202) (by decide +kernel))) rfl
theorem seX10_statePositions : Cond.selects yX10_statePositions.cls yX10_statePositions yX10_statePositions ∈ p_ws := p_in (p_t4 (List.mem_of_getElem? (i := 203) (by decide +kernel))) rfl
abbrev mX10_acceptsInput : p_M := (yX10_acceptsInput, cX10_acceptsInput, 3, (some .boolean))
theorem cfX10_acceptsInput : p_cf mX10_acceptsInput 1 := p_cf.of (p_t4 (List.mem_of_getElem? (i := 128) rfl)) (p_t1 (List.mem_of_getElem? (i := 1) (by decide +kernel))) (by decide +kernel)
theorem imX10_acceptsInput : Cond.instanceMethod yX10_acceptsInput ∈ p_ws := p_in (p_t4 (List.mem_of_getElem? (i := 126) (by decide +kernel))) rfl
theorem seX10_acceptsInput : Cond.selects yX10_acceptsInput.cls yX10_acceptsInput yX10_acceptsInput ∈ p_ws := p_in (p_t4 (List.mem_of_getElem? (i := 127) (by decide +kernel))) rfl
abbrev mX10_wordCount : p_M := (yX10_wordCount, cX10_wordCount, 4, (some .long))
theorem cfX10_wordCount : p_cf mX10_wordCount 2 := p_cf.of (p_t4 (List.mem_of_getElem? (i := 144) rfl)) (p_t1 (List.mem_of_getElem? (i := 1) (by decide +kernel))) (by decide +kernel)
theorem imX10_wordCount : Cond.instanceMethod yX10_wordCount ∈ p_ws := p_in (p_t4 (List.mem_of_getElem? (i := 142) (by decide +kernel))) rfl
theorem seX10_wordCount : Cond.selects yX10_wordCount.cls yX10_wordCount yX10_wordCount ∈ p_ws := p_in (p_t4 (List.mem_of_getElem? (i := 143) (by decide +kernel))) rfl
abbrev mX10_isPassable : p_M := (yX10_isPassable, cX10_isPassable, 2, (some .boolean))
theorem cfX10_isPassable : p_cf mX10_isPassable 1 := p_cf.of (p_t4 (List.mem_of_getElem? (i := 212) rfl)) (p_t1 (List.mem_of_getElem? (i := 1) (by decide +kernel))) (by decide +kernel)
theorem imX10_isPassable : Cond.instanceMethod yX10_isPassable ∈ p_ws := p_in (p_t4 (List.mem_of_getElem? (i := 210) (by decide +kernel))) rfl
theorem seX10_isPassable : Cond.selects yX10_isPassable.cls yX10_isPassable yX10_isPassable ∈ p_ws := p_in (p_t4 (List.mem_of_getElem? (i := 211) (by decide +kernel))) rfl
abbrev mX10_isNight : p_M := (yX10_isNight, cX10_isNight, 1, (some .boolean))
theorem cfX10_isNight : p_cf mX10_isNight 0 := p_cf.of (p_t4 (List.mem_of_getElem? (i := 194) rfl)) (p_t1 (List.mem_of_getElem? (i := 1) (by decide +kernel))) (by decide +kernel)
theorem imX10_isNight : Cond.instanceMethod yX10_isNight ∈ p_ws := p_in (p_t4 (List.mem_of_getElem? (i := 192) (by decide +kernel))) rfl
theorem seX10_isNight : Cond.selects yX10_isNight.cls yX10_isNight yX10_isNight ∈ p_ws := p_in (p_t4 (List.mem_of_getElem? (i := 193) (by decide +kernel))) rfl
abbrev mX10_walkerCount : p_M := (yX10_walkerCount, cX10_walkerCount, 1, (some .int))
theorem cfX10_walkerCount : p_cf mX10_walkerCount 0 := p_cf.of (p_t3 (List.mem_of_getElem? (i := 232) rfl)) (p_t1 (List.mem_of_getElem? (i := 1) (by decide +kernel))) (by decide +kernel)
theorem imX10_walkerCount : Cond.instanceMethod yX10_walkerCount ∈ p_ws := p_in (p_t3 (List.mem_of_getElem? (i := 230) (by decide +kernel))) rfl
theorem seX10_walkerCount : Cond.selects yX10_walkerCount.cls yX10_walkerCount yX10_walkerCount ∈ p_ws := p_in (p_t3 (List.mem_of_getElem? (i := 231) (by decide +kernel))) rfl
abbrev mX10_walkerSlot : p_M := (yX10_walkerSlot, cX10_walkerSlot, 2, (some .int))
theorem cfX10_walkerSlot : p_cf mX10_walkerSlot 1 := p_cf.of (p_t3 (List.mem_of_getElem? (i := 236) rfl)) (p_t1 (List.mem_of_getElem? (i := 1) (by decide +kernel))) (by decide +kernel)
theorem imX10_walkerSlot : Cond.instanceMethod yX10_walkerSlot ∈ p_ws := p_in (p_t3 (List.mem_of_getElem? (i := 234) (by decide +kernel))) rfl
theorem seX10_walkerSlot : Cond.selects yX10_walkerSlot.cls yX10_walkerSlot yX10_walkerSlot ∈ p_ws := p_in (p_t3 (List.mem_of_getElem? (i := 235) (by decide +kernel))) rfl
abbrev mX10_walkerState : p_M := (yX10_walkerState, cX10_walkerState, 2, (some .int))
theorem cfX10_walkerState : p_cf mX10_walkerState 1 := p_cf.of (p_t4 (List.mem_of_getElem? (i := 1) rfl)) (p_t1 (List.mem_of_getElem? (i := 1) (by decide +kernel))) (by decide +kernel)
theorem imX10_walkerState : Cond.instanceMethod yX10_walkerState ∈ p_ws := p_in (p_t3 (List.mem_of_getElem? (i := 239) (by decide +kernel))) rfl
theorem seX10_walkerState : Cond.selects yX10_walkerState.cls yX10_walkerState yX10_walkerState ∈ p_ws := p_in (p_t4 (List.mem_of_getElem? (i := 0) (by decide +kernel))) rfl
abbrev mX10_walkerSteps : p_M := (yX10_walkerSteps, cX10_walkerSteps, 2, (some .int))
theorem cfX10_walkerSteps : p_cf mX10_walkerSteps 1 := p_cf.of (p_t4 (List.mem_of_getElem? (i := 5) rfl)) (p_t1 (List.mem_of_getElem? (i := 1) (by decide +kernel))) (by decide +kernel)
theorem imX10_walkerSteps : Cond.instanceMethod yX10_walkerSteps ∈ p_ws := p_in (p_t4 (List.mem_of_getElem? (i := 3) (by decide +kernel))) rfl
theorem seX10_walkerSteps : Cond.selects yX10_walkerSteps.cls yX10_walkerSteps yX10_walkerSteps ∈ p_ws := p_in (p_t4 (List.mem_of_getElem? (i := 4) (by decide +kernel))) rfl
abbrev mX10_totalSteps : p_M := (yX10_totalSteps, cX10_totalSteps, 1, (some .int))
theorem cfX10_totalSteps : p_cf mX10_totalSteps 0 := p_cf.of (p_t4 (List.mem_of_getElem? (i := 13) rfl)) (p_t1 (List.mem_of_getElem? (i := 1) (by decide +kernel))) (by decide +kernel)
theorem imX10_totalSteps : Cond.instanceMethod yX10_totalSteps ∈ p_ws := p_in (p_t4 (List.mem_of_getElem? (i := 11) (by decide +kernel))) rfl
theorem seX10_totalSteps : Cond.selects yX10_totalSteps.cls yX10_totalSteps yX10_totalSteps ∈ p_ws := p_in (p_t4 (List.mem_of_getElem? (i := 12) (by decide +kernel))) rfl
abbrev mX10_writeWord : p_M := (yX10_writeWord, cX10_writeWord, 12, (some .int))
theorem cfX10_writeWord : p_cf mX10_writeWord 3 := p_cf.of (p_t4 (List.mem_of_getElem? (i := 172) rfl)) (p_t1 (List.mem_of_getElem? (i := 1) (by decide +kernel))) (by decide +kernel)
theorem imX10_writeWord : Cond.instanceMethod yX10_writeWord ∈ p_ws := p_in (p_t4 (List.mem_of_getElem? (i := 170) (by decide +kernel))) rfl
theorem seX10_writeWord : Cond.selects yX10_writeWord.cls yX10_writeWord yX10_writeWord ∈ p_ws := p_in (p_t4 (List.mem_of_getElem? (i := 171) (by decide +kernel))) rfl
abbrev mX10_reportByte : p_M := (yX10_reportByte, cX10_reportByte, 2, (some .int))
theorem cfX10_reportByte : p_cf mX10_reportByte 1 := p_cf.of (p_t4 (List.mem_of_getElem? (i := 185) rfl)) (p_t1 (List.mem_of_getElem? (i := 1) (by decide +kernel))) (by decide +kernel)
theorem imX10_reportByte : Cond.instanceMethod yX10_reportByte ∈ p_ws := p_in (p_t4 (List.mem_of_getElem? (i := 183) (by decide +kernel))) rfl
theorem seX10_reportByte : Cond.selects yX10_reportByte.cls yX10_reportByte yX10_reportByte ∈ p_ws := p_in (p_t4 (List.mem_of_getElem? (i := 184) (by decide +kernel))) rfl
abbrev mX10_isIndex : p_M := (yX10_isIndex, cX10_isIndex, 2, (some .boolean))
theorem cfX10_isIndex : p_cf mX10_isIndex 2 := p_cf.of (p_t1 (List.mem_of_getElem? (i := 212) rfl)) (p_t1 (List.mem_of_getElem? (i := 1) (by decide +kernel))) (by decide +kernel)
theorem stX10_isIndex : Cond.static yX10_isIndex ∈ p_ws := p_in (p_t1 (List.mem_of_getElem? (i := 211) (by decide +kernel))) rfl
abbrev mX10_checkSlot : p_M := (yX10_checkSlot, cX10_checkSlot, 1, none)
theorem cfX10_checkSlot : p_cf mX10_checkSlot 1 := p_cf.of (p_t3 (List.mem_of_getElem? (i := 38) rfl)) (p_t1 (List.mem_of_getElem? (i := 1) (by decide +kernel))) (by decide +kernel)
theorem stX10_checkSlot : Cond.static yX10_checkSlot ∈ p_ws := p_in (p_t3 (List.mem_of_getElem? (i := 37) (by decide +kernel))) rfl
abbrev mX10_checkStreet : p_M := (yX10_checkStreet, cX10_checkStreet, 1, none)
theorem cfX10_checkStreet : p_cf mX10_checkStreet 1 := p_cf.of (p_t3 (List.mem_of_getElem? (i := 155) rfl)) (p_t1 (List.mem_of_getElem? (i := 1) (by decide +kernel))) (by decide +kernel)
theorem stX10_checkStreet : Cond.static yX10_checkStreet ∈ p_ws := p_in (p_t3 (List.mem_of_getElem? (i := 154) (by decide +kernel))) rfl
abbrev mX10_checkPosition : p_M := (yX10_checkPosition, cX10_checkPosition, 2, none)
theorem cfX10_checkPosition : p_cf mX10_checkPosition 2 := p_cf.of (p_t4 (List.mem_of_getElem? (i := 89) rfl)) (p_t1 (List.mem_of_getElem? (i := 1) (by decide +kernel))) (by decide +kernel)
theorem stX10_checkPosition : Cond.static yX10_checkPosition ∈ p_ws := p_in (p_t4 (List.mem_of_getElem? (i := 88) (by decide +kernel))) rfl
abbrev mX10_checkState : p_M := (yX10_checkState, cX10_checkState, 2, none)
theorem cfX10_checkState : p_cf mX10_checkState 2 := p_cf.of (p_t3 (List.mem_of_getElem? (i := 226) rfl)) (p_t1 (List.mem_of_getElem? (i := 1) (by decide +kernel))) (by decide +kernel)
theorem stX10_checkState : Cond.static yX10_checkState ∈ p_ws := p_in (p_t3 (List.mem_of_getElem? (i := 225) (by decide +kernel))) rfl
abbrev mX10_checkWordLength : p_M := (yX10_checkWordLength, cX10_checkWordLength, 1, none)
theorem cfX10_checkWordLength : p_cf mX10_checkWordLength 1 := p_cf.of (p_t4 (List.mem_of_getElem? (i := 147) rfl)) (p_t1 (List.mem_of_getElem? (i := 1) (by decide +kernel))) (by decide +kernel)
theorem stX10_checkWordLength : Cond.static yX10_checkWordLength ∈ p_ws := p_in (p_t4 (List.mem_of_getElem? (i := 146) (by decide +kernel))) rfl
abbrev mX10_checkWalker : p_M := (yX10_checkWalker, cX10_checkWalker, 2, none)
theorem cfX10_checkWalker : p_cf mX10_checkWalker 1 := p_cf.of (p_t3 (List.mem_of_getElem? (i := 151) rfl)) (p_t1 (List.mem_of_getElem? (i := 1) (by decide +kernel))) (by decide +kernel)
theorem imX10_checkWalker : Cond.instanceMethod yX10_checkWalker ∈ p_ws := p_in (p_t3 (List.mem_of_getElem? (i := 150) (by decide +kernel))) rfl
theorem seX10_checkWalker : Cond.selects yX10_checkWalker.cls yX10_checkWalker yX10_checkWalker ∈ p_ws := p_in (List.mem_append_left _ (List.mem_of_getElem? (i := 15) (by decide +kernel))) rfl
abbrev mX10_checkedPattern : p_M := (yX10_checkedPattern, cX10_checkedPattern, 2, (some (.object "StreetAutomata$Pattern")))
theorem cfX10_checkedPattern : p_cf mX10_checkedPattern 1 := p_cf.of (p_t3 (List.mem_of_getElem? (i := 222) rfl)) (p_t1 (List.mem_of_getElem? (i := 1) (by decide +kernel))) (by decide +kernel)
theorem imX10_checkedPattern : Cond.instanceMethod yX10_checkedPattern ∈ p_ws := p_in (p_t3 (List.mem_of_getElem? (i := 221) (by decide +kernel))) rfl
theorem seX10_checkedPattern : Cond.selects yX10_checkedPattern.cls yX10_checkedPattern yX10_checkedPattern ∈ p_ws := p_in (List.mem_append_left _ (List.mem_of_getElem? (i := 16) (by decide +kernel))) rfl
abbrev mX10_stateAfterInput : p_M := (yX10_stateAfterInput, cX10_stateAfterInput, 4, (some .int))
theorem cfX10_stateAfterInput : p_cf mX10_stateAfterInput 1 := p_cf.of (p_t4 (List.mem_of_getElem? (i := 132) rfl)) (p_t1 (List.mem_of_getElem? (i := 1) (by decide +kernel))) (by decide +kernel)
theorem imX10_stateAfterInput : Cond.instanceMethod yX10_stateAfterInput ∈ p_ws := p_in (p_t4 (List.mem_of_getElem? (i := 131) (by decide +kernel))) rfl
theorem seX10_stateAfterInput : Cond.selects yX10_stateAfterInput.cls yX10_stateAfterInput yX10_stateAfterInput ∈ p_ws := p_in (List.mem_append_left _ (List.mem_of_getElem? (i := 17) (by decide +kernel))) rfl
abbrev mX10_putReportByte : p_M := (yX10_putReportByte, cX10_putReportByte, 3, none)
theorem cfX10_putReportByte : p_cf mX10_putReportByte 2 := p_cf.of (p_t4 (List.mem_of_getElem? (i := 181) rfl)) (p_t1 (List.mem_of_getElem? (i := 1) (by decide +kernel))) (by decide +kernel)
theorem imX10_putReportByte : Cond.instanceMethod yX10_putReportByte ∈ p_ws := p_in (p_t4 (List.mem_of_getElem? (i := 180) (by decide +kernel))) rfl
theorem seX10_putReportByte : Cond.selects yX10_putReportByte.cls yX10_putReportByte yX10_putReportByte ∈ p_ws := p_in (List.mem_append_left _ (List.mem_of_getElem? (i := 19) (by decide +kernel))) rfl
abbrev mJ7_fill_53178 : p_M := (yJ7_fill_53178, cJ7_fill_53178, 4, none)
theorem cfJ7_fill_53178 : p_cf mJ7_fill_53178 2 := p_cf.of (p_t1 (List.mem_of_getElem? (i := 235) rfl)) (p_t1 (List.mem_of_getElem? (i := 10) (by decide +kernel))) (by decide +kernel)
theorem stJ7_fill_53178 : Cond.static yJ7_fill_53178 ∈ p_ws := p_in (p_t1 (List.mem_of_getElem? (i := 234) (by decide +kernel))) rfl
abbrev mL_cell : p_M := (yL_cell, cL_cell, 2, (some .int))
theorem cfL_cell : p_cf mL_cell 2 := p_cf.of (p_t4 (List.mem_of_getElem? (i := 16) rfl)) (p_t1 (List.mem_of_getElem? (i := 0) (by decide +kernel))) (by decide +kernel)
theorem stL_cell : Cond.static yL_cell ∈ p_ws := p_in (p_t4 (List.mem_of_getElem? (i := 15) (by decide +kernel))) rfl
abbrev mL_compiled : p_M := (yL_compiled, cL_compiled, 8, (some .boolean))
theorem cfL_compiled : p_cf mL_compiled 3 := p_cf.of (p_t4 (List.mem_of_getElem? (i := 19) rfl)) (p_t1 (List.mem_of_getElem? (i := 0) (by decide +kernel))) (by decide +kernel)
theorem stL_compiled : Cond.static yL_compiled ∈ p_ws := p_in (p_t4 (List.mem_of_getElem? (i := 18) (by decide +kernel))) rfl
abbrev mL_len : p_M := (yL_len, cL_len, 5, (some .int))
theorem cfL_len : p_cf mL_len 1 := p_cf.of (p_t4 (List.mem_of_getElem? (i := 31) rfl)) (p_t1 (List.mem_of_getElem? (i := 0) (by decide +kernel))) (by decide +kernel)
theorem stL_len : Cond.static yL_len ∈ p_ws := p_in (p_t4 (List.mem_of_getElem? (i := 30) (by decide +kernel))) rfl
abbrev mL_word : p_M := (yL_word, cL_word, 8, none)
theorem cfL_word : p_cf mL_word 3 := p_cf.of (p_t4 (List.mem_of_getElem? (i := 124) rfl)) (p_t1 (List.mem_of_getElem? (i := 0) (by decide +kernel))) (by decide +kernel)
theorem stL_word : Cond.static yL_word ∈ p_ws := p_in (p_t4 (List.mem_of_getElem? (i := 123) (by decide +kernel))) rfl
abbrev mL_isPath : p_M := (yL_isPath, cL_isPath, 11, (some .boolean))
theorem cfL_isPath : p_cf mL_isPath 4 := p_cf.of (p_t4 (List.mem_of_getElem? (i := 70) rfl)) (p_t1 (List.mem_of_getElem? (i := 0) (by decide +kernel))) (by decide +kernel)
theorem stL_isPath : Cond.static yL_isPath ∈ p_ws := p_in (p_t4 (List.mem_of_getElem? (i := 69) (by decide +kernel))) rfl
abbrev mL_isRun : p_M := (yL_isRun, cL_isRun, 7, (some .boolean))
theorem cfL_isRun : p_cf mL_isRun 4 := p_cf.of (p_t4 (List.mem_of_getElem? (i := 109) rfl)) (p_t1 (List.mem_of_getElem? (i := 0) (by decide +kernel))) (by decide +kernel)
theorem stL_isRun : Cond.static yL_isRun ∈ p_ws := p_in (p_t4 (List.mem_of_getElem? (i := 108) (by decide +kernel))) rfl
abbrev mL_knows : p_M := (yL_knows, cL_knows, 7, (some .boolean))
theorem cfL_knows : p_cf mL_knows 3 := p_cf.of (p_t4 (List.mem_of_getElem? (i := 66) rfl)) (p_t1 (List.mem_of_getElem? (i := 0) (by decide +kernel))) (by decide +kernel)
theorem stL_knows : Cond.static yL_knows ∈ p_ws := p_in (p_t4 (List.mem_of_getElem? (i := 65) (by decide +kernel))) rfl
abbrev mL_isListed : p_M := (yL_isListed, cL_isListed, 11, (some .boolean))
theorem cfL_isListed : p_cf mL_isListed 3 := p_cf.of (p_t4 (List.mem_of_getElem? (i := 140) rfl)) (p_t1 (List.mem_of_getElem? (i := 0) (by decide +kernel))) (by decide +kernel)
theorem stL_isListed : Cond.static yL_isListed ∈ p_ws := p_in (p_t4 (List.mem_of_getElem? (i := 139) (by decide +kernel))) rfl
abbrev mL_sum : p_M := (yL_sum, cL_sum, 5, (some .long))
theorem cfL_sum : p_cf mL_sum 1 := p_cf.of (p_t4 (List.mem_of_getElem? (i := 189) rfl)) (p_t1 (List.mem_of_getElem? (i := 0) (by decide +kernel))) (by decide +kernel)
theorem stL_sum : Cond.static yL_sum ∈ p_ws := p_in (p_t4 (List.mem_of_getElem? (i := 188) (by decide +kernel))) rfl
theorem lX10_3 : Cond.methodLink RX10 3 Lib.objectInit ∈ p_ws := p_in (p_t1 (List.mem_of_getElem? (i := 29) (by decide +kernel))) rfl
theorem lX10_11 : Cond.methodLinkNest RX10 11 yX1_init "StreetAutomata" ∈ lw_tbl := (p_t1 (List.mem_of_getElem? (i := 34) (by decide +kernel)))
theorem lX10_14 : Cond.methodLink RX10 14 yX6_init ∈ p_ws := p_in (p_t1 (List.mem_of_getElem? (i := 48) (by decide +kernel))) rfl
theorem lX10_17 : Cond.methodLink RX10 17 yX1_put ∈ p_ws := p_in (p_t1 (List.mem_of_getElem? (i := 154) (by decide +kernel))) rfl
theorem lX10_21 : Cond.methodLink RX10 21 yX6_read ∈ p_ws := p_in (p_t1 (List.mem_of_getElem? (i := 213) (by decide +kernel))) rfl
theorem lX10_27 : Cond.methodLink RX10 27 yX5_init ∈ p_ws := p_in (p_t2 (List.mem_of_getElem? (i := 65) (by decide +kernel))) rfl
theorem lX10_32 : Cond.methodLink RX10 32 yX1_shorten ∈ p_ws := p_in (p_t2 (List.mem_of_getElem? (i := 119) (by decide +kernel))) rfl
theorem lX10_46 : Cond.methodLink RX10 46 yX9_init ∈ p_ws := p_in (p_t2 (List.mem_of_getElem? (i := 125) (by decide +kernel))) rfl
theorem lX10_55 : Cond.methodLink RX10 55 yX0_init ∈ p_ws := p_in (p_t2 (List.mem_of_getElem? (i := 165) (by decide +kernel))) rfl
theorem lX10_72 : Cond.methodLinkNest RX10 72 yX3_init "StreetAutomata" ∈ lw_tbl := (p_t2 (List.mem_of_getElem? (i := 184) (by decide +kernel)))
theorem lX10_79 : Cond.methodLinkNest RX10 79 yX8_init "StreetAutomata" ∈ lw_tbl := (p_t2 (List.mem_of_getElem? (i := 206) (by decide +kernel)))
theorem lX10_86 : Cond.methodLinkNest RX10 86 yX7_init "StreetAutomata" ∈ lw_tbl := (p_t2 (List.mem_of_getElem? (i := 217) (by decide +kernel)))
theorem lX10_95 : Cond.methodLink RX10 95 yX1_size ∈ p_ws := p_in (p_t4 (List.mem_of_getElem? (i := 24) (by decide +kernel))) rfl
theorem lX10_99 : Cond.methodLink RX10 99 yX1_addFourBytes ∈ p_ws := p_in (p_t4 (List.mem_of_getElem? (i := 25) (by decide +kernel))) rfl
theorem lX10_108 : Cond.methodLink RX10 108 yX10_checkSlot ∈ p_ws := p_in (p_t3 (List.mem_of_getElem? (i := 36) (by decide +kernel))) rfl
theorem lX10_111 : Cond.methodLink RX10 111 yX6_errorOffset ∈ p_ws := p_in (p_t4 (List.mem_of_getElem? (i := 56) (by decide +kernel))) rfl
theorem lX10_113 : Cond.methodLink RX10 113 yX0_remember ∈ p_ws := p_in (p_t3 (List.mem_of_getElem? (i := 123) (by decide +kernel))) rfl
theorem lX10_117 : Cond.methodLink RX10 117 yX9_putPattern ∈ p_ws := p_in (p_t4 (List.mem_of_getElem? (i := 60) (by decide +kernel))) rfl
theorem lX10_124 : Cond.methodLink RX10 124 yX9_pattern ∈ p_ws := p_in (p_t3 (List.mem_of_getElem? (i := 223) (by decide +kernel))) rfl
theorem lX10_143 : Cond.methodLink RX10 143 yX9_bringWalker ∈ p_ws := p_in (p_t3 (List.mem_of_getElem? (i := 135) (by decide +kernel))) rfl
theorem lX10_146 : Cond.methodLink RX10 146 yX10_checkWalker ∈ p_ws := p_in (p_t3 (List.mem_of_getElem? (i := 148) (by decide +kernel))) rfl
theorem lX10_149 : Cond.methodLink RX10 149 yX9_stepsOf ∈ p_ws := p_in (p_t4 (List.mem_of_getElem? (i := 6) (by decide +kernel))) rfl
theorem lX10_155 : Cond.methodLink RX10 155 yX10_checkStreet ∈ p_ws := p_in (p_t3 (List.mem_of_getElem? (i := 153) (by decide +kernel))) rfl
theorem lX10_158 : Cond.methodLink RX10 158 yX9_isOpen ∈ p_ws := p_in (p_t3 (List.mem_of_getElem? (i := 157) (by decide +kernel))) rfl
theorem lX10_164 : Cond.methodLink RX10 164 yX9_moveWalker ∈ p_ws := p_in (p_t3 (List.mem_of_getElem? (i := 166) (by decide +kernel))) rfl
theorem lX10_168 : Cond.methodLink RX10 168 yX9_stateOf ∈ p_ws := p_in (p_t3 (List.mem_of_getElem? (i := 187) (by decide +kernel))) rfl
theorem lX10_171 : Cond.methodLink RX10 171 yX1_street ∈ p_ws := p_in (p_t4 (List.mem_of_getElem? (i := 133) (by decide +kernel))) rfl
theorem lX10_193 : Cond.methodLink RX10 193 yX0_takeBack ∈ p_ws := p_in (p_t3 (List.mem_of_getElem? (i := 195) (by decide +kernel))) rfl
theorem lX10_197 : Cond.methodLink RX10 197 yX0_size ∈ p_ws := p_in (p_t3 (List.mem_of_getElem? (i := 199) (by decide +kernel))) rfl
theorem lX10_212 : Cond.methodLink RX10 212 yX10_checkedPattern ∈ p_ws := p_in (p_t3 (List.mem_of_getElem? (i := 219) (by decide +kernel))) rfl
theorem lX10_215 : Cond.methodLink RX10 215 yX10_checkPosition ∈ p_ws := p_in (p_t4 (List.mem_of_getElem? (i := 87) (by decide +kernel))) rfl
theorem lX10_219 : Cond.methodLink RX10 219 yX5_streetOf ∈ p_ws := p_in (p_t4 (List.mem_of_getElem? (i := 99) (by decide +kernel))) rfl
theorem lX10_231 : Cond.methodLink RX10 231 yX5_followOf ∈ p_ws := p_in (p_t4 (List.mem_of_getElem? (i := 91) (by decide +kernel))) rfl
theorem lX10_240 : Cond.methodLink RX10 240 yX10_checkState ∈ p_ws := p_in (p_t3 (List.mem_of_getElem? (i := 224) (by decide +kernel))) rfl
theorem lX10_243 : Cond.methodLink RX10 243 yX5_after ∈ p_ws := p_in (p_t3 (List.mem_of_getElem? (i := 228) (by decide +kernel))) rfl
theorem lX10_247 : Cond.methodLink RX10 247 yX5_accepts ∈ p_ws := p_in (p_t4 (List.mem_of_getElem? (i := 114) (by decide +kernel))) rfl
theorem lX10_250 : Cond.methodLink RX10 250 yX5_positionsIn ∈ p_ws := p_in (p_t4 (List.mem_of_getElem? (i := 205) (by decide +kernel))) rfl
theorem lX10_271 : Cond.methodLink RX10 271 yX10_stateAfterInput ∈ p_ws := p_in (p_t4 (List.mem_of_getElem? (i := 129) (by decide +kernel))) rfl
theorem lX10_275 : Cond.methodLink RX10 275 yX10_checkWordLength ∈ p_ws := p_in (p_t4 (List.mem_of_getElem? (i := 145) (by decide +kernel))) rfl
theorem lX10_278 : Cond.methodLink RX10 278 yX8_fill ∈ p_ws := p_in (p_t4 (List.mem_of_getElem? (i := 149) (by decide +kernel))) rfl
theorem lX10_281 : Cond.methodLink RX10 281 yX8_from ∈ p_ws := p_in (p_t4 (List.mem_of_getElem? (i := 168) (by decide +kernel))) rfl
theorem lX10_296 : Cond.methodLink RX10 296 yX9_slotOf ∈ p_ws := p_in (p_t3 (List.mem_of_getElem? (i := 237) (by decide +kernel))) rfl
theorem lX10_314 : Cond.methodLink RX10 314 yX8_streetToWord ∈ p_ws := p_in (p_t4 (List.mem_of_getElem? (i := 173) (by decide +kernel))) rfl
theorem lX10_318 : Cond.methodLink RX10 318 yX8_wordsBefore ∈ p_ws := p_in (p_t4 (List.mem_of_getElem? (i := 177) (by decide +kernel))) rfl
theorem lX10_322 : Cond.methodLink RX10 322 yX10_putReportByte ∈ p_ws := p_in (p_t4 (List.mem_of_getElem? (i := 178) (by decide +kernel))) rfl
theorem lX10_331 : Cond.methodLink RX10 331 yX10_isIndex ∈ p_ws := p_in (p_t3 (List.mem_of_getElem? (i := 39) (by decide +kernel))) rfl
theorem lX0_3 : Cond.methodLink RX0 3 Lib.objectInit ∈ p_ws := p_in (p_t2 (List.mem_of_getElem? (i := 168) (by decide +kernel))) rfl
theorem lX0_17 : Cond.methodLink RX0 17 yX9_init ∈ p_ws := p_in (p_t2 (List.mem_of_getElem? (i := 171) (by decide +kernel))) rfl
theorem lX0_27 : Cond.methodLinkNest RX0 27 yX10_isIndex "StreetAutomata" ∈ lw_tbl := (p_t3 (List.mem_of_getElem? (i := 127) (by decide +kernel)))
theorem lX0_31 : Cond.methodLink RX0 31 yX9_copyFrom ∈ p_ws := p_in (p_t3 (List.mem_of_getElem? (i := 128) (by decide +kernel))) rfl
theorem lX0_35 : Cond.methodLink RX0 35 yJ9_min_7cf53 ∈ p_ws := p_in (p_t3 (List.mem_of_getElem? (i := 132) (by decide +kernel))) rfl
theorem lX1_3 : Cond.methodLink RX1 3 Lib.objectInit ∈ p_ws := p_in (p_t1 (List.mem_of_getElem? (i := 37) (by decide +kernel))) rfl
theorem lX1_19 : Cond.methodLink RX1 19 yJ0_length_8abf5 ∈ p_ws := p_in (p_t1 (List.mem_of_getElem? (i := 158) (by decide +kernel))) rfl
theorem lX1_24 : Cond.methodLink RX1 24 yJ0_charAt_5068e ∈ p_ws := p_in (p_t1 (List.mem_of_getElem? (i := 168) (by decide +kernel))) rfl
theorem lX1_28 : Cond.methodLink RX1 28 yX1_addByte ∈ p_ws := p_in (p_t1 (List.mem_of_getElem? (i := 206) (by decide +kernel))) rfl
theorem lX1_32 : Cond.methodLinkNest RX1 32 yX10_isIndex "StreetAutomata" ∈ lw_tbl := (p_t1 (List.mem_of_getElem? (i := 210) (by decide +kernel)))
theorem lX1_36 : Cond.methodLink RX1 36 yX1_value ∈ p_ws := p_in (p_t4 (List.mem_of_getElem? (i := 137) (by decide +kernel))) rfl
theorem lX2_1 : Cond.methodLink RX2 1 Lib.objectInit ∈ p_ws := p_in (p_t1 (List.mem_of_getElem? (i := 57) (by decide +kernel))) rfl
theorem lX2_9 : Cond.methodLinkNest RX2 9 yX4_init "StreetAutomata" ∈ lw_tbl := (p_t1 (List.mem_of_getElem? (i := 60) (by decide +kernel)))
theorem lX2_26 : Cond.methodLink RX2 26 yX2_init ∈ p_ws := p_in (p_t1 (List.mem_of_getElem? (i := 110) (by decide +kernel))) rfl
theorem lX2_32 : Cond.methodLink RX2 32 yX4_set ∈ p_ws := p_in (p_t1 (List.mem_of_getElem? (i := 225) (by decide +kernel))) rfl
theorem lX2_36 : Cond.methodLink RX2 36 yX2_beginBranch ∈ p_ws := p_in (p_t1 (List.mem_of_getElem? (i := 229) (by decide +kernel))) rfl
theorem lX3_3 : Cond.methodLink RX3 3 Lib.objectInit ∈ p_ws := p_in (p_t2 (List.mem_of_getElem? (i := 187) (by decide +kernel))) rfl
theorem lX4_1 : Cond.methodLink RX4 1 Lib.objectInit ∈ p_ws := p_in (p_t1 (List.mem_of_getElem? (i := 63) (by decide +kernel))) rfl
theorem lX5_3 : Cond.methodLink RX5 3 Lib.objectInit ∈ p_ws := p_in (p_t2 (List.mem_of_getElem? (i := 68) (by decide +kernel))) rfl
theorem lX5_9 : Cond.methodLink RX5 9 yX6_whole ∈ p_ws := p_in (p_t2 (List.mem_of_getElem? (i := 69) (by decide +kernel))) rfl
theorem lX5_71 : Cond.methodLinkNest RX5 71 yX10_isIndex "StreetAutomata" ∈ lw_tbl := (p_t3 (List.mem_of_getElem? (i := 186) (by decide +kernel)))
theorem lX5_75 : Cond.methodLink RX5 75 yX5_positionsIn ∈ p_ws := p_in (p_t4 (List.mem_of_getElem? (i := 118) (by decide +kernel))) rfl
theorem lX6_3 : Cond.methodLink RX6 3 Lib.objectInit ∈ p_ws := p_in (p_t1 (List.mem_of_getElem? (i := 51) (by decide +kernel))) rfl
theorem lX6_29 : Cond.methodLink RX6 29 yX2_init ∈ p_ws := p_in (p_t1 (List.mem_of_getElem? (i := 54) (by decide +kernel))) rfl
theorem lX6_36 : Cond.methodLink RX6 36 yX2_makeInner ∈ p_ws := p_in (p_t1 (List.mem_of_getElem? (i := 105) (by decide +kernel))) rfl
theorem lX6_51 : Cond.methodLink RX6 51 yX6_begin ∈ p_ws := p_in (p_t1 (List.mem_of_getElem? (i := 217) (by decide +kernel))) rfl
theorem lX6_54 : Cond.methodLink RX6 54 yX1_size ∈ p_ws := p_in (p_t1 (List.mem_of_getElem? (i := 236) (by decide +kernel))) rfl
theorem lX6_60 : Cond.methodLink RX6 60 yX1_value ∈ p_ws := p_in (p_t2 (List.mem_of_getElem? (i := 0) (by decide +kernel))) rfl
theorem lX6_64 : Cond.methodLink RX6 64 yX6_readByte ∈ p_ws := p_in (p_t2 (List.mem_of_getElem? (i := 4) (by decide +kernel))) rfl
theorem lX6_70 : Cond.methodLink RX6 70 yX6_endBranch ∈ p_ws := p_in (p_t2 (List.mem_of_getElem? (i := 25) (by decide +kernel))) rfl
theorem lX6_73 : Cond.methodLink RX6 73 yX6_findStates ∈ p_ws := p_in (p_t2 (List.mem_of_getElem? (i := 47) (by decide +kernel))) rfl
theorem lX6_77 : Cond.methodLink RX6 77 yX2_begin ∈ p_ws := p_in (p_t1 (List.mem_of_getElem? (i := 221) (by decide +kernel))) rfl
theorem lX6_87 : Cond.methodLink RX6 87 yJ7_fill_53178 ∈ p_ws := p_in (p_t1 (List.mem_of_getElem? (i := 233) (by decide +kernel))) rfl
theorem lX6_93 : Cond.methodLink RX6 93 yX6_openGroup ∈ p_ws := p_in (p_t2 (List.mem_of_getElem? (i := 8) (by decide +kernel))) rfl
theorem lX6_96 : Cond.methodLink RX6 96 yX6_closeGroup ∈ p_ws := p_in (p_t2 (List.mem_of_getElem? (i := 21) (by decide +kernel))) rfl
theorem lX6_99 : Cond.methodLink RX6 99 yX6_readOperator ∈ p_ws := p_in (p_t2 (List.mem_of_getElem? (i := 34) (by decide +kernel))) rfl
theorem lX6_102 : Cond.methodLink RX6 102 yX6_readPosition ∈ p_ws := p_in (p_t2 (List.mem_of_getElem? (i := 38) (by decide +kernel))) rfl
theorem lX6_106 : Cond.methodLink RX6 106 yX6_readLetter ∈ p_ws := p_in (p_t2 (List.mem_of_getElem? (i := 42) (by decide +kernel))) rfl
theorem lX6_109 : Cond.methodLinkNest RX6 109 yX10_isIndex "StreetAutomata" ∈ lw_tbl := (p_t2 (List.mem_of_getElem? (i := 46) (by decide +kernel)))
theorem lX6_113 : Cond.methodLink RX6 113 yX6_endPiece ∈ p_ws := p_in (p_t2 (List.mem_of_getElem? (i := 12) (by decide +kernel))) rfl
theorem lX6_116 : Cond.methodLink RX6 116 yX2_beginPiece ∈ p_ws := p_in (p_t2 (List.mem_of_getElem? (i := 30) (by decide +kernel))) rfl
theorem lX6_141 : Cond.methodLink RX6 141 yX6_addFollow ∈ p_ws := p_in (p_t2 (List.mem_of_getElem? (i := 16) (by decide +kernel))) rfl
theorem lX6_148 : Cond.methodLink RX6 148 yX4_set ∈ p_ws := p_in (p_t2 (List.mem_of_getElem? (i := 20) (by decide +kernel))) rfl
theorem lX6_151 : Cond.methodLink RX6 151 yX2_beginBranch ∈ p_ws := p_in (p_t2 (List.mem_of_getElem? (i := 29) (by decide +kernel))) rfl
theorem lX6_154 : Cond.methodLink RX6 154 yX6_stateOfSet ∈ p_ws := p_in (p_t2 (List.mem_of_getElem? (i := 51) (by decide +kernel))) rfl
theorem lX6_157 : Cond.methodLink RX6 157 yX6_positionsAfter ∈ p_ws := p_in (p_t2 (List.mem_of_getElem? (i := 55) (by decide +kernel))) rfl
theorem lX6_160 : Cond.methodLink RX6 160 yX6_whole ∈ p_ws := p_in (p_t2 (List.mem_of_getElem? (i := 59) (by decide +kernel))) rfl
theorem lX7_3 : Cond.methodLink RX7 3 Lib.objectInit ∈ p_ws := p_in (p_t2 (List.mem_of_getElem? (i := 220) (by decide +kernel))) rfl
theorem lX8_3 : Cond.methodLink RX8 3 Lib.objectInit ∈ p_ws := p_in (p_t2 (List.mem_of_getElem? (i := 209) (by decide +kernel))) rfl
theorem lX8_21 : Cond.methodLink RX8 21 yX5_accepts ∈ p_ws := p_in (p_t4 (List.mem_of_getElem? (i := 153) (by decide +kernel))) rfl
theorem lX8_25 : Cond.methodLink RX8 25 yX8_put ∈ p_ws := p_in (p_t4 (List.mem_of_getElem? (i := 154) (by decide +kernel))) rfl
theorem lX8_29 : Cond.methodLink RX8 29 yX8_wordsBefore ∈ p_ws := p_in (p_t4 (List.mem_of_getElem? (i := 159) (by decide +kernel))) rfl
theorem lX8_33 : Cond.methodLinkNest RX8 33 yX10_isIndex "StreetAutomata" ∈ lw_tbl := (p_t4 (List.mem_of_getElem? (i := 158) (by decide +kernel)))
theorem lX8_37 : Cond.methodLink RX8 37 yX5_after ∈ p_ws := p_in (p_t4 (List.mem_of_getElem? (i := 163) (by decide +kernel))) rfl
theorem lX8_41 : Cond.methodLink RX8 41 yX8_from ∈ p_ws := p_in (p_t4 (List.mem_of_getElem? (i := 164) (by decide +kernel))) rfl
theorem lX9_3 : Cond.methodLink RX9 3 Lib.objectInit ∈ p_ws := p_in (p_t2 (List.mem_of_getElem? (i := 128) (by decide +kernel))) rfl
theorem lX9_45 : Cond.methodLink RX9 45 yX9_slotOf ∈ p_ws := p_in (p_t3 (List.mem_of_getElem? (i := 174) (by decide +kernel))) rfl
theorem lX9_49 : Cond.methodLink RX9 49 yX9_pattern ∈ p_ws := p_in (p_t3 (List.mem_of_getElem? (i := 178) (by decide +kernel))) rfl
theorem lX9_53 : Cond.methodLink RX9 53 yX9_beginAnew ∈ p_ws := p_in (p_t3 (List.mem_of_getElem? (i := 140) (by decide +kernel))) rfl
theorem lX9_57 : Cond.methodLinkNest RX9 57 yX10_isIndex "StreetAutomata" ∈ lw_tbl := (p_t3 (List.mem_of_getElem? (i := 139) (by decide +kernel)))
theorem lX9_61 : Cond.methodLink RX9 61 yX9_openStreets ∈ p_ws := p_in (p_t3 (List.mem_of_getElem? (i := 161) (by decide +kernel))) rfl
theorem lX9_65 : Cond.methodLink RX9 65 yX9_patternOfWalker ∈ p_ws := p_in (p_t3 (List.mem_of_getElem? (i := 170) (by decide +kernel))) rfl
theorem lX9_68 : Cond.methodLink RX9 68 yX5_after ∈ p_ws := p_in (p_t3 (List.mem_of_getElem? (i := 182) (by decide +kernel))) rfl
theorem lL_7 : Cond.methodLink RL 7 yX10_append ∈ p_ws := p_in (p_t4 (List.mem_of_getElem? (i := 20) (by decide +kernel))) rfl
theorem lL_13 : Cond.methodLink RL 13 yL_len ∈ p_ws := p_in (p_t4 (List.mem_of_getElem? (i := 29) (by decide +kernel))) rfl
theorem lL_19 : Cond.methodLink RL 19 yX10_truncateInput ∈ p_ws := p_in (p_t4 (List.mem_of_getElem? (i := 32) (by decide +kernel))) rfl
theorem lL_22 : Cond.methodLink RL 22 yX10_compile ∈ p_ws := p_in (p_t4 (List.mem_of_getElem? (i := 52) (by decide +kernel))) rfl
theorem lL_25 : Cond.methodLink RL 25 yX10_acceptsEmptyWord ∈ p_ws := p_in (p_t4 (List.mem_of_getElem? (i := 71) (by decide +kernel))) rfl
theorem lL_29 : Cond.methodLink RL 29 yX10_firstPositions ∈ p_ws := p_in (p_t4 (List.mem_of_getElem? (i := 75) (by decide +kernel))) rfl
theorem lL_32 : Cond.methodLink RL 32 yX10_positionCount ∈ p_ws := p_in (p_t4 (List.mem_of_getElem? (i := 79) (by decide +kernel))) rfl
theorem lL_35 : Cond.methodLink RL 35 yX10_followPositions ∈ p_ws := p_in (p_t4 (List.mem_of_getElem? (i := 83) (by decide +kernel))) rfl
theorem lL_39 : Cond.methodLink RL 39 yX10_streetAt ∈ p_ws := p_in (p_t4 (List.mem_of_getElem? (i := 95) (by decide +kernel))) rfl
theorem lL_42 : Cond.methodLink RL 42 yX10_lastPositions ∈ p_ws := p_in (p_t4 (List.mem_of_getElem? (i := 103) (by decide +kernel))) rfl
theorem lL_45 : Cond.methodLink RL 45 yX10_transition ∈ p_ws := p_in (p_t3 (List.mem_of_getElem? (i := 215) (by decide +kernel))) rfl
theorem lL_49 : Cond.methodLink RL 49 yX10_isAccepting ∈ p_ws := p_in (p_t4 (List.mem_of_getElem? (i := 110) (by decide +kernel))) rfl
theorem lL_54 : Cond.methodLink RL 54 yL_isPath ∈ p_ws := p_in (p_t4 (List.mem_of_getElem? (i := 68) (by decide +kernel))) rfl
theorem lL_58 : Cond.methodLink RL 58 yL_isRun ∈ p_ws := p_in (p_t4 (List.mem_of_getElem? (i := 107) (by decide +kernel))) rfl
theorem lL_61 : Cond.methodLink RL 61 yL_word ∈ p_ws := p_in (p_t4 (List.mem_of_getElem? (i := 122) (by decide +kernel))) rfl
theorem lL_65 : Cond.methodLink RL 65 yX10_acceptsInput ∈ p_ws := p_in (p_t4 (List.mem_of_getElem? (i := 125) (by decide +kernel))) rfl
theorem lL_68 : Cond.methodLink RL 68 yX10_wordCount ∈ p_ws := p_in (p_t4 (List.mem_of_getElem? (i := 141) (by decide +kernel))) rfl
theorem lL_72 : Cond.methodLink RL 72 yX10_writeWord ∈ p_ws := p_in (p_t4 (List.mem_of_getElem? (i := 169) (by decide +kernel))) rfl
theorem lL_76 : Cond.methodLink RL 76 yX10_reportByte ∈ p_ws := p_in (p_t4 (List.mem_of_getElem? (i := 182) (by decide +kernel))) rfl
theorem lL_81 : Cond.methodLink RL 81 yX10_walkerCount ∈ p_ws := p_in (p_t3 (List.mem_of_getElem? (i := 229) (by decide +kernel))) rfl
theorem lL_87 : Cond.methodLink RL 87 yX10_totalSteps ∈ p_ws := p_in (p_t4 (List.mem_of_getElem? (i := 10) (by decide +kernel))) rfl
theorem lL_90 : Cond.methodLink RL 90 yX10_isNight ∈ p_ws := p_in (p_t4 (List.mem_of_getElem? (i := 191) (by decide +kernel))) rfl
theorem lL_98 : Cond.methodLink RL 98 yX10_stateCount ∈ p_ws := p_in (p_t4 (List.mem_of_getElem? (i := 197) (by decide +kernel))) rfl
theorem lL_101 : Cond.methodLink RL 101 yX10_statePositions ∈ p_ws := p_in (p_t4 (List.mem_of_getElem? (i := 201) (by decide +kernel))) rfl
theorem lL_108 : Cond.methodLink RL 108 yX10_walkerState ∈ p_ws := p_in (p_t3 (List.mem_of_getElem? (i := 238) (by decide +kernel))) rfl
theorem lL_113 : Cond.methodLink RL 113 yX10_walkerSteps ∈ p_ws := p_in (p_t4 (List.mem_of_getElem? (i := 2) (by decide +kernel))) rfl
theorem lL_116 : Cond.methodLink RL 116 yX10_walkerSlot ∈ p_ws := p_in (p_t3 (List.mem_of_getElem? (i := 233) (by decide +kernel))) rfl
theorem lL_119 : Cond.methodLink RL 119 yX10_isPassable ∈ p_ws := p_in (p_t4 (List.mem_of_getElem? (i := 209) (by decide +kernel))) rfl
theorem lL_122 : Cond.methodLink RL 122 yX10_init ∈ p_ws := p_in (p_t1 (List.mem_of_getElem? (i := 26) (by decide +kernel))) rfl
theorem lL_123 : Cond.methodLink RL 123 yL_cell ∈ p_ws := p_in (p_t4 (List.mem_of_getElem? (i := 14) (by decide +kernel))) rfl
theorem lL_127 : Cond.methodLink RL 127 yL_sum ∈ p_ws := p_in (p_t4 (List.mem_of_getElem? (i := 187) (by decide +kernel))) rfl
theorem lL_131 : Cond.methodLink RL 131 yL_compiled ∈ p_ws := p_in (p_t4 (List.mem_of_getElem? (i := 17) (by decide +kernel))) rfl
theorem lL_135 : Cond.methodLink RL 135 yX10_undoCount ∈ p_ws := p_in (p_t3 (List.mem_of_getElem? (i := 203) (by decide +kernel))) rfl
theorem lL_138 : Cond.methodLink RL 138 yX10_patternErrorKind ∈ p_ws := p_in (p_t3 (List.mem_of_getElem? (i := 207) (by decide +kernel))) rfl
theorem lL_141 : Cond.methodLink RL 141 yX10_patternErrorOffset ∈ p_ws := p_in (p_t3 (List.mem_of_getElem? (i := 211) (by decide +kernel))) rfl
theorem lL_144 : Cond.methodLink RL 144 yL_knows ∈ p_ws := p_in (p_t4 (List.mem_of_getElem? (i := 64) (by decide +kernel))) rfl
theorem lL_147 : Cond.methodLink RL 147 yL_isListed ∈ p_ws := p_in (p_t4 (List.mem_of_getElem? (i := 138) (by decide +kernel))) rfl
theorem lL_150 : Cond.methodLink RL 150 yX10_undo ∈ p_ws := p_in (p_t3 (List.mem_of_getElem? (i := 191) (by decide +kernel))) rfl
theorem lL_153 : Cond.methodLink RL 153 yX10_addWalker ∈ p_ws := p_in (p_t3 (List.mem_of_getElem? (i := 32) (by decide +kernel))) rfl
theorem lL_156 : Cond.methodLink RL 156 yX10_step ∈ p_ws := p_in (p_t3 (List.mem_of_getElem? (i := 144) (by decide +kernel))) rfl
theorem fX10_36 : p_F RX10 36 10 0 (.object "StreetAutomata$Input") true := p_F.of (C := RX10) (T := TX10) (N := 13) tyX10 rfl (by decide) (p_t2 (List.mem_of_getElem? (i := 233) (by decide +kernel))) tyX10_ok nmX10 rfl rfl rfl
theorem fX10_40 : p_F RX10 40 10 1 (.object "StreetAutomata$PatternReader") true := p_F.of (C := RX10) (T := TX10) (N := 13) tyX10 rfl (by decide) (p_t2 (List.mem_of_getElem? (i := 234) (by decide +kernel))) tyX10_ok nmX10 rfl rfl rfl
theorem fX10_49 : p_F RX10 49 10 2 (.object "StreetAutomata$World") true := p_F.of (C := RX10) (T := TX10) (N := 13) tyX10 rfl (by decide) (p_t2 (List.mem_of_getElem? (i := 235) (by decide +kernel))) tyX10_ok nmX10 rfl rfl rfl
theorem fX10_56 : p_F RX10 56 10 3 (.object "StreetAutomata$History") true := p_F.of (C := RX10) (T := TX10) (N := 13) tyX10 rfl (by decide) (p_t2 (List.mem_of_getElem? (i := 236) (by decide +kernel))) tyX10_ok nmX10 rfl rfl rfl
theorem fX10_60 : p_F RX10 60 10 4 (.object "StreetAutomata$World") true := p_F.of (C := RX10) (T := TX10) (N := 13) tyX10 rfl (by decide) (p_t2 (List.mem_of_getElem? (i := 237) (by decide +kernel))) tyX10_ok nmX10 rfl rfl rfl
theorem fX10_63 : p_Fo RX10 63 10 6 .int false := p_Fo.of (C := RX10) (T := TX10) (N := 13) tyX10 rfl (by decide) (p_t2 (List.mem_of_getElem? (i := 238) (by decide +kernel))) tyX10_ok nmX10 rfl rfl
theorem fX10_67 : p_Fo RX10 67 10 7 .int false := p_Fo.of (C := RX10) (T := TX10) (N := 13) tyX10 rfl (by decide) (p_t2 (List.mem_of_getElem? (i := 239) (by decide +kernel))) tyX10_ok nmX10 rfl rfl
theorem fX10_73 : p_F RX10 73 10 8 (.object "StreetAutomata$PairSearch") true := p_F.of (C := RX10) (T := TX10) (N := 13) tyX10 rfl (by decide) (p_t3 (List.mem_of_getElem? (i := 0) (by decide +kernel))) tyX10_ok nmX10 rfl rfl rfl
theorem fX10_80 : p_F RX10 80 10 9 (.object "StreetAutomata$WordCounts") true := p_F.of (C := RX10) (T := TX10) (N := 13) tyX10 rfl (by decide) (p_t3 (List.mem_of_getElem? (i := 1) (by decide +kernel))) tyX10_ok nmX10 rfl rfl rfl
theorem fX10_87 : p_F RX10 87 10 10 (.object "StreetAutomata$StateClasses") true := p_F.of (C := RX10) (T := TX10) (N := 13) tyX10 rfl (by decide) (p_t3 (List.mem_of_getElem? (i := 2) (by decide +kernel))) tyX10_ok nmX10 rfl rfl rfl
theorem fX10_91 : p_F RX10 91 10 11 (.array .int) true := p_F.of (C := RX10) (T := TX10) (N := 13) tyX10 rfl (by decide) (p_t3 (List.mem_of_getElem? (i := 3) (by decide +kernel))) tyX10_ok nmX10 rfl rfl rfl
theorem fX10_121 : p_Fo RX10 121 5 0 .int true := p_Fo.of (C := RX5) (T := TX5) (N := 11) tyX5 rfl (by decide) (p_t2 (List.mem_of_getElem? (i := 78) (by decide +kernel))) tyX5_ok nmX5 rfl rfl
theorem fX10_132 : p_Fo RX10 132 5 5 .int true := p_Fo.of (C := RX5) (T := TX5) (N := 11) tyX5 rfl (by decide) (p_t2 (List.mem_of_getElem? (i := 88) (by decide +kernel))) tyX5_ok nmX5 rfl rfl
theorem fX10_135 : p_Fo RX10 135 9 1 .int false := p_Fo.of (C := RX9) (T := TX9) (N := 10) tyX9 rfl (by decide) (p_t2 (List.mem_of_getElem? (i := 132) (by decide +kernel))) tyX9_ok nmX9 rfl rfl
theorem fX10_181 : p_Fo RX10 181 9 0 .boolean false := p_Fo.of (C := RX9) (T := TX9) (N := 10) tyX9 rfl (by decide) (p_t2 (List.mem_of_getElem? (i := 130) (by decide +kernel))) tyX9_ok nmX9 rfl rfl
theorem fX10_222 : p_Fo RX10 222 5 2 .boolean true := p_Fo.of (C := RX5) (T := TX5) (N := 11) tyX5 rfl (by decide) (p_t2 (List.mem_of_getElem? (i := 81) (by decide +kernel))) tyX5_ok nmX5 rfl rfl
theorem fX10_225 : p_Fo RX10 225 5 3 .int true := p_Fo.of (C := RX5) (T := TX5) (N := 11) tyX5 rfl (by decide) (p_t2 (List.mem_of_getElem? (i := 83) (by decide +kernel))) tyX5_ok nmX5 rfl rfl
theorem fX10_228 : p_Fo RX10 228 5 4 .int true := p_Fo.of (C := RX5) (T := TX5) (N := 11) tyX5 rfl (by decide) (p_t2 (List.mem_of_getElem? (i := 85) (by decide +kernel))) tyX5_ok nmX5 rfl rfl
theorem fX10_311 : p_Fo RX10 311 9 2 .int false := p_Fo.of (C := RX9) (T := TX9) (N := 10) tyX9 rfl (by decide) (p_t2 (List.mem_of_getElem? (i := 134) (by decide +kernel))) tyX9_ok nmX9 rfl rfl
theorem fX10_325 : p_Fo RX10 325 10 12 .int false := p_Fo.of (C := RX10) (T := TX10) (N := 13) tyX10 rfl (by decide) (p_t3 (List.mem_of_getElem? (i := 4) (by decide +kernel))) tyX10_ok nmX10 rfl rfl
theorem fX0_11 : p_F RX0 11 0 0 (.array (.object "StreetAutomata$World")) true := p_F.of (C := RX0) (T := TX0) (N := 3) tyX0 rfl (by decide) (p_t2 (List.mem_of_getElem? (i := 172) (by decide +kernel))) tyX0_ok nmX0 rfl rfl rfl
theorem fX0_20 : p_Fo RX0 20 0 2 .int false := p_Fo.of (C := RX0) (T := TX0) (N := 3) tyX0 rfl (by decide) (p_t2 (List.mem_of_getElem? (i := 174) (by decide +kernel))) tyX0_ok nmX0 rfl rfl
theorem fX0_24 : p_Fo RX0 24 0 1 .int false := p_Fo.of (C := RX0) (T := TX0) (N := 3) tyX0 rfl (by decide) (p_t2 (List.mem_of_getElem? (i := 173) (by decide +kernel))) tyX0_ok nmX0 rfl rfl
theorem fX1_9 : p_F RX1 9 1 0 (.array .int) true := p_F.of (C := RX1) (T := TX1) (N := 2) tyX1 rfl (by decide) (p_t1 (List.mem_of_getElem? (i := 38) (by decide +kernel))) tyX1_ok nmX1 rfl rfl rfl
theorem fX1_15 : p_Fo RX1 15 1 1 .int false := p_Fo.of (C := RX1) (T := TX1) (N := 2) tyX1 rfl (by decide) (p_t1 (List.mem_of_getElem? (i := 39) (by decide +kernel))) tyX1_ok nmX1 rfl rfl
theorem fX2_10 : p_F RX2 10 2 2 (.object "StreetAutomata$Part") true := p_F.of (C := RX2) (T := TX2) (N := 6) tyX2 rfl (by decide) (p_t1 (List.mem_of_getElem? (i := 84) (by decide +kernel))) tyX2_ok nmX2 rfl rfl rfl
theorem fX2_16 : p_F RX2 16 2 3 (.object "StreetAutomata$Part") true := p_F.of (C := RX2) (T := TX2) (N := 6) tyX2 rfl (by decide) (p_t1 (List.mem_of_getElem? (i := 86) (by decide +kernel))) tyX2_ok nmX2 rfl rfl rfl
theorem fX2_19 : p_F RX2 19 2 4 (.object "StreetAutomata$Part") true := p_F.of (C := RX2) (T := TX2) (N := 6) tyX2 rfl (by decide) (p_t1 (List.mem_of_getElem? (i := 88) (by decide +kernel))) tyX2_ok nmX2 rfl rfl rfl
theorem fX2_22 : p_F RX2 22 2 0 (.object "StreetAutomata$Level") true := p_F.of (C := RX2) (T := TX2) (N := 6) tyX2 rfl (by decide) (p_t1 (List.mem_of_getElem? (i := 80) (by decide +kernel))) tyX2_ok nmX2 rfl rfl rfl
theorem fX2_29 : p_Fo RX2 29 2 1 (.object "StreetAutomata$Level") false := p_Fo.of (C := RX2) (T := TX2) (N := 6) tyX2 rfl (by decide) (p_t1 (List.mem_of_getElem? (i := 82) (by decide +kernel))) tyX2_ok nmX2 rfl rfl
theorem fX2_39 : p_Fo RX2 39 2 5 .boolean false := p_Fo.of (C := RX2) (T := TX2) (N := 6) tyX2 rfl (by decide) (p_t1 (List.mem_of_getElem? (i := 90) (by decide +kernel))) tyX2_ok nmX2 rfl rfl
theorem fX3_9 : p_F RX3 9 3 0 (.array .boolean) true := p_F.of (C := RX3) (T := TX3) (N := 5) tyX3 rfl (by decide) (p_t2 (List.mem_of_getElem? (i := 188) (by decide +kernel))) tyX3_ok nmX3 rfl rfl rfl
theorem fX3_15 : p_F RX3 15 3 1 (.array .int) true := p_F.of (C := RX3) (T := TX3) (N := 5) tyX3 rfl (by decide) (p_t2 (List.mem_of_getElem? (i := 189) (by decide +kernel))) tyX3_ok nmX3 rfl rfl rfl
theorem fX3_19 : p_F RX3 19 3 2 (.array .int) true := p_F.of (C := RX3) (T := TX3) (N := 5) tyX3 rfl (by decide) (p_t2 (List.mem_of_getElem? (i := 190) (by decide +kernel))) tyX3_ok nmX3 rfl rfl rfl
theorem fX3_22 : p_F RX3 22 3 3 (.array .int) true := p_F.of (C := RX3) (T := TX3) (N := 5) tyX3 rfl (by decide) (p_t2 (List.mem_of_getElem? (i := 191) (by decide +kernel))) tyX3_ok nmX3 rfl rfl rfl
theorem fX4_7 : p_Fo RX4 7 4 0 .boolean false := p_Fo.of (C := RX4) (T := TX4) (N := 3) tyX4 rfl (by decide) (p_t1 (List.mem_of_getElem? (i := 65) (by decide +kernel))) tyX4_ok nmX4 rfl rfl
theorem fX4_13 : p_Fo RX4 13 4 1 .int false := p_Fo.of (C := RX4) (T := TX4) (N := 3) tyX4 rfl (by decide) (p_t1 (List.mem_of_getElem? (i := 68) (by decide +kernel))) tyX4_ok nmX4 rfl rfl
theorem fX4_17 : p_Fo RX4 17 4 2 .int false := p_Fo.of (C := RX4) (T := TX4) (N := 3) tyX4 rfl (by decide) (p_t1 (List.mem_of_getElem? (i := 71) (by decide +kernel))) tyX4_ok nmX4 rfl rfl
theorem fX5_15 : p_Fo RX5 15 6 5 .int false := p_Fo.of (C := RX6) (T := TX6) (N := 11) tyX6 rfl (by decide) (p_t1 (List.mem_of_getElem? (i := 121) (by decide +kernel))) tyX6_ok nmX6 rfl rfl
theorem fX5_19 : p_F RX5 19 5 0 .int true := p_F.of (C := RX5) (T := TX5) (N := 11) tyX5 rfl (by decide) (p_t2 (List.mem_of_getElem? (i := 77) (by decide +kernel))) tyX5_ok nmX5 rfl rfl rfl
theorem fX5_22 : p_Fo RX5 22 6 6 .int false := p_Fo.of (C := RX6) (T := TX6) (N := 11) tyX6 rfl (by decide) (p_t1 (List.mem_of_getElem? (i := 123) (by decide +kernel))) tyX6_ok nmX6 rfl rfl
theorem fX5_25 : p_F RX5 25 5 1 .int true := p_F.of (C := RX5) (T := TX5) (N := 11) tyX5 rfl (by decide) (p_t2 (List.mem_of_getElem? (i := 79) (by decide +kernel))) tyX5_ok nmX5 rfl rfl rfl
theorem fX5_26 : p_Fo RX5 26 4 0 .boolean false := p_Fo.of (C := RX4) (T := TX4) (N := 3) tyX4 rfl (by decide) (p_t1 (List.mem_of_getElem? (i := 64) (by decide +kernel))) tyX4_ok nmX4 rfl rfl
theorem fX5_32 : p_F RX5 32 5 2 .boolean true := p_F.of (C := RX5) (T := TX5) (N := 11) tyX5 rfl (by decide) (p_t2 (List.mem_of_getElem? (i := 80) (by decide +kernel))) tyX5_ok nmX5 rfl rfl rfl
theorem fX5_33 : p_Fo RX5 33 4 1 .int false := p_Fo.of (C := RX4) (T := TX4) (N := 3) tyX4 rfl (by decide) (p_t1 (List.mem_of_getElem? (i := 67) (by decide +kernel))) tyX4_ok nmX4 rfl rfl
theorem fX5_36 : p_F RX5 36 5 3 .int true := p_F.of (C := RX5) (T := TX5) (N := 11) tyX5 rfl (by decide) (p_t2 (List.mem_of_getElem? (i := 82) (by decide +kernel))) tyX5_ok nmX5 rfl rfl rfl
theorem fX5_37 : p_Fo RX5 37 4 2 .int false := p_Fo.of (C := RX4) (T := TX4) (N := 3) tyX4 rfl (by decide) (p_t1 (List.mem_of_getElem? (i := 70) (by decide +kernel))) tyX4_ok nmX4 rfl rfl
theorem fX5_40 : p_F RX5 40 5 4 .int true := p_F.of (C := RX5) (T := TX5) (N := 11) tyX5 rfl (by decide) (p_t2 (List.mem_of_getElem? (i := 84) (by decide +kernel))) tyX5_ok nmX5 rfl rfl rfl
theorem fX5_41 : p_Fo RX5 41 6 7 .int false := p_Fo.of (C := RX6) (T := TX6) (N := 11) tyX6 rfl (by decide) (p_t1 (List.mem_of_getElem? (i := 125) (by decide +kernel))) tyX6_ok nmX6 rfl rfl
theorem fX5_44 : p_F RX5 44 5 5 .int true := p_F.of (C := RX5) (T := TX5) (N := 11) tyX5 rfl (by decide) (p_t2 (List.mem_of_getElem? (i := 86) (by decide +kernel))) tyX5_ok nmX5 rfl rfl rfl
theorem fX5_45 : p_Fo RX5 45 6 0 (.array .int) true := p_Fo.of (C := RX6) (T := TX6) (N := 11) tyX6 rfl (by decide) (p_t1 (List.mem_of_getElem? (i := 112) (by decide +kernel))) tyX6_ok nmX6 rfl rfl
theorem fX5_54 : p_F RX5 54 5 6 (.array .int) true := p_F.of (C := RX5) (T := TX5) (N := 11) tyX5 rfl (by decide) (p_t2 (List.mem_of_getElem? (i := 89) (by decide +kernel))) tyX5_ok nmX5 rfl rfl rfl
theorem fX5_55 : p_Fo RX5 55 6 1 (.array .int) true := p_Fo.of (C := RX6) (T := TX6) (N := 11) tyX6 rfl (by decide) (p_t1 (List.mem_of_getElem? (i := 114) (by decide +kernel))) tyX6_ok nmX6 rfl rfl
theorem fX5_58 : p_F RX5 58 5 7 (.array .int) true := p_F.of (C := RX5) (T := TX5) (N := 11) tyX5 rfl (by decide) (p_t2 (List.mem_of_getElem? (i := 90) (by decide +kernel))) tyX5_ok nmX5 rfl rfl rfl
theorem fX5_59 : p_Fo RX5 59 6 2 (.array .int) true := p_Fo.of (C := RX6) (T := TX6) (N := 11) tyX6 rfl (by decide) (p_t1 (List.mem_of_getElem? (i := 116) (by decide +kernel))) tyX6_ok nmX6 rfl rfl
theorem fX5_62 : p_F RX5 62 5 8 (.array .int) true := p_F.of (C := RX5) (T := TX5) (N := 11) tyX5 rfl (by decide) (p_t2 (List.mem_of_getElem? (i := 91) (by decide +kernel))) tyX5_ok nmX5 rfl rfl rfl
theorem fX5_63 : p_Fo RX5 63 6 3 (.array .int) true := p_Fo.of (C := RX6) (T := TX6) (N := 11) tyX6 rfl (by decide) (p_t1 (List.mem_of_getElem? (i := 118) (by decide +kernel))) tyX6_ok nmX6 rfl rfl
theorem fX5_66 : p_F RX5 66 5 9 (.array .int) true := p_F.of (C := RX5) (T := TX5) (N := 11) tyX5 rfl (by decide) (p_t2 (List.mem_of_getElem? (i := 92) (by decide +kernel))) tyX5_ok nmX5 rfl rfl rfl
theorem fX5_67 : p_Fo RX5 67 6 4 (.array .int) true := p_Fo.of (C := RX6) (T := TX6) (N := 11) tyX6 rfl (by decide) (p_t1 (List.mem_of_getElem? (i := 120) (by decide +kernel))) tyX6_ok nmX6 rfl rfl
theorem fX5_70 : p_F RX5 70 5 10 (.array .int) true := p_F.of (C := RX5) (T := TX5) (N := 11) tyX5 rfl (by decide) (p_t2 (List.mem_of_getElem? (i := 93) (by decide +kernel))) tyX5_ok nmX5 rfl rfl rfl
theorem fX6_9 : p_F RX6 9 6 0 (.array .int) true := p_F.of (C := RX6) (T := TX6) (N := 11) tyX6 rfl (by decide) (p_t1 (List.mem_of_getElem? (i := 111) (by decide +kernel))) tyX6_ok nmX6 rfl rfl rfl
theorem fX6_15 : p_F RX6 15 6 1 (.array .int) true := p_F.of (C := RX6) (T := TX6) (N := 11) tyX6 rfl (by decide) (p_t1 (List.mem_of_getElem? (i := 113) (by decide +kernel))) tyX6_ok nmX6 rfl rfl rfl
theorem fX6_18 : p_F RX6 18 6 2 (.array .int) true := p_F.of (C := RX6) (T := TX6) (N := 11) tyX6 rfl (by decide) (p_t1 (List.mem_of_getElem? (i := 115) (by decide +kernel))) tyX6_ok nmX6 rfl rfl rfl
theorem fX6_21 : p_F RX6 21 6 3 (.array .int) true := p_F.of (C := RX6) (T := TX6) (N := 11) tyX6 rfl (by decide) (p_t1 (List.mem_of_getElem? (i := 117) (by decide +kernel))) tyX6_ok nmX6 rfl rfl rfl
theorem fX6_24 : p_F RX6 24 6 4 (.array .int) true := p_F.of (C := RX6) (T := TX6) (N := 11) tyX6 rfl (by decide) (p_t1 (List.mem_of_getElem? (i := 119) (by decide +kernel))) tyX6_ok nmX6 rfl rfl rfl
theorem fX6_32 : p_F RX6 32 6 9 (.object "StreetAutomata$Level") true := p_F.of (C := RX6) (T := TX6) (N := 11) tyX6 rfl (by decide) (p_t1 (List.mem_of_getElem? (i := 128) (by decide +kernel))) tyX6_ok nmX6 rfl rfl rfl
theorem fX6_40 : p_Fo RX6 40 6 10 (.object "StreetAutomata$Level") false := p_Fo.of (C := RX6) (T := TX6) (N := 11) tyX6 rfl (by decide) (p_t1 (List.mem_of_getElem? (i := 129) (by decide +kernel))) tyX6_ok nmX6 rfl rfl
theorem fX6_43 : p_Fo RX6 43 6 8 .int false := p_Fo.of (C := RX6) (T := TX6) (N := 11) tyX6 rfl (by decide) (p_t1 (List.mem_of_getElem? (i := 127) (by decide +kernel))) tyX6_ok nmX6 rfl rfl
theorem fX6_47 : p_Fo RX6 47 2 2 (.object "StreetAutomata$Part") true := p_Fo.of (C := RX2) (T := TX2) (N := 6) tyX2 rfl (by decide) (p_t1 (List.mem_of_getElem? (i := 85) (by decide +kernel))) tyX2_ok nmX2 rfl rfl
theorem fX6_67 : p_Fo RX6 67 2 0 (.object "StreetAutomata$Level") true := p_Fo.of (C := RX2) (T := TX2) (N := 6) tyX2 rfl (by decide) (p_t1 (List.mem_of_getElem? (i := 81) (by decide +kernel))) tyX2_ok nmX2 rfl rfl
theorem fX6_78 : p_Fo RX6 78 6 5 .int false := p_Fo.of (C := RX6) (T := TX6) (N := 11) tyX6 rfl (by decide) (p_t1 (List.mem_of_getElem? (i := 122) (by decide +kernel))) tyX6_ok nmX6 rfl rfl
theorem fX6_81 : p_Fo RX6 81 6 6 .int false := p_Fo.of (C := RX6) (T := TX6) (N := 11) tyX6 rfl (by decide) (p_t1 (List.mem_of_getElem? (i := 124) (by decide +kernel))) tyX6_ok nmX6 rfl rfl
theorem fX6_84 : p_Fo RX6 84 6 7 .int false := p_Fo.of (C := RX6) (T := TX6) (N := 11) tyX6 rfl (by decide) (p_t1 (List.mem_of_getElem? (i := 126) (by decide +kernel))) tyX6_ok nmX6 rfl rfl
theorem fX6_120 : p_Fo RX6 120 2 1 (.object "StreetAutomata$Level") false := p_Fo.of (C := RX2) (T := TX2) (N := 6) tyX2 rfl (by decide) (p_t1 (List.mem_of_getElem? (i := 83) (by decide +kernel))) tyX2_ok nmX2 rfl rfl
theorem fX6_123 : p_Fo RX6 123 4 0 .boolean false := p_Fo.of (C := RX4) (T := TX4) (N := 3) tyX4 rfl (by decide) (p_t1 (List.mem_of_getElem? (i := 66) (by decide +kernel))) tyX4_ok nmX4 rfl rfl
theorem fX6_129 : p_Fo RX6 129 4 1 .int false := p_Fo.of (C := RX4) (T := TX4) (N := 3) tyX4 rfl (by decide) (p_t1 (List.mem_of_getElem? (i := 69) (by decide +kernel))) tyX4_ok nmX4 rfl rfl
theorem fX6_132 : p_Fo RX6 132 4 2 .int false := p_Fo.of (C := RX4) (T := TX4) (N := 3) tyX4 rfl (by decide) (p_t1 (List.mem_of_getElem? (i := 72) (by decide +kernel))) tyX4_ok nmX4 rfl rfl
theorem fX6_135 : p_Fo RX6 135 2 5 .boolean false := p_Fo.of (C := RX2) (T := TX2) (N := 6) tyX2 rfl (by decide) (p_t1 (List.mem_of_getElem? (i := 91) (by decide +kernel))) tyX2_ok nmX2 rfl rfl
theorem fX6_138 : p_Fo RX6 138 2 4 (.object "StreetAutomata$Part") true := p_Fo.of (C := RX2) (T := TX2) (N := 6) tyX2 rfl (by decide) (p_t1 (List.mem_of_getElem? (i := 89) (by decide +kernel))) tyX2_ok nmX2 rfl rfl
theorem fX6_145 : p_Fo RX6 145 2 3 (.object "StreetAutomata$Part") true := p_Fo.of (C := RX2) (T := TX2) (N := 6) tyX2 rfl (by decide) (p_t1 (List.mem_of_getElem? (i := 87) (by decide +kernel))) tyX2_ok nmX2 rfl rfl
theorem fX7_9 : p_F RX7 9 7 0 (.array .int) true := p_F.of (C := RX7) (T := TX7) (N := 4) tyX7 rfl (by decide) (p_t2 (List.mem_of_getElem? (i := 221) (by decide +kernel))) tyX7_ok nmX7 rfl rfl rfl
theorem fX7_15 : p_F RX7 15 7 1 (.array .int) true := p_F.of (C := RX7) (T := TX7) (N := 4) tyX7 rfl (by decide) (p_t2 (List.mem_of_getElem? (i := 222) (by decide +kernel))) tyX7_ok nmX7 rfl rfl rfl
theorem fX7_18 : p_F RX7 18 7 2 (.array .int) true := p_F.of (C := RX7) (T := TX7) (N := 4) tyX7 rfl (by decide) (p_t2 (List.mem_of_getElem? (i := 223) (by decide +kernel))) tyX7_ok nmX7 rfl rfl rfl
theorem fX8_9 : p_F RX8 9 8 0 (.array .long) true := p_F.of (C := RX8) (T := TX8) (N := 1) tyX8 rfl (by decide) (p_t2 (List.mem_of_getElem? (i := 210) (by decide +kernel))) tyX8_ok nmX8 rfl rfl rfl
theorem fX8_15 : p_Fo RX8 15 5 5 .int true := p_Fo.of (C := RX5) (T := TX5) (N := 11) tyX5 rfl (by decide) (p_t2 (List.mem_of_getElem? (i := 87) (by decide +kernel))) tyX5_ok nmX5 rfl rfl
theorem fX9_9 : p_Fo RX9 9 9 5 .int false := p_Fo.of (C := RX9) (T := TX9) (N := 10) tyX9 rfl (by decide) (p_t2 (List.mem_of_getElem? (i := 137) (by decide +kernel))) tyX9_ok nmX9 rfl rfl
theorem fX9_15 : p_Fo RX9 15 9 6 .int false := p_Fo.of (C := RX9) (T := TX9) (N := 10) tyX9 rfl (by decide) (p_t2 (List.mem_of_getElem? (i := 138) (by decide +kernel))) tyX9_ok nmX9 rfl rfl
theorem fX9_18 : p_F RX9 18 9 7 (.array .int) true := p_F.of (C := RX9) (T := TX9) (N := 10) tyX9 rfl (by decide) (p_t2 (List.mem_of_getElem? (i := 139) (by decide +kernel))) tyX9_ok nmX9 rfl rfl rfl
theorem fX9_22 : p_F RX9 22 9 8 (.array .int) true := p_F.of (C := RX9) (T := TX9) (N := 10) tyX9 rfl (by decide) (p_t2 (List.mem_of_getElem? (i := 140) (by decide +kernel))) tyX9_ok nmX9 rfl rfl rfl
theorem fX9_25 : p_F RX9 25 9 9 (.array .int) true := p_F.of (C := RX9) (T := TX9) (N := 10) tyX9 rfl (by decide) (p_t2 (List.mem_of_getElem? (i := 141) (by decide +kernel))) tyX9_ok nmX9 rfl rfl rfl
theorem fX9_28 : p_Fo RX9 28 9 3 (.object "StreetAutomata$Pattern") false := p_Fo.of (C := RX9) (T := TX9) (N := 10) tyX9 rfl (by decide) (p_t2 (List.mem_of_getElem? (i := 135) (by decide +kernel))) tyX9_ok nmX9 rfl rfl
theorem fX9_32 : p_Fo RX9 32 9 4 (.object "StreetAutomata$Pattern") false := p_Fo.of (C := RX9) (T := TX9) (N := 10) tyX9 rfl (by decide) (p_t2 (List.mem_of_getElem? (i := 136) (by decide +kernel))) tyX9_ok nmX9 rfl rfl
theorem fX9_35 : p_Fo RX9 35 9 0 .boolean false := p_Fo.of (C := RX9) (T := TX9) (N := 10) tyX9 rfl (by decide) (p_t2 (List.mem_of_getElem? (i := 129) (by decide +kernel))) tyX9_ok nmX9 rfl rfl
theorem fX9_39 : p_Fo RX9 39 9 1 .int false := p_Fo.of (C := RX9) (T := TX9) (N := 10) tyX9 rfl (by decide) (p_t2 (List.mem_of_getElem? (i := 131) (by decide +kernel))) tyX9_ok nmX9 rfl rfl
theorem fX9_42 : p_Fo RX9 42 9 2 .int false := p_Fo.of (C := RX9) (T := TX9) (N := 10) tyX9 rfl (by decide) (p_t2 (List.mem_of_getElem? (i := 133) (by decide +kernel))) tyX9_ok nmX9 rfl rfl
theorem nX10_9 : p_N RX10 9 1 [.null, .int 0] 2 := p_N.of (C := RX1) (T := TX1) tyX1 rfl (p_t1 (List.mem_of_getElem? (i := 32) (by decide +kernel))) (p_t1 (List.mem_of_getElem? (i := 33) (by decide +kernel))) (p_t1 (List.mem_of_getElem? (i := 2) (by decide +kernel))) tyX1_ok (fun j hj => by rcases (show j = 0 ∨ j = 1 by omega) with rfl | rfl <;> rfl)
theorem nX10_12 : p_N RX10 12 6 [.null, .null, .null, .null, .null, .int 0, .int 0, .int 0, .int 0, .null, .null] 11 := p_N.of (C := RX6) (T := TX6) tyX6 rfl (p_t1 (List.mem_of_getElem? (i := 46) (by decide +kernel))) (p_t1 (List.mem_of_getElem? (i := 47) (by decide +kernel))) (p_t1 (List.mem_of_getElem? (i := 3) (by decide +kernel))) tyX6_ok (fun j hj => by rcases (show j = 0 ∨ j = 1 ∨ j = 2 ∨ j = 3 ∨ j = 4 ∨ j = 5 ∨ j = 6 ∨ j = 7 ∨ j = 8 ∨ j = 9 ∨ j = 10 by omega) with rfl | rfl | rfl | rfl | rfl | rfl | rfl | rfl | rfl | rfl | rfl <;> rfl)
theorem nX10_25 : p_N RX10 25 5 [.int 0, .int 0, .int 0, .int 0, .int 0, .int 0, .null, .null, .null, .null, .null] 11 := p_N.of (C := RX5) (T := TX5) tyX5 rfl (p_t2 (List.mem_of_getElem? (i := 63) (by decide +kernel))) (p_t2 (List.mem_of_getElem? (i := 64) (by decide +kernel))) (p_t1 (List.mem_of_getElem? (i := 11) (by decide +kernel))) tyX5_ok (fun j hj => by rcases (show j = 0 ∨ j = 1 ∨ j = 2 ∨ j = 3 ∨ j = 4 ∨ j = 5 ∨ j = 6 ∨ j = 7 ∨ j = 8 ∨ j = 9 ∨ j = 10 by omega) with rfl | rfl | rfl | rfl | rfl | rfl | rfl | rfl | rfl | rfl | rfl <;> rfl)
theorem nX10_44 : p_N RX10 44 9 [.int 0, .int 0, .int 0, .null, .null, .int 0, .int 0, .null, .null, .null] 10 := p_N.of (C := RX9) (T := TX9) tyX9 rfl (p_t2 (List.mem_of_getElem? (i := 123) (by decide +kernel))) (p_t2 (List.mem_of_getElem? (i := 124) (by decide +kernel))) (p_t1 (List.mem_of_getElem? (i := 12) (by decide +kernel))) tyX9_ok (fun j hj => by rcases (show j = 0 ∨ j = 1 ∨ j = 2 ∨ j = 3 ∨ j = 4 ∨ j = 5 ∨ j = 6 ∨ j = 7 ∨ j = 8 ∨ j = 9 by omega) with rfl | rfl | rfl | rfl | rfl | rfl | rfl | rfl | rfl | rfl <;> rfl)
theorem nX10_53 : p_N RX10 53 0 [.null, .int 0, .int 0] 3 := p_N.of (C := RX0) (T := TX0) tyX0 rfl (p_t2 (List.mem_of_getElem? (i := 163) (by decide +kernel))) (p_t2 (List.mem_of_getElem? (i := 164) (by decide +kernel))) (p_t1 (List.mem_of_getElem? (i := 13) (by decide +kernel))) tyX0_ok (fun j hj => by rcases (show j = 0 ∨ j = 1 ∨ j = 2 by omega) with rfl | rfl | rfl <;> rfl)
theorem nX10_70 : p_N RX10 70 3 [.null, .null, .null, .null, .int 0] 5 := p_N.of (C := RX3) (T := TX3) tyX3 rfl (p_t2 (List.mem_of_getElem? (i := 182) (by decide +kernel))) (p_t2 (List.mem_of_getElem? (i := 183) (by decide +kernel))) (p_t1 (List.mem_of_getElem? (i := 14) (by decide +kernel))) tyX3_ok (fun j hj => by rcases (show j = 0 ∨ j = 1 ∨ j = 2 ∨ j = 3 ∨ j = 4 by omega) with rfl | rfl | rfl | rfl | rfl <;> rfl)
theorem nX10_77 : p_N RX10 77 8 [.null] 1 := p_N.of (C := RX8) (T := TX8) tyX8 rfl (p_t2 (List.mem_of_getElem? (i := 204) (by decide +kernel))) (p_t2 (List.mem_of_getElem? (i := 205) (by decide +kernel))) (p_t1 (List.mem_of_getElem? (i := 15) (by decide +kernel))) tyX8_ok (fun j hj => by rcases (show j = 0 by omega) with rfl <;> rfl)
theorem nX10_84 : p_N RX10 84 7 [.null, .null, .null, .int 0] 4 := p_N.of (C := RX7) (T := TX7) tyX7 rfl (p_t2 (List.mem_of_getElem? (i := 215) (by decide +kernel))) (p_t2 (List.mem_of_getElem? (i := 216) (by decide +kernel))) (p_t1 (List.mem_of_getElem? (i := 16) (by decide +kernel))) tyX7_ok (fun j hj => by rcases (show j = 0 ∨ j = 1 ∨ j = 2 ∨ j = 3 by omega) with rfl | rfl | rfl | rfl <;> rfl)
theorem nX0_9 : p_N RX0 9 9 [.int 0, .int 0, .int 0, .null, .null, .int 0, .int 0, .null, .null, .null] 10 := p_N.of (C := RX9) (T := TX9) tyX9 rfl (p_t2 (List.mem_of_getElem? (i := 169) (by decide +kernel))) (p_t2 (List.mem_of_getElem? (i := 124) (by decide +kernel))) (p_t1 (List.mem_of_getElem? (i := 12) (by decide +kernel))) tyX9_ok (fun j hj => by rcases (show j = 0 ∨ j = 1 ∨ j = 2 ∨ j = 3 ∨ j = 4 ∨ j = 5 ∨ j = 6 ∨ j = 7 ∨ j = 8 ∨ j = 9 by omega) with rfl | rfl | rfl | rfl | rfl | rfl | rfl | rfl | rfl | rfl <;> rfl)
theorem nX2_7 : p_N RX2 7 4 [.int 0, .int 0, .int 0] 3 := p_N.of (C := RX4) (T := TX4) tyX4 rfl (p_t1 (List.mem_of_getElem? (i := 58) (by decide +kernel))) (p_t1 (List.mem_of_getElem? (i := 59) (by decide +kernel))) (p_t1 (List.mem_of_getElem? (i := 5) (by decide +kernel))) tyX4_ok (fun j hj => by rcases (show j = 0 ∨ j = 1 ∨ j = 2 by omega) with rfl | rfl | rfl <;> rfl)
theorem nX2_11 : p_N RX2 11 2 [.null, .null, .null, .null, .null, .int 0] 6 := p_N.of (C := RX2) (T := TX2) tyX2 rfl (p_t1 (List.mem_of_getElem? (i := 109) (by decide +kernel))) (p_t1 (List.mem_of_getElem? (i := 53) (by decide +kernel))) (p_t1 (List.mem_of_getElem? (i := 4) (by decide +kernel))) tyX2_ok (fun j hj => by rcases (show j = 0 ∨ j = 1 ∨ j = 2 ∨ j = 3 ∨ j = 4 ∨ j = 5 by omega) with rfl | rfl | rfl | rfl | rfl | rfl <;> rfl)
theorem nX6_27 : p_N RX6 27 2 [.null, .null, .null, .null, .null, .int 0] 6 := p_N.of (C := RX2) (T := TX2) tyX2 rfl (p_t1 (List.mem_of_getElem? (i := 52) (by decide +kernel))) (p_t1 (List.mem_of_getElem? (i := 53) (by decide +kernel))) (p_t1 (List.mem_of_getElem? (i := 4) (by decide +kernel))) tyX2_ok (fun j hj => by rcases (show j = 0 ∨ j = 1 ∨ j = 2 ∨ j = 3 ∨ j = 4 ∨ j = 5 by omega) with rfl | rfl | rfl | rfl | rfl | rfl <;> rfl)
theorem nL_8 : p_N RL 8 10 [.null, .null, .null, .null, .null, .int 0, .int 0, .int 0, .null, .null, .null, .null, .int 0] 13 := p_N.of (C := RX10) (T := TX10) tyX10 rfl (p_t1 (List.mem_of_getElem? (i := 24) (by decide +kernel))) (p_t1 (List.mem_of_getElem? (i := 25) (by decide +kernel))) (p_t1 (List.mem_of_getElem? (i := 1) (by decide +kernel))) tyX10_ok (fun j hj => by rcases (show j = 0 ∨ j = 1 ∨ j = 2 ∨ j = 3 ∨ j = 4 ∨ j = 5 ∨ j = 6 ∨ j = 7 ∨ j = 8 ∨ j = 9 ∨ j = 10 ∨ j = 11 ∨ j = 12 by omega) with rfl | rfl | rfl | rfl | rfl | rfl | rfl | rfl | rfl | rfl | rfl | rfl | rfl <;> rfl)
