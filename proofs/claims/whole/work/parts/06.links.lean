abbrev mX0_init : aM := (yX0_init, cX0_init, 1, none)
abbrev mX0_forget : aM := (yX0_forget, cX0_forget, 1, none)
abbrev mX0_add : aM := (yX0_add, cX0_add, 3, (some .boolean))
abbrev mX0_firstWrong : aM := (yX0_firstWrong, cX0_firstWrong, 3, (some .int))
abbrev mX1_init : aM := (yX1_init, cX1_init, 1, none)
abbrev mX1_begin : aM := (yX1_begin, cX1_begin, 2, none)
abbrev mX1_copy : aM := (yX1_copy, cX1_copy, 2, none)
abbrev mX1_counts : aM := (yX1_counts, cX1_counts, 2, (some .boolean))
abbrev mX1_which : aM := (yX1_which, cX1_which, 5, (some .int))
abbrev mX2_init : aM := (yX2_init, cX2_init, 1, none)
abbrev mX3_init : aM := (yX3_init, cX3_init, 2, none)
abbrev mX3_forget : aM := (yX3_forget, cX3_forget, 1, none)
abbrev mX3_push : aM := (yX3_push, cX3_push, 2, none)
abbrev mX3_pop : aM := (yX3_pop, cX3_pop, 3, none)
abbrev mX4_init : aM := (yX4_init, cX4_init, 4, none)
abbrev mX4_seek : aM := (yX4_seek, cX4_seek, 1, none)
abbrev mX4_extend : aM := (yX4_extend, cX4_extend, 15, none)
abbrev mX4_canBeat : aM := (yX4_canBeat, cX4_canBeat, 3, (some .boolean))
abbrev mX4_settle : aM := (yX4_settle, cX4_settle, 4, none)
abbrev mX5_init : aM := (yX5_init, cX5_init, 1, none)
abbrev mX5_forget : aM := (yX5_forget, cX5_forget, 1, none)
abbrev mX5_add : aM := (yX5_add, cX5_add, 3, (some .boolean))
abbrev mX5_fits : aM := (yX5_fits, cX5_fits, 4, (some .boolean))
abbrev mX6_init : aM := (yX6_init, cX6_init, 1, none)
abbrev mX6_begin : aM := (yX6_begin, cX6_begin, 1, none)
abbrev mX6_copy : aM := (yX6_copy, cX6_copy, 2, none)
abbrev mX6_addStop : aM := (yX6_addStop, cX6_addStop, 4, none)
abbrev mX6_addDin : aM := (yX6_addDin, cX6_addDin, 2, none)
abbrev mX6_has : aM := (yX6_has, cX6_has, 2, (some .boolean))
abbrev mX6_isWay : aM := (yX6_isWay, cX6_isWay, 5, (some .boolean))
abbrev mX6_risingWay : aM := (yX6_risingWay, cX6_risingWay, 3, (some .int))
abbrev mX6_dinOf : aM := (yX6_dinOf, cX6_dinOf, 2, (some .int))
abbrev mX6_isIn : aM := (yX6_isIn, cX6_isIn, 3, (some .boolean))
abbrev mX6_meets : aM := (yX6_meets, cX6_meets, 6, (some .int))
abbrev mX6_secondsAtDoor : aM := (yX6_secondsAtDoor, cX6_secondsAtDoor, 3, (some .int))
abbrev mX6_secondsBetween : aM := (yX6_secondsBetween, cX6_secondsBetween, 3, (some .int))
abbrev mX6_countNear : aM := (yX6_countNear, cX6_countNear, 6, (some .int))
abbrev mX7_init : aM := (yX7_init, cX7_init, 1, none)
abbrev mX7_add : aM := (yX7_add, cX7_add, 2, (some .boolean))
abbrev mX7_empty : aM := (yX7_empty, cX7_empty, 1, none)
abbrev mX7_readInto : aM := (yX7_readInto, cX7_readInto, 4, none)
abbrev mX7_readClause : aM := (yX7_readClause, cX7_readClause, 4, none)
abbrev mX7_readVan : aM := (yX7_readVan, cX7_readVan, 3, none)
abbrev mX7_readStop : aM := (yX7_readStop, cX7_readStop, 5, none)
abbrev mX7_readDin : aM := (yX7_readDin, cX7_readDin, 3, none)
abbrev mX7_readNeighbour : aM := (yX7_readNeighbour, cX7_readNeighbour, 5, none)
abbrev mX7_number : aM := (yX7_number, cX7_number, 5, (some .int))
abbrev mX7_endClause : aM := (yX7_endClause, cX7_endClause, 1, none)
abbrev mX7_peek : aM := (yX7_peek, cX7_peek, 1, (some .int))
abbrev mX7_isFigure : aM := (yX7_isFigure, cX7_isFigure, 1, (some .boolean))
abbrev mX7_fail : aM := (yX7_fail, cX7_fail, 3, none)
abbrev mX8_init : aM := (yX8_init, cX8_init, 1, none)
abbrev mX8_run : aM := (yX8_run, cX8_run, 7, none)
abbrev mX8_begin : aM := (yX8_begin, cX8_begin, 3, none)
abbrev mX8_firstUnit : aM := (yX8_firstUnit, cX8_firstUnit, 3, (some .int))
abbrev mX8_call : aM := (yX8_call, cX8_call, 6, none)
abbrev mX9_init : aM := (yX9_init, cX9_init, 1, none)
abbrev mX9_feed : aM := (yX9_feed, cX9_feed, 2, (some .int))
abbrev mX9_street : aM := (yX9_street, cX9_street, 2, (some .int))
abbrev mX9_fault : aM := (yX9_fault, cX9_fault, 1, (some .int))
abbrev mX9_told : aM := (yX9_told, cX9_told, 2, (some .int))
abbrev mX9_stop : aM := (yX9_stop, cX9_stop, 3, (some .int))
abbrev mX9_din : aM := (yX9_din, cX9_din, 2, (some .int))
abbrev mX9_round : aM := (yX9_round, cX9_round, 4, (some .int))
abbrev mX9_fetch : aM := (yX9_fetch, cX9_fetch, 3, (some .int))
abbrev mX9_order : aM := (yX9_order, cX9_order, 2, (some .int))
abbrev mX9_thank : aM := (yX9_thank, cX9_thank, 3, (some .int))
abbrev mX9_drift : aM := (yX9_drift, cX9_drift, 4, (some .int))
abbrev mX9_undo : aM := (yX9_undo, cX9_undo, 2, (some .int))
abbrev mX9_comes : aM := (yX9_comes, cX9_comes, 5, (some .int))
abbrev mX9_home : aM := (yX9_home, cX9_home, 4, (some .int))
abbrev mX9_outcome : aM := (yX9_outcome, cX9_outcome, 6, (some .int))
abbrev mX9_bath : aM := (yX9_bath, cX9_bath, 10, (some .int))
abbrev mX9_bestWay : aM := (yX9_bestWay, cX9_bestWay, 4, (some .int))
abbrev mX9_pretends : aM := (yX9_pretends, cX9_pretends, 7, (some .int))
abbrev mX9_locker : aM := (yX9_locker, cX9_locker, 8, (some .int))
abbrev mX9_bears : aM := (yX9_bears, cX9_bears, 2, (some .int))
abbrev mX9_heard : aM := (yX9_heard, cX9_heard, 6, (some .int))
abbrev mX9_see : aM := (yX9_see, cX9_see, 3, (some .int))
abbrev mX9_rang : aM := (yX9_rang, cX9_rang, 5, (some .int))
abbrev mX9_write : aM := (yX9_write, cX9_write, 3, (some .int))
abbrev mX9_judge : aM := (yX9_judge, cX9_judge, 1, (some .int))
abbrev mX9_tear : aM := (yX9_tear, cX9_tear, 2, (some .int))
abbrev mX9_seed : aM := (yX9_seed, cX9_seed, 3, (some .int))
abbrev mX9_keep : aM := (yX9_keep, cX9_keep, 2, (some .int))
abbrev mX9_goBack : aM := (yX9_goBack, cX9_goBack, 2, (some .int))
abbrev mX9_within : aM := (yX9_within, cX9_within, 3, (some .boolean))
abbrev mX9_ringsAt : aM := (yX9_ringsAt, cX9_ringsAt, 2, (some .boolean))
abbrev mX9_refusalOfTrip : aM := (yX9_refusalOfTrip, cX9_refusalOfTrip, 3, (some .int))
abbrev mX9_drive : aM := (yX9_drive, cX9_drive, 3, none)
abbrev mX9_draw : aM := (yX9_draw, cX9_draw, 2, (some .int))
abbrev mX9_orderByDraw : aM := (yX9_orderByDraw, cX9_orderByDraw, 2, none)
abbrev mX9_bestToAsk : aM := (yX9_bestToAsk, cX9_bestToAsk, 8, (some .int))
abbrev mX10_init : aM := (yX10_init, cX10_init, 1, none)
abbrev mX10_in : aM := (yX10_in, cX10_in, 6, (some .boolean))
abbrev mX10_one : aM := (yX10_one, cX10_one, 1, (some .int))
abbrev mX10_has : aM := (yX10_has, cX10_has, 2, (some .boolean))
abbrev mX10_far : aM := (yX10_far, cX10_far, 2, (some .int))
abbrev mX10_feed : aM := (yX10_feed, cX10_feed, 2, (some .int))
abbrev mX10_here : aM := (yX10_here, cX10_here, 1, (some .int))
abbrev mX10_want : aM := (yX10_want, cX10_want, 4, (some .boolean))
abbrev mX10_takeNumber : aM := (yX10_takeNumber, cX10_takeNumber, 4, (some .int))
abbrev mX10_takeIn : aM := (yX10_takeIn, cX10_takeIn, 5, (some .int))
abbrev mX10_takeRule : aM := (yX10_takeRule, cX10_takeRule, 3, none)
abbrev mX10_takeStop : aM := (yX10_takeStop, cX10_takeStop, 3, none)
abbrev mX10_takeDins : aM := (yX10_takeDins, cX10_takeDins, 3, none)
abbrev mX10_takeNeighbour : aM := (yX10_takeNeighbour, cX10_takeNeighbour, 3, none)
abbrev mX10_takeClause : aM := (yX10_takeClause, cX10_takeClause, 3, none)
abbrev mX10_street : aM := (yX10_street, cX10_street, 2, (some .int))
abbrev mX10_take : aM := (yX10_take, cX10_take, 2, none)
abbrev mX10_fault : aM := (yX10_fault, cX10_fault, 1, (some .int))
abbrev mX10_isStop : aM := (yX10_isStop, cX10_isStop, 2, (some .boolean))
abbrev mX10_figures : aM := (yX10_figures, cX10_figures, 3, (some .int))
abbrev mX10_stopOf : aM := (yX10_stopOf, cX10_stopOf, 4, (some .int))
abbrev mX10_isWay : aM := (yX10_isWay, cX10_isWay, 6, (some .boolean))
abbrev mX10_isHaste : aM := (yX10_isHaste, cX10_isHaste, 1, (some .boolean))
abbrev mX10_which : aM := (yX10_which, cX10_which, 4, (some .int))
abbrev mX10_told : aM := (yX10_told, cX10_told, 2, (some .int))
abbrev mX10_stop : aM := (yX10_stop, cX10_stop, 3, (some .int))
abbrev mX10_dinAt : aM := (yX10_dinAt, cX10_dinAt, 2, (some .int))
abbrev mX10_din : aM := (yX10_din, cX10_din, 2, (some .int))
abbrev mX10_isInAt : aM := (yX10_isInAt, cX10_isInAt, 3, (some .boolean))
abbrev mX10_visit : aM := (yX10_visit, cX10_visit, 8, (some .int))
abbrev mX10_roundIn : aM := (yX10_roundIn, cX10_roundIn, 9, (some .int))
abbrev mX10_tryRound : aM := (yX10_tryRound, cX10_tryRound, 3, (some .int))
abbrev mX10_copy : aM := (yX10_copy, cX10_copy, 4, none)
abbrev mX10_remember : aM := (yX10_remember, cX10_remember, 2, none)
abbrev mX10_round : aM := (yX10_round, cX10_round, 3, (some .int))
abbrev mX10_fetch : aM := (yX10_fetch, cX10_fetch, 3, (some .int))
abbrev mX10_order : aM := (yX10_order, cX10_order, 2, (some .int))
abbrev mX10_thank : aM := (yX10_thank, cX10_thank, 3, (some .int))
abbrev mX10_draw : aM := (yX10_draw, cX10_draw, 2, (some .int))
abbrev mX10_drift : aM := (yX10_drift, cX10_drift, 6, (some .int))
abbrev mX10_undo : aM := (yX10_undo, cX10_undo, 3, (some .int))
abbrev mX10_comes : aM := (yX10_comes, cX10_comes, 5, (some .int))
abbrev mX10_home : aM := (yX10_home, cX10_home, 3, (some .int))
abbrev mX10_outcome : aM := (yX10_outcome, cX10_outcome, 6, (some .int))
abbrev mX10_comesTo : aM := (yX10_comesTo, cX10_comesTo, 4, (some .int))
abbrev mX10_bath : aM := (yX10_bath, cX10_bath, 8, (some .int))
abbrev mX10_counting : aM := (yX10_counting, cX10_counting, 3, (some .int))
abbrev mX10_wayOf : aM := (yX10_wayOf, cX10_wayOf, 4, (some .int))
abbrev mX10_exchange : aM := (yX10_exchange, cX10_exchange, 4, none)
abbrev mX10_nextRow : aM := (yX10_nextRow, cX10_nextRow, 6, (some .boolean))
abbrev mX10_bestWay : aM := (yX10_bestWay, cX10_bestWay, 11, (some .int))
abbrev mX10_pretends : aM := (yX10_pretends, cX10_pretends, 7, (some .int))
abbrev mX10_locker : aM := (yX10_locker, cX10_locker, 10, (some .int))
abbrev mX10_bears : aM := (yX10_bears, cX10_bears, 2, (some .int))
abbrev mX10_heard : aM := (yX10_heard, cX10_heard, 6, (some .int))
abbrev mX10_see : aM := (yX10_see, cX10_see, 3, (some .int))
abbrev mX10_slipsBy : aM := (yX10_slipsBy, cX10_slipsBy, 4, (some .int))
abbrev mX10_findHastes : aM := (yX10_findHastes, cX10_findHastes, 6, (some .int))
abbrev mX10_rang : aM := (yX10_rang, cX10_rang, 10, (some .int))
abbrev mX10_write : aM := (yX10_write, cX10_write, 3, (some .int))
abbrev mX10_judge : aM := (yX10_judge, cX10_judge, 2, (some .int))
abbrev mX10_tear : aM := (yX10_tear, cX10_tear, 2, (some .int))
abbrev mX10_seed : aM := (yX10_seed, cX10_seed, 3, (some .int))
abbrev mX10_keep : aM := (yX10_keep, cX10_keep, 2, (some .int))
abbrev mX10_goBack : aM := (yX10_goBack, cX10_goBack, 2, (some .int))
abbrev mJ6_bitCount_0f7a4 : aM := (yJ6_bitCount_0f7a4, cJ6_bitCount_0f7a4, 1, (some .int))
abbrev mJ9_abs_0f7a4 : aM := (yJ9_abs_0f7a4, cJ9_abs_0f7a4, 1, (some .int))
abbrev mJ9_max_7cf53 : aM := (yJ9_max_7cf53, cJ9_max_7cf53, 2, (some .int))
abbrev mJ9_min_7cf53 : aM := (yJ9_min_7cf53, cJ9_min_7cf53, 2, (some .int))
theorem kc_X9_83 : Cond.constant RX9 83 (-1000000002) ∈ gT := (a_inG 385 (by decide +kernel) rfl)
theorem kc_X9_91 : Cond.constant RX9 91 (-1000000004) ∈ gT := (a_inG 390 (by decide +kernel) rfl)
theorem kc_X9_153 : Cond.constant RX9 153 (-1000000001) ∈ gT := (a_inG 496 (by decide +kernel) rfl)
theorem kc_J6_265 : Cond.constant RJ6 265 (1431655765) ∈ gT := (a_inG 582 (by decide +kernel) rfl)
theorem kc_J6_266 : Cond.constant RJ6 266 (858993459) ∈ gT := (a_inG 583 (by decide +kernel) rfl)
theorem kc_J6_267 : Cond.constant RJ6 267 (252645135) ∈ gT := (a_inG 584 (by decide +kernel) rfl)
theorem kc_X9_193 : Cond.constant RX9 193 (-1000000003) ∈ gT := (a_inG 590 (by decide +kernel) rfl)
theorem kc_X9_276 : Cond.constant RX9 276 (65536) ∈ gT := (a_inG 618 (by decide +kernel) rfl)
theorem kc_X10_72 : Cond.constant RX10 72 (-1000000002) ∈ gT := (a_inG 889 (by decide +kernel) rfl)
theorem kc_X10_76 : Cond.constant RX10 76 (-1000000004) ∈ gT := (a_inG 890 (by decide +kernel) rfl)
theorem kc_X10_98 : Cond.constant RX10 98 (99999) ∈ gT := (a_inG 921 (by decide +kernel) rfl)
theorem kc_X10_167 : Cond.constant RX10 167 (-1000000001) ∈ gT := (a_inG 961 (by decide +kernel) rfl)
theorem kc_X10_209 : Cond.constant RX10 209 (-1000000003) ∈ gT := (a_inG 1019 (by decide +kernel) rfl)
theorem kc_X10_216 : Cond.constant RX10 216 (65536) ∈ gT := (a_inG 1040 (by decide +kernel) rfl)
theorem kc_X10_240 : Cond.constant RX10 240 (99999999) ∈ gT := (a_inG 1080 (by decide +kernel) rfl)
theorem kl_X9_270 : Cond.constantLong RX9 270 (1103515245) ∈ gT := (a_inG 615 (by decide +kernel) rfl)
theorem kl_X9_272 : Cond.constantLong RX9 272 (12345) ∈ gT := (a_inG 616 (by decide +kernel) rfl)
theorem kl_X9_274 : Cond.constantLong RX9 274 (2147483647) ∈ gT := (a_inG 617 (by decide +kernel) rfl)
theorem kl_X9_244 : Cond.constantLong RX9 244 (1000000000) ∈ gT := (a_inG 723 (by decide +kernel) rfl)
theorem kl_X9_246 : Cond.constantLong RX9 246 (100) ∈ gT := (a_inG 724 (by decide +kernel) rfl)
theorem kl_X10_66 : Cond.constantLong RX10 66 (255) ∈ gT := (a_inG 885 (by decide +kernel) rfl)
theorem kl_X10_90 : Cond.constantLong RX10 90 (48) ∈ gT := (a_inG 919 (by decide +kernel) rfl)
theorem kl_X10_92 : Cond.constantLong RX10 92 (57) ∈ gT := (a_inG 920 (by decide +kernel) rfl)
theorem kl_X10_168 : Cond.constantLong RX10 168 (11) ∈ gT := (a_inG 966 (by decide +kernel) rfl)
theorem kl_X10_158 : Cond.constantLong RX10 158 (3) ∈ gT := (a_inG 985 (by decide +kernel) rfl)
theorem kl_X10_217 : Cond.constantLong RX10 217 (20) ∈ gT := (a_inG 1032 (by decide +kernel) rfl)
theorem kl_X10_210 : Cond.constantLong RX10 210 (1103515245) ∈ gT := (a_inG 1037 (by decide +kernel) rfl)
theorem kl_X10_212 : Cond.constantLong RX10 212 (12345) ∈ gT := (a_inG 1038 (by decide +kernel) rfl)
theorem kl_X10_214 : Cond.constantLong RX10 214 (2147483648) ∈ gT := (a_inG 1039 (by decide +kernel) rfl)
theorem kl_X10_222 : Cond.constantLong RX10 222 (30) ∈ gT := (a_inG 1045 (by decide +kernel) rfl)
theorem kl_X10_227 : Cond.constantLong RX10 227 (99) ∈ gT := (a_inG 1066 (by decide +kernel) rfl)
theorem kl_X10_235 : Cond.constantLong RX10 235 (2) ∈ gT := (a_inG 1075 (by decide +kernel) rfl)
theorem kl_X10_247 : Cond.constantLong RX10 247 (60) ∈ gT := (a_inG 1109 (by decide +kernel) rfl)
theorem kl_X10_249 : Cond.constantLong RX10 249 (100) ∈ gT := (a_inG 1110 (by decide +kernel) rfl)
theorem kl_X10_251 : Cond.constantLong RX10 251 (1000000000) ∈ gT := (a_inG 1111 (by decide +kernel) rfl)
theorem kl_X10_259 : Cond.constantLong RX10 259 (4) ∈ gT := (a_inG 1132 (by decide +kernel) rfl)
theorem ini_L : Cond.initialized RL ∈ gT := (a_inG 77 (by decide +kernel) rfl)
theorem ini_X9 : Cond.initialized RX9 ∈ gT := (a_inG 78 (by decide +kernel) rfl)
theorem ini_X7 : Cond.initialized RX7 ∈ gT := (a_inG 79 (by decide +kernel) rfl)
theorem ini_X6 : Cond.initialized RX6 ∈ gT := (a_inG 80 (by decide +kernel) rfl)
theorem ini_X1 : Cond.initialized RX1 ∈ gT := (a_inG 81 (by decide +kernel) rfl)
theorem ini_X8 : Cond.initialized RX8 ∈ gT := (a_inG 82 (by decide +kernel) rfl)
theorem ini_X3 : Cond.initialized RX3 ∈ gT := (a_inG 83 (by decide +kernel) rfl)
theorem ini_X5 : Cond.initialized RX5 ∈ gT := (a_inG 84 (by decide +kernel) rfl)
theorem ini_X0 : Cond.initialized RX0 ∈ gT := (a_inG 85 (by decide +kernel) rfl)
theorem ini_X2 : Cond.initialized RX2 ∈ gT := (a_inG 86 (by decide +kernel) rfl)
theorem ini_X10 : Cond.initialized RX10 ∈ gT := (a_inG 87 (by decide +kernel) rfl)
theorem ini_J10 : Cond.initialized RJ10 ∈ gT := (a_inG 88 (by decide +kernel) rfl)
theorem ini_J9 : Cond.initialized RJ9 ∈ gT := (a_inG 89 (by decide +kernel) rfl)
theorem ini_J6 : Cond.initialized RJ6 ∈ gT := (a_inG 90 (by decide +kernel) rfl)
theorem ini_X4 : Cond.initialized RX4 ∈ gT := (a_inG 91 (by decide +kernel) rfl)
theorem fl_X7_9 : a_fl RX7 9 7 0 := ⟨_, rfl, by decide, Or.inl (a_inG 106 (by decide +kernel) rfl)⟩
theorem fp_X7_9 : a_fp RX7 9 7 0 (.array .int) true := ⟨_, rfl, by decide, rfl, by decide +kernel, Or.inl ⟨(a_inG 106 (by decide +kernel) rfl), fun _ => rfl⟩⟩
theorem fl_X7_15 : a_fl RX7 15 7 1 := ⟨_, rfl, by decide, Or.inl (a_inG 107 (by decide +kernel) rfl)⟩
theorem fp_X7_15 : a_fp RX7 15 7 1 .int false := ⟨_, rfl, by decide, rfl, by decide +kernel, Or.inl ⟨(a_inG 107 (by decide +kernel) rfl), fun _ => rfl⟩⟩
theorem fl_X9_88 : a_fl RX9 88 7 1 := ⟨_, rfl, by decide, Or.inr ⟨"WeWereIn", (a_inN 108 (by decide +kernel) rfl)⟩⟩
theorem fp_X9_88 : a_fp RX9 88 7 1 .int false := ⟨_, rfl, by decide, rfl, by decide +kernel, Or.inr ⟨rfl, "WeWereIn", (a_inN 108 (by decide +kernel) rfl)⟩⟩
theorem fl_X7_19 : a_fl RX7 19 7 2 := ⟨_, rfl, by decide, Or.inl (a_inG 109 (by decide +kernel) rfl)⟩
theorem fp_X7_19 : a_fp RX7 19 7 2 .int false := ⟨_, rfl, by decide, rfl, by decide +kernel, Or.inl ⟨(a_inG 109 (by decide +kernel) rfl), fun _ => rfl⟩⟩
theorem fl_X9_99 : a_fl RX9 99 7 2 := ⟨_, rfl, by decide, Or.inr ⟨"WeWereIn", (a_inN 110 (by decide +kernel) rfl)⟩⟩
theorem fp_X9_99 : a_fp RX9 99 7 2 .int false := ⟨_, rfl, by decide, rfl, by decide +kernel, Or.inr ⟨rfl, "WeWereIn", (a_inN 110 (by decide +kernel) rfl)⟩⟩
theorem fl_X7_22 : a_fl RX7 22 7 3 := ⟨_, rfl, by decide, Or.inl (a_inG 111 (by decide +kernel) rfl)⟩
theorem fp_X7_22 : a_fp RX7 22 7 3 .int false := ⟨_, rfl, by decide, rfl, by decide +kernel, Or.inl ⟨(a_inG 111 (by decide +kernel) rfl), fun _ => rfl⟩⟩
theorem fl_X9_120 : a_fl RX9 120 7 3 := ⟨_, rfl, by decide, Or.inr ⟨"WeWereIn", (a_inN 112 (by decide +kernel) rfl)⟩⟩
theorem fp_X9_120 : a_fp RX9 120 7 3 .int false := ⟨_, rfl, by decide, rfl, by decide +kernel, Or.inr ⟨rfl, "WeWereIn", (a_inN 112 (by decide +kernel) rfl)⟩⟩
theorem fl_X7_25 : a_fl RX7 25 7 4 := ⟨_, rfl, by decide, Or.inl (a_inG 113 (by decide +kernel) rfl)⟩
theorem fp_X7_25 : a_fp RX7 25 7 4 .int false := ⟨_, rfl, by decide, rfl, by decide +kernel, Or.inl ⟨(a_inG 113 (by decide +kernel) rfl), fun _ => rfl⟩⟩
theorem fl_X7_28 : a_fl RX7 28 7 5 := ⟨_, rfl, by decide, Or.inl (a_inG 114 (by decide +kernel) rfl)⟩
theorem fp_X7_28 : a_fp RX7 28 7 5 .int false := ⟨_, rfl, by decide, rfl, by decide +kernel, Or.inl ⟨(a_inG 114 (by decide +kernel) rfl), fun _ => rfl⟩⟩
theorem fl_X6_9 : a_fl RX6 9 6 0 := ⟨_, rfl, by decide, Or.inl (a_inG 135 (by decide +kernel) rfl)⟩
theorem fp_X6_9 : a_fp RX6 9 6 0 .int false := ⟨_, rfl, by decide, rfl, by decide +kernel, Or.inl ⟨(a_inG 135 (by decide +kernel) rfl), fun _ => rfl⟩⟩
theorem fl_X7_44 : a_fl RX7 44 6 0 := ⟨_, rfl, by decide, Or.inr ⟨"WeWereIn", (a_inN 136 (by decide +kernel) rfl)⟩⟩
theorem fp_X7_44 : a_fp RX7 44 6 0 .int false := ⟨_, rfl, by decide, rfl, by decide +kernel, Or.inr ⟨rfl, "WeWereIn", (a_inN 136 (by decide +kernel) rfl)⟩⟩
theorem fl_X9_123 : a_fl RX9 123 6 0 := ⟨_, rfl, by decide, Or.inr ⟨"WeWereIn", (a_inN 137 (by decide +kernel) rfl)⟩⟩
theorem fp_X9_123 : a_fp RX9 123 6 0 .int false := ⟨_, rfl, by decide, rfl, by decide +kernel, Or.inr ⟨rfl, "WeWereIn", (a_inN 137 (by decide +kernel) rfl)⟩⟩
theorem fl_X6_15 : a_fl RX6 15 6 1 := ⟨_, rfl, by decide, Or.inl (a_inG 138 (by decide +kernel) rfl)⟩
theorem fp_X6_15 : a_fp RX6 15 6 1 .int false := ⟨_, rfl, by decide, rfl, by decide +kernel, Or.inl ⟨(a_inG 138 (by decide +kernel) rfl), fun _ => rfl⟩⟩
theorem fl_X9_126 : a_fl RX9 126 6 1 := ⟨_, rfl, by decide, Or.inr ⟨"WeWereIn", (a_inN 139 (by decide +kernel) rfl)⟩⟩
theorem fp_X9_126 : a_fp RX9 126 6 1 .int false := ⟨_, rfl, by decide, rfl, by decide +kernel, Or.inr ⟨rfl, "WeWereIn", (a_inN 139 (by decide +kernel) rfl)⟩⟩
theorem fl_X7_69 : a_fl RX7 69 6 1 := ⟨_, rfl, by decide, Or.inr ⟨"WeWereIn", (a_inN 140 (by decide +kernel) rfl)⟩⟩
theorem fp_X7_69 : a_fp RX7 69 6 1 .int false := ⟨_, rfl, by decide, rfl, by decide +kernel, Or.inr ⟨rfl, "WeWereIn", (a_inN 140 (by decide +kernel) rfl)⟩⟩
theorem fl_X6_18 : a_fl RX6 18 6 2 := ⟨_, rfl, by decide, Or.inl (a_inG 141 (by decide +kernel) rfl)⟩
theorem fp_X6_18 : a_fp RX6 18 6 2 .int false := ⟨_, rfl, by decide, rfl, by decide +kernel, Or.inl ⟨(a_inG 141 (by decide +kernel) rfl), fun _ => rfl⟩⟩
theorem fl_X9_129 : a_fl RX9 129 6 2 := ⟨_, rfl, by decide, Or.inr ⟨"WeWereIn", (a_inN 142 (by decide +kernel) rfl)⟩⟩
theorem fp_X9_129 : a_fp RX9 129 6 2 .int false := ⟨_, rfl, by decide, rfl, by decide +kernel, Or.inr ⟨rfl, "WeWereIn", (a_inN 142 (by decide +kernel) rfl)⟩⟩
theorem fl_X7_72 : a_fl RX7 72 6 2 := ⟨_, rfl, by decide, Or.inr ⟨"WeWereIn", (a_inN 143 (by decide +kernel) rfl)⟩⟩
theorem fp_X7_72 : a_fp RX7 72 6 2 .int false := ⟨_, rfl, by decide, rfl, by decide +kernel, Or.inr ⟨rfl, "WeWereIn", (a_inN 143 (by decide +kernel) rfl)⟩⟩
theorem fl_X6_21 : a_fl RX6 21 6 3 := ⟨_, rfl, by decide, Or.inl (a_inG 144 (by decide +kernel) rfl)⟩
theorem fp_X6_21 : a_fp RX6 21 6 3 .int false := ⟨_, rfl, by decide, rfl, by decide +kernel, Or.inl ⟨(a_inG 144 (by decide +kernel) rfl), fun _ => rfl⟩⟩
theorem fl_X4_32 : a_fl RX4 32 6 3 := ⟨_, rfl, by decide, Or.inr ⟨"WeWereIn", (a_inN 145 (by decide +kernel) rfl)⟩⟩
theorem fp_X4_32 : a_fp RX4 32 6 3 .int false := ⟨_, rfl, by decide, rfl, by decide +kernel, Or.inr ⟨rfl, "WeWereIn", (a_inN 145 (by decide +kernel) rfl)⟩⟩
theorem fl_X9_117 : a_fl RX9 117 6 3 := ⟨_, rfl, by decide, Or.inr ⟨"WeWereIn", (a_inN 146 (by decide +kernel) rfl)⟩⟩
theorem fp_X9_117 : a_fp RX9 117 6 3 .int false := ⟨_, rfl, by decide, rfl, by decide +kernel, Or.inr ⟨rfl, "WeWereIn", (a_inN 146 (by decide +kernel) rfl)⟩⟩
theorem fl_X7_78 : a_fl RX7 78 6 3 := ⟨_, rfl, by decide, Or.inr ⟨"WeWereIn", (a_inN 147 (by decide +kernel) rfl)⟩⟩
theorem fp_X7_78 : a_fp RX7 78 6 3 .int false := ⟨_, rfl, by decide, rfl, by decide +kernel, Or.inr ⟨rfl, "WeWereIn", (a_inN 147 (by decide +kernel) rfl)⟩⟩
theorem fl_X6_24 : a_fl RX6 24 6 4 := ⟨_, rfl, by decide, Or.inl (a_inG 148 (by decide +kernel) rfl)⟩
theorem fp_X6_24 : a_fp RX6 24 6 4 .int false := ⟨_, rfl, by decide, rfl, by decide +kernel, Or.inl ⟨(a_inG 148 (by decide +kernel) rfl), fun _ => rfl⟩⟩
theorem fl_X7_85 : a_fl RX7 85 6 4 := ⟨_, rfl, by decide, Or.inr ⟨"WeWereIn", (a_inN 149 (by decide +kernel) rfl)⟩⟩
theorem fp_X7_85 : a_fp RX7 85 6 4 .int false := ⟨_, rfl, by decide, rfl, by decide +kernel, Or.inr ⟨rfl, "WeWereIn", (a_inN 149 (by decide +kernel) rfl)⟩⟩
theorem fl_X6_27 : a_fl RX6 27 6 5 := ⟨_, rfl, by decide, Or.inl (a_inG 150 (by decide +kernel) rfl)⟩
theorem fp_X6_27 : a_fp RX6 27 6 5 (.array .int) true := ⟨_, rfl, by decide, rfl, by decide +kernel, Or.inl ⟨(a_inG 150 (by decide +kernel) rfl), fun _ => rfl⟩⟩
theorem fl_X4_73 : a_fl RX4 73 6 5 := ⟨_, rfl, by decide, Or.inr ⟨"WeWereIn", (a_inN 151 (by decide +kernel) rfl)⟩⟩
theorem fl_X8_80 : a_fl RX8 80 6 5 := ⟨_, rfl, by decide, Or.inr ⟨"WeWereIn", (a_inN 152 (by decide +kernel) rfl)⟩⟩
theorem fl_X9_154 : a_fl RX9 154 6 5 := ⟨_, rfl, by decide, Or.inr ⟨"WeWereIn", (a_inN 153 (by decide +kernel) rfl)⟩⟩
theorem fl_X6_31 : a_fl RX6 31 6 6 := ⟨_, rfl, by decide, Or.inl (a_inG 154 (by decide +kernel) rfl)⟩
theorem fp_X6_31 : a_fp RX6 31 6 6 (.array .int) true := ⟨_, rfl, by decide, rfl, by decide +kernel, Or.inl ⟨(a_inG 154 (by decide +kernel) rfl), fun _ => rfl⟩⟩
theorem fl_X9_157 : a_fl RX9 157 6 6 := ⟨_, rfl, by decide, Or.inr ⟨"WeWereIn", (a_inN 155 (by decide +kernel) rfl)⟩⟩
theorem fl_X6_34 : a_fl RX6 34 6 7 := ⟨_, rfl, by decide, Or.inl (a_inG 156 (by decide +kernel) rfl)⟩
theorem fp_X6_34 : a_fp RX6 34 6 7 (.array .int) true := ⟨_, rfl, by decide, rfl, by decide +kernel, Or.inl ⟨(a_inG 156 (by decide +kernel) rfl), fun _ => rfl⟩⟩
theorem fl_X9_160 : a_fl RX9 160 6 7 := ⟨_, rfl, by decide, Or.inr ⟨"WeWereIn", (a_inN 157 (by decide +kernel) rfl)⟩⟩
theorem fl_X6_37 : a_fl RX6 37 6 8 := ⟨_, rfl, by decide, Or.inl (a_inG 158 (by decide +kernel) rfl)⟩
theorem fp_X6_37 : a_fp RX6 37 6 8 (.array .int) true := ⟨_, rfl, by decide, rfl, by decide +kernel, Or.inl ⟨(a_inG 158 (by decide +kernel) rfl), fun _ => rfl⟩⟩
theorem fl_X9_166 : a_fl RX9 166 6 8 := ⟨_, rfl, by decide, Or.inr ⟨"WeWereIn", (a_inN 159 (by decide +kernel) rfl)⟩⟩
theorem fl_X7_96 : a_fl RX7 96 6 8 := ⟨_, rfl, by decide, Or.inr ⟨"WeWereIn", (a_inN 160 (by decide +kernel) rfl)⟩⟩
theorem fl_X6_40 : a_fl RX6 40 6 9 := ⟨_, rfl, by decide, Or.inl (a_inG 161 (by decide +kernel) rfl)⟩
theorem fp_X6_40 : a_fp RX6 40 6 9 (.array .int) true := ⟨_, rfl, by decide, rfl, by decide +kernel, Or.inl ⟨(a_inG 161 (by decide +kernel) rfl), fun _ => rfl⟩⟩
theorem fl_X9_169 : a_fl RX9 169 6 9 := ⟨_, rfl, by decide, Or.inr ⟨"WeWereIn", (a_inN 162 (by decide +kernel) rfl)⟩⟩
theorem fl_X7_99 : a_fl RX7 99 6 9 := ⟨_, rfl, by decide, Or.inr ⟨"WeWereIn", (a_inN 163 (by decide +kernel) rfl)⟩⟩
theorem fl_X6_43 : a_fl RX6 43 6 10 := ⟨_, rfl, by decide, Or.inl (a_inG 164 (by decide +kernel) rfl)⟩
theorem fp_X6_43 : a_fp RX6 43 6 10 (.array .int) true := ⟨_, rfl, by decide, rfl, by decide +kernel, Or.inl ⟨(a_inG 164 (by decide +kernel) rfl), fun _ => rfl⟩⟩
theorem fl_X1_9 : a_fl RX1 9 1 0 := ⟨_, rfl, by decide, Or.inl (a_inG 198 (by decide +kernel) rfl)⟩
theorem fp_X1_9 : a_fp RX1 9 1 0 (.array .int) true := ⟨_, rfl, by decide, rfl, by decide +kernel, Or.inl ⟨(a_inG 198 (by decide +kernel) rfl), fun _ => rfl⟩⟩
theorem fl_X0_22 : a_fl RX0 22 1 0 := ⟨_, rfl, by decide, Or.inr ⟨"WeWereIn", (a_inN 199 (by decide +kernel) rfl)⟩⟩
theorem fl_X8_100 : a_fl RX8 100 1 0 := ⟨_, rfl, by decide, Or.inr ⟨"WeWereIn", (a_inN 200 (by decide +kernel) rfl)⟩⟩
theorem fl_X9_163 : a_fl RX9 163 1 0 := ⟨_, rfl, by decide, Or.inr ⟨"WeWereIn", (a_inN 201 (by decide +kernel) rfl)⟩⟩
theorem fl_X1_15 : a_fl RX1 15 1 1 := ⟨_, rfl, by decide, Or.inl (a_inG 202 (by decide +kernel) rfl)⟩
theorem fp_X1_15 : a_fp RX1 15 1 1 (.array .int) true := ⟨_, rfl, by decide, rfl, by decide +kernel, Or.inl ⟨(a_inG 202 (by decide +kernel) rfl), fun _ => rfl⟩⟩
theorem fl_X4_77 : a_fl RX4 77 1 1 := ⟨_, rfl, by decide, Or.inr ⟨"WeWereIn", (a_inN 203 (by decide +kernel) rfl)⟩⟩
theorem fl_X8_89 : a_fl RX8 89 1 1 := ⟨_, rfl, by decide, Or.inr ⟨"WeWereIn", (a_inN 204 (by decide +kernel) rfl)⟩⟩
theorem fl_X9_172 : a_fl RX9 172 1 1 := ⟨_, rfl, by decide, Or.inr ⟨"WeWereIn", (a_inN 205 (by decide +kernel) rfl)⟩⟩
theorem fl_X1_18 : a_fl RX1 18 1 2 := ⟨_, rfl, by decide, Or.inl (a_inG 206 (by decide +kernel) rfl)⟩
theorem fp_X1_18 : a_fp RX1 18 1 2 .int false := ⟨_, rfl, by decide, rfl, by decide +kernel, Or.inl ⟨(a_inG 206 (by decide +kernel) rfl), fun _ => rfl⟩⟩
theorem fl_X8_63 : a_fl RX8 63 1 2 := ⟨_, rfl, by decide, Or.inr ⟨"WeWereIn", (a_inN 207 (by decide +kernel) rfl)⟩⟩
theorem fp_X8_63 : a_fp RX8 63 1 2 .int false := ⟨_, rfl, by decide, rfl, by decide +kernel, Or.inr ⟨rfl, "WeWereIn", (a_inN 207 (by decide +kernel) rfl)⟩⟩
theorem fl_X9_132 : a_fl RX9 132 1 2 := ⟨_, rfl, by decide, Or.inr ⟨"WeWereIn", (a_inN 208 (by decide +kernel) rfl)⟩⟩
theorem fp_X9_132 : a_fp RX9 132 1 2 .int false := ⟨_, rfl, by decide, rfl, by decide +kernel, Or.inr ⟨rfl, "WeWereIn", (a_inN 208 (by decide +kernel) rfl)⟩⟩
theorem fl_X1_22 : a_fl RX1 22 1 3 := ⟨_, rfl, by decide, Or.inl (a_inG 209 (by decide +kernel) rfl)⟩
theorem fp_X1_22 : a_fp RX1 22 1 3 .int false := ⟨_, rfl, by decide, rfl, by decide +kernel, Or.inl ⟨(a_inG 209 (by decide +kernel) rfl), fun _ => rfl⟩⟩
theorem fl_X8_66 : a_fl RX8 66 1 3 := ⟨_, rfl, by decide, Or.inr ⟨"WeWereIn", (a_inN 210 (by decide +kernel) rfl)⟩⟩
theorem fp_X8_66 : a_fp RX8 66 1 3 .int false := ⟨_, rfl, by decide, rfl, by decide +kernel, Or.inr ⟨rfl, "WeWereIn", (a_inN 210 (by decide +kernel) rfl)⟩⟩
theorem fl_X9_135 : a_fl RX9 135 1 3 := ⟨_, rfl, by decide, Or.inr ⟨"WeWereIn", (a_inN 211 (by decide +kernel) rfl)⟩⟩
theorem fp_X9_135 : a_fp RX9 135 1 3 .int false := ⟨_, rfl, by decide, rfl, by decide +kernel, Or.inr ⟨rfl, "WeWereIn", (a_inN 211 (by decide +kernel) rfl)⟩⟩
theorem fl_X1_25 : a_fl RX1 25 1 4 := ⟨_, rfl, by decide, Or.inl (a_inG 212 (by decide +kernel) rfl)⟩
theorem fp_X1_25 : a_fp RX1 25 1 4 .int false := ⟨_, rfl, by decide, rfl, by decide +kernel, Or.inl ⟨(a_inG 212 (by decide +kernel) rfl), fun _ => rfl⟩⟩
theorem fl_X8_69 : a_fl RX8 69 1 4 := ⟨_, rfl, by decide, Or.inr ⟨"WeWereIn", (a_inN 213 (by decide +kernel) rfl)⟩⟩
theorem fp_X8_69 : a_fp RX8 69 1 4 .int false := ⟨_, rfl, by decide, rfl, by decide +kernel, Or.inr ⟨rfl, "WeWereIn", (a_inN 213 (by decide +kernel) rfl)⟩⟩
theorem fl_X9_138 : a_fl RX9 138 1 4 := ⟨_, rfl, by decide, Or.inr ⟨"WeWereIn", (a_inN 214 (by decide +kernel) rfl)⟩⟩
theorem fp_X9_138 : a_fp RX9 138 1 4 .int false := ⟨_, rfl, by decide, rfl, by decide +kernel, Or.inr ⟨rfl, "WeWereIn", (a_inN 214 (by decide +kernel) rfl)⟩⟩
theorem fl_X8_12 : a_fl RX8 12 8 0 := ⟨_, rfl, by decide, Or.inl (a_inG 234 (by decide +kernel) rfl)⟩
theorem fp_X8_12 : a_fp RX8 12 8 0 (.object "WeWereIn$Days") true := ⟨_, rfl, by decide, rfl, by decide +kernel, Or.inl ⟨(a_inG 234 (by decide +kernel) rfl), fun _ => rfl⟩⟩
theorem fl_X9_215 : a_fl RX9 215 8 0 := ⟨_, rfl, by decide, Or.inr ⟨"WeWereIn", (a_inN 235 (by decide +kernel) rfl)⟩⟩
theorem fl_X8_18 : a_fl RX8 18 8 1 := ⟨_, rfl, by decide, Or.inl (a_inG 236 (by decide +kernel) rfl)⟩
theorem fp_X8_18 : a_fp RX8 18 8 1 (.array .int) true := ⟨_, rfl, by decide, rfl, by decide +kernel, Or.inl ⟨(a_inG 236 (by decide +kernel) rfl), fun _ => rfl⟩⟩
theorem fl_X9_212 : a_fl RX9 212 8 1 := ⟨_, rfl, by decide, Or.inr ⟨"WeWereIn", (a_inN 237 (by decide +kernel) rfl)⟩⟩
theorem fl_X8_22 : a_fl RX8 22 8 2 := ⟨_, rfl, by decide, Or.inl (a_inG 238 (by decide +kernel) rfl)⟩
theorem fp_X8_22 : a_fp RX8 22 8 2 .int false := ⟨_, rfl, by decide, rfl, by decide +kernel, Or.inl ⟨(a_inG 238 (by decide +kernel) rfl), fun _ => rfl⟩⟩
theorem fl_X9_190 : a_fl RX9 190 8 2 := ⟨_, rfl, by decide, Or.inr ⟨"WeWereIn", (a_inN 239 (by decide +kernel) rfl)⟩⟩
theorem fp_X9_190 : a_fp RX9 190 8 2 .int false := ⟨_, rfl, by decide, rfl, by decide +kernel, Or.inr ⟨rfl, "WeWereIn", (a_inN 239 (by decide +kernel) rfl)⟩⟩
theorem fl_X8_26 : a_fl RX8 26 8 3 := ⟨_, rfl, by decide, Or.inl (a_inG 240 (by decide +kernel) rfl)⟩
theorem fp_X8_26 : a_fp RX8 26 8 3 .int false := ⟨_, rfl, by decide, rfl, by decide +kernel, Or.inl ⟨(a_inG 240 (by decide +kernel) rfl), fun _ => rfl⟩⟩
theorem fl_X9_236 : a_fl RX9 236 8 3 := ⟨_, rfl, by decide, Or.inr ⟨"WeWereIn", (a_inN 241 (by decide +kernel) rfl)⟩⟩
theorem fp_X9_236 : a_fp RX9 236 8 3 .int false := ⟨_, rfl, by decide, rfl, by decide +kernel, Or.inr ⟨rfl, "WeWereIn", (a_inN 241 (by decide +kernel) rfl)⟩⟩
theorem fl_X8_29 : a_fl RX8 29 8 4 := ⟨_, rfl, by decide, Or.inl (a_inG 242 (by decide +kernel) rfl)⟩
theorem fp_X8_29 : a_fp RX8 29 8 4 .int false := ⟨_, rfl, by decide, rfl, by decide +kernel, Or.inl ⟨(a_inG 242 (by decide +kernel) rfl), fun _ => rfl⟩⟩
theorem fl_X9_237 : a_fl RX9 237 8 4 := ⟨_, rfl, by decide, Or.inr ⟨"WeWereIn", (a_inN 243 (by decide +kernel) rfl)⟩⟩
theorem fp_X9_237 : a_fp RX9 237 8 4 .int false := ⟨_, rfl, by decide, rfl, by decide +kernel, Or.inr ⟨rfl, "WeWereIn", (a_inN 243 (by decide +kernel) rfl)⟩⟩
theorem fl_X8_32 : a_fl RX8 32 8 5 := ⟨_, rfl, by decide, Or.inl (a_inG 244 (by decide +kernel) rfl)⟩
theorem fp_X8_32 : a_fp RX8 32 8 5 .int false := ⟨_, rfl, by decide, rfl, by decide +kernel, Or.inl ⟨(a_inG 244 (by decide +kernel) rfl), fun _ => rfl⟩⟩
theorem fl_X8_35 : a_fl RX8 35 8 6 := ⟨_, rfl, by decide, Or.inl (a_inG 245 (by decide +kernel) rfl)⟩
theorem fp_X8_35 : a_fp RX8 35 8 6 .int false := ⟨_, rfl, by decide, rfl, by decide +kernel, Or.inl ⟨(a_inG 245 (by decide +kernel) rfl), fun _ => rfl⟩⟩
theorem fl_X8_38 : a_fl RX8 38 8 7 := ⟨_, rfl, by decide, Or.inl (a_inG 246 (by decide +kernel) rfl)⟩
theorem fp_X8_38 : a_fp RX8 38 8 7 .int false := ⟨_, rfl, by decide, rfl, by decide +kernel, Or.inl ⟨(a_inG 246 (by decide +kernel) rfl), fun _ => rfl⟩⟩
theorem fl_X3_11 : a_fl RX3 11 3 0 := ⟨_, rfl, by decide, Or.inl (a_inG 273 (by decide +kernel) rfl)⟩
theorem fp_X3_11 : a_fp RX3 11 3 0 (.array (.object "WeWereIn$Days")) true := ⟨_, rfl, by decide, rfl, by decide +kernel, Or.inl ⟨(a_inG 273 (by decide +kernel) rfl), fun _ => rfl⟩⟩
theorem fl_X3_17 : a_fl RX3 17 3 1 := ⟨_, rfl, by decide, Or.inl (a_inG 274 (by decide +kernel) rfl)⟩
theorem fp_X3_17 : a_fp RX3 17 3 1 .int false := ⟨_, rfl, by decide, rfl, by decide +kernel, Or.inl ⟨(a_inG 274 (by decide +kernel) rfl), fun _ => rfl⟩⟩
theorem fl_X3_21 : a_fl RX3 21 3 2 := ⟨_, rfl, by decide, Or.inl (a_inG 275 (by decide +kernel) rfl)⟩
theorem fp_X3_21 : a_fp RX3 21 3 2 .int false := ⟨_, rfl, by decide, rfl, by decide +kernel, Or.inl ⟨(a_inG 275 (by decide +kernel) rfl), fun _ => rfl⟩⟩
theorem fl_X9_149 : a_fl RX9 149 3 2 := ⟨_, rfl, by decide, Or.inr ⟨"WeWereIn", (a_inN 276 (by decide +kernel) rfl)⟩⟩
theorem fp_X9_149 : a_fp RX9 149 3 2 .int false := ⟨_, rfl, by decide, rfl, by decide +kernel, Or.inr ⟨rfl, "WeWereIn", (a_inN 276 (by decide +kernel) rfl)⟩⟩
theorem fl_X5_9 : a_fl RX5 9 5 0 := ⟨_, rfl, by decide, Or.inl (a_inG 290 (by decide +kernel) rfl)⟩
theorem fp_X5_9 : a_fp RX5 9 5 0 (.array .int) true := ⟨_, rfl, by decide, rfl, by decide +kernel, Or.inl ⟨(a_inG 290 (by decide +kernel) rfl), fun _ => rfl⟩⟩
theorem fl_X5_15 : a_fl RX5 15 5 1 := ⟨_, rfl, by decide, Or.inl (a_inG 291 (by decide +kernel) rfl)⟩
theorem fp_X5_15 : a_fp RX5 15 5 1 (.array .boolean) true := ⟨_, rfl, by decide, rfl, by decide +kernel, Or.inl ⟨(a_inG 291 (by decide +kernel) rfl), fun _ => rfl⟩⟩
theorem fl_X5_19 : a_fl RX5 19 5 2 := ⟨_, rfl, by decide, Or.inl (a_inG 292 (by decide +kernel) rfl)⟩
theorem fp_X5_19 : a_fp RX5 19 5 2 .int false := ⟨_, rfl, by decide, rfl, by decide +kernel, Or.inl ⟨(a_inG 292 (by decide +kernel) rfl), fun _ => rfl⟩⟩
theorem fl_X9_145 : a_fl RX9 145 5 2 := ⟨_, rfl, by decide, Or.inr ⟨"WeWereIn", (a_inN 293 (by decide +kernel) rfl)⟩⟩
theorem fp_X9_145 : a_fp RX9 145 5 2 .int false := ⟨_, rfl, by decide, rfl, by decide +kernel, Or.inr ⟨rfl, "WeWereIn", (a_inN 293 (by decide +kernel) rfl)⟩⟩
theorem fl_X0_9 : a_fl RX0 9 0 0 := ⟨_, rfl, by decide, Or.inl (a_inG 308 (by decide +kernel) rfl)⟩
theorem fp_X0_9 : a_fp RX0 9 0 0 (.array .int) true := ⟨_, rfl, by decide, rfl, by decide +kernel, Or.inl ⟨(a_inG 308 (by decide +kernel) rfl), fun _ => rfl⟩⟩
theorem fl_X0_15 : a_fl RX0 15 0 1 := ⟨_, rfl, by decide, Or.inl (a_inG 309 (by decide +kernel) rfl)⟩
theorem fp_X0_15 : a_fp RX0 15 0 1 (.array .int) true := ⟨_, rfl, by decide, rfl, by decide +kernel, Or.inl ⟨(a_inG 309 (by decide +kernel) rfl), fun _ => rfl⟩⟩
theorem fl_X0_18 : a_fl RX0 18 0 2 := ⟨_, rfl, by decide, Or.inl (a_inG 310 (by decide +kernel) rfl)⟩
theorem fp_X0_18 : a_fp RX0 18 0 2 .int false := ⟨_, rfl, by decide, rfl, by decide +kernel, Or.inl ⟨(a_inG 310 (by decide +kernel) rfl), fun _ => rfl⟩⟩
theorem fl_X9_148 : a_fl RX9 148 0 2 := ⟨_, rfl, by decide, Or.inr ⟨"WeWereIn", (a_inN 311 (by decide +kernel) rfl)⟩⟩
theorem fp_X9_148 : a_fp RX9 148 0 2 .int false := ⟨_, rfl, by decide, rfl, by decide +kernel, Or.inr ⟨rfl, "WeWereIn", (a_inN 311 (by decide +kernel) rfl)⟩⟩
theorem fl_X2_10 : a_fl RX2 10 2 0 := ⟨_, rfl, by decide, Or.inl (a_inG 328 (by decide +kernel) rfl)⟩
theorem fp_X2_10 : a_fp RX2 10 2 0 (.object "WeWereIn$Days") true := ⟨_, rfl, by decide, rfl, by decide +kernel, Or.inl ⟨(a_inG 328 (by decide +kernel) rfl), fun _ => rfl⟩⟩
theorem fl_X9_264 : a_fl RX9 264 2 0 := ⟨_, rfl, by decide, Or.inr ⟨"WeWereIn", (a_inN 329 (by decide +kernel) rfl)⟩⟩
theorem fl_X2_16 : a_fl RX2 16 2 1 := ⟨_, rfl, by decide, Or.inl (a_inG 330 (by decide +kernel) rfl)⟩
theorem fp_X2_16 : a_fp RX2 16 2 1 .int false := ⟨_, rfl, by decide, rfl, by decide +kernel, Or.inl ⟨(a_inG 330 (by decide +kernel) rfl), fun _ => rfl⟩⟩
theorem fl_X9_269 : a_fl RX9 269 2 1 := ⟨_, rfl, by decide, Or.inr ⟨"WeWereIn", (a_inN 331 (by decide +kernel) rfl)⟩⟩
theorem fp_X9_269 : a_fp RX9 269 2 1 .int false := ⟨_, rfl, by decide, rfl, by decide +kernel, Or.inr ⟨rfl, "WeWereIn", (a_inN 331 (by decide +kernel) rfl)⟩⟩
theorem fl_X2_20 : a_fl RX2 20 2 2 := ⟨_, rfl, by decide, Or.inl (a_inG 332 (by decide +kernel) rfl)⟩
theorem fp_X2_20 : a_fp RX2 20 2 2 .boolean false := ⟨_, rfl, by decide, rfl, by decide +kernel, Or.inl ⟨(a_inG 332 (by decide +kernel) rfl), fun _ => rfl⟩⟩
theorem fl_X9_113 : a_fl RX9 113 2 2 := ⟨_, rfl, by decide, Or.inr ⟨"WeWereIn", (a_inN 333 (by decide +kernel) rfl)⟩⟩
theorem fp_X9_113 : a_fp RX9 113 2 2 .boolean false := ⟨_, rfl, by decide, rfl, by decide +kernel, Or.inr ⟨rfl, "WeWereIn", (a_inN 333 (by decide +kernel) rfl)⟩⟩
theorem fl_X9_10 : a_fl RX9 10 9 0 := ⟨_, rfl, by decide, Or.inl (a_inG 341 (by decide +kernel) rfl)⟩
theorem fp_X9_10 : a_fp RX9 10 9 0 (.object "WeWereIn$Text") true := ⟨_, rfl, by decide, rfl, by decide +kernel, Or.inl ⟨(a_inG 341 (by decide +kernel) rfl), fun _ => rfl⟩⟩
theorem fl_X9_19 : a_fl RX9 19 9 1 := ⟨_, rfl, by decide, Or.inl (a_inG 342 (by decide +kernel) rfl)⟩
theorem fp_X9_19 : a_fp RX9 19 9 1 (.object "WeWereIn$Street") true := ⟨_, rfl, by decide, rfl, by decide +kernel, Or.inl ⟨(a_inG 342 (by decide +kernel) rfl), fun _ => rfl⟩⟩
theorem fl_X9_23 : a_fl RX9 23 9 2 := ⟨_, rfl, by decide, Or.inl (a_inG 343 (by decide +kernel) rfl)⟩
theorem fp_X9_23 : a_fp RX9 23 9 2 (.object "WeWereIn$Street") true := ⟨_, rfl, by decide, rfl, by decide +kernel, Or.inl ⟨(a_inG 343 (by decide +kernel) rfl), fun _ => rfl⟩⟩
theorem fl_X9_29 : a_fl RX9 29 9 3 := ⟨_, rfl, by decide, Or.inl (a_inG 344 (by decide +kernel) rfl)⟩
theorem fp_X9_29 : a_fp RX9 29 9 3 (.object "WeWereIn$Days") true := ⟨_, rfl, by decide, rfl, by decide +kernel, Or.inl ⟨(a_inG 344 (by decide +kernel) rfl), fun _ => rfl⟩⟩
theorem fl_X9_33 : a_fl RX9 33 9 4 := ⟨_, rfl, by decide, Or.inl (a_inG 345 (by decide +kernel) rfl)⟩
theorem fp_X9_33 : a_fp RX9 33 9 4 (.object "WeWereIn$Days") true := ⟨_, rfl, by decide, rfl, by decide +kernel, Or.inl ⟨(a_inG 345 (by decide +kernel) rfl), fun _ => rfl⟩⟩
theorem fl_X9_39 : a_fl RX9 39 9 5 := ⟨_, rfl, by decide, Or.inl (a_inG 346 (by decide +kernel) rfl)⟩
theorem fp_X9_39 : a_fp RX9 39 9 5 (.object "WeWereIn$Trip") true := ⟨_, rfl, by decide, rfl, by decide +kernel, Or.inl ⟨(a_inG 346 (by decide +kernel) rfl), fun _ => rfl⟩⟩
theorem fl_X9_46 : a_fl RX9 46 9 6 := ⟨_, rfl, by decide, Or.inl (a_inG 347 (by decide +kernel) rfl)⟩
theorem fp_X9_46 : a_fp RX9 46 9 6 (.object "WeWereIn$Past") true := ⟨_, rfl, by decide, rfl, by decide +kernel, Or.inl ⟨(a_inG 347 (by decide +kernel) rfl), fun _ => rfl⟩⟩
theorem fl_X9_53 : a_fl RX9 53 9 7 := ⟨_, rfl, by decide, Or.inl (a_inG 348 (by decide +kernel) rfl)⟩
theorem fp_X9_53 : a_fp RX9 53 9 7 (.object "WeWereIn$Seen") true := ⟨_, rfl, by decide, rfl, by decide +kernel, Or.inl ⟨(a_inG 348 (by decide +kernel) rfl), fun _ => rfl⟩⟩
theorem fl_X9_60 : a_fl RX9 60 9 8 := ⟨_, rfl, by decide, Or.inl (a_inG 349 (by decide +kernel) rfl)⟩
theorem fp_X9_60 : a_fp RX9 60 9 8 (.object "WeWereIn$Book") true := ⟨_, rfl, by decide, rfl, by decide +kernel, Or.inl ⟨(a_inG 349 (by decide +kernel) rfl), fun _ => rfl⟩⟩
theorem fl_X9_67 : a_fl RX9 67 9 9 := ⟨_, rfl, by decide, Or.inl (a_inG 350 (by decide +kernel) rfl)⟩
theorem fp_X9_67 : a_fp RX9 67 9 9 (.array (.object "WeWereIn$Image")) true := ⟨_, rfl, by decide, rfl, by decide +kernel, Or.inl ⟨(a_inG 350 (by decide +kernel) rfl), fun _ => rfl⟩⟩
theorem fl_X9_71 : a_fl RX9 71 9 10 := ⟨_, rfl, by decide, Or.inl (a_inG 351 (by decide +kernel) rfl)⟩
theorem fp_X9_71 : a_fp RX9 71 9 10 (.array .int) true := ⟨_, rfl, by decide, rfl, by decide +kernel, Or.inl ⟨(a_inG 351 (by decide +kernel) rfl), fun _ => rfl⟩⟩
theorem fl_X9_75 : a_fl RX9 75 9 11 := ⟨_, rfl, by decide, Or.inl (a_inG 352 (by decide +kernel) rfl)⟩
theorem fp_X9_75 : a_fp RX9 75 9 11 .int false := ⟨_, rfl, by decide, rfl, by decide +kernel, Or.inl ⟨(a_inG 352 (by decide +kernel) rfl), fun _ => rfl⟩⟩
theorem fl_X4_21 : a_fl RX4 21 4 0 := ⟨_, rfl, by decide, Or.inl (a_inG 656 (by decide +kernel) rfl)⟩
theorem fp_X4_21 : a_fp RX4 21 4 0 (.object "WeWereIn$Street") true := ⟨_, rfl, by decide, rfl, by decide +kernel, Or.inl ⟨(a_inG 656 (by decide +kernel) rfl), fun _ => rfl⟩⟩
theorem fl_X4_25 : a_fl RX4 25 4 1 := ⟨_, rfl, by decide, Or.inl (a_inG 657 (by decide +kernel) rfl)⟩
theorem fp_X4_25 : a_fp RX4 25 4 1 (.object "WeWereIn$Days") true := ⟨_, rfl, by decide, rfl, by decide +kernel, Or.inl ⟨(a_inG 657 (by decide +kernel) rfl), fun _ => rfl⟩⟩
theorem fl_X4_29 : a_fl RX4 29 4 2 := ⟨_, rfl, by decide, Or.inl (a_inG 658 (by decide +kernel) rfl)⟩
theorem fp_X4_29 : a_fp RX4 29 4 2 .int true := ⟨_, rfl, by decide, rfl, by decide +kernel, Or.inl ⟨(a_inG 658 (by decide +kernel) rfl), fun _ => rfl⟩⟩
theorem fl_X4_43 : a_fl RX4 43 4 3 := ⟨_, rfl, by decide, Or.inl (a_inG 659 (by decide +kernel) rfl)⟩
theorem fp_X4_43 : a_fp RX4 43 4 3 .int true := ⟨_, rfl, by decide, rfl, by decide +kernel, Or.inl ⟨(a_inG 659 (by decide +kernel) rfl), fun _ => rfl⟩⟩
theorem fl_X4_52 : a_fl RX4 52 4 4 := ⟨_, rfl, by decide, Or.inl (a_inG 660 (by decide +kernel) rfl)⟩
theorem fp_X4_52 : a_fp RX4 52 4 4 .int true := ⟨_, rfl, by decide, rfl, by decide +kernel, Or.inl ⟨(a_inG 660 (by decide +kernel) rfl), fun _ => rfl⟩⟩
theorem fl_X4_9 : a_fl RX4 9 4 5 := ⟨_, rfl, by decide, Or.inl (a_inG 661 (by decide +kernel) rfl)⟩
theorem fp_X4_9 : a_fp RX4 9 4 5 .int false := ⟨_, rfl, by decide, rfl, by decide +kernel, Or.inl ⟨(a_inG 661 (by decide +kernel) rfl), fun _ => rfl⟩⟩
theorem fl_X9_229 : a_fl RX9 229 4 5 := ⟨_, rfl, by decide, Or.inr ⟨"WeWereIn", (a_inN 662 (by decide +kernel) rfl)⟩⟩
theorem fp_X9_229 : a_fp RX9 229 4 5 .int false := ⟨_, rfl, by decide, rfl, by decide +kernel, Or.inr ⟨rfl, "WeWereIn", (a_inN 662 (by decide +kernel) rfl)⟩⟩
theorem fl_X4_15 : a_fl RX4 15 4 6 := ⟨_, rfl, by decide, Or.inl (a_inG 663 (by decide +kernel) rfl)⟩
theorem fp_X4_15 : a_fp RX4 15 4 6 .int false := ⟨_, rfl, by decide, rfl, by decide +kernel, Or.inl ⟨(a_inG 663 (by decide +kernel) rfl), fun _ => rfl⟩⟩
theorem fl_X9_232 : a_fl RX9 232 4 6 := ⟨_, rfl, by decide, Or.inr ⟨"WeWereIn", (a_inN 664 (by decide +kernel) rfl)⟩⟩
theorem fp_X9_232 : a_fp RX9 232 4 6 .int false := ⟨_, rfl, by decide, rfl, by decide +kernel, Or.inr ⟨rfl, "WeWereIn", (a_inN 664 (by decide +kernel) rfl)⟩⟩
theorem fl_X4_18 : a_fl RX4 18 4 7 := ⟨_, rfl, by decide, Or.inl (a_inG 665 (by decide +kernel) rfl)⟩
theorem fp_X4_18 : a_fp RX4 18 4 7 .int false := ⟨_, rfl, by decide, rfl, by decide +kernel, Or.inl ⟨(a_inG 665 (by decide +kernel) rfl), fun _ => rfl⟩⟩
theorem fl_X9_235 : a_fl RX9 235 4 7 := ⟨_, rfl, by decide, Or.inr ⟨"WeWereIn", (a_inN 666 (by decide +kernel) rfl)⟩⟩
theorem fp_X9_235 : a_fp RX9 235 4 7 .int false := ⟨_, rfl, by decide, rfl, by decide +kernel, Or.inr ⟨rfl, "WeWereIn", (a_inN 666 (by decide +kernel) rfl)⟩⟩
theorem fl_X10_7 : a_fl RX10 7 10 0 := ⟨_, rfl, by decide, Or.inl (a_inG 787 (by decide +kernel) rfl)⟩
theorem fp_X10_7 : a_fp RX10 7 10 0 (.array .int) true := ⟨_, rfl, by decide, rfl, by decide +kernel, Or.inl ⟨(a_inG 787 (by decide +kernel) rfl), fun _ => rfl⟩⟩
theorem fl_X10_13 : a_fl RX10 13 10 1 := ⟨_, rfl, by decide, Or.inl (a_inG 788 (by decide +kernel) rfl)⟩
theorem fp_X10_13 : a_fp RX10 13 10 1 (.array .boolean) true := ⟨_, rfl, by decide, rfl, by decide +kernel, Or.inl ⟨(a_inG 788 (by decide +kernel) rfl), fun _ => rfl⟩⟩
theorem fl_X10_17 : a_fl RX10 17 10 2 := ⟨_, rfl, by decide, Or.inl (a_inG 789 (by decide +kernel) rfl)⟩
theorem fp_X10_17 : a_fp RX10 17 10 2 (.array .int) true := ⟨_, rfl, by decide, rfl, by decide +kernel, Or.inl ⟨(a_inG 789 (by decide +kernel) rfl), fun _ => rfl⟩⟩
theorem fl_X10_20 : a_fl RX10 20 10 3 := ⟨_, rfl, by decide, Or.inl (a_inG 790 (by decide +kernel) rfl)⟩
theorem fp_X10_20 : a_fp RX10 20 10 3 (.array .int) true := ⟨_, rfl, by decide, rfl, by decide +kernel, Or.inl ⟨(a_inG 790 (by decide +kernel) rfl), fun _ => rfl⟩⟩
theorem fl_X10_23 : a_fl RX10 23 10 4 := ⟨_, rfl, by decide, Or.inl (a_inG 791 (by decide +kernel) rfl)⟩
theorem fp_X10_23 : a_fp RX10 23 10 4 (.array .int) true := ⟨_, rfl, by decide, rfl, by decide +kernel, Or.inl ⟨(a_inG 791 (by decide +kernel) rfl), fun _ => rfl⟩⟩
theorem fl_X10_26 : a_fl RX10 26 10 5 := ⟨_, rfl, by decide, Or.inl (a_inG 792 (by decide +kernel) rfl)⟩
theorem fp_X10_26 : a_fp RX10 26 10 5 (.array .int) true := ⟨_, rfl, by decide, rfl, by decide +kernel, Or.inl ⟨(a_inG 792 (by decide +kernel) rfl), fun _ => rfl⟩⟩
theorem fl_X10_29 : a_fl RX10 29 10 6 := ⟨_, rfl, by decide, Or.inl (a_inG 793 (by decide +kernel) rfl)⟩
theorem fp_X10_29 : a_fp RX10 29 10 6 (.array .int) true := ⟨_, rfl, by decide, rfl, by decide +kernel, Or.inl ⟨(a_inG 793 (by decide +kernel) rfl), fun _ => rfl⟩⟩
theorem fl_X10_32 : a_fl RX10 32 10 7 := ⟨_, rfl, by decide, Or.inl (a_inG 794 (by decide +kernel) rfl)⟩
theorem fp_X10_32 : a_fp RX10 32 10 7 (.array .int) true := ⟨_, rfl, by decide, rfl, by decide +kernel, Or.inl ⟨(a_inG 794 (by decide +kernel) rfl), fun _ => rfl⟩⟩
theorem fl_X10_131 : a_fl RX10 131 10 8 := ⟨_, rfl, by decide, Or.inl (a_inG 795 (by decide +kernel) rfl)⟩
theorem fp_X10_131 : a_fp RX10 131 10 8 .int false := ⟨_, rfl, by decide, rfl, by decide +kernel, Or.inl ⟨(a_inG 795 (by decide +kernel) rfl), fun _ => rfl⟩⟩
theorem fl_X10_106 : a_fl RX10 106 10 9 := ⟨_, rfl, by decide, Or.inl (a_inG 796 (by decide +kernel) rfl)⟩
theorem fp_X10_106 : a_fp RX10 106 10 9 .int false := ⟨_, rfl, by decide, rfl, by decide +kernel, Or.inl ⟨(a_inG 796 (by decide +kernel) rfl), fun _ => rfl⟩⟩
theorem fl_X10_35 : a_fl RX10 35 10 10 := ⟨_, rfl, by decide, Or.inl (a_inG 797 (by decide +kernel) rfl)⟩
theorem fp_X10_35 : a_fp RX10 35 10 10 (.array .int) true := ⟨_, rfl, by decide, rfl, by decide +kernel, Or.inl ⟨(a_inG 797 (by decide +kernel) rfl), fun _ => rfl⟩⟩
theorem fl_X10_134 : a_fl RX10 134 10 11 := ⟨_, rfl, by decide, Or.inl (a_inG 798 (by decide +kernel) rfl)⟩
theorem fp_X10_134 : a_fp RX10 134 10 11 .int false := ⟨_, rfl, by decide, rfl, by decide +kernel, Or.inl ⟨(a_inG 798 (by decide +kernel) rfl), fun _ => rfl⟩⟩
theorem fl_X10_109 : a_fl RX10 109 10 12 := ⟨_, rfl, by decide, Or.inl (a_inG 799 (by decide +kernel) rfl)⟩
theorem fp_X10_109 : a_fp RX10 109 10 12 .int false := ⟨_, rfl, by decide, rfl, by decide +kernel, Or.inl ⟨(a_inG 799 (by decide +kernel) rfl), fun _ => rfl⟩⟩
theorem fl_X10_38 : a_fl RX10 38 10 13 := ⟨_, rfl, by decide, Or.inl (a_inG 800 (by decide +kernel) rfl)⟩
theorem fp_X10_38 : a_fp RX10 38 10 13 (.array .int) true := ⟨_, rfl, by decide, rfl, by decide +kernel, Or.inl ⟨(a_inG 800 (by decide +kernel) rfl), fun _ => rfl⟩⟩
theorem fl_X10_73 : a_fl RX10 73 10 14 := ⟨_, rfl, by decide, Or.inl (a_inG 801 (by decide +kernel) rfl)⟩
theorem fp_X10_73 : a_fp RX10 73 10 14 .int false := ⟨_, rfl, by decide, rfl, by decide +kernel, Or.inl ⟨(a_inG 801 (by decide +kernel) rfl), fun _ => rfl⟩⟩
theorem fl_X10_77 : a_fl RX10 77 10 15 := ⟨_, rfl, by decide, Or.inl (a_inG 802 (by decide +kernel) rfl)⟩
theorem fp_X10_77 : a_fp RX10 77 10 15 .int false := ⟨_, rfl, by decide, rfl, by decide +kernel, Or.inl ⟨(a_inG 802 (by decide +kernel) rfl), fun _ => rfl⟩⟩
theorem fl_X10_87 : a_fl RX10 87 10 16 := ⟨_, rfl, by decide, Or.inl (a_inG 803 (by decide +kernel) rfl)⟩
theorem fp_X10_87 : a_fp RX10 87 10 16 .int false := ⟨_, rfl, by decide, rfl, by decide +kernel, Or.inl ⟨(a_inG 803 (by decide +kernel) rfl), fun _ => rfl⟩⟩
theorem fl_X10_80 : a_fl RX10 80 10 17 := ⟨_, rfl, by decide, Or.inl (a_inG 804 (by decide +kernel) rfl)⟩
theorem fp_X10_80 : a_fp RX10 80 10 17 .int false := ⟨_, rfl, by decide, rfl, by decide +kernel, Or.inl ⟨(a_inG 804 (by decide +kernel) rfl), fun _ => rfl⟩⟩
theorem fl_X10_41 : a_fl RX10 41 10 18 := ⟨_, rfl, by decide, Or.inl (a_inG 805 (by decide +kernel) rfl)⟩
theorem fp_X10_41 : a_fp RX10 41 10 18 .int false := ⟨_, rfl, by decide, rfl, by decide +kernel, Or.inl ⟨(a_inG 805 (by decide +kernel) rfl), fun _ => rfl⟩⟩
theorem fl_X10_45 : a_fl RX10 45 10 19 := ⟨_, rfl, by decide, Or.inl (a_inG 806 (by decide +kernel) rfl)⟩
theorem fp_X10_45 : a_fp RX10 45 10 19 (.array .int) true := ⟨_, rfl, by decide, rfl, by decide +kernel, Or.inl ⟨(a_inG 806 (by decide +kernel) rfl), fun _ => rfl⟩⟩
theorem fl_X10_176 : a_fl RX10 176 10 20 := ⟨_, rfl, by decide, Or.inl (a_inG 807 (by decide +kernel) rfl)⟩
theorem fp_X10_176 : a_fp RX10 176 10 20 .int false := ⟨_, rfl, by decide, rfl, by decide +kernel, Or.inl ⟨(a_inG 807 (by decide +kernel) rfl), fun _ => rfl⟩⟩
theorem fl_X10_179 : a_fl RX10 179 10 21 := ⟨_, rfl, by decide, Or.inl (a_inG 808 (by decide +kernel) rfl)⟩
theorem fp_X10_179 : a_fp RX10 179 10 21 .int false := ⟨_, rfl, by decide, rfl, by decide +kernel, Or.inl ⟨(a_inG 808 (by decide +kernel) rfl), fun _ => rfl⟩⟩
theorem fl_X10_143 : a_fl RX10 143 10 22 := ⟨_, rfl, by decide, Or.inl (a_inG 809 (by decide +kernel) rfl)⟩
theorem fp_X10_143 : a_fp RX10 143 10 22 .int false := ⟨_, rfl, by decide, rfl, by decide +kernel, Or.inl ⟨(a_inG 809 (by decide +kernel) rfl), fun _ => rfl⟩⟩
theorem fl_X10_48 : a_fl RX10 48 10 23 := ⟨_, rfl, by decide, Or.inl (a_inG 810 (by decide +kernel) rfl)⟩
theorem fp_X10_48 : a_fp RX10 48 10 23 (.array .int) true := ⟨_, rfl, by decide, rfl, by decide +kernel, Or.inl ⟨(a_inG 810 (by decide +kernel) rfl), fun _ => rfl⟩⟩
theorem fl_X10_51 : a_fl RX10 51 10 24 := ⟨_, rfl, by decide, Or.inl (a_inG 811 (by decide +kernel) rfl)⟩
theorem fp_X10_51 : a_fp RX10 51 10 24 (.array .int) true := ⟨_, rfl, by decide, rfl, by decide +kernel, Or.inl ⟨(a_inG 811 (by decide +kernel) rfl), fun _ => rfl⟩⟩
theorem fl_X10_54 : a_fl RX10 54 10 25 := ⟨_, rfl, by decide, Or.inl (a_inG 812 (by decide +kernel) rfl)⟩
theorem fp_X10_54 : a_fp RX10 54 10 25 (.array .boolean) true := ⟨_, rfl, by decide, rfl, by decide +kernel, Or.inl ⟨(a_inG 812 (by decide +kernel) rfl), fun _ => rfl⟩⟩
theorem fl_X10_137 : a_fl RX10 137 10 26 := ⟨_, rfl, by decide, Or.inl (a_inG 813 (by decide +kernel) rfl)⟩
theorem fp_X10_137 : a_fp RX10 137 10 26 .int false := ⟨_, rfl, by decide, rfl, by decide +kernel, Or.inl ⟨(a_inG 813 (by decide +kernel) rfl), fun _ => rfl⟩⟩
theorem fl_X10_57 : a_fl RX10 57 10 27 := ⟨_, rfl, by decide, Or.inl (a_inG 814 (by decide +kernel) rfl)⟩
theorem fp_X10_57 : a_fp RX10 57 10 27 (.array .int) true := ⟨_, rfl, by decide, rfl, by decide +kernel, Or.inl ⟨(a_inG 814 (by decide +kernel) rfl), fun _ => rfl⟩⟩
theorem fl_X10_60 : a_fl RX10 60 10 28 := ⟨_, rfl, by decide, Or.inl (a_inG 815 (by decide +kernel) rfl)⟩
theorem fp_X10_60 : a_fp RX10 60 10 28 (.array .int) true := ⟨_, rfl, by decide, rfl, by decide +kernel, Or.inl ⟨(a_inG 815 (by decide +kernel) rfl), fun _ => rfl⟩⟩
theorem fl_X10_63 : a_fl RX10 63 10 29 := ⟨_, rfl, by decide, Or.inl (a_inG 816 (by decide +kernel) rfl)⟩
theorem fp_X10_63 : a_fp RX10 63 10 29 (.array .int) true := ⟨_, rfl, by decide, rfl, by decide +kernel, Or.inl ⟨(a_inG 816 (by decide +kernel) rfl), fun _ => rfl⟩⟩
theorem fl_X10_140 : a_fl RX10 140 10 30 := ⟨_, rfl, by decide, Or.inl (a_inG 817 (by decide +kernel) rfl)⟩
theorem fp_X10_140 : a_fp RX10 140 10 30 .int false := ⟨_, rfl, by decide, rfl, by decide +kernel, Or.inl ⟨(a_inG 817 (by decide +kernel) rfl), fun _ => rfl⟩⟩
theorem lk_L_9 : a_lk RL 9 yX9_init := Or.inl (a_inG 94 (by decide +kernel) rfl)
theorem lj_X9_1 : Cond.methodLink RX9 1 objectInit ∈ gT := (a_inG 97 (by decide +kernel) rfl)
theorem lk_X9_9 : a_lk RX9 9 yX7_init := Or.inr ⟨"WeWereIn", (a_inN 102 (by decide +kernel) rfl)⟩
theorem lj_X7_3 : Cond.methodLink RX7 3 objectInit ∈ gT := (a_inG 105 (by decide +kernel) rfl)
theorem lk_X9_18 : a_lk RX9 18 yX6_init := Or.inr ⟨"WeWereIn", (a_inN 131 (by decide +kernel) rfl)⟩
theorem lj_X6_3 : Cond.methodLink RX6 3 objectInit ∈ gT := (a_inG 134 (by decide +kernel) rfl)
theorem lk_X9_28 : a_lk RX9 28 yX1_init := Or.inr ⟨"WeWereIn", (a_inN 190 (by decide +kernel) rfl)⟩
theorem lj_X1_3 : Cond.methodLink RX1 3 objectInit ∈ gT := (a_inG 193 (by decide +kernel) rfl)
theorem lk_X1_28 : a_lk RX1 28 yX1_begin := Or.inl (a_inG 194 (by decide +kernel) rfl)
theorem lk_X9_38 : a_lk RX9 38 yX8_init := Or.inr ⟨"WeWereIn", (a_inN 228 (by decide +kernel) rfl)⟩
theorem lj_X8_3 : Cond.methodLink RX8 3 objectInit ∈ gT := (a_inG 231 (by decide +kernel) rfl)
theorem lk_X8_11 : a_lk RX8 11 yX1_init := Or.inr ⟨"WeWereIn", (a_inN 233 (by decide +kernel) rfl)⟩
theorem lk_X9_45 : a_lk RX9 45 yX3_init := Or.inr ⟨"WeWereIn", (a_inN 266 (by decide +kernel) rfl)⟩
theorem lj_X3_3 : Cond.methodLink RX3 3 objectInit ∈ gT := (a_inG 269 (by decide +kernel) rfl)
theorem lk_X3_24 : a_lk RX3 24 yX1_init := Or.inr ⟨"WeWereIn", (a_inN 272 (by decide +kernel) rfl)⟩
theorem lk_X9_52 : a_lk RX9 52 yX5_init := Or.inr ⟨"WeWereIn", (a_inN 286 (by decide +kernel) rfl)⟩
theorem lj_X5_3 : Cond.methodLink RX5 3 objectInit ∈ gT := (a_inG 289 (by decide +kernel) rfl)
theorem lk_X9_59 : a_lk RX9 59 yX0_init := Or.inr ⟨"WeWereIn", (a_inN 304 (by decide +kernel) rfl)⟩
theorem lj_X0_3 : Cond.methodLink RX0 3 objectInit ∈ gT := (a_inG 307 (by decide +kernel) rfl)
theorem lk_X9_66 : a_lk RX9 66 yX2_init := Or.inr ⟨"WeWereIn", (a_inN 322 (by decide +kernel) rfl)⟩
theorem lj_X2_1 : Cond.methodLink RX2 1 objectInit ∈ gT := (a_inG 325 (by decide +kernel) rfl)
theorem lk_X2_9 : a_lk RX2 9 yX1_init := Or.inr ⟨"WeWereIn", (a_inN 327 (by decide +kernel) rfl)⟩
theorem lk_L_13 : a_lk RL 13 yX9_feed := Or.inl (a_inG 378 (by decide +kernel) rfl)
theorem lk_X9_79 : a_lk RX9 79 yX9_within := Or.inl (a_inG 382 (by decide +kernel) rfl)
theorem lk_X9_84 : a_lk RX9 84 yX7_add := Or.inr ⟨"WeWereIn", (a_inN 386 (by decide +kernel) rfl)⟩
theorem lk_L_18 : a_lk RL 18 yX9_street := Or.inl (a_inG 391 (by decide +kernel) rfl)
theorem lk_X9_92 : a_lk RX9 92 yX7_readInto := Or.inr ⟨"WeWereIn", (a_inN 395 (by decide +kernel) rfl)⟩
theorem lk_X7_31 : a_lk RX7 31 yX6_begin := Or.inr ⟨"WeWereIn", (a_inN 399 (by decide +kernel) rfl)⟩
theorem lk_X7_36 : a_lk RX7 36 yX7_peek := Or.inl (a_inG 403 (by decide +kernel) rfl)
theorem lk_X7_105 : a_lk RX7 105 yX9_within := Or.inr ⟨"WeWereIn", (a_inN 407 (by decide +kernel) rfl)⟩
theorem lk_X7_40 : a_lk RX7 40 yX7_readClause := Or.inl (a_inG 408 (by decide +kernel) rfl)
theorem lk_X7_47 : a_lk RX7 47 yX7_fail := Or.inl (a_inG 412 (by decide +kernel) rfl)
theorem lk_X7_51 : a_lk RX7 51 yX7_readVan := Or.inl (a_inG 416 (by decide +kernel) rfl)
theorem lk_X7_65 : a_lk RX7 65 yX7_number := Or.inl (a_inG 420 (by decide +kernel) rfl)
theorem lk_X7_102 : a_lk RX7 102 yX7_isFigure := Or.inl (a_inG 424 (by decide +kernel) rfl)
theorem lk_X7_75 : a_lk RX7 75 yX7_endClause := Or.inl (a_inG 427 (by decide +kernel) rfl)
theorem lk_X7_55 : a_lk RX7 55 yX7_readStop := Or.inl (a_inG 431 (by decide +kernel) rfl)
theorem lk_X7_81 : a_lk RX7 81 yX6_addStop := Or.inr ⟨"WeWereIn", (a_inN 435 (by decide +kernel) rfl)⟩
theorem lk_X7_59 : a_lk RX7 59 yX7_readDin := Or.inl (a_inG 439 (by decide +kernel) rfl)
theorem lk_X7_88 : a_lk RX7 88 yX6_addDin := Or.inr ⟨"WeWereIn", (a_inN 443 (by decide +kernel) rfl)⟩
theorem lk_X7_62 : a_lk RX7 62 yX7_readNeighbour := Or.inl (a_inG 447 (by decide +kernel) rfl)
theorem lk_X7_92 : a_lk RX7 92 yX6_has := Or.inr ⟨"WeWereIn", (a_inN 451 (by decide +kernel) rfl)⟩
theorem lk_X9_96 : a_lk RX9 96 yX7_empty := Or.inr ⟨"WeWereIn", (a_inN 455 (by decide +kernel) rfl)⟩
theorem lk_X9_102 : a_lk RX9 102 yX6_copy := Or.inr ⟨"WeWereIn", (a_inN 459 (by decide +kernel) rfl)⟩
theorem lj_X6_46 : Cond.methodLink RX6 46 arraycopyName ∈ gT := (a_inG 463 (by decide +kernel) rfl)
theorem lk_X9_105 : a_lk RX9 105 yX1_begin := Or.inr ⟨"WeWereIn", (a_inN 466 (by decide +kernel) rfl)⟩
theorem lk_X9_108 : a_lk RX9 108 yX3_forget := Or.inr ⟨"WeWereIn", (a_inN 467 (by decide +kernel) rfl)⟩
theorem lk_X9_111 : a_lk RX9 111 yX5_forget := Or.inr ⟨"WeWereIn", (a_inN 471 (by decide +kernel) rfl)⟩
theorem lk_X9_112 : a_lk RX9 112 yX0_forget := Or.inr ⟨"WeWereIn", (a_inN 475 (by decide +kernel) rfl)⟩
theorem lk_L_23 : a_lk RL 23 yX9_fault := Or.inl (a_inG 479 (by decide +kernel) rfl)
theorem lk_L_27 : a_lk RL 27 yX9_told := Or.inl (a_inG 483 (by decide +kernel) rfl)
theorem lk_X9_141 : a_lk RX9 141 yX1_which := Or.inr ⟨"WeWereIn", (a_inN 487 (by decide +kernel) rfl)⟩
theorem lk_L_31 : a_lk RL 31 yX9_stop := Or.inl (a_inG 491 (by decide +kernel) rfl)
theorem lk_X9_150 : a_lk RX9 150 yX6_has := Or.inr ⟨"WeWereIn", (a_inN 495 (by decide +kernel) rfl)⟩
theorem lk_L_36 : a_lk RL 36 yX9_din := Or.inl (a_inG 497 (by decide +kernel) rfl)
theorem lk_X9_175 : a_lk RX9 175 yX6_dinOf := Or.inr ⟨"WeWereIn", (a_inN 501 (by decide +kernel) rfl)⟩
theorem lk_L_40 : a_lk RL 40 yX9_round := Or.inl (a_inG 505 (by decide +kernel) rfl)
theorem lk_X9_179 : a_lk RX9 179 yX9_refusalOfTrip := Or.inl (a_inG 509 (by decide +kernel) rfl)
theorem lk_X9_218 : a_lk RX9 218 yX6_isWay := Or.inr ⟨"WeWereIn", (a_inN 513 (by decide +kernel) rfl)⟩
theorem lk_X6_52 : a_lk RX6 52 yX6_has := Or.inl (a_inG 517 (by decide +kernel) rfl)
theorem lk_X9_182 : a_lk RX9 182 yX3_push := Or.inr ⟨"WeWereIn", (a_inN 518 (by decide +kernel) rfl)⟩
theorem lk_X3_25 : a_lk RX3 25 yX1_copy := Or.inr ⟨"WeWereIn", (a_inN 522 (by decide +kernel) rfl)⟩
theorem lj_X1_31 : Cond.methodLink RX1 31 arraycopyName ∈ gT := (a_inG 526 (by decide +kernel) rfl)
theorem lk_X3_29 : a_lk RX3 29 yJ9_min_7cf53 := Or.inl (a_inG 527 (by decide +kernel) rfl)
theorem lk_X9_186 : a_lk RX9 186 yX9_drive := Or.inl (a_inG 530 (by decide +kernel) rfl)
theorem lk_X9_208 : a_lk RX9 208 yX8_run := Or.inr ⟨"WeWereIn", (a_inN 534 (by decide +kernel) rfl)⟩
theorem lk_X8_41 : a_lk RX8 41 yX8_begin := Or.inl (a_inG 538 (by decide +kernel) rfl)
theorem lk_X8_77 : a_lk RX8 77 yX1_copy := Or.inr ⟨"WeWereIn", (a_inN 542 (by decide +kernel) rfl)⟩
theorem lk_X8_45 : a_lk RX8 45 yX8_firstUnit := Or.inl (a_inG 543 (by decide +kernel) rfl)
theorem lk_X8_49 : a_lk RX8 49 yX6_has := Or.inr ⟨"WeWereIn", (a_inN 546 (by decide +kernel) rfl)⟩
theorem lk_X8_55 : a_lk RX8 55 yX8_call := Or.inl (a_inG 547 (by decide +kernel) rfl)
theorem lk_X8_59 : a_lk RX8 59 yX6_secondsBetween := Or.inr ⟨"WeWereIn", (a_inN 551 (by decide +kernel) rfl)⟩
theorem lk_X6_68 : a_lk RX6 68 yJ9_abs_0f7a4 := Or.inl (a_inG 555 (by decide +kernel) rfl)
theorem lk_X8_82 : a_lk RX8 82 yX1_counts := Or.inr ⟨"WeWereIn", (a_inN 558 (by decide +kernel) rfl)⟩
theorem lk_X8_85 : a_lk RX8 85 yX9_ringsAt := Or.inr ⟨"WeWereIn", (a_inN 562 (by decide +kernel) rfl)⟩
theorem lk_X8_92 : a_lk RX8 92 yX6_meets := Or.inr ⟨"WeWereIn", (a_inN 565 (by decide +kernel) rfl)⟩
theorem lk_X6_60 : a_lk RX6 60 yX6_isIn := Or.inl (a_inG 569 (by decide +kernel) rfl)
theorem lk_X6_56 : a_lk RX6 56 yX9_within := Or.inr ⟨"WeWereIn", (a_inN 573 (by decide +kernel) rfl)⟩
theorem lk_X6_64 : a_lk RX6 64 yX6_dinOf := Or.inl (a_inG 574 (by decide +kernel) rfl)
theorem lk_X8_96 : a_lk RX8 96 yX6_secondsAtDoor := Or.inr ⟨"WeWereIn", (a_inN 575 (by decide +kernel) rfl)⟩
theorem lk_X8_72 : a_lk RX8 72 yJ6_bitCount_0f7a4 := Or.inl (a_inG 579 (by decide +kernel) rfl)
theorem lk_X9_267 : a_lk RX9 267 yX1_copy := Or.inr ⟨"WeWereIn", (a_inN 585 (by decide +kernel) rfl)⟩
theorem lk_L_44 : a_lk RL 44 yX9_fetch := Or.inl (a_inG 586 (by decide +kernel) rfl)
theorem lk_L_48 : a_lk RL 48 yX9_order := Or.inl (a_inG 591 (by decide +kernel) rfl)
theorem lk_L_52 : a_lk RL 52 yX9_thank := Or.inl (a_inG 595 (by decide +kernel) rfl)
theorem lk_L_56 : a_lk RL 56 yX9_drift := Or.inl (a_inG 599 (by decide +kernel) rfl)
theorem lk_X9_194 : a_lk RX9 194 yX6_risingWay := Or.inr ⟨"WeWereIn", (a_inN 603 (by decide +kernel) rfl)⟩
theorem lk_X9_198 : a_lk RX9 198 yX9_orderByDraw := Or.inl (a_inG 607 (by decide +kernel) rfl)
theorem lk_X9_201 : a_lk RX9 201 yX9_draw := Or.inl (a_inG 611 (by decide +kernel) rfl)
theorem lk_L_60 : a_lk RL 60 yX9_undo := Or.inl (a_inG 619 (by decide +kernel) rfl)
theorem lk_X9_204 : a_lk RX9 204 yX3_pop := Or.inr ⟨"WeWereIn", (a_inN 623 (by decide +kernel) rfl)⟩
theorem lk_X3_35 : a_lk RX3 35 yX9_within := Or.inr ⟨"WeWereIn", (a_inN 627 (by decide +kernel) rfl)⟩
theorem lk_L_64 : a_lk RL 64 yX9_comes := Or.inl (a_inG 628 (by decide +kernel) rfl)
theorem lk_L_69 : a_lk RL 69 yX9_home := Or.inl (a_inG 632 (by decide +kernel) rfl)
theorem lk_L_73 : a_lk RL 73 yX9_outcome := Or.inl (a_inG 636 (by decide +kernel) rfl)
theorem lk_L_77 : a_lk RL 77 yX9_bath := Or.inl (a_inG 640 (by decide +kernel) rfl)
theorem lk_L_82 : a_lk RL 82 yX9_bestWay := Or.inl (a_inG 644 (by decide +kernel) rfl)
theorem lk_X9_223 : a_lk RX9 223 yX4_init := Or.inr ⟨"WeWereIn", (a_inN 650 (by decide +kernel) rfl)⟩
theorem lj_X4_3 : Cond.methodLink RX4 3 objectInit ∈ gT := (a_inG 653 (by decide +kernel) rfl)
theorem lk_X4_37 : a_lk RX4 37 yX1_which := Or.inr ⟨"WeWereIn", (a_inN 654 (by decide +kernel) rfl)⟩
theorem lk_X4_46 : a_lk RX4 46 yJ6_bitCount_0f7a4 := Or.inl (a_inG 655 (by decide +kernel) rfl)
theorem lk_X9_226 : a_lk RX9 226 yX4_seek := Or.inr ⟨"WeWereIn", (a_inN 684 (by decide +kernel) rfl)⟩
theorem lk_X4_55 : a_lk RX4 55 yX4_extend := Or.inl (a_inG 688 (by decide +kernel) rfl)
theorem lk_X4_59 : a_lk RX4 59 yX6_secondsBetween := Or.inr ⟨"WeWereIn", (a_inN 691 (by decide +kernel) rfl)⟩
theorem lk_X4_62 : a_lk RX4 62 yX4_canBeat := Or.inl (a_inG 692 (by decide +kernel) rfl)
theorem lk_X4_66 : a_lk RX4 66 yX4_settle := Or.inl (a_inG 696 (by decide +kernel) rfl)
theorem lk_X4_70 : a_lk RX4 70 yX9_ringsAt := Or.inr ⟨"WeWereIn", (a_inN 700 (by decide +kernel) rfl)⟩
theorem lk_X4_80 : a_lk RX4 80 yX6_meets := Or.inr ⟨"WeWereIn", (a_inN 701 (by decide +kernel) rfl)⟩
theorem lk_X4_84 : a_lk RX4 84 yX6_secondsAtDoor := Or.inr ⟨"WeWereIn", (a_inN 702 (by decide +kernel) rfl)⟩
theorem lk_L_86 : a_lk RL 86 yX9_pretends := Or.inl (a_inG 703 (by decide +kernel) rfl)
theorem lk_L_90 : a_lk RL 90 yX9_locker := Or.inl (a_inG 707 (by decide +kernel) rfl)
theorem lk_X9_240 : a_lk RX9 240 yX6_countNear := Or.inr ⟨"WeWereIn", (a_inN 711 (by decide +kernel) rfl)⟩
theorem lk_L_94 : a_lk RL 94 yX9_bears := Or.inl (a_inG 715 (by decide +kernel) rfl)
theorem lk_L_98 : a_lk RL 98 yX9_heard := Or.inl (a_inG 719 (by decide +kernel) rfl)
theorem lk_L_102 : a_lk RL 102 yX9_see := Or.inl (a_inG 725 (by decide +kernel) rfl)
theorem lk_X9_248 : a_lk RX9 248 yX5_add := Or.inr ⟨"WeWereIn", (a_inN 729 (by decide +kernel) rfl)⟩
theorem lk_L_107 : a_lk RL 107 yX9_rang := Or.inl (a_inG 733 (by decide +kernel) rfl)
theorem lk_X9_251 : a_lk RX9 251 yX5_fits := Or.inr ⟨"WeWereIn", (a_inN 737 (by decide +kernel) rfl)⟩
theorem lk_X9_254 : a_lk RX9 254 yX9_bestToAsk := Or.inl (a_inG 741 (by decide +kernel) rfl)
theorem lk_X9_277 : a_lk RX9 277 yJ6_bitCount_0f7a4 := Or.inl (a_inG 745 (by decide +kernel) rfl)
theorem lk_X9_282 : a_lk RX9 282 yJ9_max_7cf53 := Or.inl (a_inG 746 (by decide +kernel) rfl)
theorem lk_L_111 : a_lk RL 111 yX9_write := Or.inl (a_inG 749 (by decide +kernel) rfl)
theorem lk_X9_257 : a_lk RX9 257 yX0_add := Or.inr ⟨"WeWereIn", (a_inN 753 (by decide +kernel) rfl)⟩
theorem lk_L_115 : a_lk RL 115 yX9_judge := Or.inl (a_inG 757 (by decide +kernel) rfl)
theorem lk_X9_260 : a_lk RX9 260 yX0_firstWrong := Or.inr ⟨"WeWereIn", (a_inN 761 (by decide +kernel) rfl)⟩
theorem lk_L_119 : a_lk RL 119 yX9_tear := Or.inl (a_inG 765 (by decide +kernel) rfl)
theorem lk_L_123 : a_lk RL 123 yX9_seed := Or.inl (a_inG 769 (by decide +kernel) rfl)
theorem lk_L_127 : a_lk RL 127 yX9_keep := Or.inl (a_inG 773 (by decide +kernel) rfl)
theorem lk_L_131 : a_lk RL 131 yX9_goBack := Or.inl (a_inG 777 (by decide +kernel) rfl)
theorem lk_L_12 : a_lk RL 12 yX10_init := Or.inl (a_inG 783 (by decide +kernel) rfl)
theorem lj_X10_1 : Cond.methodLink RX10 1 objectInit ∈ gT := (a_inG 786 (by decide +kernel) rfl)
theorem lk_L_17 : a_lk RL 17 yX10_feed := Or.inl (a_inG 881 (by decide +kernel) rfl)
theorem lk_X10_68 : a_lk RX10 68 yX10_in := Or.inl (a_inG 886 (by decide +kernel) rfl)
theorem lk_L_22 : a_lk RL 22 yX10_street := Or.inl (a_inG 891 (by decide +kernel) rfl)
theorem lk_X10_83 : a_lk RX10 83 yX10_here := Or.inl (a_inG 895 (by decide +kernel) rfl)
theorem lk_X10_125 : a_lk RX10 125 yX10_takeClause := Or.inl (a_inG 899 (by decide +kernel) rfl)
theorem lk_X10_94 : a_lk RX10 94 yX10_want := Or.inl (a_inG 903 (by decide +kernel) rfl)
theorem lk_X10_112 : a_lk RX10 112 yX10_takeRule := Or.inl (a_inG 907 (by decide +kernel) rfl)
theorem lk_X10_102 : a_lk RX10 102 yX10_takeIn := Or.inl (a_inG 911 (by decide +kernel) rfl)
theorem lk_X10_99 : a_lk RX10 99 yX10_takeNumber := Or.inl (a_inG 915 (by decide +kernel) rfl)
theorem lk_X10_116 : a_lk RX10 116 yX10_takeStop := Or.inl (a_inG 922 (by decide +kernel) rfl)
theorem lk_X10_119 : a_lk RX10 119 yX10_takeDins := Or.inl (a_inG 926 (by decide +kernel) rfl)
theorem lk_X10_122 : a_lk RX10 122 yX10_takeNeighbour := Or.inl (a_inG 930 (by decide +kernel) rfl)
theorem lk_X10_128 : a_lk RX10 128 yX10_take := Or.inl (a_inG 934 (by decide +kernel) rfl)
theorem lk_L_26 : a_lk RL 26 yX10_fault := Or.inl (a_inG 938 (by decide +kernel) rfl)
theorem lk_L_30 : a_lk RL 30 yX10_told := Or.inl (a_inG 942 (by decide +kernel) rfl)
theorem lk_X10_164 : a_lk RX10 164 yX10_which := Or.inl (a_inG 946 (by decide +kernel) rfl)
theorem lk_X10_160 : a_lk RX10 160 yX10_one := Or.inl (a_inG 950 (by decide +kernel) rfl)
theorem lk_L_35 : a_lk RL 35 yX10_stop := Or.inl (a_inG 953 (by decide +kernel) rfl)
theorem lk_X10_150 : a_lk RX10 150 yX10_isStop := Or.inl (a_inG 957 (by decide +kernel) rfl)
theorem lk_L_39 : a_lk RL 39 yX10_din := Or.inl (a_inG 962 (by decide +kernel) rfl)
theorem lk_X10_170 : a_lk RX10 170 yX10_dinAt := Or.inl (a_inG 967 (by decide +kernel) rfl)
theorem lk_L_43 : a_lk RL 43 yX10_round := Or.inl (a_inG 971 (by decide +kernel) rfl)
theorem lk_X10_200 : a_lk RX10 200 yX10_isWay := Or.inl (a_inG 975 (by decide +kernel) rfl)
theorem lk_X10_154 : a_lk RX10 154 yX10_has := Or.inl (a_inG 979 (by decide +kernel) rfl)
theorem lk_X10_203 : a_lk RX10 203 yX10_isHaste := Or.inl (a_inG 982 (by decide +kernel) rfl)
theorem lk_X10_206 : a_lk RX10 206 yX10_remember := Or.inl (a_inG 986 (by decide +kernel) rfl)
theorem lk_X10_192 : a_lk RX10 192 yX10_copy := Or.inl (a_inG 990 (by decide +kernel) rfl)
theorem lk_X10_196 : a_lk RX10 196 yX10_roundIn := Or.inl (a_inG 994 (by decide +kernel) rfl)
theorem lk_X10_146 : a_lk RX10 146 yX10_figures := Or.inl (a_inG 998 (by decide +kernel) rfl)
theorem lk_X10_182 : a_lk RX10 182 yX10_stopOf := Or.inl (a_inG 1001 (by decide +kernel) rfl)
theorem lk_X10_185 : a_lk RX10 185 yX10_far := Or.inl (a_inG 1004 (by decide +kernel) rfl)
theorem lk_X10_188 : a_lk RX10 188 yX10_visit := Or.inl (a_inG 1007 (by decide +kernel) rfl)
theorem lk_X10_173 : a_lk RX10 173 yX10_isInAt := Or.inl (a_inG 1011 (by decide +kernel) rfl)
theorem lk_L_47 : a_lk RL 47 yX10_fetch := Or.inl (a_inG 1015 (by decide +kernel) rfl)
theorem lk_L_51 : a_lk RL 51 yX10_order := Or.inl (a_inG 1020 (by decide +kernel) rfl)
theorem lk_L_55 : a_lk RL 55 yX10_thank := Or.inl (a_inG 1024 (by decide +kernel) rfl)
theorem lk_L_59 : a_lk RL 59 yX10_drift := Or.inl (a_inG 1028 (by decide +kernel) rfl)
theorem lk_X10_219 : a_lk RX10 219 yX10_draw := Or.inl (a_inG 1033 (by decide +kernel) rfl)
theorem lk_L_63 : a_lk RL 63 yX10_undo := Or.inl (a_inG 1041 (by decide +kernel) rfl)
theorem lk_L_68 : a_lk RL 68 yX10_comes := Or.inl (a_inG 1046 (by decide +kernel) rfl)
theorem lk_X10_224 : a_lk RX10 224 yX10_tryRound := Or.inl (a_inG 1050 (by decide +kernel) rfl)
theorem lk_L_72 : a_lk RL 72 yX10_home := Or.inl (a_inG 1054 (by decide +kernel) rfl)
theorem lk_L_76 : a_lk RL 76 yX10_outcome := Or.inl (a_inG 1058 (by decide +kernel) rfl)
theorem lk_L_81 : a_lk RL 81 yX10_bath := Or.inl (a_inG 1062 (by decide +kernel) rfl)
theorem lk_X10_229 : a_lk RX10 229 yX10_comesTo := Or.inl (a_inG 1067 (by decide +kernel) rfl)
theorem lk_L_85 : a_lk RL 85 yX10_bestWay := Or.inl (a_inG 1071 (by decide +kernel) rfl)
theorem lk_X10_237 : a_lk RX10 237 yX10_counting := Or.inl (a_inG 1076 (by decide +kernel) rfl)
theorem lk_X10_241 : a_lk RX10 241 yX10_wayOf := Or.inl (a_inG 1081 (by decide +kernel) rfl)
theorem lk_X10_244 : a_lk RX10 244 yX10_nextRow := Or.inl (a_inG 1085 (by decide +kernel) rfl)
theorem lk_X10_232 : a_lk RX10 232 yX10_exchange := Or.inl (a_inG 1089 (by decide +kernel) rfl)
theorem lk_L_89 : a_lk RL 89 yX10_pretends := Or.inl (a_inG 1093 (by decide +kernel) rfl)
theorem lk_L_93 : a_lk RL 93 yX10_locker := Or.inl (a_inG 1097 (by decide +kernel) rfl)
theorem lk_L_97 : a_lk RL 97 yX10_bears := Or.inl (a_inG 1101 (by decide +kernel) rfl)
theorem lk_L_101 : a_lk RL 101 yX10_heard := Or.inl (a_inG 1105 (by decide +kernel) rfl)
theorem lk_L_106 : a_lk RL 106 yX10_see := Or.inl (a_inG 1112 (by decide +kernel) rfl)
theorem lk_L_110 : a_lk RL 110 yX10_rang := Or.inl (a_inG 1116 (by decide +kernel) rfl)
theorem lk_X10_256 : a_lk RX10 256 yX10_findHastes := Or.inl (a_inG 1120 (by decide +kernel) rfl)
theorem lk_X10_253 : a_lk RX10 253 yX10_slipsBy := Or.inl (a_inG 1124 (by decide +kernel) rfl)
theorem lk_L_114 : a_lk RL 114 yX10_write := Or.inl (a_inG 1128 (by decide +kernel) rfl)
theorem lk_L_118 : a_lk RL 118 yX10_judge := Or.inl (a_inG 1133 (by decide +kernel) rfl)
theorem lk_L_122 : a_lk RL 122 yX10_tear := Or.inl (a_inG 1137 (by decide +kernel) rfl)
theorem lk_L_126 : a_lk RL 126 yX10_seed := Or.inl (a_inG 1141 (by decide +kernel) rfl)
theorem lk_L_130 : a_lk RL 130 yX10_keep := Or.inl (a_inG 1145 (by decide +kernel) rfl)
theorem lk_L_134 : a_lk RL 134 yX10_goBack := Or.inl (a_inG 1149 (by decide +kernel) rfl)
theorem k_mX0_init : a_ci mX0_init 0 := ⟨⟨(a_inG 306 (by decide +kernel) rfl), ini_X0, by decide +kernel, by decide⟩, rfl, rfl, (a_inG 305 (by decide +kernel) rfl)⟩
theorem k_mX0_forget : a_cv mX0_forget 0 := ⟨⟨(a_inG 478 (by decide +kernel) rfl), ini_X0, by decide +kernel, by decide⟩, (a_inG 477 (by decide +kernel) rfl), (a_inG 20 (by decide +kernel) rfl)⟩
theorem k_mX0_add : a_cv mX0_add 2 := ⟨⟨(a_inG 756 (by decide +kernel) rfl), ini_X0, by decide +kernel, by decide⟩, (a_inG 755 (by decide +kernel) rfl), (a_inG 47 (by decide +kernel) rfl)⟩
theorem k_mX0_firstWrong : a_cv mX0_firstWrong 1 := ⟨⟨(a_inG 764 (by decide +kernel) rfl), ini_X0, by decide +kernel, by decide⟩, (a_inG 763 (by decide +kernel) rfl), (a_inG 48 (by decide +kernel) rfl)⟩
theorem k_mX1_init : a_ci mX1_init 0 := ⟨⟨(a_inG 192 (by decide +kernel) rfl), ini_X1, by decide +kernel, by decide⟩, rfl, rfl, (a_inG 191 (by decide +kernel) rfl)⟩
theorem k_mX1_begin : a_cv mX1_begin 0 := ⟨⟨(a_inG 197 (by decide +kernel) rfl), ini_X1, by decide +kernel, by decide⟩, (a_inG 196 (by decide +kernel) rfl), (a_inG 0 (by decide +kernel) rfl)⟩
theorem k_mX1_copy : a_cv mX1_copy 1 := ⟨⟨(a_inG 525 (by decide +kernel) rfl), ini_X1, by decide +kernel, by decide⟩, (a_inG 524 (by decide +kernel) rfl), (a_inG 26 (by decide +kernel) rfl)⟩
theorem k_mX1_counts : a_cv mX1_counts 1 := ⟨⟨(a_inG 561 (by decide +kernel) rfl), ini_X1, by decide +kernel, by decide⟩, (a_inG 560 (by decide +kernel) rfl), (a_inG 32 (by decide +kernel) rfl)⟩
theorem k_mX1_which : a_cv mX1_which 2 := ⟨⟨(a_inG 490 (by decide +kernel) rfl), ini_X1, by decide +kernel, by decide⟩, (a_inG 489 (by decide +kernel) rfl), (a_inG 21 (by decide +kernel) rfl)⟩
theorem k_mX2_init : a_ci mX2_init 0 := ⟨⟨(a_inG 324 (by decide +kernel) rfl), ini_X2, by decide +kernel, by decide⟩, rfl, rfl, (a_inG 323 (by decide +kernel) rfl)⟩
theorem k_mX3_init : a_ci mX3_init 0 := ⟨⟨(a_inG 268 (by decide +kernel) rfl), ini_X3, by decide +kernel, by decide⟩, rfl, rfl, (a_inG 267 (by decide +kernel) rfl)⟩
theorem k_mX3_forget : a_cv mX3_forget 0 := ⟨⟨(a_inG 470 (by decide +kernel) rfl), ini_X3, by decide +kernel, by decide⟩, (a_inG 469 (by decide +kernel) rfl), (a_inG 18 (by decide +kernel) rfl)⟩
theorem k_mX3_push : a_cv mX3_push 1 := ⟨⟨(a_inG 521 (by decide +kernel) rfl), ini_X3, by decide +kernel, by decide⟩, (a_inG 520 (by decide +kernel) rfl), (a_inG 25 (by decide +kernel) rfl)⟩
theorem k_mX3_pop : a_cv mX3_pop 2 := ⟨⟨(a_inG 626 (by decide +kernel) rfl), ini_X3, by decide +kernel, by decide⟩, (a_inG 625 (by decide +kernel) rfl), (a_inG 39 (by decide +kernel) rfl)⟩
theorem k_mX4_init : a_ci mX4_init 3 := ⟨⟨(a_inG 652 (by decide +kernel) rfl), ini_X4, by decide +kernel, by decide⟩, rfl, rfl, (a_inG 651 (by decide +kernel) rfl)⟩
theorem k_mX4_seek : a_cv mX4_seek 0 := ⟨⟨(a_inG 687 (by decide +kernel) rfl), ini_X4, by decide +kernel, by decide⟩, (a_inG 686 (by decide +kernel) rfl), (a_inG 40 (by decide +kernel) rfl)⟩
theorem k_mX4_extend : a_cs mX4_extend 7 := ⟨⟨(a_inG 690 (by decide +kernel) rfl), ini_X4, by decide +kernel, by decide⟩, (a_inG 689 (by decide +kernel) rfl)⟩
theorem k_mX4_canBeat : a_cv mX4_canBeat 2 := ⟨⟨(a_inG 695 (by decide +kernel) rfl), ini_X4, by decide +kernel, by decide⟩, (a_inG 694 (by decide +kernel) rfl), (a_inG 41 (by decide +kernel) rfl)⟩
theorem k_mX4_settle : a_cv mX4_settle 3 := ⟨⟨(a_inG 699 (by decide +kernel) rfl), ini_X4, by decide +kernel, by decide⟩, (a_inG 698 (by decide +kernel) rfl), (a_inG 42 (by decide +kernel) rfl)⟩
theorem k_mX5_init : a_ci mX5_init 0 := ⟨⟨(a_inG 288 (by decide +kernel) rfl), ini_X5, by decide +kernel, by decide⟩, rfl, rfl, (a_inG 287 (by decide +kernel) rfl)⟩
theorem k_mX5_forget : a_cv mX5_forget 0 := ⟨⟨(a_inG 474 (by decide +kernel) rfl), ini_X5, by decide +kernel, by decide⟩, (a_inG 473 (by decide +kernel) rfl), (a_inG 19 (by decide +kernel) rfl)⟩
theorem k_mX5_add : a_cv mX5_add 2 := ⟨⟨(a_inG 732 (by decide +kernel) rfl), ini_X5, by decide +kernel, by decide⟩, (a_inG 731 (by decide +kernel) rfl), (a_inG 44 (by decide +kernel) rfl)⟩
theorem k_mX5_fits : a_cv mX5_fits 1 := ⟨⟨(a_inG 740 (by decide +kernel) rfl), ini_X5, by decide +kernel, by decide⟩, (a_inG 739 (by decide +kernel) rfl), (a_inG 45 (by decide +kernel) rfl)⟩
theorem k_mX6_init : a_ci mX6_init 0 := ⟨⟨(a_inG 133 (by decide +kernel) rfl), ini_X6, by decide +kernel, by decide⟩, rfl, rfl, (a_inG 132 (by decide +kernel) rfl)⟩
theorem k_mX6_begin : a_cv mX6_begin 0 := ⟨⟨(a_inG 402 (by decide +kernel) rfl), ini_X6, by decide +kernel, by decide⟩, (a_inG 401 (by decide +kernel) rfl), (a_inG 3 (by decide +kernel) rfl)⟩
theorem k_mX6_copy : a_cv mX6_copy 1 := ⟨⟨(a_inG 462 (by decide +kernel) rfl), ini_X6, by decide +kernel, by decide⟩, (a_inG 461 (by decide +kernel) rfl), (a_inG 17 (by decide +kernel) rfl)⟩
theorem k_mX6_addStop : a_cv mX6_addStop 3 := ⟨⟨(a_inG 438 (by decide +kernel) rfl), ini_X6, by decide +kernel, by decide⟩, (a_inG 437 (by decide +kernel) rfl), (a_inG 11 (by decide +kernel) rfl)⟩
theorem k_mX6_addDin : a_cv mX6_addDin 1 := ⟨⟨(a_inG 446 (by decide +kernel) rfl), ini_X6, by decide +kernel, by decide⟩, (a_inG 445 (by decide +kernel) rfl), (a_inG 13 (by decide +kernel) rfl)⟩
theorem k_mX6_has : a_cv mX6_has 1 := ⟨⟨(a_inG 454 (by decide +kernel) rfl), ini_X6, by decide +kernel, by decide⟩, (a_inG 453 (by decide +kernel) rfl), (a_inG 15 (by decide +kernel) rfl)⟩
theorem k_mX6_isWay : a_cv mX6_isWay 1 := ⟨⟨(a_inG 516 (by decide +kernel) rfl), ini_X6, by decide +kernel, by decide⟩, (a_inG 515 (by decide +kernel) rfl), (a_inG 24 (by decide +kernel) rfl)⟩
theorem k_mX6_risingWay : a_cv mX6_risingWay 0 := ⟨⟨(a_inG 606 (by decide +kernel) rfl), ini_X6, by decide +kernel, by decide⟩, (a_inG 605 (by decide +kernel) rfl), (a_inG 36 (by decide +kernel) rfl)⟩
theorem k_mX6_dinOf : a_cv mX6_dinOf 1 := ⟨⟨(a_inG 504 (by decide +kernel) rfl), ini_X6, by decide +kernel, by decide⟩, (a_inG 503 (by decide +kernel) rfl), (a_inG 22 (by decide +kernel) rfl)⟩
theorem k_mX6_isIn : a_cv mX6_isIn 2 := ⟨⟨(a_inG 572 (by decide +kernel) rfl), ini_X6, by decide +kernel, by decide⟩, (a_inG 571 (by decide +kernel) rfl), (a_inG 34 (by decide +kernel) rfl)⟩
theorem k_mX6_meets : a_cv mX6_meets 4 := ⟨⟨(a_inG 568 (by decide +kernel) rfl), ini_X6, by decide +kernel, by decide⟩, (a_inG 567 (by decide +kernel) rfl), (a_inG 33 (by decide +kernel) rfl)⟩
theorem k_mX6_secondsAtDoor : a_cv mX6_secondsAtDoor 2 := ⟨⟨(a_inG 578 (by decide +kernel) rfl), ini_X6, by decide +kernel, by decide⟩, (a_inG 577 (by decide +kernel) rfl), (a_inG 35 (by decide +kernel) rfl)⟩
theorem k_mX6_secondsBetween : a_cv mX6_secondsBetween 2 := ⟨⟨(a_inG 554 (by decide +kernel) rfl), ini_X6, by decide +kernel, by decide⟩, (a_inG 553 (by decide +kernel) rfl), (a_inG 31 (by decide +kernel) rfl)⟩
theorem k_mX6_countNear : a_cv mX6_countNear 3 := ⟨⟨(a_inG 714 (by decide +kernel) rfl), ini_X6, by decide +kernel, by decide⟩, (a_inG 713 (by decide +kernel) rfl), (a_inG 43 (by decide +kernel) rfl)⟩
theorem k_mX7_init : a_ci mX7_init 0 := ⟨⟨(a_inG 104 (by decide +kernel) rfl), ini_X7, by decide +kernel, by decide⟩, rfl, rfl, (a_inG 103 (by decide +kernel) rfl)⟩
theorem k_mX7_add : a_cv mX7_add 1 := ⟨⟨(a_inG 389 (by decide +kernel) rfl), ini_X7, by decide +kernel, by decide⟩, (a_inG 388 (by decide +kernel) rfl), (a_inG 1 (by decide +kernel) rfl)⟩
theorem k_mX7_empty : a_cv mX7_empty 0 := ⟨⟨(a_inG 458 (by decide +kernel) rfl), ini_X7, by decide +kernel, by decide⟩, (a_inG 457 (by decide +kernel) rfl), (a_inG 16 (by decide +kernel) rfl)⟩
theorem k_mX7_readInto : a_cv mX7_readInto 1 := ⟨⟨(a_inG 398 (by decide +kernel) rfl), ini_X7, by decide +kernel, by decide⟩, (a_inG 397 (by decide +kernel) rfl), (a_inG 2 (by decide +kernel) rfl)⟩
theorem k_mX7_readClause : a_cv mX7_readClause 2 := ⟨⟨(a_inG 411 (by decide +kernel) rfl), ini_X7, by decide +kernel, by decide⟩, (a_inG 410 (by decide +kernel) rfl), (a_inG 5 (by decide +kernel) rfl)⟩
theorem k_mX7_readVan : a_cv mX7_readVan 2 := ⟨⟨(a_inG 419 (by decide +kernel) rfl), ini_X7, by decide +kernel, by decide⟩, (a_inG 418 (by decide +kernel) rfl), (a_inG 7 (by decide +kernel) rfl)⟩
theorem k_mX7_readStop : a_cv mX7_readStop 1 := ⟨⟨(a_inG 434 (by decide +kernel) rfl), ini_X7, by decide +kernel, by decide⟩, (a_inG 433 (by decide +kernel) rfl), (a_inG 10 (by decide +kernel) rfl)⟩
theorem k_mX7_readDin : a_cv mX7_readDin 1 := ⟨⟨(a_inG 442 (by decide +kernel) rfl), ini_X7, by decide +kernel, by decide⟩, (a_inG 441 (by decide +kernel) rfl), (a_inG 12 (by decide +kernel) rfl)⟩
theorem k_mX7_readNeighbour : a_cv mX7_readNeighbour 1 := ⟨⟨(a_inG 450 (by decide +kernel) rfl), ini_X7, by decide +kernel, by decide⟩, (a_inG 449 (by decide +kernel) rfl), (a_inG 14 (by decide +kernel) rfl)⟩
theorem k_mX7_number : a_cv mX7_number 2 := ⟨⟨(a_inG 423 (by decide +kernel) rfl), ini_X7, by decide +kernel, by decide⟩, (a_inG 422 (by decide +kernel) rfl), (a_inG 8 (by decide +kernel) rfl)⟩
theorem k_mX7_endClause : a_cv mX7_endClause 0 := ⟨⟨(a_inG 430 (by decide +kernel) rfl), ini_X7, by decide +kernel, by decide⟩, (a_inG 429 (by decide +kernel) rfl), (a_inG 9 (by decide +kernel) rfl)⟩
theorem k_mX7_peek : a_cv mX7_peek 0 := ⟨⟨(a_inG 406 (by decide +kernel) rfl), ini_X7, by decide +kernel, by decide⟩, (a_inG 405 (by decide +kernel) rfl), (a_inG 4 (by decide +kernel) rfl)⟩
theorem k_mX7_isFigure : a_cs mX7_isFigure 1 := ⟨⟨(a_inG 426 (by decide +kernel) rfl), ini_X7, by decide +kernel, by decide⟩, (a_inG 425 (by decide +kernel) rfl)⟩
theorem k_mX7_fail : a_cv mX7_fail 2 := ⟨⟨(a_inG 415 (by decide +kernel) rfl), ini_X7, by decide +kernel, by decide⟩, (a_inG 414 (by decide +kernel) rfl), (a_inG 6 (by decide +kernel) rfl)⟩
theorem k_mX8_init : a_ci mX8_init 0 := ⟨⟨(a_inG 230 (by decide +kernel) rfl), ini_X8, by decide +kernel, by decide⟩, rfl, rfl, (a_inG 229 (by decide +kernel) rfl)⟩
theorem k_mX8_run : a_cv mX8_run 4 := ⟨⟨(a_inG 537 (by decide +kernel) rfl), ini_X8, by decide +kernel, by decide⟩, (a_inG 536 (by decide +kernel) rfl), (a_inG 28 (by decide +kernel) rfl)⟩
theorem k_mX8_begin : a_cv mX8_begin 1 := ⟨⟨(a_inG 541 (by decide +kernel) rfl), ini_X8, by decide +kernel, by decide⟩, (a_inG 540 (by decide +kernel) rfl), (a_inG 29 (by decide +kernel) rfl)⟩
theorem k_mX8_firstUnit : a_cs mX8_firstUnit 1 := ⟨⟨(a_inG 545 (by decide +kernel) rfl), ini_X8, by decide +kernel, by decide⟩, (a_inG 544 (by decide +kernel) rfl)⟩
theorem k_mX8_call : a_cv mX8_call 3 := ⟨⟨(a_inG 550 (by decide +kernel) rfl), ini_X8, by decide +kernel, by decide⟩, (a_inG 549 (by decide +kernel) rfl), (a_inG 30 (by decide +kernel) rfl)⟩
theorem k_mX9_init : a_ci mX9_init 0 := ⟨⟨(a_inG 96 (by decide +kernel) rfl), ini_X9, by decide +kernel, by decide⟩, rfl, rfl, (a_inG 95 (by decide +kernel) rfl)⟩
theorem k_mX9_feed : a_cv mX9_feed 1 := ⟨⟨(a_inG 381 (by decide +kernel) rfl), ini_X9, by decide +kernel, by decide⟩, (a_inG 379 (by decide +kernel) rfl), (a_inG 380 (by decide +kernel) rfl)⟩
theorem k_mX9_street : a_cv mX9_street 0 := ⟨⟨(a_inG 394 (by decide +kernel) rfl), ini_X9, by decide +kernel, by decide⟩, (a_inG 392 (by decide +kernel) rfl), (a_inG 393 (by decide +kernel) rfl)⟩
theorem k_mX9_fault : a_cv mX9_fault 0 := ⟨⟨(a_inG 482 (by decide +kernel) rfl), ini_X9, by decide +kernel, by decide⟩, (a_inG 480 (by decide +kernel) rfl), (a_inG 481 (by decide +kernel) rfl)⟩
theorem k_mX9_told : a_cv mX9_told 1 := ⟨⟨(a_inG 486 (by decide +kernel) rfl), ini_X9, by decide +kernel, by decide⟩, (a_inG 484 (by decide +kernel) rfl), (a_inG 485 (by decide +kernel) rfl)⟩
theorem k_mX9_stop : a_cv mX9_stop 2 := ⟨⟨(a_inG 494 (by decide +kernel) rfl), ini_X9, by decide +kernel, by decide⟩, (a_inG 492 (by decide +kernel) rfl), (a_inG 493 (by decide +kernel) rfl)⟩
theorem k_mX9_din : a_cv mX9_din 1 := ⟨⟨(a_inG 500 (by decide +kernel) rfl), ini_X9, by decide +kernel, by decide⟩, (a_inG 498 (by decide +kernel) rfl), (a_inG 499 (by decide +kernel) rfl)⟩
theorem k_mX9_round : a_cv mX9_round 2 := ⟨⟨(a_inG 508 (by decide +kernel) rfl), ini_X9, by decide +kernel, by decide⟩, (a_inG 506 (by decide +kernel) rfl), (a_inG 507 (by decide +kernel) rfl)⟩
theorem k_mX9_fetch : a_cv mX9_fetch 1 := ⟨⟨(a_inG 589 (by decide +kernel) rfl), ini_X9, by decide +kernel, by decide⟩, (a_inG 587 (by decide +kernel) rfl), (a_inG 588 (by decide +kernel) rfl)⟩
theorem k_mX9_order : a_cv mX9_order 1 := ⟨⟨(a_inG 594 (by decide +kernel) rfl), ini_X9, by decide +kernel, by decide⟩, (a_inG 592 (by decide +kernel) rfl), (a_inG 593 (by decide +kernel) rfl)⟩
theorem k_mX9_thank : a_cv mX9_thank 1 := ⟨⟨(a_inG 598 (by decide +kernel) rfl), ini_X9, by decide +kernel, by decide⟩, (a_inG 596 (by decide +kernel) rfl), (a_inG 597 (by decide +kernel) rfl)⟩
theorem k_mX9_drift : a_cv mX9_drift 1 := ⟨⟨(a_inG 602 (by decide +kernel) rfl), ini_X9, by decide +kernel, by decide⟩, (a_inG 600 (by decide +kernel) rfl), (a_inG 601 (by decide +kernel) rfl)⟩
theorem k_mX9_undo : a_cv mX9_undo 1 := ⟨⟨(a_inG 622 (by decide +kernel) rfl), ini_X9, by decide +kernel, by decide⟩, (a_inG 620 (by decide +kernel) rfl), (a_inG 621 (by decide +kernel) rfl)⟩
theorem k_mX9_comes : a_cv mX9_comes 3 := ⟨⟨(a_inG 631 (by decide +kernel) rfl), ini_X9, by decide +kernel, by decide⟩, (a_inG 629 (by decide +kernel) rfl), (a_inG 630 (by decide +kernel) rfl)⟩
theorem k_mX9_home : a_cv mX9_home 2 := ⟨⟨(a_inG 635 (by decide +kernel) rfl), ini_X9, by decide +kernel, by decide⟩, (a_inG 633 (by decide +kernel) rfl), (a_inG 634 (by decide +kernel) rfl)⟩
theorem k_mX9_outcome : a_cv mX9_outcome 2 := ⟨⟨(a_inG 639 (by decide +kernel) rfl), ini_X9, by decide +kernel, by decide⟩, (a_inG 637 (by decide +kernel) rfl), (a_inG 638 (by decide +kernel) rfl)⟩
theorem k_mX9_bath : a_cv mX9_bath 4 := ⟨⟨(a_inG 643 (by decide +kernel) rfl), ini_X9, by decide +kernel, by decide⟩, (a_inG 641 (by decide +kernel) rfl), (a_inG 642 (by decide +kernel) rfl)⟩
theorem k_mX9_bestWay : a_cv mX9_bestWay 2 := ⟨⟨(a_inG 647 (by decide +kernel) rfl), ini_X9, by decide +kernel, by decide⟩, (a_inG 645 (by decide +kernel) rfl), (a_inG 646 (by decide +kernel) rfl)⟩
theorem k_mX9_pretends : a_cv mX9_pretends 3 := ⟨⟨(a_inG 706 (by decide +kernel) rfl), ini_X9, by decide +kernel, by decide⟩, (a_inG 704 (by decide +kernel) rfl), (a_inG 705 (by decide +kernel) rfl)⟩
theorem k_mX9_locker : a_cv mX9_locker 3 := ⟨⟨(a_inG 710 (by decide +kernel) rfl), ini_X9, by decide +kernel, by decide⟩, (a_inG 708 (by decide +kernel) rfl), (a_inG 709 (by decide +kernel) rfl)⟩
theorem k_mX9_bears : a_cv mX9_bears 1 := ⟨⟨(a_inG 718 (by decide +kernel) rfl), ini_X9, by decide +kernel, by decide⟩, (a_inG 716 (by decide +kernel) rfl), (a_inG 717 (by decide +kernel) rfl)⟩
theorem k_mX9_heard : a_cv mX9_heard 2 := ⟨⟨(a_inG 722 (by decide +kernel) rfl), ini_X9, by decide +kernel, by decide⟩, (a_inG 720 (by decide +kernel) rfl), (a_inG 721 (by decide +kernel) rfl)⟩
theorem k_mX9_see : a_cv mX9_see 2 := ⟨⟨(a_inG 728 (by decide +kernel) rfl), ini_X9, by decide +kernel, by decide⟩, (a_inG 726 (by decide +kernel) rfl), (a_inG 727 (by decide +kernel) rfl)⟩
theorem k_mX9_rang : a_cv mX9_rang 2 := ⟨⟨(a_inG 736 (by decide +kernel) rfl), ini_X9, by decide +kernel, by decide⟩, (a_inG 734 (by decide +kernel) rfl), (a_inG 735 (by decide +kernel) rfl)⟩
theorem k_mX9_write : a_cv mX9_write 2 := ⟨⟨(a_inG 752 (by decide +kernel) rfl), ini_X9, by decide +kernel, by decide⟩, (a_inG 750 (by decide +kernel) rfl), (a_inG 751 (by decide +kernel) rfl)⟩
theorem k_mX9_judge : a_cv mX9_judge 0 := ⟨⟨(a_inG 760 (by decide +kernel) rfl), ini_X9, by decide +kernel, by decide⟩, (a_inG 758 (by decide +kernel) rfl), (a_inG 759 (by decide +kernel) rfl)⟩
theorem k_mX9_tear : a_cv mX9_tear 0 := ⟨⟨(a_inG 768 (by decide +kernel) rfl), ini_X9, by decide +kernel, by decide⟩, (a_inG 766 (by decide +kernel) rfl), (a_inG 767 (by decide +kernel) rfl)⟩
theorem k_mX9_seed : a_cv mX9_seed 1 := ⟨⟨(a_inG 772 (by decide +kernel) rfl), ini_X9, by decide +kernel, by decide⟩, (a_inG 770 (by decide +kernel) rfl), (a_inG 771 (by decide +kernel) rfl)⟩
theorem k_mX9_keep : a_cv mX9_keep 1 := ⟨⟨(a_inG 776 (by decide +kernel) rfl), ini_X9, by decide +kernel, by decide⟩, (a_inG 774 (by decide +kernel) rfl), (a_inG 775 (by decide +kernel) rfl)⟩
theorem k_mX9_goBack : a_cv mX9_goBack 1 := ⟨⟨(a_inG 780 (by decide +kernel) rfl), ini_X9, by decide +kernel, by decide⟩, (a_inG 778 (by decide +kernel) rfl), (a_inG 779 (by decide +kernel) rfl)⟩
theorem k_mX9_within : a_cs mX9_within 3 := ⟨⟨(a_inG 384 (by decide +kernel) rfl), ini_X9, by decide +kernel, by decide⟩, (a_inG 383 (by decide +kernel) rfl)⟩
theorem k_mX9_ringsAt : a_cs mX9_ringsAt 2 := ⟨⟨(a_inG 564 (by decide +kernel) rfl), ini_X9, by decide +kernel, by decide⟩, (a_inG 563 (by decide +kernel) rfl)⟩
theorem k_mX9_refusalOfTrip : a_cv mX9_refusalOfTrip 2 := ⟨⟨(a_inG 512 (by decide +kernel) rfl), ini_X9, by decide +kernel, by decide⟩, (a_inG 511 (by decide +kernel) rfl), (a_inG 23 (by decide +kernel) rfl)⟩
theorem k_mX9_drive : a_cv mX9_drive 2 := ⟨⟨(a_inG 533 (by decide +kernel) rfl), ini_X9, by decide +kernel, by decide⟩, (a_inG 532 (by decide +kernel) rfl), (a_inG 27 (by decide +kernel) rfl)⟩
theorem k_mX9_draw : a_cv mX9_draw 1 := ⟨⟨(a_inG 614 (by decide +kernel) rfl), ini_X9, by decide +kernel, by decide⟩, (a_inG 613 (by decide +kernel) rfl), (a_inG 38 (by decide +kernel) rfl)⟩
theorem k_mX9_orderByDraw : a_cv mX9_orderByDraw 0 := ⟨⟨(a_inG 610 (by decide +kernel) rfl), ini_X9, by decide +kernel, by decide⟩, (a_inG 609 (by decide +kernel) rfl), (a_inG 37 (by decide +kernel) rfl)⟩
theorem k_mX9_bestToAsk : a_cv mX9_bestToAsk 1 := ⟨⟨(a_inG 744 (by decide +kernel) rfl), ini_X9, by decide +kernel, by decide⟩, (a_inG 743 (by decide +kernel) rfl), (a_inG 46 (by decide +kernel) rfl)⟩
theorem k_mX10_init : a_ci mX10_init 0 := ⟨⟨(a_inG 785 (by decide +kernel) rfl), ini_X10, by decide +kernel, by decide⟩, rfl, rfl, (a_inG 784 (by decide +kernel) rfl)⟩
theorem k_mX10_in : a_cs mX10_in 3 := ⟨⟨(a_inG 888 (by decide +kernel) rfl), ini_X10, by decide +kernel, by decide⟩, (a_inG 887 (by decide +kernel) rfl)⟩
theorem k_mX10_one : a_cs mX10_one 1 := ⟨⟨(a_inG 952 (by decide +kernel) rfl), ini_X10, by decide +kernel, by decide⟩, (a_inG 951 (by decide +kernel) rfl)⟩
theorem k_mX10_has : a_cs mX10_has 2 := ⟨⟨(a_inG 981 (by decide +kernel) rfl), ini_X10, by decide +kernel, by decide⟩, (a_inG 980 (by decide +kernel) rfl)⟩
theorem k_mX10_far : a_cs mX10_far 2 := ⟨⟨(a_inG 1006 (by decide +kernel) rfl), ini_X10, by decide +kernel, by decide⟩, (a_inG 1005 (by decide +kernel) rfl)⟩
theorem k_mX10_feed : a_cv mX10_feed 1 := ⟨⟨(a_inG 884 (by decide +kernel) rfl), ini_X10, by decide +kernel, by decide⟩, (a_inG 882 (by decide +kernel) rfl), (a_inG 883 (by decide +kernel) rfl)⟩
theorem k_mX10_here : a_cv mX10_here 0 := ⟨⟨(a_inG 898 (by decide +kernel) rfl), ini_X10, by decide +kernel, by decide⟩, (a_inG 897 (by decide +kernel) rfl), (a_inG 49 (by decide +kernel) rfl)⟩
theorem k_mX10_want : a_cv mX10_want 3 := ⟨⟨(a_inG 906 (by decide +kernel) rfl), ini_X10, by decide +kernel, by decide⟩, (a_inG 905 (by decide +kernel) rfl), (a_inG 51 (by decide +kernel) rfl)⟩
theorem k_mX10_takeNumber : a_cv mX10_takeNumber 0 := ⟨⟨(a_inG 918 (by decide +kernel) rfl), ini_X10, by decide +kernel, by decide⟩, (a_inG 917 (by decide +kernel) rfl), (a_inG 54 (by decide +kernel) rfl)⟩
theorem k_mX10_takeIn : a_cv mX10_takeIn 2 := ⟨⟨(a_inG 914 (by decide +kernel) rfl), ini_X10, by decide +kernel, by decide⟩, (a_inG 913 (by decide +kernel) rfl), (a_inG 53 (by decide +kernel) rfl)⟩
theorem k_mX10_takeRule : a_cv mX10_takeRule 1 := ⟨⟨(a_inG 910 (by decide +kernel) rfl), ini_X10, by decide +kernel, by decide⟩, (a_inG 909 (by decide +kernel) rfl), (a_inG 52 (by decide +kernel) rfl)⟩
theorem k_mX10_takeStop : a_cv mX10_takeStop 1 := ⟨⟨(a_inG 925 (by decide +kernel) rfl), ini_X10, by decide +kernel, by decide⟩, (a_inG 924 (by decide +kernel) rfl), (a_inG 55 (by decide +kernel) rfl)⟩
theorem k_mX10_takeDins : a_cv mX10_takeDins 1 := ⟨⟨(a_inG 929 (by decide +kernel) rfl), ini_X10, by decide +kernel, by decide⟩, (a_inG 928 (by decide +kernel) rfl), (a_inG 56 (by decide +kernel) rfl)⟩
theorem k_mX10_takeNeighbour : a_cv mX10_takeNeighbour 0 := ⟨⟨(a_inG 933 (by decide +kernel) rfl), ini_X10, by decide +kernel, by decide⟩, (a_inG 932 (by decide +kernel) rfl), (a_inG 57 (by decide +kernel) rfl)⟩
theorem k_mX10_takeClause : a_cv mX10_takeClause 0 := ⟨⟨(a_inG 902 (by decide +kernel) rfl), ini_X10, by decide +kernel, by decide⟩, (a_inG 901 (by decide +kernel) rfl), (a_inG 50 (by decide +kernel) rfl)⟩
theorem k_mX10_street : a_cv mX10_street 0 := ⟨⟨(a_inG 894 (by decide +kernel) rfl), ini_X10, by decide +kernel, by decide⟩, (a_inG 892 (by decide +kernel) rfl), (a_inG 893 (by decide +kernel) rfl)⟩
theorem k_mX10_take : a_cv mX10_take 0 := ⟨⟨(a_inG 937 (by decide +kernel) rfl), ini_X10, by decide +kernel, by decide⟩, (a_inG 936 (by decide +kernel) rfl), (a_inG 58 (by decide +kernel) rfl)⟩
theorem k_mX10_fault : a_cv mX10_fault 0 := ⟨⟨(a_inG 941 (by decide +kernel) rfl), ini_X10, by decide +kernel, by decide⟩, (a_inG 939 (by decide +kernel) rfl), (a_inG 940 (by decide +kernel) rfl)⟩
theorem k_mX10_isStop : a_cv mX10_isStop 1 := ⟨⟨(a_inG 960 (by decide +kernel) rfl), ini_X10, by decide +kernel, by decide⟩, (a_inG 959 (by decide +kernel) rfl), (a_inG 60 (by decide +kernel) rfl)⟩
theorem k_mX10_figures : a_cs mX10_figures 1 := ⟨⟨(a_inG 1000 (by decide +kernel) rfl), ini_X10, by decide +kernel, by decide⟩, (a_inG 999 (by decide +kernel) rfl)⟩
theorem k_mX10_stopOf : a_cs mX10_stopOf 2 := ⟨⟨(a_inG 1003 (by decide +kernel) rfl), ini_X10, by decide +kernel, by decide⟩, (a_inG 1002 (by decide +kernel) rfl)⟩
theorem k_mX10_isWay : a_cv mX10_isWay 1 := ⟨⟨(a_inG 978 (by decide +kernel) rfl), ini_X10, by decide +kernel, by decide⟩, (a_inG 977 (by decide +kernel) rfl), (a_inG 62 (by decide +kernel) rfl)⟩
theorem k_mX10_isHaste : a_cs mX10_isHaste 1 := ⟨⟨(a_inG 984 (by decide +kernel) rfl), ini_X10, by decide +kernel, by decide⟩, (a_inG 983 (by decide +kernel) rfl)⟩
theorem k_mX10_which : a_cv mX10_which 1 := ⟨⟨(a_inG 949 (by decide +kernel) rfl), ini_X10, by decide +kernel, by decide⟩, (a_inG 948 (by decide +kernel) rfl), (a_inG 59 (by decide +kernel) rfl)⟩
theorem k_mX10_told : a_cv mX10_told 1 := ⟨⟨(a_inG 945 (by decide +kernel) rfl), ini_X10, by decide +kernel, by decide⟩, (a_inG 943 (by decide +kernel) rfl), (a_inG 944 (by decide +kernel) rfl)⟩
theorem k_mX10_stop : a_cv mX10_stop 2 := ⟨⟨(a_inG 956 (by decide +kernel) rfl), ini_X10, by decide +kernel, by decide⟩, (a_inG 954 (by decide +kernel) rfl), (a_inG 955 (by decide +kernel) rfl)⟩
theorem k_mX10_dinAt : a_cv mX10_dinAt 1 := ⟨⟨(a_inG 970 (by decide +kernel) rfl), ini_X10, by decide +kernel, by decide⟩, (a_inG 969 (by decide +kernel) rfl), (a_inG 61 (by decide +kernel) rfl)⟩
theorem k_mX10_din : a_cv mX10_din 1 := ⟨⟨(a_inG 965 (by decide +kernel) rfl), ini_X10, by decide +kernel, by decide⟩, (a_inG 963 (by decide +kernel) rfl), (a_inG 964 (by decide +kernel) rfl)⟩
theorem k_mX10_isInAt : a_cv mX10_isInAt 2 := ⟨⟨(a_inG 1014 (by decide +kernel) rfl), ini_X10, by decide +kernel, by decide⟩, (a_inG 1013 (by decide +kernel) rfl), (a_inG 67 (by decide +kernel) rfl)⟩
theorem k_mX10_visit : a_cv mX10_visit 4 := ⟨⟨(a_inG 1010 (by decide +kernel) rfl), ini_X10, by decide +kernel, by decide⟩, (a_inG 1009 (by decide +kernel) rfl), (a_inG 66 (by decide +kernel) rfl)⟩
theorem k_mX10_roundIn : a_cv mX10_roundIn 3 := ⟨⟨(a_inG 997 (by decide +kernel) rfl), ini_X10, by decide +kernel, by decide⟩, (a_inG 996 (by decide +kernel) rfl), (a_inG 65 (by decide +kernel) rfl)⟩
theorem k_mX10_tryRound : a_cv mX10_tryRound 2 := ⟨⟨(a_inG 1053 (by decide +kernel) rfl), ini_X10, by decide +kernel, by decide⟩, (a_inG 1052 (by decide +kernel) rfl), (a_inG 69 (by decide +kernel) rfl)⟩
theorem k_mX10_copy : a_cv mX10_copy 2 := ⟨⟨(a_inG 993 (by decide +kernel) rfl), ini_X10, by decide +kernel, by decide⟩, (a_inG 992 (by decide +kernel) rfl), (a_inG 64 (by decide +kernel) rfl)⟩
theorem k_mX10_remember : a_cv mX10_remember 0 := ⟨⟨(a_inG 989 (by decide +kernel) rfl), ini_X10, by decide +kernel, by decide⟩, (a_inG 988 (by decide +kernel) rfl), (a_inG 63 (by decide +kernel) rfl)⟩
theorem k_mX10_round : a_cv mX10_round 2 := ⟨⟨(a_inG 974 (by decide +kernel) rfl), ini_X10, by decide +kernel, by decide⟩, (a_inG 972 (by decide +kernel) rfl), (a_inG 973 (by decide +kernel) rfl)⟩
theorem k_mX10_fetch : a_cv mX10_fetch 1 := ⟨⟨(a_inG 1018 (by decide +kernel) rfl), ini_X10, by decide +kernel, by decide⟩, (a_inG 1016 (by decide +kernel) rfl), (a_inG 1017 (by decide +kernel) rfl)⟩
theorem k_mX10_order : a_cv mX10_order 1 := ⟨⟨(a_inG 1023 (by decide +kernel) rfl), ini_X10, by decide +kernel, by decide⟩, (a_inG 1021 (by decide +kernel) rfl), (a_inG 1022 (by decide +kernel) rfl)⟩
theorem k_mX10_thank : a_cv mX10_thank 1 := ⟨⟨(a_inG 1027 (by decide +kernel) rfl), ini_X10, by decide +kernel, by decide⟩, (a_inG 1025 (by decide +kernel) rfl), (a_inG 1026 (by decide +kernel) rfl)⟩
theorem k_mX10_draw : a_cv mX10_draw 1 := ⟨⟨(a_inG 1036 (by decide +kernel) rfl), ini_X10, by decide +kernel, by decide⟩, (a_inG 1035 (by decide +kernel) rfl), (a_inG 68 (by decide +kernel) rfl)⟩
theorem k_mX10_drift : a_cv mX10_drift 1 := ⟨⟨(a_inG 1031 (by decide +kernel) rfl), ini_X10, by decide +kernel, by decide⟩, (a_inG 1029 (by decide +kernel) rfl), (a_inG 1030 (by decide +kernel) rfl)⟩
theorem k_mX10_undo : a_cv mX10_undo 1 := ⟨⟨(a_inG 1044 (by decide +kernel) rfl), ini_X10, by decide +kernel, by decide⟩, (a_inG 1042 (by decide +kernel) rfl), (a_inG 1043 (by decide +kernel) rfl)⟩
theorem k_mX10_comes : a_cv mX10_comes 3 := ⟨⟨(a_inG 1049 (by decide +kernel) rfl), ini_X10, by decide +kernel, by decide⟩, (a_inG 1047 (by decide +kernel) rfl), (a_inG 1048 (by decide +kernel) rfl)⟩
theorem k_mX10_home : a_cv mX10_home 2 := ⟨⟨(a_inG 1057 (by decide +kernel) rfl), ini_X10, by decide +kernel, by decide⟩, (a_inG 1055 (by decide +kernel) rfl), (a_inG 1056 (by decide +kernel) rfl)⟩
theorem k_mX10_outcome : a_cv mX10_outcome 2 := ⟨⟨(a_inG 1061 (by decide +kernel) rfl), ini_X10, by decide +kernel, by decide⟩, (a_inG 1059 (by decide +kernel) rfl), (a_inG 1060 (by decide +kernel) rfl)⟩
theorem k_mX10_comesTo : a_cv mX10_comesTo 2 := ⟨⟨(a_inG 1070 (by decide +kernel) rfl), ini_X10, by decide +kernel, by decide⟩, (a_inG 1069 (by decide +kernel) rfl), (a_inG 70 (by decide +kernel) rfl)⟩
theorem k_mX10_bath : a_cv mX10_bath 4 := ⟨⟨(a_inG 1065 (by decide +kernel) rfl), ini_X10, by decide +kernel, by decide⟩, (a_inG 1063 (by decide +kernel) rfl), (a_inG 1064 (by decide +kernel) rfl)⟩
theorem k_mX10_counting : a_cv mX10_counting 0 := ⟨⟨(a_inG 1079 (by decide +kernel) rfl), ini_X10, by decide +kernel, by decide⟩, (a_inG 1078 (by decide +kernel) rfl), (a_inG 71 (by decide +kernel) rfl)⟩
theorem k_mX10_wayOf : a_cv mX10_wayOf 1 := ⟨⟨(a_inG 1084 (by decide +kernel) rfl), ini_X10, by decide +kernel, by decide⟩, (a_inG 1083 (by decide +kernel) rfl), (a_inG 72 (by decide +kernel) rfl)⟩
theorem k_mX10_exchange : a_cv mX10_exchange 2 := ⟨⟨(a_inG 1092 (by decide +kernel) rfl), ini_X10, by decide +kernel, by decide⟩, (a_inG 1091 (by decide +kernel) rfl), (a_inG 74 (by decide +kernel) rfl)⟩
theorem k_mX10_nextRow : a_cv mX10_nextRow 1 := ⟨⟨(a_inG 1088 (by decide +kernel) rfl), ini_X10, by decide +kernel, by decide⟩, (a_inG 1087 (by decide +kernel) rfl), (a_inG 73 (by decide +kernel) rfl)⟩
theorem k_mX10_bestWay : a_cv mX10_bestWay 2 := ⟨⟨(a_inG 1074 (by decide +kernel) rfl), ini_X10, by decide +kernel, by decide⟩, (a_inG 1072 (by decide +kernel) rfl), (a_inG 1073 (by decide +kernel) rfl)⟩
theorem k_mX10_pretends : a_cv mX10_pretends 3 := ⟨⟨(a_inG 1096 (by decide +kernel) rfl), ini_X10, by decide +kernel, by decide⟩, (a_inG 1094 (by decide +kernel) rfl), (a_inG 1095 (by decide +kernel) rfl)⟩
theorem k_mX10_locker : a_cv mX10_locker 3 := ⟨⟨(a_inG 1100 (by decide +kernel) rfl), ini_X10, by decide +kernel, by decide⟩, (a_inG 1098 (by decide +kernel) rfl), (a_inG 1099 (by decide +kernel) rfl)⟩
theorem k_mX10_bears : a_cv mX10_bears 1 := ⟨⟨(a_inG 1104 (by decide +kernel) rfl), ini_X10, by decide +kernel, by decide⟩, (a_inG 1102 (by decide +kernel) rfl), (a_inG 1103 (by decide +kernel) rfl)⟩
theorem k_mX10_heard : a_cv mX10_heard 2 := ⟨⟨(a_inG 1108 (by decide +kernel) rfl), ini_X10, by decide +kernel, by decide⟩, (a_inG 1106 (by decide +kernel) rfl), (a_inG 1107 (by decide +kernel) rfl)⟩
theorem k_mX10_see : a_cv mX10_see 2 := ⟨⟨(a_inG 1115 (by decide +kernel) rfl), ini_X10, by decide +kernel, by decide⟩, (a_inG 1113 (by decide +kernel) rfl), (a_inG 1114 (by decide +kernel) rfl)⟩
theorem k_mX10_slipsBy : a_cv mX10_slipsBy 2 := ⟨⟨(a_inG 1127 (by decide +kernel) rfl), ini_X10, by decide +kernel, by decide⟩, (a_inG 1126 (by decide +kernel) rfl), (a_inG 76 (by decide +kernel) rfl)⟩
theorem k_mX10_findHastes : a_cv mX10_findHastes 1 := ⟨⟨(a_inG 1123 (by decide +kernel) rfl), ini_X10, by decide +kernel, by decide⟩, (a_inG 1122 (by decide +kernel) rfl), (a_inG 75 (by decide +kernel) rfl)⟩
theorem k_mX10_rang : a_cv mX10_rang 2 := ⟨⟨(a_inG 1119 (by decide +kernel) rfl), ini_X10, by decide +kernel, by decide⟩, (a_inG 1117 (by decide +kernel) rfl), (a_inG 1118 (by decide +kernel) rfl)⟩
theorem k_mX10_write : a_cv mX10_write 2 := ⟨⟨(a_inG 1131 (by decide +kernel) rfl), ini_X10, by decide +kernel, by decide⟩, (a_inG 1129 (by decide +kernel) rfl), (a_inG 1130 (by decide +kernel) rfl)⟩
theorem k_mX10_judge : a_cv mX10_judge 0 := ⟨⟨(a_inG 1136 (by decide +kernel) rfl), ini_X10, by decide +kernel, by decide⟩, (a_inG 1134 (by decide +kernel) rfl), (a_inG 1135 (by decide +kernel) rfl)⟩
theorem k_mX10_tear : a_cv mX10_tear 0 := ⟨⟨(a_inG 1140 (by decide +kernel) rfl), ini_X10, by decide +kernel, by decide⟩, (a_inG 1138 (by decide +kernel) rfl), (a_inG 1139 (by decide +kernel) rfl)⟩
theorem k_mX10_seed : a_cv mX10_seed 1 := ⟨⟨(a_inG 1144 (by decide +kernel) rfl), ini_X10, by decide +kernel, by decide⟩, (a_inG 1142 (by decide +kernel) rfl), (a_inG 1143 (by decide +kernel) rfl)⟩
theorem k_mX10_keep : a_cv mX10_keep 1 := ⟨⟨(a_inG 1148 (by decide +kernel) rfl), ini_X10, by decide +kernel, by decide⟩, (a_inG 1146 (by decide +kernel) rfl), (a_inG 1147 (by decide +kernel) rfl)⟩
theorem k_mX10_goBack : a_cv mX10_goBack 1 := ⟨⟨(a_inG 1152 (by decide +kernel) rfl), ini_X10, by decide +kernel, by decide⟩, (a_inG 1150 (by decide +kernel) rfl), (a_inG 1151 (by decide +kernel) rfl)⟩
theorem k_mJ6_bitCount_0f7a4 : a_cs mJ6_bitCount_0f7a4 1 := ⟨⟨(a_inG 581 (by decide +kernel) rfl), ini_J6, by decide +kernel, by decide⟩, (a_inG 580 (by decide +kernel) rfl)⟩
theorem k_mJ9_abs_0f7a4 : a_cs mJ9_abs_0f7a4 1 := ⟨⟨(a_inG 557 (by decide +kernel) rfl), ini_J9, by decide +kernel, by decide⟩, (a_inG 556 (by decide +kernel) rfl)⟩
theorem k_mJ9_max_7cf53 : a_cs mJ9_max_7cf53 2 := ⟨⟨(a_inG 748 (by decide +kernel) rfl), ini_J9, by decide +kernel, by decide⟩, (a_inG 747 (by decide +kernel) rfl)⟩
theorem k_mJ9_min_7cf53 : a_cs mJ9_min_7cf53 2 := ⟨⟨(a_inG 529 (by decide +kernel) rfl), ini_J9, by decide +kernel, by decide⟩, (a_inG 528 (by decide +kernel) rfl)⟩
theorem oi_in : Cond.instanceMethod objectInit ∈ gT := (a_inG 98 (by decide +kernel) rfl)
theorem oi_code : Cond.code objectInit ⟨#[0xb1]⟩ 1 none ∈ gT := (a_inG 99 (by decide +kernel) rfl)
theorem jm_abs_s : Cond.static Lib.Math.abs.name ∈ gT := (a_inG 556 (by decide +kernel) rfl)
theorem jm_abs_c : Cond.code Lib.Math.abs.name Lib.Math.abs.code 1 (some .int) ∈ gT := (a_inG 557 (by decide +kernel) rfl)
theorem jm_max_s : Cond.static Lib.Math.max.name ∈ gT := (a_inG 747 (by decide +kernel) rfl)
theorem jm_max_c : Cond.code Lib.Math.max.name Lib.Math.max.code 2 (some .int) ∈ gT := (a_inG 748 (by decide +kernel) rfl)
theorem jm_min_s : Cond.static Lib.Math.min.name ∈ gT := (a_inG 528 (by decide +kernel) rfl)
theorem jm_min_c : Cond.code Lib.Math.min.name Lib.Math.min.code 2 (some .int) ∈ gT := (a_inG 529 (by decide +kernel) rfl)
theorem jm_i : Cond.initialized "java/lang/Math" ∈ gT := (a_inG 89 (by decide +kernel) rfl)
theorem js_i : Cond.initialized "java/lang/System" ∈ gT := (a_inG 88 (by decide +kernel) rfl)
theorem js_n : Cond.native arraycopyName ∈ gT := (a_inG 465 (by decide +kernel) rfl)
theorem js_s : Cond.static arraycopyName ∈ gT := (a_inG 464 (by decide +kernel) rfl)
theorem cl_L_7 : Cond.classLink RL 7 RX9 ∈ gT := (a_inG 92 (by decide +kernel) rfl)
theorem cl_X9_7 : Cond.classLink RX9 7 RX7 ∈ gT := (a_inG 100 (by decide +kernel) rfl)
theorem cl_X9_16 : Cond.classLink RX9 16 RX6 ∈ gT := (a_inG 129 (by decide +kernel) rfl)
theorem cl_X9_26 : Cond.classLink RX9 26 RX1 ∈ gT := (a_inG 188 (by decide +kernel) rfl)
theorem cl_X9_36 : Cond.classLink RX9 36 RX8 ∈ gT := (a_inG 226 (by decide +kernel) rfl)
theorem cl_X8_9 : Cond.classLink RX8 9 RX1 ∈ gT := (a_inG 232 (by decide +kernel) rfl)
theorem cl_X9_43 : Cond.classLink RX9 43 RX3 ∈ gT := (a_inG 264 (by decide +kernel) rfl)
theorem cl_X3_9 : Cond.classLink RX3 9 RX1 ∈ gT := (a_inG 270 (by decide +kernel) rfl)
theorem cl_X9_50 : Cond.classLink RX9 50 RX5 ∈ gT := (a_inG 284 (by decide +kernel) rfl)
theorem cl_X9_57 : Cond.classLink RX9 57 RX0 ∈ gT := (a_inG 302 (by decide +kernel) rfl)
theorem cl_X9_64 : Cond.classLink RX9 64 RX2 ∈ gT := (a_inG 319 (by decide +kernel) rfl)
theorem cl_X2_7 : Cond.classLink RX2 7 RX1 ∈ gT := (a_inG 326 (by decide +kernel) rfl)
theorem cl_X9_221 : Cond.classLink RX9 221 RX4 ∈ gT := (a_inG 648 (by decide +kernel) rfl)
theorem cl_L_10 : Cond.classLink RL 10 RX10 ∈ gT := (a_inG 781 (by decide +kernel) rfl)
theorem ins_X9 : Cond.instantiable RX9 12 ∈ gT := (a_inG 93 (by decide +kernel) rfl)
theorem ins_X7 : Cond.instantiable RX7 6 ∈ gT := (a_inG 101 (by decide +kernel) rfl)
theorem ins_X6 : Cond.instantiable RX6 11 ∈ gT := (a_inG 130 (by decide +kernel) rfl)
theorem ins_X1 : Cond.instantiable RX1 5 ∈ gT := (a_inG 189 (by decide +kernel) rfl)
theorem ins_X8 : Cond.instantiable RX8 8 ∈ gT := (a_inG 227 (by decide +kernel) rfl)
theorem ins_X3 : Cond.instantiable RX3 3 ∈ gT := (a_inG 265 (by decide +kernel) rfl)
theorem ins_X5 : Cond.instantiable RX5 3 ∈ gT := (a_inG 285 (by decide +kernel) rfl)
theorem ins_X0 : Cond.instantiable RX0 3 ∈ gT := (a_inG 303 (by decide +kernel) rfl)
theorem ins_X2 : Cond.instantiable RX2 3 ∈ gT := (a_inG 321 (by decide +kernel) rfl)
theorem ins_X4 : Cond.instantiable RX4 8 ∈ gT := (a_inG 649 (by decide +kernel) rfl)
theorem ins_X10 : Cond.instantiable RX10 31 ∈ gT := (a_inG 782 (by decide +kernel) rfl)
theorem ac_int : Cond.arrayClass .int ∈ gT := (a_inG 128 (by decide +kernel) rfl)
theorem ac_boolean : Cond.arrayClass .boolean ∈ gT := (a_inG 301 (by decide +kernel) rfl)
