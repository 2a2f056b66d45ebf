abbrev mX0_init : Mth := (yX0_init, cX0_init, 2, none)
abbrev mX0_takeAnew : Mth := (yX0_takeAnew, cX0_takeAnew, 6, none)
abbrev mX0_wrongColumn : Mth := (yX0_wrongColumn, cX0_wrongColumn, 4, (some .int))
abbrev mX0_columnBy : Mth := (yX0_columnBy, cX0_columnBy, 4, (some .int))
abbrev mX1_init : Mth := (yX1_init, cX1_init, 1, none)
abbrev mX1_renew : Mth := (yX1_renew, cX1_renew, 4, none)
abbrev mX1_hasCell : Mth := (yX1_hasCell, cX1_hasCell, 3, (some .boolean))
abbrev mX1_place : Mth := (yX1_place, cX1_place, 3, (some .int))
abbrev mX1_sticks : Mth := (yX1_sticks, cX1_sticks, 2, (some .boolean))
abbrev mX1_sticksAtAnother : Mth := (yX1_sticksAtAnother, cX1_sticksAtAnother, 3, (some .boolean))
abbrev mX1_put : Mth := (yX1_put, cX1_put, 3, none)
abbrev mX1_hold : Mth := (yX1_hold, cX1_hold, 3, none)
abbrev mX1_tellCell : Mth := (yX1_tellCell, cX1_tellCell, 3, (some .int))
abbrev mX1_columnSum : Mth := (yX1_columnSum, cX1_columnSum, 4, (some .int))
abbrev mX1_convert : Mth := (yX1_convert, cX1_convert, 2, (some .int))
abbrev mX1_stickingCells : Mth := (yX1_stickingCells, cX1_stickingCells, 4, (some .int))
abbrev mX1_ageAll : Mth := (yX1_ageAll, cX1_ageAll, 4, (some .int))
abbrev mX1_ageOne : Mth := (yX1_ageOne, cX1_ageOne, 2, (some .boolean))
abbrev mX1_pulseTo : Mth := (yX1_pulseTo, cX1_pulseTo, 4, (some .int))
abbrev mX1_addTo : Mth := (yX1_addTo, cX1_addTo, 8, (some .long))
abbrev mX2_init : Mth := (yX2_init, cX2_init, 1, none)
abbrev mX2_seek : Mth := (yX2_seek, cX2_seek, 6, (some .int))
abbrev mX2_begin : Mth := (yX2_begin, cX2_begin, 4, none)
abbrev mX2_inputTable : Mth := (yX2_inputTable, cX2_inputTable, 4, (some .int))
abbrev mX2_shiftOf : Mth := (yX2_shiftOf, cX2_shiftOf, 2, (some .int))
abbrev mX2_openState : Mth := (yX2_openState, cX2_openState, 3, none)
abbrev mX2_cellWith : Mth := (yX2_cellWith, cX2_cellWith, 3, (some .int))
abbrev mX2_meetAllFrom : Mth := (yX2_meetAllFrom, cX2_meetAllFrom, 4, (some .boolean))
abbrev mX2_meetByActs : Mth := (yX2_meetByActs, cX2_meetByActs, 7, (some .boolean))
abbrev mX2_meet : Mth := (yX2_meet, cX2_meet, 6, (some .boolean))
abbrev mX2_keep : Mth := (yX2_keep, cX2_keep, 5, none)
abbrev mX2_addTo : Mth := (yX2_addTo, cX2_addTo, 7, (some .long))
abbrev mX3_init : Mth := (yX3_init, cX3_init, 2, none)
abbrev mX3_exists : Mth := (yX3_exists, cX3_exists, 1, (some .boolean))
abbrev mX3_drop : Mth := (yX3_drop, cX3_drop, 1, none)
abbrev mX3_begin : Mth := (yX3_begin, cX3_begin, 5, none)
abbrev mX3_base : Mth := (yX3_base, cX3_base, 1, (some .int))
abbrev mX3_power : Mth := (yX3_power, cX3_power, 4, (some .int))
abbrev mX3_numberAt : Mth := (yX3_numberAt, cX3_numberAt, 3, (some .int))
abbrev mX3_exchange : Mth := (yX3_exchange, cX3_exchange, 5, (some .int))
abbrev mX3_usedColumns : Mth := (yX3_usedColumns, cX3_usedColumns, 1, (some .int))
abbrev mX3_spellRow : Mth := (yX3_spellRow, cX3_spellRow, 8, none)
abbrev mX3_layAll : Mth := (yX3_layAll, cX3_layAll, 5, (some .int))
abbrev mX3_meshProduct : Mth := (yX3_meshProduct, cX3_meshProduct, 11, (some .long))
abbrev mX3_bitSum : Mth := (yX3_bitSum, cX3_bitSum, 5, (some .int))
abbrev mX3_trueProduct : Mth := (yX3_trueProduct, cX3_trueProduct, 5, (some .long))
abbrev mX3_bitsEnough : Mth := (yX3_bitsEnough, cX3_bitsEnough, 3, (some .int))
abbrev mX3_mapAnew : Mth := (yX3_mapAnew, cX3_mapAnew, 3, (some .int))
abbrev mX3_fillCosts : Mth := (yX3_fillCosts, cX3_fillCosts, 3, none)
abbrev mX3_costOn : Mth := (yX3_costOn, cX3_costOn, 5, (some .int))
abbrev mX3_costWith : Mth := (yX3_costWith, cX3_costWith, 4, (some .int))
abbrev mX3_leastFrom : Mth := (yX3_leastFrom, cX3_leastFrom, 5, (some .int))
abbrev mX3_chooseFirstLeast : Mth := (yX3_chooseFirstLeast, cX3_chooseFirstLeast, 3, none)
abbrev mX3_firstLeastRow : Mth := (yX3_firstLeastRow, cX3_firstLeastRow, 4, (some .int))
abbrev mX3_addTo : Mth := (yX3_addTo, cX3_addTo, 7, (some .long))
abbrev mX4_init : Mth := (yX4_init, cX4_init, 1, none)
abbrev mX4_mesh : Mth := (yX4_mesh, cX4_mesh, 4, (some .int))
abbrev mX4_write : Mth := (yX4_write, cX4_write, 5, (some .int))
abbrev mX4_stick : Mth := (yX4_stick, cX4_stick, 4, (some .int))
abbrev mX4_cell : Mth := (yX4_cell, cX4_cell, 4, (some .int))
abbrev mX4_input : Mth := (yX4_input, cX4_input, 4, (some .int))
abbrev mX4_bits : Mth := (yX4_bits, cX4_bits, 3, (some .int))
abbrev mX4_sum : Mth := (yX4_sum, cX4_sum, 2, (some .int))
abbrev mX4_table : Mth := (yX4_table, cX4_table, 4, (some .int))
abbrev mX4_number : Mth := (yX4_number, cX4_number, 4, (some .int))
abbrev mX4_lay : Mth := (yX4_lay, cX4_lay, 1, (some .int))
abbrev mX4_product : Mth := (yX4_product, cX4_product, 2, (some .long))
abbrev mX4_due : Mth := (yX4_due, cX4_due, 2, (some .long))
abbrev mX4_enough : Mth := (yX4_enough, cX4_enough, 1, (some .int))
abbrev mX4_map : Mth := (yX4_map, cX4_map, 1, (some .int))
abbrev mX4_mapped : Mth := (yX4_mapped, cX4_mapped, 2, (some .int))
abbrev mX4_seal : Mth := (yX4_seal, cX4_seal, 1, (some .int))
abbrev mX4_look : Mth := (yX4_look, cX4_look, 1, (some .int))
abbrev mX4_fade : Mth := (yX4_fade, cX4_fade, 4, (some .int))
abbrev mX4_pulse : Mth := (yX4_pulse, cX4_pulse, 5, (some .int))
abbrev mX4_find : Mth := (yX4_find, cX4_find, 4, (some .int))
abbrev mX4_actAt : Mth := (yX4_actAt, cX4_actAt, 3, (some .int))
abbrev mX4_where : Mth := (yX4_where, cX4_where, 1, (some .int))
abbrev mX4_met : Mth := (yX4_met, cX4_met, 1, (some .int))
abbrev mX4_count : Mth := (yX4_count, cX4_count, 2, (some .int))
abbrev mX4_digest : Mth := (yX4_digest, cX4_digest, 4, (some .long))
abbrev mX4_within : Mth := (yX4_within, cX4_within, 3, (some .boolean))
abbrev mX4_fullTable : Mth := (yX4_fullTable, cX4_fullTable, 1, (some .int))
abbrev mX4_packAct : Mth := (yX4_packAct, cX4_packAct, 3, (some .int))
abbrev mX4_actPart : Mth := (yX4_actPart, cX4_actPart, 2, (some .int))
abbrev mX4_packVisit : Mth := (yX4_packVisit, cX4_packVisit, 3, (some .long))
abbrev mX4_stateOf : Mth := (yX4_stateOf, cX4_stateOf, 2, (some .int))
abbrev mX4_cameBy : Mth := (yX4_cameBy, cX4_cameBy, 2, (some .int))
abbrev mX4_cameFrom : Mth := (yX4_cameFrom, cX4_cameFrom, 2, (some .int))
abbrev mX5_in : Mth := (yX5_in, cX5_in, 3, (some .boolean))
abbrev mX5_init : Mth := (yX5_init, cX5_init, 1, none)
abbrev mX5_begins : Mth := (yX5_begins, cX5_begins, 5, none)
abbrev mX5_mesh : Mth := (yX5_mesh, cX5_mesh, 4, (some .int))
abbrev mX5_isCell : Mth := (yX5_isCell, cX5_isCell, 3, (some .boolean))
abbrev mX5_writes : Mth := (yX5_writes, cX5_writes, 3, (some .boolean))
abbrev mX5_write : Mth := (yX5_write, cX5_write, 4, (some .int))
abbrev mX5_stick : Mth := (yX5_stick, cX5_stick, 5, (some .int))
abbrev mX5_cellAt : Mth := (yX5_cellAt, cX5_cellAt, 3, (some .int))
abbrev mX5_cell : Mth := (yX5_cell, cX5_cell, 4, (some .int))
abbrev mX5_input : Mth := (yX5_input, cX5_input, 4, (some .int))
abbrev mX5_bits : Mth := (yX5_bits, cX5_bits, 3, (some .int))
abbrev mX5_converted : Mth := (yX5_converted, cX5_converted, 3, (some .int))
abbrev mX5_sumOf : Mth := (yX5_sumOf, cX5_sumOf, 4, (some .int))
abbrev mX5_sum : Mth := (yX5_sum, cX5_sum, 2, (some .int))
abbrev mX5_hasTable : Mth := (yX5_hasTable, cX5_hasTable, 1, (some .boolean))
abbrev mX5_table : Mth := (yX5_table, cX5_table, 5, (some .int))
abbrev mX5_greatest : Mth := (yX5_greatest, cX5_greatest, 3, (some .int))
abbrev mX5_number : Mth := (yX5_number, cX5_number, 5, (some .int))
abbrev mX5_wanted : Mth := (yX5_wanted, cX5_wanted, 8, (some .int))
abbrev mX5_lay : Mth := (yX5_lay, cX5_lay, 4, (some .int))
abbrev mX5_bitSum : Mth := (yX5_bitSum, cX5_bitSum, 5, (some .long))
abbrev mX5_product : Mth := (yX5_product, cX5_product, 9, (some .long))
abbrev mX5_due : Mth := (yX5_due, cX5_due, 5, (some .long))
abbrev mX5_enough : Mth := (yX5_enough, cX5_enough, 2, (some .int))
abbrev mX5_findCosts : Mth := (yX5_findCosts, cX5_findCosts, 7, none)
abbrev mX5_isUsed : Mth := (yX5_isUsed, cX5_isUsed, 4, (some .boolean))
abbrev mX5_map : Mth := (yX5_map, cX5_map, 4, (some .int))
abbrev mX5_mapped : Mth := (yX5_mapped, cX5_mapped, 2, (some .int))
abbrev mX5_seal : Mth := (yX5_seal, cX5_seal, 5, (some .int))
abbrev mX5_rest : Mth := (yX5_rest, cX5_rest, 1, (some .int))
abbrev mX5_look : Mth := (yX5_look, cX5_look, 6, (some .int))
abbrev mX5_fade : Mth := (yX5_fade, cX5_fade, 5, (some .int))
abbrev mX5_pulse : Mth := (yX5_pulse, cX5_pulse, 7, (some .int))
abbrev mX5_isNew : Mth := (yX5_isNew, cX5_isNew, 6, (some .boolean))
abbrev mX5_meets : Mth := (yX5_meets, cX5_meets, 5, (some .boolean))
abbrev mX5_tableOf : Mth := (yX5_tableOf, cX5_tableOf, 3, (some .int))
abbrev mX5_whereIs : Mth := (yX5_whereIs, cX5_whereIs, 5, (some .int))
abbrev mX5_becomesFound : Mth := (yX5_becomesFound, cX5_becomesFound, 5, none)
abbrev mX5_goesOn : Mth := (yX5_goesOn, cX5_goesOn, 12, (some .boolean))
abbrev mX5_find : Mth := (yX5_find, cX5_find, 9, (some .int))
abbrev mX5_actAt : Mth := (yX5_actAt, cX5_actAt, 3, (some .int))
abbrev mX5_where : Mth := (yX5_where, cX5_where, 1, (some .int))
abbrev mX5_met : Mth := (yX5_met, cX5_met, 1, (some .int))
abbrev mX5_count : Mth := (yX5_count, cX5_count, 4, (some .int))
abbrev mX5_digest : Mth := (yX5_digest, cX5_digest, 6, (some .long))
abbrev mJ6_bitCount_0f7a4 : Mth := (yJ6_bitCount_0f7a4, cJ6_bitCount_0f7a4, 1, (some .int))
abbrev mJ9_floorMod_7cf53 : Mth := (yJ9_floorMod_7cf53, cJ9_floorMod_7cf53, 3, (some .int))
abbrev mJ9_abs_0f7a4 : Mth := (yJ9_abs_0f7a4, cJ9_abs_0f7a4, 1, (some .int))
abbrev mJ9_min_7cf53 : Mth := (yJ9_min_7cf53, cJ9_min_7cf53, 2, (some .int))
abbrev mJ7_fill_53178 : Mth := (yJ7_fill_53178, cJ7_fill_53178, 4, none)
theorem inG_X0 : ∀ w ∈ u_ws RX0 TX0 4, w ∈ gtbl := fun w h => gt_of ((by decide +kernel : ∀ w ∈ u_ws RX0 TX0 4, w ∈ lw_tbl ∧ goodWord w = true) w h)
theorem inG_X1 : ∀ w ∈ u_ws RX1 TX1 8, w ∈ gtbl := fun w h => gt_of ((by decide +kernel : ∀ w ∈ u_ws RX1 TX1 8, w ∈ lw_tbl ∧ goodWord w = true) w h)
theorem inG_X2 : ∀ w ∈ u_ws RX2 TX2 11, w ∈ gtbl := fun w h => gt_of ((by decide +kernel : ∀ w ∈ u_ws RX2 TX2 11, w ∈ lw_tbl ∧ goodWord w = true) w h)
theorem inG_X3 : ∀ w ∈ u_ws RX3 TX3 11, w ∈ gtbl := fun w h => gt_of ((by decide +kernel : ∀ w ∈ u_ws RX3 TX3 11, w ∈ lw_tbl ∧ goodWord w = true) w h)
theorem inG_X4 : ∀ w ∈ u_ws RX4 TX4 4, w ∈ gtbl := fun w h => gt_of ((by decide +kernel : ∀ w ∈ u_ws RX4 TX4 4, w ∈ lw_tbl ∧ goodWord w = true) w h)
theorem inG_X5 : ∀ w ∈ u_ws RX5 TX5 29, w ∈ gtbl := fun w h => gt_of ((by decide +kernel : ∀ w ∈ u_ws RX5 TX5 29, w ∈ lw_tbl ∧ goodWord w = true) w h)
theorem fX4_10 : Cond.fieldLink RX4 10 (TX4 0).1 (TX4 0).2.1 (TX4 0).2.2.1 ∈ gtbl := gt_of ⟨List.mem_of_getElem? (i := 248) (by decide +kernel), by decide +kernel⟩
theorem fX4_21 : Cond.fieldLink RX4 21 (TX4 1).1 (TX4 1).2.1 (TX4 1).2.2.1 ∈ gtbl := gt_of ⟨List.mem_of_getElem? (i := 249) (by decide +kernel), by decide +kernel⟩
theorem fX4_28 : Cond.fieldLink RX4 28 (TX4 2).1 (TX4 2).2.1 (TX4 2).2.2.1 ∈ gtbl := gt_of ⟨List.mem_of_getElem? (i := 250) (by decide +kernel), by decide +kernel⟩
theorem fX4_35 : Cond.fieldLink RX4 35 (TX4 3).1 (TX4 3).2.1 (TX4 3).2.2.1 ∈ gtbl := gt_of ⟨List.mem_of_getElem? (i := 251) (by decide +kernel), by decide +kernel⟩
theorem fX4_50 : Cond.fieldLinkNest RX4 50 (TX0 1).1 (TX0 1).2.1 (TX0 1).2.2.1 "MeshSums" ∈ lw_tbl := List.mem_of_getElem? (i := 190) (by decide +kernel)
theorem fX4_58 : Cond.fieldLinkNest RX4 58 (TX1 2).1 (TX1 2).2.1 (TX1 2).2.2.1 "MeshSums" ∈ lw_tbl := List.mem_of_getElem? (i := 105) (by decide +kernel)
theorem fX4_79 : Cond.fieldLinkNest RX4 79 (TX1 0).1 (TX1 0).2.1 (TX1 0).2.2.1 "MeshSums" ∈ lw_tbl := List.mem_of_getElem? (i := 99) (by decide +kernel)
theorem fX4_82 : Cond.fieldLinkNest RX4 82 (TX1 7).1 (TX1 7).2.1 (TX1 7).2.2.1 "MeshSums" ∈ lw_tbl := List.mem_of_getElem? (i := 117) (by decide +kernel)
theorem fX4_86 : Cond.fieldLinkNest RX4 86 (TX1 3).1 (TX1 3).2.1 (TX1 3).2.2.1 "MeshSums" ∈ lw_tbl := List.mem_of_getElem? (i := 108) (by decide +kernel)
theorem fX4_89 : Cond.fieldLinkNest RX4 89 (TX1 1).1 (TX1 1).2.1 (TX1 1).2.2.1 "MeshSums" ∈ lw_tbl := List.mem_of_getElem? (i := 103) (by decide +kernel)
theorem fX4_102 : Cond.fieldLinkNest RX4 102 (TX3 1).1 (TX3 1).2.1 (TX3 1).2.2.1 "MeshSums" ∈ lw_tbl := List.mem_of_getElem? (i := 145) (by decide +kernel)
theorem fX4_105 : Cond.fieldLinkNest RX4 105 (TX3 2).1 (TX3 2).2.1 (TX3 2).2.2.1 "MeshSums" ∈ lw_tbl := List.mem_of_getElem? (i := 147) (by decide +kernel)
theorem fX4_108 : Cond.fieldLinkNest RX4 108 (TX3 4).1 (TX3 4).2.1 (TX3 4).2.2.1 "MeshSums" ∈ lw_tbl := List.mem_of_getElem? (i := 151) (by decide +kernel)
theorem fX4_124 : Cond.fieldLinkNest RX4 124 (TX3 5).1 (TX3 5).2.1 (TX3 5).2.2.1 "MeshSums" ∈ lw_tbl := List.mem_of_getElem? (i := 153) (by decide +kernel)
theorem fX4_142 : Cond.fieldLinkNest RX4 142 (TX3 7).1 (TX3 7).2.1 (TX3 7).2.2.1 "MeshSums" ∈ lw_tbl := List.mem_of_getElem? (i := 156) (by decide +kernel)
theorem fX4_167 : Cond.fieldLinkNest RX4 167 (TX2 9).1 (TX2 9).2.1 (TX2 9).2.2.1 "MeshSums" ∈ lw_tbl := List.mem_of_getElem? (i := 221) (by decide +kernel)
theorem fX4_170 : Cond.fieldLinkNest RX4 170 (TX2 8).1 (TX2 8).2.1 (TX2 8).2.2.1 "MeshSums" ∈ lw_tbl := List.mem_of_getElem? (i := 219) (by decide +kernel)
theorem fX4_176 : Cond.fieldLinkNest RX4 176 (TX2 10).1 (TX2 10).2.1 (TX2 10).2.2.1 "MeshSums" ∈ lw_tbl := List.mem_of_getElem? (i := 223) (by decide +kernel)
theorem fX4_179 : Cond.fieldLinkNest RX4 179 (TX2 7).1 (TX2 7).2.1 (TX2 7).2.2.1 "MeshSums" ∈ lw_tbl := List.mem_of_getElem? (i := 217) (by decide +kernel)
theorem fX4_185 : Cond.fieldLinkNest RX4 185 (TX3 3).1 (TX3 3).2.1 (TX3 3).2.2.1 "MeshSums" ∈ lw_tbl := List.mem_of_getElem? (i := 149) (by decide +kernel)
theorem fX0_9 : Cond.fieldLink RX0 9 (TX0 2).1 (TX0 2).2.1 (TX0 2).2.2.1 ∈ gtbl := gt_of ⟨List.mem_of_getElem? (i := 192) (by decide +kernel), by decide +kernel⟩
theorem fX0_15 : Cond.fieldLink RX0 15 (TX0 3).1 (TX0 3).2.1 (TX0 3).2.2.1 ∈ gtbl := gt_of ⟨List.mem_of_getElem? (i := 193) (by decide +kernel), by decide +kernel⟩
theorem fX0_18 : Cond.fieldLink RX0 18 (TX0 0).1 (TX0 0).2.1 (TX0 0).2.2.1 ∈ gtbl := gt_of ⟨List.mem_of_getElem? (i := 189) (by decide +kernel), by decide +kernel⟩
theorem fX0_22 : Cond.fieldLinkNest RX0 22 (TX1 0).1 (TX1 0).2.1 (TX1 0).2.2.1 "MeshSums" ∈ lw_tbl := List.mem_of_getElem? (i := 98) (by decide +kernel)
theorem fX0_28 : Cond.fieldLinkNest RX0 28 (TX1 1).1 (TX1 1).2.1 (TX1 1).2.2.1 "MeshSums" ∈ lw_tbl := List.mem_of_getElem? (i := 102) (by decide +kernel)
theorem fX0_31 : Cond.fieldLinkNest RX0 31 (TX1 4).1 (TX1 4).2.1 (TX1 4).2.2.1 "MeshSums" ∈ lw_tbl := List.mem_of_getElem? (i := 110) (by decide +kernel)
theorem fX0_38 : Cond.fieldLink RX0 38 (TX0 1).1 (TX0 1).2.1 (TX0 1).2.2.1 ∈ gtbl := gt_of ⟨List.mem_of_getElem? (i := 191) (by decide +kernel), by decide +kernel⟩
theorem fX0_46 : Cond.fieldLinkNest RX0 46 (TX1 7).1 (TX1 7).2.1 (TX1 7).2.2.1 "MeshSums" ∈ lw_tbl := List.mem_of_getElem? (i := 116) (by decide +kernel)
theorem fX1_9 : Cond.fieldLink RX1 9 (TX1 4).1 (TX1 4).2.1 (TX1 4).2.2.1 ∈ gtbl := gt_of ⟨List.mem_of_getElem? (i := 109) (by decide +kernel), by decide +kernel⟩
theorem fX1_15 : Cond.fieldLink RX1 15 (TX1 5).1 (TX1 5).2.1 (TX1 5).2.2.1 ∈ gtbl := gt_of ⟨List.mem_of_getElem? (i := 112) (by decide +kernel), by decide +kernel⟩
theorem fX1_18 : Cond.fieldLink RX1 18 (TX1 6).1 (TX1 6).2.1 (TX1 6).2.2.1 ∈ gtbl := gt_of ⟨List.mem_of_getElem? (i := 114) (by decide +kernel), by decide +kernel⟩
theorem fX1_21 : Cond.fieldLink RX1 21 (TX1 7).1 (TX1 7).2.1 (TX1 7).2.2.1 ∈ gtbl := gt_of ⟨List.mem_of_getElem? (i := 115) (by decide +kernel), by decide +kernel⟩
theorem fX1_28 : Cond.fieldLink RX1 28 (TX1 0).1 (TX1 0).2.1 (TX1 0).2.2.1 ∈ gtbl := gt_of ⟨List.mem_of_getElem? (i := 97) (by decide +kernel), by decide +kernel⟩
theorem fX1_32 : Cond.fieldLink RX1 32 (TX1 1).1 (TX1 1).2.1 (TX1 1).2.2.1 ∈ gtbl := gt_of ⟨List.mem_of_getElem? (i := 101) (by decide +kernel), by decide +kernel⟩
theorem fX1_35 : Cond.fieldLink RX1 35 (TX1 2).1 (TX1 2).2.1 (TX1 2).2.2.1 ∈ gtbl := gt_of ⟨List.mem_of_getElem? (i := 104) (by decide +kernel), by decide +kernel⟩
theorem fX1_38 : Cond.fieldLink RX1 38 (TX1 3).1 (TX1 3).2.1 (TX1 3).2.2.1 ∈ gtbl := gt_of ⟨List.mem_of_getElem? (i := 107) (by decide +kernel), by decide +kernel⟩
theorem fX2_9 : Cond.fieldLink RX2 9 (TX2 0).1 (TX2 0).2.1 (TX2 0).2.2.1 ∈ gtbl := gt_of ⟨List.mem_of_getElem? (i := 209) (by decide +kernel), by decide +kernel⟩
theorem fX2_15 : Cond.fieldLink RX2 15 (TX2 1).1 (TX2 1).2.1 (TX2 1).2.2.1 ∈ gtbl := gt_of ⟨List.mem_of_getElem? (i := 210) (by decide +kernel), by decide +kernel⟩
theorem fX2_19 : Cond.fieldLink RX2 19 (TX2 2).1 (TX2 2).2.1 (TX2 2).2.2.1 ∈ gtbl := gt_of ⟨List.mem_of_getElem? (i := 211) (by decide +kernel), by decide +kernel⟩
theorem fX2_22 : Cond.fieldLink RX2 22 (TX2 8).1 (TX2 8).2.1 (TX2 8).2.2.1 ∈ gtbl := gt_of ⟨List.mem_of_getElem? (i := 218) (by decide +kernel), by decide +kernel⟩
theorem fX2_25 : Cond.fieldLink RX2 25 (TX2 10).1 (TX2 10).2.1 (TX2 10).2.2.1 ∈ gtbl := gt_of ⟨List.mem_of_getElem? (i := 222) (by decide +kernel), by decide +kernel⟩
theorem fX2_33 : Cond.fieldLink RX2 33 (TX2 7).1 (TX2 7).2.1 (TX2 7).2.2.1 ∈ gtbl := gt_of ⟨List.mem_of_getElem? (i := 216) (by decide +kernel), by decide +kernel⟩
theorem fX2_51 : Cond.fieldLink RX2 51 (TX2 9).1 (TX2 9).2.1 (TX2 9).2.2.1 ∈ gtbl := gt_of ⟨List.mem_of_getElem? (i := 220) (by decide +kernel), by decide +kernel⟩
theorem fX2_58 : Cond.fieldLink RX2 58 (TX2 3).1 (TX2 3).2.1 (TX2 3).2.2.1 ∈ gtbl := gt_of ⟨List.mem_of_getElem? (i := 212) (by decide +kernel), by decide +kernel⟩
theorem fX2_61 : Cond.fieldLink RX2 61 (TX2 4).1 (TX2 4).2.1 (TX2 4).2.2.1 ∈ gtbl := gt_of ⟨List.mem_of_getElem? (i := 213) (by decide +kernel), by decide +kernel⟩
theorem fX2_64 : Cond.fieldLink RX2 64 (TX2 5).1 (TX2 5).2.1 (TX2 5).2.2.1 ∈ gtbl := gt_of ⟨List.mem_of_getElem? (i := 214) (by decide +kernel), by decide +kernel⟩
theorem fX2_70 : Cond.fieldLink RX2 70 (TX2 6).1 (TX2 6).2.1 (TX2 6).2.2.1 ∈ gtbl := gt_of ⟨List.mem_of_getElem? (i := 215) (by decide +kernel), by decide +kernel⟩
theorem fX3_9 : Cond.fieldLink RX3 9 (TX3 6).1 (TX3 6).2.1 (TX3 6).2.2.1 ∈ gtbl := gt_of ⟨List.mem_of_getElem? (i := 154) (by decide +kernel), by decide +kernel⟩
theorem fX3_15 : Cond.fieldLink RX3 15 (TX3 7).1 (TX3 7).2.1 (TX3 7).2.2.1 ∈ gtbl := gt_of ⟨List.mem_of_getElem? (i := 155) (by decide +kernel), by decide +kernel⟩
theorem fX3_18 : Cond.fieldLink RX3 18 (TX3 8).1 (TX3 8).2.1 (TX3 8).2.2.1 ∈ gtbl := gt_of ⟨List.mem_of_getElem? (i := 157) (by decide +kernel), by decide +kernel⟩
theorem fX3_21 : Cond.fieldLink RX3 21 (TX3 9).1 (TX3 9).2.1 (TX3 9).2.2.1 ∈ gtbl := gt_of ⟨List.mem_of_getElem? (i := 158) (by decide +kernel), by decide +kernel⟩
theorem fX3_24 : Cond.fieldLink RX3 24 (TX3 10).1 (TX3 10).2.1 (TX3 10).2.2.1 ∈ gtbl := gt_of ⟨List.mem_of_getElem? (i := 159) (by decide +kernel), by decide +kernel⟩
theorem fX3_27 : Cond.fieldLink RX3 27 (TX3 0).1 (TX3 0).2.1 (TX3 0).2.2.1 ∈ gtbl := gt_of ⟨List.mem_of_getElem? (i := 143) (by decide +kernel), by decide +kernel⟩
theorem fX3_31 : Cond.fieldLink RX3 31 (TX3 1).1 (TX3 1).2.1 (TX3 1).2.2.1 ∈ gtbl := gt_of ⟨List.mem_of_getElem? (i := 144) (by decide +kernel), by decide +kernel⟩
theorem fX3_35 : Cond.fieldLink RX3 35 (TX3 2).1 (TX3 2).2.1 (TX3 2).2.2.1 ∈ gtbl := gt_of ⟨List.mem_of_getElem? (i := 146) (by decide +kernel), by decide +kernel⟩
theorem fX3_38 : Cond.fieldLink RX3 38 (TX3 3).1 (TX3 3).2.1 (TX3 3).2.2.1 ∈ gtbl := gt_of ⟨List.mem_of_getElem? (i := 148) (by decide +kernel), by decide +kernel⟩
theorem fX3_41 : Cond.fieldLink RX3 41 (TX3 5).1 (TX3 5).2.1 (TX3 5).2.2.1 ∈ gtbl := gt_of ⟨List.mem_of_getElem? (i := 152) (by decide +kernel), by decide +kernel⟩
theorem fX3_53 : Cond.fieldLink RX3 53 (TX3 4).1 (TX3 4).2.1 (TX3 4).2.2.1 ∈ gtbl := gt_of ⟨List.mem_of_getElem? (i := 150) (by decide +kernel), by decide +kernel⟩
theorem fX3_62 : Cond.fieldLinkNest RX3 62 (TX1 2).1 (TX1 2).2.1 (TX1 2).2.2.1 "MeshSums" ∈ lw_tbl := List.mem_of_getElem? (i := 106) (by decide +kernel)
theorem fX3_100 : Cond.fieldLinkNest RX3 100 (TX1 7).1 (TX1 7).2.1 (TX1 7).2.2.1 "MeshSums" ∈ lw_tbl := List.mem_of_getElem? (i := 118) (by decide +kernel)
theorem fX3_103 : Cond.fieldLinkNest RX3 103 (TX1 4).1 (TX1 4).2.1 (TX1 4).2.2.1 "MeshSums" ∈ lw_tbl := List.mem_of_getElem? (i := 111) (by decide +kernel)
theorem fX3_109 : Cond.fieldLinkNest RX3 109 (TX1 0).1 (TX1 0).2.1 (TX1 0).2.2.1 "MeshSums" ∈ lw_tbl := List.mem_of_getElem? (i := 100) (by decide +kernel)
theorem fX3_130 : Cond.fieldLinkNest RX3 130 (TX1 5).1 (TX1 5).2.1 (TX1 5).2.2.1 "MeshSums" ∈ lw_tbl := List.mem_of_getElem? (i := 113) (by decide +kernel)
theorem fX5_7 : Cond.fieldLink RX5 7 (TX5 0).1 (TX5 0).2.1 (TX5 0).2.2.1 ∈ gtbl := gt_of ⟨List.mem_of_getElem? (i := 636) (by decide +kernel), by decide +kernel⟩
theorem fX5_13 : Cond.fieldLink RX5 13 (TX5 1).1 (TX5 1).2.1 (TX5 1).2.2.1 ∈ gtbl := gt_of ⟨List.mem_of_getElem? (i := 637) (by decide +kernel), by decide +kernel⟩
theorem fX5_16 : Cond.fieldLink RX5 16 (TX5 2).1 (TX5 2).2.1 (TX5 2).2.2.1 ∈ gtbl := gt_of ⟨List.mem_of_getElem? (i := 638) (by decide +kernel), by decide +kernel⟩
theorem fX5_19 : Cond.fieldLink RX5 19 (TX5 3).1 (TX5 3).2.1 (TX5 3).2.2.1 ∈ gtbl := gt_of ⟨List.mem_of_getElem? (i := 639) (by decide +kernel), by decide +kernel⟩
theorem fX5_23 : Cond.fieldLink RX5 23 (TX5 4).1 (TX5 4).2.1 (TX5 4).2.2.1 ∈ gtbl := gt_of ⟨List.mem_of_getElem? (i := 640) (by decide +kernel), by decide +kernel⟩
theorem fX5_26 : Cond.fieldLink RX5 26 (TX5 5).1 (TX5 5).2.1 (TX5 5).2.2.1 ∈ gtbl := gt_of ⟨List.mem_of_getElem? (i := 641) (by decide +kernel), by decide +kernel⟩
