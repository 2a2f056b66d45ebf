theorem mt0 {w : Cond} (h : w ∈ k2_sels lw_privs) : w ∈ lw_tbl := show w ∈ k2_sels lw_privs ++ tables_1 from List.mem_append_left _ h
theorem mt1 {w : Cond} (h : w ∈ tables_1_1) : w ∈ lw_tbl := show w ∈ k2_sels lw_privs ++ (tables_1_1 ++ (tables_1_2 ++ (tables_1_3 ++ (tables_1_4)))) from List.mem_append_right _ (List.mem_append_left _ h)
theorem mt2 {w : Cond} (h : w ∈ tables_1_2) : w ∈ lw_tbl := show w ∈ k2_sels lw_privs ++ (tables_1_1 ++ (tables_1_2 ++ (tables_1_3 ++ (tables_1_4)))) from List.mem_append_right _ (List.mem_append_right _ (List.mem_append_left _ h))
theorem mt3 {w : Cond} (h : w ∈ tables_1_3) : w ∈ lw_tbl := show w ∈ k2_sels lw_privs ++ (tables_1_1 ++ (tables_1_2 ++ (tables_1_3 ++ (tables_1_4)))) from List.mem_append_right _ (List.mem_append_right _ (List.mem_append_right _ (List.mem_append_left _ h)))
theorem mt4 {w : Cond} (h : w ∈ tables_1_4) : w ∈ lw_tbl := show w ∈ k2_sels lw_privs ++ (tables_1_1 ++ (tables_1_2 ++ (tables_1_3 ++ (tables_1_4)))) from List.mem_append_right _ (List.mem_append_right _ (List.mem_append_right _ (List.mem_append_right _ (h))))
abbrev mX0_init : Mth := (yX0_init, cX0_init, 2, none)
abbrev mX0_takeAnew : Mth := (yX0_takeAnew, cX0_takeAnew, 6, none)
abbrev mX0_wrongColumn : Mth := (yX0_wrongColumn, cX0_wrongColumn, 4, (some .int))
abbrev mX0_columnBy : Mth := (yX0_columnBy, cX0_columnBy, 4, (some .int))
abbrev mX1_init : Mth := (yX1_init, cX1_init, 1, none)
abbrev mX1_renew : Mth := (yX1_renew, cX1_renew, 4, none)
abbrev mX1_hasCell : Mth := (yX1_hasCell, cX1_hasCell, 3, (some .boolean))
abbrev mX1_place : Mth := (yX1_place, cX1_place, 3, (some .int))
abbrev mX1_sticks : Mth := (yX1_sticks, cX1_sticks, 2, (some .boolean))
abbrev mX1_sticksAtAnother : Mth := (yX1_sticksAtAnother, cX1_sticksAtAnother, 3, (some .boolean))
abbrev mX1_put : Mth := (yX1_put, cX1_put, 3, none)
abbrev mX1_hold : Mth := (yX1_hold, cX1_hold, 3, none)
abbrev mX1_tellCell : Mth := (yX1_tellCell, cX1_tellCell, 3, (some .int))
abbrev mX1_columnSum : Mth := (yX1_columnSum, cX1_columnSum, 4, (some .int))
abbrev mX1_convert : Mth := (yX1_convert, cX1_convert, 2, (some .int))
abbrev mX1_stickingCells : Mth := (yX1_stickingCells, cX1_stickingCells, 4, (some .int))
abbrev mX1_ageAll : Mth := (yX1_ageAll, cX1_ageAll, 4, (some .int))
abbrev mX1_ageOne : Mth := (yX1_ageOne, cX1_ageOne, 2, (some .boolean))
abbrev mX1_pulseTo : Mth := (yX1_pulseTo, cX1_pulseTo, 4, (some .int))
abbrev mX1_addTo : Mth := (yX1_addTo, cX1_addTo, 8, (some .long))
abbrev mX2_init : Mth := (yX2_init, cX2_init, 1, none)
abbrev mX2_seek : Mth := (yX2_seek, cX2_seek, 6, (some .int))
abbrev mX2_begin : Mth := (yX2_begin, cX2_begin, 4, none)
abbrev mX2_inputTable : Mth := (yX2_inputTable, cX2_inputTable, 4, (some .int))
abbrev mX2_shiftOf : Mth := (yX2_shiftOf, cX2_shiftOf, 2, (some .int))
abbrev mX2_openState : Mth := (yX2_openState, cX2_openState, 3, none)
abbrev mX2_cellWith : Mth := (yX2_cellWith, cX2_cellWith, 3, (some .int))
abbrev mX2_meetAllFrom : Mth := (yX2_meetAllFrom, cX2_meetAllFrom, 4, (some .boolean))
abbrev mX2_meetByActs : Mth := (yX2_meetByActs, cX2_meetByActs, 7, (some .boolean))
abbrev mX2_meet : Mth := (yX2_meet, cX2_meet, 6, (some .boolean))
abbrev mX2_keep : Mth := (yX2_keep, cX2_keep, 5, none)
abbrev mX2_addTo : Mth := (yX2_addTo, cX2_addTo, 7, (some .long))
abbrev mX3_init : Mth := (yX3_init, cX3_init, 2, none)
abbrev mX3_exists : Mth := (yX3_exists, cX3_exists, 1, (some .boolean))
abbrev mX3_drop : Mth := (yX3_drop, cX3_drop, 1, none)
abbrev mX3_begin : Mth := (yX3_begin, cX3_begin, 5, none)
abbrev mX3_base : Mth := (yX3_base, cX3_base, 1, (some .int))
abbrev mX3_power : Mth := (yX3_power, cX3_power, 4, (some .int))
abbrev mX3_numberAt : Mth := (yX3_numberAt, cX3_numberAt, 3, (some .int))
abbrev mX3_exchange : Mth := (yX3_exchange, cX3_exchange, 5, (some .int))
abbrev mX3_usedColumns : Mth := (yX3_usedColumns, cX3_usedColumns, 1, (some .int))
abbrev mX3_spellRow : Mth := (yX3_spellRow, cX3_spellRow, 8, none)
abbrev mX3_layAll : Mth := (yX3_layAll, cX3_layAll, 5, (some .int))
abbrev mX3_meshProduct : Mth := (yX3_meshProduct, cX3_meshProduct, 11, (some .long))
abbrev mX3_bitSum : Mth := (yX3_bitSum, cX3_bitSum, 5, (some .int))
abbrev mX3_trueProduct : Mth := (yX3_trueProduct, cX3_trueProduct, 5, (some .long))
abbrev mX3_bitsEnough : Mth := (yX3_bitsEnough, cX3_bitsEnough, 3, (some .int))
abbrev mX3_mapAnew : Mth := (yX3_mapAnew, cX3_mapAnew, 3, (some .int))
abbrev mX3_fillCosts : Mth := (yX3_fillCosts, cX3_fillCosts, 3, none)
abbrev mX3_costOn : Mth := (yX3_costOn, cX3_costOn, 5, (some .int))
abbrev mX3_costWith : Mth := (yX3_costWith, cX3_costWith, 4, (some .int))
abbrev mX3_leastFrom : Mth := (yX3_leastFrom, cX3_leastFrom, 5, (some .int))
abbrev mX3_chooseFirstLeast : Mth := (yX3_chooseFirstLeast, cX3_chooseFirstLeast, 3, none)
abbrev mX3_firstLeastRow : Mth := (yX3_firstLeastRow, cX3_firstLeastRow, 4, (some .int))
abbrev mX3_addTo : Mth := (yX3_addTo, cX3_addTo, 7, (some .long))
abbrev mX4_init : Mth := (yX4_init, cX4_init, 1, none)
abbrev mX4_mesh : Mth := (yX4_mesh, cX4_mesh, 4, (some .int))
abbrev mX4_write : Mth := (yX4_write, cX4_write, 5, (some .int))
abbrev mX4_stick : Mth := (yX4_stick, cX4_stick, 4, (some .int))
abbrev mX4_cell : Mth := (yX4_cell, cX4_cell, 4, (some .int))
abbrev mX4_input : Mth := (yX4_input, cX4_input, 4, (some .int))
abbrev mX4_bits : Mth := (yX4_bits, cX4_bits, 3, (some .int))
abbrev mX4_sum : Mth := (yX4_sum, cX4_sum, 2, (some .int))
abbrev mX4_table : Mth := (yX4_table, cX4_table, 4, (some .int))
abbrev mX4_number : Mth := (yX4_number, cX4_number, 4, (some .int))
abbrev mX4_lay : Mth := (yX4_lay, cX4_lay, 1, (some .int))
abbrev mX4_product : Mth := (yX4_product, cX4_product, 2, (some .long))
abbrev mX4_due : Mth := (yX4_due, cX4_due, 2, (some .long))
abbrev mX4_enough : Mth := (yX4_enough, cX4_enough, 1, (some .int))
abbrev mX4_map : Mth := (yX4_map, cX4_map, 1, (some .int))
abbrev mX4_mapped : Mth := (yX4_mapped, cX4_mapped, 2, (some .int))
abbrev mX4_seal : Mth := (yX4_seal, cX4_seal, 1, (some .int))
abbrev mX4_look : Mth := (yX4_look, cX4_look, 1, (some .int))
abbrev mX4_fade : Mth := (yX4_fade, cX4_fade, 4, (some .int))
abbrev mX4_pulse : Mth := (yX4_pulse, cX4_pulse, 5, (some .int))
abbrev mX4_find : Mth := (yX4_find, cX4_find, 4, (some .int))
abbrev mX4_actAt : Mth := (yX4_actAt, cX4_actAt, 3, (some .int))
abbrev mX4_where : Mth := (yX4_where, cX4_where, 1, (some .int))
abbrev mX4_met : Mth := (yX4_met, cX4_met, 1, (some .int))
abbrev mX4_count : Mth := (yX4_count, cX4_count, 2, (some .int))
abbrev mX4_digest : Mth := (yX4_digest, cX4_digest, 4, (some .long))
abbrev mX4_within : Mth := (yX4_within, cX4_within, 3, (some .boolean))
abbrev mX4_fullTable : Mth := (yX4_fullTable, cX4_fullTable, 1, (some .int))
abbrev mX4_packAct : Mth := (yX4_packAct, cX4_packAct, 3, (some .int))
abbrev mX4_actPart : Mth := (yX4_actPart, cX4_actPart, 2, (some .int))
abbrev mX4_packVisit : Mth := (yX4_packVisit, cX4_packVisit, 3, (some .long))
abbrev mX4_stateOf : Mth := (yX4_stateOf, cX4_stateOf, 2, (some .int))
abbrev mX4_cameBy : Mth := (yX4_cameBy, cX4_cameBy, 2, (some .int))
abbrev mX4_cameFrom : Mth := (yX4_cameFrom, cX4_cameFrom, 2, (some .int))
abbrev mX5_in : Mth := (yX5_in, cX5_in, 3, (some .boolean))
abbrev mX5_init : Mth := (yX5_init, cX5_init, 1, none)
abbrev mX5_begins : Mth := (yX5_begins, cX5_begins, 5, none)
abbrev mX5_mesh : Mth := (yX5_mesh, cX5_mesh, 4, (some .int))
abbrev mX5_isCell : Mth := (yX5_isCell, cX5_isCell, 3, (some .boolean))
abbrev mX5_writes : Mth := (yX5_writes, cX5_writes, 3, (some .boolean))
abbrev mX5_write : Mth := (yX5_write, cX5_write, 4, (some .int))
abbrev mX5_stick : Mth := (yX5_stick, cX5_stick, 5, (some .int))
abbrev mX5_cellAt : Mth := (yX5_cellAt, cX5_cellAt, 3, (some .int))
abbrev mX5_cell : Mth := (yX5_cell, cX5_cell, 4, (some .int))
abbrev mX5_input : Mth := (yX5_input, cX5_input, 4, (some .int))
abbrev mX5_bits : Mth := (yX5_bits, cX5_bits, 3, (some .int))
abbrev mX5_converted : Mth := (yX5_converted, cX5_converted, 3, (some .int))
abbrev mX5_sumOf : Mth := (yX5_sumOf, cX5_sumOf, 4, (some .int))
abbrev mX5_sum : Mth := (yX5_sum, cX5_sum, 2, (some .int))
abbrev mX5_hasTable : Mth := (yX5_hasTable, cX5_hasTable, 1, (some .boolean))
abbrev mX5_table : Mth := (yX5_table, cX5_table, 5, (some .int))
abbrev mX5_greatest : Mth := (yX5_greatest, cX5_greatest, 3, (some .int))
abbrev mX5_number : Mth := (yX5_number, cX5_number, 5, (some .int))
abbrev mX5_wanted : Mth := (yX5_wanted, cX5_wanted, 8, (some .int))
abbrev mX5_lay : Mth := (yX5_lay, cX5_lay, 4, (some .int))
abbrev mX5_bitSum : Mth := (yX5_bitSum, cX5_bitSum, 5, (some .long))
abbrev mX5_product : Mth := (yX5_product, cX5_product, 9, (some .long))
abbrev mX5_due : Mth := (yX5_due, cX5_due, 5, (some .long))
abbrev mX5_enough : Mth := (yX5_enough, cX5_enough, 2, (some .int))
abbrev mX5_findCosts : Mth := (yX5_findCosts, cX5_findCosts, 7, none)
abbrev mX5_isUsed : Mth := (yX5_isUsed, cX5_isUsed, 4, (some .boolean))
abbrev mX5_map : Mth := (yX5_map, cX5_map, 4, (some .int))
abbrev mX5_mapped : Mth := (yX5_mapped, cX5_mapped, 2, (some .int))
abbrev mX5_seal : Mth := (yX5_seal, cX5_seal, 5, (some .int))
abbrev mX5_rest : Mth := (yX5_rest, cX5_rest, 1, (some .int))
abbrev mX5_look : Mth := (yX5_look, cX5_look, 6, (some .int))
abbrev mX5_fade : Mth := (yX5_fade, cX5_fade, 5, (some .int))
abbrev mX5_pulse : Mth := (yX5_pulse, cX5_pulse, 7, (some .int))
abbrev mX5_isNew : Mth := (yX5_isNew, cX5_isNew, 6, (some .boolean))
abbrev mX5_meets : Mth := (yX5_meets, cX5_meets, 5, (some .boolean))
abbrev mX5_tableOf : Mth := (yX5_tableOf, cX5_tableOf, 3, (some .int))
abbrev mX5_whereIs : Mth := (yX5_whereIs, cX5_whereIs, 5, (some .int))
abbrev mX5_becomesFound : Mth := (yX5_becomesFound, cX5_becomesFound, 5, none)
abbrev mX5_goesOn : Mth := (yX5_goesOn, cX5_goesOn, 12, (some .boolean))
abbrev mX5_find : Mth := (yX5_find, cX5_find, 9, (some .int))
abbrev mX5_actAt : Mth := (yX5_actAt, cX5_actAt, 3, (some .int))
abbrev mX5_where : Mth := (yX5_where, cX5_where, 1, (some .int))
abbrev mX5_met : Mth := (yX5_met, cX5_met, 1, (some .int))
abbrev mX5_count : Mth := (yX5_count, cX5_count, 4, (some .int))
abbrev mX5_digest : Mth := (yX5_digest, cX5_digest, 6, (some .long))
abbrev mJ6_bitCount_0f7a4 : Mth := (yJ6_bitCount_0f7a4, cJ6_bitCount_0f7a4, 1, (some .int))
abbrev mJ9_floorMod_7cf53 : Mth := (yJ9_floorMod_7cf53, cJ9_floorMod_7cf53, 3, (some .int))
abbrev mJ9_abs_0f7a4 : Mth := (yJ9_abs_0f7a4, cJ9_abs_0f7a4, 1, (some .int))
abbrev mJ9_min_7cf53 : Mth := (yJ9_min_7cf53, cJ9_min_7cf53, 2, (some .int))
abbrev mJ7_fill_53178 : Mth := (yJ7_fill_53178, cJ7_fill_53178, 4, none)
theorem inG_X0 : ∀ w ∈ u_ws RX0 TX0 4, w ∈ gtbl := fun w h => gt_of ((by decide +kernel : ∀ w ∈ u_ws RX0 TX0 4, w ∈ lw_tbl ∧ goodWord w = true) w h)
theorem inG_X1 : ∀ w ∈ u_ws RX1 TX1 8, w ∈ gtbl := fun w h => gt_of ((by decide +kernel : ∀ w ∈ u_ws RX1 TX1 8, w ∈ lw_tbl ∧ goodWord w = true) w h)
theorem inG_X2 : ∀ w ∈ u_ws RX2 TX2 11, w ∈ gtbl := fun w h => gt_of ((by decide +kernel : ∀ w ∈ u_ws RX2 TX2 11, w ∈ lw_tbl ∧ goodWord w = true) w h)
theorem inG_X3 : ∀ w ∈ u_ws RX3 TX3 11, w ∈ gtbl := fun w h => gt_of ((by decide +kernel : ∀ w ∈ u_ws RX3 TX3 11, w ∈ lw_tbl ∧ goodWord w = true) w h)
theorem inG_X4 : ∀ w ∈ u_ws RX4 TX4 4, w ∈ gtbl := fun w h => gt_of ((by decide +kernel : ∀ w ∈ u_ws RX4 TX4 4, w ∈ lw_tbl ∧ goodWord w = true) w h)
theorem inG_X5 : ∀ w ∈ u_ws RX5 TX5 29, w ∈ gtbl := fun w h => gt_of ((by decide +kernel : ∀ w ∈ u_ws RX5 TX5 29, w ∈ lw_tbl ∧ goodWord w = true) w h)
theorem fX4_10 : Cond.fieldLink RX4 10 (TX4 0).1 (TX4 0).2.1 (TX4 0).2.2.1 ∈ gtbl := gt_of ⟨mt1 (List.mem_of_getElem? (i := 182) (by decide +kernel)), by decide +kernel⟩
theorem fX4_21 : Cond.fieldLink RX4 21 (TX4 1).1 (TX4 1).2.1 (TX4 1).2.2.1 ∈ gtbl := gt_of ⟨mt1 (List.mem_of_getElem? (i := 183) (by decide +kernel)), by decide +kernel⟩
theorem fX4_28 : Cond.fieldLink RX4 28 (TX4 2).1 (TX4 2).2.1 (TX4 2).2.2.1 ∈ gtbl := gt_of ⟨mt1 (List.mem_of_getElem? (i := 184) (by decide +kernel)), by decide +kernel⟩
theorem fX4_35 : Cond.fieldLink RX4 35 (TX4 3).1 (TX4 3).2.1 (TX4 3).2.2.1 ∈ gtbl := gt_of ⟨mt1 (List.mem_of_getElem? (i := 185) (by decide +kernel)), by decide +kernel⟩
theorem fX4_50 : Cond.fieldLinkNest RX4 50 (TX0 1).1 (TX0 1).2.1 (TX0 1).2.2.1 "MeshSums" ∈ lw_tbl := mt1 (List.mem_of_getElem? (i := 124) (by decide +kernel))
theorem fX4_58 : Cond.fieldLinkNest RX4 58 (TX1 2).1 (TX1 2).2.1 (TX1 2).2.2.1 "MeshSums" ∈ lw_tbl := mt1 (List.mem_of_getElem? (i := 39) (by decide +kernel))
theorem fX4_79 : Cond.fieldLinkNest RX4 79 (TX1 0).1 (TX1 0).2.1 (TX1 0).2.2.1 "MeshSums" ∈ lw_tbl := mt1 (List.mem_of_getElem? (i := 33) (by decide +kernel))
theorem fX4_82 : Cond.fieldLinkNest RX4 82 (TX1 7).1 (TX1 7).2.1 (TX1 7).2.2.1 "MeshSums" ∈ lw_tbl := mt1 (List.mem_of_getElem? (i := 51) (by decide +kernel))
theorem fX4_86 : Cond.fieldLinkNest RX4 86 (TX1 3).1 (TX1 3).2.1 (TX1 3).2.2.1 "MeshSums" ∈ lw_tbl := mt1 (List.mem_of_getElem? (i := 42) (by decide +kernel))
theorem fX4_89 : Cond.fieldLinkNest RX4 89 (TX1 1).1 (TX1 1).2.1 (TX1 1).2.2.1 "MeshSums" ∈ lw_tbl := mt1 (List.mem_of_getElem? (i := 37) (by decide +kernel))
theorem fX4_102 : Cond.fieldLinkNest RX4 102 (TX3 1).1 (TX3 1).2.1 (TX3 1).2.2.1 "MeshSums" ∈ lw_tbl := mt1 (List.mem_of_getElem? (i := 79) (by decide +kernel))
theorem fX4_105 : Cond.fieldLinkNest RX4 105 (TX3 2).1 (TX3 2).2.1 (TX3 2).2.2.1 "MeshSums" ∈ lw_tbl := mt1 (List.mem_of_getElem? (i := 81) (by decide +kernel))
theorem fX4_108 : Cond.fieldLinkNest RX4 108 (TX3 4).1 (TX3 4).2.1 (TX3 4).2.2.1 "MeshSums" ∈ lw_tbl := mt1 (List.mem_of_getElem? (i := 85) (by decide +kernel))
theorem fX4_124 : Cond.fieldLinkNest RX4 124 (TX3 5).1 (TX3 5).2.1 (TX3 5).2.2.1 "MeshSums" ∈ lw_tbl := mt1 (List.mem_of_getElem? (i := 87) (by decide +kernel))
theorem fX4_142 : Cond.fieldLinkNest RX4 142 (TX3 7).1 (TX3 7).2.1 (TX3 7).2.2.1 "MeshSums" ∈ lw_tbl := mt1 (List.mem_of_getElem? (i := 90) (by decide +kernel))
theorem fX4_167 : Cond.fieldLinkNest RX4 167 (TX2 9).1 (TX2 9).2.1 (TX2 9).2.2.1 "MeshSums" ∈ lw_tbl := mt1 (List.mem_of_getElem? (i := 155) (by decide +kernel))
theorem fX4_170 : Cond.fieldLinkNest RX4 170 (TX2 8).1 (TX2 8).2.1 (TX2 8).2.2.1 "MeshSums" ∈ lw_tbl := mt1 (List.mem_of_getElem? (i := 153) (by decide +kernel))
theorem fX4_176 : Cond.fieldLinkNest RX4 176 (TX2 10).1 (TX2 10).2.1 (TX2 10).2.2.1 "MeshSums" ∈ lw_tbl := mt1 (List.mem_of_getElem? (i := 157) (by decide +kernel))
theorem fX4_179 : Cond.fieldLinkNest RX4 179 (TX2 7).1 (TX2 7).2.1 (TX2 7).2.2.1 "MeshSums" ∈ lw_tbl := mt1 (List.mem_of_getElem? (i := 151) (by decide +kernel))
theorem fX4_185 : Cond.fieldLinkNest RX4 185 (TX3 3).1 (TX3 3).2.1 (TX3 3).2.2.1 "MeshSums" ∈ lw_tbl := mt1 (List.mem_of_getElem? (i := 83) (by decide +kernel))
theorem fX0_9 : Cond.fieldLink RX0 9 (TX0 2).1 (TX0 2).2.1 (TX0 2).2.2.1 ∈ gtbl := gt_of ⟨mt1 (List.mem_of_getElem? (i := 126) (by decide +kernel)), by decide +kernel⟩
theorem fX0_15 : Cond.fieldLink RX0 15 (TX0 3).1 (TX0 3).2.1 (TX0 3).2.2.1 ∈ gtbl := gt_of ⟨mt1 (List.mem_of_getElem? (i := 127) (by decide +kernel)), by decide +kernel⟩
theorem fX0_18 : Cond.fieldLink RX0 18 (TX0 0).1 (TX0 0).2.1 (TX0 0).2.2.1 ∈ gtbl := gt_of ⟨mt1 (List.mem_of_getElem? (i := 123) (by decide +kernel)), by decide +kernel⟩
theorem fX0_22 : Cond.fieldLinkNest RX0 22 (TX1 0).1 (TX1 0).2.1 (TX1 0).2.2.1 "MeshSums" ∈ lw_tbl := mt1 (List.mem_of_getElem? (i := 32) (by decide +kernel))
theorem fX0_28 : Cond.fieldLinkNest RX0 28 (TX1 1).1 (TX1 1).2.1 (TX1 1).2.2.1 "MeshSums" ∈ lw_tbl := mt1 (List.mem_of_getElem? (i := 36) (by decide +kernel))
theorem fX0_31 : Cond.fieldLinkNest RX0 31 (TX1 4).1 (TX1 4).2.1 (TX1 4).2.2.1 "MeshSums" ∈ lw_tbl := mt1 (List.mem_of_getElem? (i := 44) (by decide +kernel))
theorem fX0_38 : Cond.fieldLink RX0 38 (TX0 1).1 (TX0 1).2.1 (TX0 1).2.2.1 ∈ gtbl := gt_of ⟨mt1 (List.mem_of_getElem? (i := 125) (by decide +kernel)), by decide +kernel⟩
theorem fX0_46 : Cond.fieldLinkNest RX0 46 (TX1 7).1 (TX1 7).2.1 (TX1 7).2.2.1 "MeshSums" ∈ lw_tbl := mt1 (List.mem_of_getElem? (i := 50) (by decide +kernel))
theorem fX1_9 : Cond.fieldLink RX1 9 (TX1 4).1 (TX1 4).2.1 (TX1 4).2.2.1 ∈ gtbl := gt_of ⟨mt1 (List.mem_of_getElem? (i := 43) (by decide +kernel)), by decide +kernel⟩
theorem fX1_15 : Cond.fieldLink RX1 15 (TX1 5).1 (TX1 5).2.1 (TX1 5).2.2.1 ∈ gtbl := gt_of ⟨mt1 (List.mem_of_getElem? (i := 46) (by decide +kernel)), by decide +kernel⟩
theorem fX1_18 : Cond.fieldLink RX1 18 (TX1 6).1 (TX1 6).2.1 (TX1 6).2.2.1 ∈ gtbl := gt_of ⟨mt1 (List.mem_of_getElem? (i := 48) (by decide +kernel)), by decide +kernel⟩
theorem fX1_21 : Cond.fieldLink RX1 21 (TX1 7).1 (TX1 7).2.1 (TX1 7).2.2.1 ∈ gtbl := gt_of ⟨mt1 (List.mem_of_getElem? (i := 49) (by decide +kernel)), by decide +kernel⟩
theorem fX1_28 : Cond.fieldLink RX1 28 (TX1 0).1 (TX1 0).2.1 (TX1 0).2.2.1 ∈ gtbl := gt_of ⟨mt1 (List.mem_of_getElem? (i := 31) (by decide +kernel)), by decide +kernel⟩
theorem fX1_32 : Cond.fieldLink RX1 32 (TX1 1).1 (TX1 1).2.1 (TX1 1).2.2.1 ∈ gtbl := gt_of ⟨mt1 (List.mem_of_getElem? (i := 35) (by decide +kernel)), by decide +kernel⟩
theorem fX1_35 : Cond.fieldLink RX1 35 (TX1 2).1 (TX1 2).2.1 (TX1 2).2.2.1 ∈ gtbl := gt_of ⟨mt1 (List.mem_of_getElem? (i := 38) (by decide +kernel)), by decide +kernel⟩
theorem fX1_38 : Cond.fieldLink RX1 38 (TX1 3).1 (TX1 3).2.1 (TX1 3).2.2.1 ∈ gtbl := gt_of ⟨mt1 (List.mem_of_getElem? (i := 41) (by decide +kernel)), by decide +kernel⟩
theorem fX2_9 : Cond.fieldLink RX2 9 (TX2 0).1 (TX2 0).2.1 (TX2 0).2.2.1 ∈ gtbl := gt_of ⟨mt1 (List.mem_of_getElem? (i := 143) (by decide +kernel)), by decide +kernel⟩
theorem fX2_15 : Cond.fieldLink RX2 15 (TX2 1).1 (TX2 1).2.1 (TX2 1).2.2.1 ∈ gtbl := gt_of ⟨mt1 (List.mem_of_getElem? (i := 144) (by decide +kernel)), by decide +kernel⟩
theorem fX2_19 : Cond.fieldLink RX2 19 (TX2 2).1 (TX2 2).2.1 (TX2 2).2.2.1 ∈ gtbl := gt_of ⟨mt1 (List.mem_of_getElem? (i := 145) (by decide +kernel)), by decide +kernel⟩
theorem fX2_22 : Cond.fieldLink RX2 22 (TX2 8).1 (TX2 8).2.1 (TX2 8).2.2.1 ∈ gtbl := gt_of ⟨mt1 (List.mem_of_getElem? (i := 152) (by decide +kernel)), by decide +kernel⟩
theorem fX2_25 : Cond.fieldLink RX2 25 (TX2 10).1 (TX2 10).2.1 (TX2 10).2.2.1 ∈ gtbl := gt_of ⟨mt1 (List.mem_of_getElem? (i := 156) (by decide +kernel)), by decide +kernel⟩
theorem fX2_33 : Cond.fieldLink RX2 33 (TX2 7).1 (TX2 7).2.1 (TX2 7).2.2.1 ∈ gtbl := gt_of ⟨mt1 (List.mem_of_getElem? (i := 150) (by decide +kernel)), by decide +kernel⟩
theorem fX2_51 : Cond.fieldLink RX2 51 (TX2 9).1 (TX2 9).2.1 (TX2 9).2.2.1 ∈ gtbl := gt_of ⟨mt1 (List.mem_of_getElem? (i := 154) (by decide +kernel)), by decide +kernel⟩
theorem fX2_58 : Cond.fieldLink RX2 58 (TX2 3).1 (TX2 3).2.1 (TX2 3).2.2.1 ∈ gtbl := gt_of ⟨mt1 (List.mem_of_getElem? (i := 146) (by decide +kernel)), by decide +kernel⟩
theorem fX2_61 : Cond.fieldLink RX2 61 (TX2 4).1 (TX2 4).2.1 (TX2 4).2.2.1 ∈ gtbl := gt_of ⟨mt1 (List.mem_of_getElem? (i := 147) (by decide +kernel)), by decide +kernel⟩
theorem fX2_64 : Cond.fieldLink RX2 64 (TX2 5).1 (TX2 5).2.1 (TX2 5).2.2.1 ∈ gtbl := gt_of ⟨mt1 (List.mem_of_getElem? (i := 148) (by decide +kernel)), by decide +kernel⟩
theorem fX2_70 : Cond.fieldLink RX2 70 (TX2 6).1 (TX2 6).2.1 (TX2 6).2.2.1 ∈ gtbl := gt_of ⟨mt1 (List.mem_of_getElem? (i := 149) (by decide +kernel)), by decide +kernel⟩
theorem fX3_9 : Cond.fieldLink RX3 9 (TX3 6).1 (TX3 6).2.1 (TX3 6).2.2.1 ∈ gtbl := gt_of ⟨mt1 (List.mem_of_getElem? (i := 88) (by decide +kernel)), by decide +kernel⟩
theorem fX3_15 : Cond.fieldLink RX3 15 (TX3 7).1 (TX3 7).2.1 (TX3 7).2.2.1 ∈ gtbl := gt_of ⟨mt1 (List.mem_of_getElem? (i := 89) (by decide +kernel)), by decide +kernel⟩
theorem fX3_18 : Cond.fieldLink RX3 18 (TX3 8).1 (TX3 8).2.1 (TX3 8).2.2.1 ∈ gtbl := gt_of ⟨mt1 (List.mem_of_getElem? (i := 91) (by decide +kernel)), by decide +kernel⟩
theorem fX3_21 : Cond.fieldLink RX3 21 (TX3 9).1 (TX3 9).2.1 (TX3 9).2.2.1 ∈ gtbl := gt_of ⟨mt1 (List.mem_of_getElem? (i := 92) (by decide +kernel)), by decide +kernel⟩
theorem fX3_24 : Cond.fieldLink RX3 24 (TX3 10).1 (TX3 10).2.1 (TX3 10).2.2.1 ∈ gtbl := gt_of ⟨mt1 (List.mem_of_getElem? (i := 93) (by decide +kernel)), by decide +kernel⟩
theorem fX3_27 : Cond.fieldLink RX3 27 (TX3 0).1 (TX3 0).2.1 (TX3 0).2.2.1 ∈ gtbl := gt_of ⟨mt1 (List.mem_of_getElem? (i := 77) (by decide +kernel)), by decide +kernel⟩
theorem fX3_31 : Cond.fieldLink RX3 31 (TX3 1).1 (TX3 1).2.1 (TX3 1).2.2.1 ∈ gtbl := gt_of ⟨mt1 (List.mem_of_getElem? (i := 78) (by decide +kernel)), by decide +kernel⟩
theorem fX3_35 : Cond.fieldLink RX3 35 (TX3 2).1 (TX3 2).2.1 (TX3 2).2.2.1 ∈ gtbl := gt_of ⟨mt1 (List.mem_of_getElem? (i := 80) (by decide +kernel)), by decide +kernel⟩
theorem fX3_38 : Cond.fieldLink RX3 38 (TX3 3).1 (TX3 3).2.1 (TX3 3).2.2.1 ∈ gtbl := gt_of ⟨mt1 (List.mem_of_getElem? (i := 82) (by decide +kernel)), by decide +kernel⟩
theorem fX3_41 : Cond.fieldLink RX3 41 (TX3 5).1 (TX3 5).2.1 (TX3 5).2.2.1 ∈ gtbl := gt_of ⟨mt1 (List.mem_of_getElem? (i := 86) (by decide +kernel)), by decide +kernel⟩
theorem fX3_53 : Cond.fieldLink RX3 53 (TX3 4).1 (TX3 4).2.1 (TX3 4).2.2.1 ∈ gtbl := gt_of ⟨mt1 (List.mem_of_getElem? (i := 84) (by decide +kernel)), by decide +kernel⟩
theorem fX3_62 : Cond.fieldLinkNest RX3 62 (TX1 2).1 (TX1 2).2.1 (TX1 2).2.2.1 "MeshSums" ∈ lw_tbl := mt1 (List.mem_of_getElem? (i := 40) (by decide +kernel))
theorem fX3_100 : Cond.fieldLinkNest RX3 100 (TX1 7).1 (TX1 7).2.1 (TX1 7).2.2.1 "MeshSums" ∈ lw_tbl := mt1 (List.mem_of_getElem? (i := 52) (by decide +kernel))
theorem fX3_103 : Cond.fieldLinkNest RX3 103 (TX1 4).1 (TX1 4).2.1 (TX1 4).2.2.1 "MeshSums" ∈ lw_tbl := mt1 (List.mem_of_getElem? (i := 45) (by decide +kernel))
theorem fX3_109 : Cond.fieldLinkNest RX3 109 (TX1 0).1 (TX1 0).2.1 (TX1 0).2.2.1 "MeshSums" ∈ lw_tbl := mt1 (List.mem_of_getElem? (i := 34) (by decide +kernel))
theorem fX3_130 : Cond.fieldLinkNest RX3 130 (TX1 5).1 (TX1 5).2.1 (TX1 5).2.2.1 "MeshSums" ∈ lw_tbl := mt1 (List.mem_of_getElem? (i := 47) (by decide +kernel))
theorem fX5_7 : Cond.fieldLink RX5 7 (TX5 0).1 (TX5 0).2.1 (TX5 0).2.2.1 ∈ gtbl := gt_of ⟨mt3 (List.mem_of_getElem? (i := 90) (by decide +kernel)), by decide +kernel⟩
theorem fX5_13 : Cond.fieldLink RX5 13 (TX5 1).1 (TX5 1).2.1 (TX5 1).2.2.1 ∈ gtbl := gt_of ⟨mt3 (List.mem_of_getElem? (i := 91) (by decide +kernel)), by decide +kernel⟩
theorem fX5_16 : Cond.fieldLink RX5 16 (TX5 2).1 (TX5 2).2.1 (TX5 2).2.2.1 ∈ gtbl := gt_of ⟨mt3 (List.mem_of_getElem? (i := 92) (by decide +kernel)), by decide +kernel⟩
theorem fX5_19 : Cond.fieldLink RX5 19 (TX5 3).1 (TX5 3).2.1 (TX5 3).2.2.1 ∈ gtbl := gt_of ⟨mt3 (List.mem_of_getElem? (i := 93) (by decide +kernel)), by decide +kernel⟩
theorem fX5_23 : Cond.fieldLink RX5 23 (TX5 4).1 (TX5 4).2.1 (TX5 4).2.2.1 ∈ gtbl := gt_of ⟨mt3 (List.mem_of_getElem? (i := 94) (by decide +kernel)), by decide +kernel⟩
theorem fX5_26 : Cond.fieldLink RX5 26 (TX5 5).1 (TX5 5).2.1 (TX5 5).2.2.1 ∈ gtbl := gt_of ⟨mt3 (List.mem_of_getElem? (i := 95) (by decide +kernel)), by decide +kernel⟩
theorem fX5_29 : Cond.fieldLink RX5 29 (TX5 6).1 (TX5 6).2.1 (TX5 6).2.2.1 ∈ gtbl := gt_of ⟨mt3 (List.mem_of_getElem? (i := 96) (by decide +kernel)), by decide +kernel⟩
theorem fX5_32 : Cond.fieldLink RX5 32 (TX5 7).1 (TX5 7).2.1 (TX5 7).2.2.1 ∈ gtbl := gt_of ⟨mt3 (List.mem_of_getElem? (i := 97) (by decide +kernel)), by decide +kernel⟩
theorem fX5_35 : Cond.fieldLink RX5 35 (TX5 13).1 (TX5 13).2.1 (TX5 13).2.2.1 ∈ gtbl := gt_of ⟨mt3 (List.mem_of_getElem? (i := 103) (by decide +kernel)), by decide +kernel⟩
theorem fX5_38 : Cond.fieldLink RX5 38 (TX5 14).1 (TX5 14).2.1 (TX5 14).2.2.1 ∈ gtbl := gt_of ⟨mt3 (List.mem_of_getElem? (i := 104) (by decide +kernel)), by decide +kernel⟩
theorem fX5_41 : Cond.fieldLink RX5 41 (TX5 15).1 (TX5 15).2.1 (TX5 15).2.2.1 ∈ gtbl := gt_of ⟨mt3 (List.mem_of_getElem? (i := 105) (by decide +kernel)), by decide +kernel⟩
theorem fX5_44 : Cond.fieldLink RX5 44 (TX5 16).1 (TX5 16).2.1 (TX5 16).2.2.1 ∈ gtbl := gt_of ⟨mt3 (List.mem_of_getElem? (i := 106) (by decide +kernel)), by decide +kernel⟩
theorem fX5_47 : Cond.fieldLink RX5 47 (TX5 17).1 (TX5 17).2.1 (TX5 17).2.2.1 ∈ gtbl := gt_of ⟨mt3 (List.mem_of_getElem? (i := 107) (by decide +kernel)), by decide +kernel⟩
theorem fX5_50 : Cond.fieldLink RX5 50 (TX5 18).1 (TX5 18).2.1 (TX5 18).2.2.1 ∈ gtbl := gt_of ⟨mt3 (List.mem_of_getElem? (i := 108) (by decide +kernel)), by decide +kernel⟩
theorem fX5_53 : Cond.fieldLink RX5 53 (TX5 19).1 (TX5 19).2.1 (TX5 19).2.2.1 ∈ gtbl := gt_of ⟨mt3 (List.mem_of_getElem? (i := 109) (by decide +kernel)), by decide +kernel⟩
theorem fX5_56 : Cond.fieldLink RX5 56 (TX5 20).1 (TX5 20).2.1 (TX5 20).2.2.1 ∈ gtbl := gt_of ⟨mt3 (List.mem_of_getElem? (i := 110) (by decide +kernel)), by decide +kernel⟩
theorem fX5_59 : Cond.fieldLink RX5 59 (TX5 21).1 (TX5 21).2.1 (TX5 21).2.2.1 ∈ gtbl := gt_of ⟨mt3 (List.mem_of_getElem? (i := 111) (by decide +kernel)), by decide +kernel⟩
theorem fX5_63 : Cond.fieldLink RX5 63 (TX5 22).1 (TX5 22).2.1 (TX5 22).2.2.1 ∈ gtbl := gt_of ⟨mt3 (List.mem_of_getElem? (i := 112) (by decide +kernel)), by decide +kernel⟩
theorem fX5_66 : Cond.fieldLink RX5 66 (TX5 23).1 (TX5 23).2.1 (TX5 23).2.2.1 ∈ gtbl := gt_of ⟨mt3 (List.mem_of_getElem? (i := 113) (by decide +kernel)), by decide +kernel⟩
theorem fX5_69 : Cond.fieldLink RX5 69 (TX5 24).1 (TX5 24).2.1 (TX5 24).2.2.1 ∈ gtbl := gt_of ⟨mt3 (List.mem_of_getElem? (i := 114) (by decide +kernel)), by decide +kernel⟩
theorem fX5_72 : Cond.fieldLink RX5 72 (TX5 27).1 (TX5 27).2.1 (TX5 27).2.2.1 ∈ gtbl := gt_of ⟨mt3 (List.mem_of_getElem? (i := 117) (by decide +kernel)), by decide +kernel⟩
theorem fX5_75 : Cond.fieldLink RX5 75 (TX5 28).1 (TX5 28).2.1 (TX5 28).2.2.1 ∈ gtbl := gt_of ⟨mt3 (List.mem_of_getElem? (i := 118) (by decide +kernel)), by decide +kernel⟩
theorem fX5_82 : Cond.fieldLink RX5 82 (TX5 8).1 (TX5 8).2.1 (TX5 8).2.2.1 ∈ gtbl := gt_of ⟨mt3 (List.mem_of_getElem? (i := 98) (by decide +kernel)), by decide +kernel⟩
theorem fX5_85 : Cond.fieldLink RX5 85 (TX5 9).1 (TX5 9).2.1 (TX5 9).2.2.1 ∈ gtbl := gt_of ⟨mt3 (List.mem_of_getElem? (i := 99) (by decide +kernel)), by decide +kernel⟩
theorem fX5_88 : Cond.fieldLink RX5 88 (TX5 10).1 (TX5 10).2.1 (TX5 10).2.2.1 ∈ gtbl := gt_of ⟨mt3 (List.mem_of_getElem? (i := 100) (by decide +kernel)), by decide +kernel⟩
theorem fX5_91 : Cond.fieldLink RX5 91 (TX5 11).1 (TX5 11).2.1 (TX5 11).2.2.1 ∈ gtbl := gt_of ⟨mt3 (List.mem_of_getElem? (i := 101) (by decide +kernel)), by decide +kernel⟩
theorem fX5_95 : Cond.fieldLink RX5 95 (TX5 12).1 (TX5 12).2.1 (TX5 12).2.2.1 ∈ gtbl := gt_of ⟨mt3 (List.mem_of_getElem? (i := 102) (by decide +kernel)), by decide +kernel⟩
theorem fX5_149 : Cond.fieldLink RX5 149 (TX5 25).1 (TX5 25).2.1 (TX5 25).2.2.1 ∈ gtbl := gt_of ⟨mt3 (List.mem_of_getElem? (i := 115) (by decide +kernel)), by decide +kernel⟩
theorem fX5_160 : Cond.fieldLink RX5 160 (TX5 26).1 (TX5 26).2.1 (TX5 26).2.2.1 ∈ gtbl := gt_of ⟨mt3 (List.mem_of_getElem? (i := 116) (by decide +kernel)), by decide +kernel⟩
theorem zw81 : Cond.methodLink RX4 1 Lib.objectInit ∈ gtbl := gt_of ⟨mt1 (List.mem_of_getElem? (i := 15) (by decide +kernel)), by decide +kernel⟩
theorem zw82 : Cond.instanceMethod Lib.objectInit ∈ gtbl := gt_of ⟨mt1 (List.mem_of_getElem? (i := 16) (by decide +kernel)), by decide +kernel⟩
theorem zw83 : Cond.code Lib.objectInit ⟨#[0xb1]⟩ 1 none ∈ gtbl := gt_of ⟨mt1 (List.mem_of_getElem? (i := 17) (by decide +kernel)), by decide +kernel⟩
theorem oX4_1 : Cond.methodLink RX4 1 Lib.objectInit ∈ gtbl ∧ Cond.instanceMethod Lib.objectInit ∈ gtbl ∧ Cond.code Lib.objectInit ⟨#[0xb1]⟩ 1 none ∈ gtbl := ⟨zw81, zw82, zw83⟩
theorem zw88 : Cond.code mX1_init.1 mX1_init.2.1 mX1_init.2.2.1 mX1_init.2.2.2 ∈ gtbl := gt_of ⟨mt1 (List.mem_of_getElem? (i := 22) (by decide +kernel)), by decide +kernel⟩
theorem zw68 : Cond.initialized mX1_init.1.cls ∈ gtbl := gt_of ⟨mt1 (List.mem_of_getElem? (i := 2) (by decide +kernel)), by decide +kernel⟩
theorem zw87 : Cond.instanceMethod mX1_init.1 ∈ gtbl := gt_of ⟨mt1 (List.mem_of_getElem? (i := 21) (by decide +kernel)), by decide +kernel⟩
theorem zw86n : Cond.methodLinkNest RX4 9 mX1_init.1 "MeshSums" ∈ lw_tbl := mt1 (List.mem_of_getElem? (i := 20) (by decide +kernel))
theorem zok_X1_init_0 : OkM mX1_init 0 := by decide +kernel
theorem oX4_9 : OkM mX1_init 0 ∧ Cond.code mX1_init.1 mX1_init.2.1 mX1_init.2.2.1 mX1_init.2.2.2 ∈ gtbl ∧ Cond.initialized mX1_init.1.cls ∈ gtbl ∧ Cond.methodLinkNest RX4 9 mX1_init.1 "MeshSums" ∈ lw_tbl ∧ Cond.instanceMethod mX1_init.1 ∈ gtbl ∧ mX1_init.1.name = "<init>" := ⟨zok_X1_init_0, zw88, zw68, zw86n, ⟨zw87, by decide +kernel⟩⟩
theorem zw141 : Cond.code mX3_init.1 mX3_init.2.1 mX3_init.2.2.1 mX3_init.2.2.2 ∈ gtbl := gt_of ⟨mt1 (List.mem_of_getElem? (i := 75) (by decide +kernel)), by decide +kernel⟩
theorem zw70 : Cond.initialized mX3_init.1.cls ∈ gtbl := gt_of ⟨mt1 (List.mem_of_getElem? (i := 4) (by decide +kernel)), by decide +kernel⟩
theorem zw140 : Cond.instanceMethod mX3_init.1 ∈ gtbl := gt_of ⟨mt1 (List.mem_of_getElem? (i := 74) (by decide +kernel)), by decide +kernel⟩
theorem zw139n : Cond.methodLinkNest RX4 18 mX3_init.1 "MeshSums" ∈ lw_tbl := mt1 (List.mem_of_getElem? (i := 73) (by decide +kernel))
theorem zok_X3_init_1 : OkM mX3_init 1 := by decide +kernel
theorem oX4_18 : OkM mX3_init 1 ∧ Cond.code mX3_init.1 mX3_init.2.1 mX3_init.2.2.1 mX3_init.2.2.2 ∈ gtbl ∧ Cond.initialized mX3_init.1.cls ∈ gtbl ∧ Cond.methodLinkNest RX4 18 mX3_init.1 "MeshSums" ∈ lw_tbl ∧ Cond.instanceMethod mX3_init.1 ∈ gtbl ∧ mX3_init.1.name = "<init>" := ⟨zok_X3_init_1, zw141, zw70, zw139n, ⟨zw140, by decide +kernel⟩⟩
theorem zw187 : Cond.code mX0_init.1 mX0_init.2.1 mX0_init.2.2.1 mX0_init.2.2.2 ∈ gtbl := gt_of ⟨mt1 (List.mem_of_getElem? (i := 121) (by decide +kernel)), by decide +kernel⟩
theorem zw71 : Cond.initialized mX0_init.1.cls ∈ gtbl := gt_of ⟨mt1 (List.mem_of_getElem? (i := 5) (by decide +kernel)), by decide +kernel⟩
theorem zw186 : Cond.instanceMethod mX0_init.1 ∈ gtbl := gt_of ⟨mt1 (List.mem_of_getElem? (i := 120) (by decide +kernel)), by decide +kernel⟩
theorem zw185n : Cond.methodLinkNest RX4 27 mX0_init.1 "MeshSums" ∈ lw_tbl := mt1 (List.mem_of_getElem? (i := 119) (by decide +kernel))
theorem zok_X0_init_1 : OkM mX0_init 1 := by decide +kernel
theorem oX4_27 : OkM mX0_init 1 ∧ Cond.code mX0_init.1 mX0_init.2.1 mX0_init.2.2.1 mX0_init.2.2.2 ∈ gtbl ∧ Cond.initialized mX0_init.1.cls ∈ gtbl ∧ Cond.methodLinkNest RX4 27 mX0_init.1 "MeshSums" ∈ lw_tbl ∧ Cond.instanceMethod mX0_init.1 ∈ gtbl ∧ mX0_init.1.name = "<init>" := ⟨zok_X0_init_1, zw187, zw71, zw185n, ⟨zw186, by decide +kernel⟩⟩
theorem zw207 : Cond.code mX2_init.1 mX2_init.2.1 mX2_init.2.2.1 mX2_init.2.2.2 ∈ gtbl := gt_of ⟨mt1 (List.mem_of_getElem? (i := 141) (by decide +kernel)), by decide +kernel⟩
theorem zw72 : Cond.initialized mX2_init.1.cls ∈ gtbl := gt_of ⟨mt1 (List.mem_of_getElem? (i := 6) (by decide +kernel)), by decide +kernel⟩
theorem zw206 : Cond.instanceMethod mX2_init.1 ∈ gtbl := gt_of ⟨mt1 (List.mem_of_getElem? (i := 140) (by decide +kernel)), by decide +kernel⟩
theorem zw205n : Cond.methodLinkNest RX4 34 mX2_init.1 "MeshSums" ∈ lw_tbl := mt1 (List.mem_of_getElem? (i := 139) (by decide +kernel))
theorem zok_X2_init_0 : OkM mX2_init 0 := by decide +kernel
theorem oX4_34 : OkM mX2_init 0 ∧ Cond.code mX2_init.1 mX2_init.2.1 mX2_init.2.2.1 mX2_init.2.2.2 ∈ gtbl ∧ Cond.initialized mX2_init.1.cls ∈ gtbl ∧ Cond.methodLinkNest RX4 34 mX2_init.1 "MeshSums" ∈ lw_tbl ∧ Cond.instanceMethod mX2_init.1 ∈ gtbl ∧ mX2_init.1.name = "<init>" := ⟨zok_X2_init_0, zw207, zw72, zw205n, ⟨zw206, by decide +kernel⟩⟩
theorem zw267 : Cond.code mX4_within.1 mX4_within.2.1 mX4_within.2.2.1 mX4_within.2.2.2 ∈ gtbl := gt_of ⟨mt1 (List.mem_of_getElem? (i := 201) (by decide +kernel)), by decide +kernel⟩
theorem zw67 : Cond.initialized mX4_within.1.cls ∈ gtbl := gt_of ⟨mt1 (List.mem_of_getElem? (i := 1) (by decide +kernel)), by decide +kernel⟩
theorem zw266 : Cond.static mX4_within.1 ∈ gtbl := gt_of ⟨mt1 (List.mem_of_getElem? (i := 200) (by decide +kernel)), by decide +kernel⟩
theorem zw265 : Cond.methodLink RX4 39 mX4_within.1 ∈ gtbl := gt_of ⟨mt1 (List.mem_of_getElem? (i := 199) (by decide +kernel)), by decide +kernel⟩
theorem zok_X4_within_3 : OkM mX4_within 3 := by decide +kernel
theorem oX4_39 : OkM mX4_within 3 ∧ Cond.code mX4_within.1 mX4_within.2.1 mX4_within.2.2.1 mX4_within.2.2.2 ∈ gtbl ∧ Cond.initialized mX4_within.1.cls ∈ gtbl ∧ Cond.methodLink RX4 39 mX4_within.1 ∈ gtbl ∧ Cond.static mX4_within.1 ∈ gtbl ∧ True := ⟨zok_X4_within_3, zw267, zw67, zw265, ⟨zw266, trivial⟩⟩
theorem zw93 : Cond.code mX1_renew.1 mX1_renew.2.1 mX1_renew.2.2.1 mX1_renew.2.2.2 ∈ gtbl := gt_of ⟨mt1 (List.mem_of_getElem? (i := 27) (by decide +kernel)), by decide +kernel⟩
theorem zw92 : Cond.instanceMethod mX1_renew.1 ∈ gtbl := gt_of ⟨mt1 (List.mem_of_getElem? (i := 26) (by decide +kernel)), by decide +kernel⟩
theorem zw0 : Cond.selects mX1_renew.1.cls mX1_renew.1 mX1_renew.1 ∈ gtbl := gt_of ⟨mt0 (List.mem_of_getElem? (i := 0) (by decide +kernel)), by decide +kernel⟩
theorem zw268n : Cond.methodLinkNest RX4 43 mX1_renew.1 "MeshSums" ∈ lw_tbl := mt1 (List.mem_of_getElem? (i := 202) (by decide +kernel))
theorem zok_X1_renew_3 : OkM mX1_renew 3 := by decide +kernel
theorem oX4_43 : OkM mX1_renew 3 ∧ Cond.code mX1_renew.1 mX1_renew.2.1 mX1_renew.2.2.1 mX1_renew.2.2.2 ∈ gtbl ∧ Cond.initialized mX1_renew.1.cls ∈ gtbl ∧ Cond.methodLinkNest RX4 43 mX1_renew.1 "MeshSums" ∈ lw_tbl ∧ Cond.instanceMethod mX1_renew.1 ∈ gtbl ∧ Cond.selects mX1_renew.1.cls mX1_renew.1 mX1_renew.1 ∈ gtbl := ⟨zok_X1_renew_3, zw93, zw68, zw268n, ⟨zw92, zw0⟩⟩
theorem zw272 : Cond.code mX3_drop.1 mX3_drop.2.1 mX3_drop.2.2.1 mX3_drop.2.2.2 ∈ gtbl := gt_of ⟨mt1 (List.mem_of_getElem? (i := 206) (by decide +kernel)), by decide +kernel⟩
theorem zw271 : Cond.instanceMethod mX3_drop.1 ∈ gtbl := gt_of ⟨mt1 (List.mem_of_getElem? (i := 205) (by decide +kernel)), by decide +kernel⟩
theorem zw1 : Cond.selects mX3_drop.1.cls mX3_drop.1 mX3_drop.1 ∈ gtbl := gt_of ⟨mt0 (List.mem_of_getElem? (i := 1) (by decide +kernel)), by decide +kernel⟩
theorem zw269n : Cond.methodLinkNest RX4 47 mX3_drop.1 "MeshSums" ∈ lw_tbl := mt1 (List.mem_of_getElem? (i := 203) (by decide +kernel))
theorem zok_X3_drop_0 : OkM mX3_drop 0 := by decide +kernel
theorem oX4_47 : OkM mX3_drop 0 ∧ Cond.code mX3_drop.1 mX3_drop.2.1 mX3_drop.2.2.1 mX3_drop.2.2.2 ∈ gtbl ∧ Cond.initialized mX3_drop.1.cls ∈ gtbl ∧ Cond.methodLinkNest RX4 47 mX3_drop.1 "MeshSums" ∈ lw_tbl ∧ Cond.instanceMethod mX3_drop.1 ∈ gtbl ∧ Cond.selects mX3_drop.1.cls mX3_drop.1 mX3_drop.1 ∈ gtbl := ⟨zok_X3_drop_0, zw272, zw70, zw269n, ⟨zw271, zw1⟩⟩
theorem zw280 : Cond.code mX1_hasCell.1 mX1_hasCell.2.1 mX1_hasCell.2.2.1 mX1_hasCell.2.2.2 ∈ gtbl := gt_of ⟨mt1 (List.mem_of_getElem? (i := 214) (by decide +kernel)), by decide +kernel⟩
theorem zw279 : Cond.instanceMethod mX1_hasCell.1 ∈ gtbl := gt_of ⟨mt1 (List.mem_of_getElem? (i := 213) (by decide +kernel)), by decide +kernel⟩
theorem zw2 : Cond.selects mX1_hasCell.1.cls mX1_hasCell.1 mX1_hasCell.1 ∈ gtbl := gt_of ⟨mt0 (List.mem_of_getElem? (i := 2) (by decide +kernel)), by decide +kernel⟩
theorem zw277n : Cond.methodLinkNest RX4 54 mX1_hasCell.1 "MeshSums" ∈ lw_tbl := mt1 (List.mem_of_getElem? (i := 211) (by decide +kernel))
theorem zok_X1_hasCell_2 : OkM mX1_hasCell 2 := by decide +kernel
theorem oX4_54 : OkM mX1_hasCell 2 ∧ Cond.code mX1_hasCell.1 mX1_hasCell.2.1 mX1_hasCell.2.2.1 mX1_hasCell.2.2.2 ∈ gtbl ∧ Cond.initialized mX1_hasCell.1.cls ∈ gtbl ∧ Cond.methodLinkNest RX4 54 mX1_hasCell.1 "MeshSums" ∈ lw_tbl ∧ Cond.instanceMethod mX1_hasCell.1 ∈ gtbl ∧ Cond.selects mX1_hasCell.1.cls mX1_hasCell.1 mX1_hasCell.1 ∈ gtbl := ⟨zok_X1_hasCell_2, zw280, zw68, zw277n, ⟨zw279, zw2⟩⟩
theorem zw285 : Cond.code mX1_place.1 mX1_place.2.1 mX1_place.2.2.1 mX1_place.2.2.2 ∈ gtbl := gt_of ⟨mt1 (List.mem_of_getElem? (i := 219) (by decide +kernel)), by decide +kernel⟩
theorem zw284 : Cond.instanceMethod mX1_place.1 ∈ gtbl := gt_of ⟨mt1 (List.mem_of_getElem? (i := 218) (by decide +kernel)), by decide +kernel⟩
theorem zw3 : Cond.selects mX1_place.1.cls mX1_place.1 mX1_place.1 ∈ gtbl := gt_of ⟨mt0 (List.mem_of_getElem? (i := 3) (by decide +kernel)), by decide +kernel⟩
theorem zw282n : Cond.methodLinkNest RX4 62 mX1_place.1 "MeshSums" ∈ lw_tbl := mt1 (List.mem_of_getElem? (i := 216) (by decide +kernel))
theorem zok_X1_place_2 : OkM mX1_place 2 := by decide +kernel
theorem oX4_62 : OkM mX1_place 2 ∧ Cond.code mX1_place.1 mX1_place.2.1 mX1_place.2.2.1 mX1_place.2.2.2 ∈ gtbl ∧ Cond.initialized mX1_place.1.cls ∈ gtbl ∧ Cond.methodLinkNest RX4 62 mX1_place.1 "MeshSums" ∈ lw_tbl ∧ Cond.instanceMethod mX1_place.1 ∈ gtbl ∧ Cond.selects mX1_place.1.cls mX1_place.1 mX1_place.1 ∈ gtbl := ⟨zok_X1_place_2, zw285, zw68, zw282n, ⟨zw284, zw3⟩⟩
theorem zw289 : Cond.code mX1_sticksAtAnother.1 mX1_sticksAtAnother.2.1 mX1_sticksAtAnother.2.2.1 mX1_sticksAtAnother.2.2.2 ∈ gtbl := gt_of ⟨mt1 (List.mem_of_getElem? (i := 223) (by decide +kernel)), by decide +kernel⟩
theorem zw288 : Cond.instanceMethod mX1_sticksAtAnother.1 ∈ gtbl := gt_of ⟨mt1 (List.mem_of_getElem? (i := 222) (by decide +kernel)), by decide +kernel⟩
theorem zw4 : Cond.selects mX1_sticksAtAnother.1.cls mX1_sticksAtAnother.1 mX1_sticksAtAnother.1 ∈ gtbl := gt_of ⟨mt0 (List.mem_of_getElem? (i := 4) (by decide +kernel)), by decide +kernel⟩
theorem zw286n : Cond.methodLinkNest RX4 66 mX1_sticksAtAnother.1 "MeshSums" ∈ lw_tbl := mt1 (List.mem_of_getElem? (i := 220) (by decide +kernel))
theorem zok_X1_sticksAtAnother_2 : OkM mX1_sticksAtAnother 2 := by decide +kernel
theorem oX4_66 : OkM mX1_sticksAtAnother 2 ∧ Cond.code mX1_sticksAtAnother.1 mX1_sticksAtAnother.2.1 mX1_sticksAtAnother.2.2.1 mX1_sticksAtAnother.2.2.2 ∈ gtbl ∧ Cond.initialized mX1_sticksAtAnother.1.cls ∈ gtbl ∧ Cond.methodLinkNest RX4 66 mX1_sticksAtAnother.1 "MeshSums" ∈ lw_tbl ∧ Cond.instanceMethod mX1_sticksAtAnother.1 ∈ gtbl ∧ Cond.selects mX1_sticksAtAnother.1.cls mX1_sticksAtAnother.1 mX1_sticksAtAnother.1 ∈ gtbl := ⟨zok_X1_sticksAtAnother_2, zw289, zw68, zw286n, ⟨zw288, zw4⟩⟩
theorem zw297 : Cond.code mX1_put.1 mX1_put.2.1 mX1_put.2.2.1 mX1_put.2.2.2 ∈ gtbl := gt_of ⟨mt1 (List.mem_of_getElem? (i := 231) (by decide +kernel)), by decide +kernel⟩
theorem zw296 : Cond.instanceMethod mX1_put.1 ∈ gtbl := gt_of ⟨mt1 (List.mem_of_getElem? (i := 230) (by decide +kernel)), by decide +kernel⟩
theorem zw6 : Cond.selects mX1_put.1.cls mX1_put.1 mX1_put.1 ∈ gtbl := gt_of ⟨mt0 (List.mem_of_getElem? (i := 6) (by decide +kernel)), by decide +kernel⟩
theorem zw294n : Cond.methodLinkNest RX4 69 mX1_put.1 "MeshSums" ∈ lw_tbl := mt1 (List.mem_of_getElem? (i := 228) (by decide +kernel))
theorem zok_X1_put_2 : OkM mX1_put 2 := by decide +kernel
theorem oX4_69 : OkM mX1_put 2 ∧ Cond.code mX1_put.1 mX1_put.2.1 mX1_put.2.2.1 mX1_put.2.2.2 ∈ gtbl ∧ Cond.initialized mX1_put.1.cls ∈ gtbl ∧ Cond.methodLinkNest RX4 69 mX1_put.1 "MeshSums" ∈ lw_tbl ∧ Cond.instanceMethod mX1_put.1 ∈ gtbl ∧ Cond.selects mX1_put.1.cls mX1_put.1 mX1_put.1 ∈ gtbl := ⟨zok_X1_put_2, zw297, zw68, zw294n, ⟨zw296, zw6⟩⟩
theorem zw305 : Cond.code mX1_hold.1 mX1_hold.2.1 mX1_hold.2.2.1 mX1_hold.2.2.2 ∈ gtbl := gt_of ⟨mt1 (List.mem_of_getElem? (i := 239) (by decide +kernel)), by decide +kernel⟩
theorem zw304 : Cond.instanceMethod mX1_hold.1 ∈ gtbl := gt_of ⟨mt1 (List.mem_of_getElem? (i := 238) (by decide +kernel)), by decide +kernel⟩
theorem zw7 : Cond.selects mX1_hold.1.cls mX1_hold.1 mX1_hold.1 ∈ gtbl := gt_of ⟨mt0 (List.mem_of_getElem? (i := 7) (by decide +kernel)), by decide +kernel⟩
theorem zw302n : Cond.methodLinkNest RX4 73 mX1_hold.1 "MeshSums" ∈ lw_tbl := mt1 (List.mem_of_getElem? (i := 236) (by decide +kernel))
theorem zok_X1_hold_2 : OkM mX1_hold 2 := by decide +kernel
theorem oX4_73 : OkM mX1_hold 2 ∧ Cond.code mX1_hold.1 mX1_hold.2.1 mX1_hold.2.2.1 mX1_hold.2.2.2 ∈ gtbl ∧ Cond.initialized mX1_hold.1.cls ∈ gtbl ∧ Cond.methodLinkNest RX4 73 mX1_hold.1 "MeshSums" ∈ lw_tbl ∧ Cond.instanceMethod mX1_hold.1 ∈ gtbl ∧ Cond.selects mX1_hold.1.cls mX1_hold.1 mX1_hold.1 ∈ gtbl := ⟨zok_X1_hold_2, zw305, zw68, zw302n, ⟨zw304, zw7⟩⟩
theorem zw313 : Cond.code mX1_tellCell.1 mX1_tellCell.2.1 mX1_tellCell.2.2.1 mX1_tellCell.2.2.2 ∈ gtbl := gt_of ⟨mt2 (List.mem_of_getElem? (i := 7) (by decide +kernel)), by decide +kernel⟩
theorem zw312 : Cond.instanceMethod mX1_tellCell.1 ∈ gtbl := gt_of ⟨mt2 (List.mem_of_getElem? (i := 6) (by decide +kernel)), by decide +kernel⟩
theorem zw8 : Cond.selects mX1_tellCell.1.cls mX1_tellCell.1 mX1_tellCell.1 ∈ gtbl := gt_of ⟨mt0 (List.mem_of_getElem? (i := 8) (by decide +kernel)), by decide +kernel⟩
theorem zw310n : Cond.methodLinkNest RX4 76 mX1_tellCell.1 "MeshSums" ∈ lw_tbl := mt2 (List.mem_of_getElem? (i := 4) (by decide +kernel))
theorem zok_X1_tellCell_2 : OkM mX1_tellCell 2 := by decide +kernel
theorem oX4_76 : OkM mX1_tellCell 2 ∧ Cond.code mX1_tellCell.1 mX1_tellCell.2.1 mX1_tellCell.2.2.1 mX1_tellCell.2.2.2 ∈ gtbl ∧ Cond.initialized mX1_tellCell.1.cls ∈ gtbl ∧ Cond.methodLinkNest RX4 76 mX1_tellCell.1 "MeshSums" ∈ lw_tbl ∧ Cond.instanceMethod mX1_tellCell.1 ∈ gtbl ∧ Cond.selects mX1_tellCell.1.cls mX1_tellCell.1 mX1_tellCell.1 ∈ gtbl := ⟨zok_X1_tellCell_2, zw313, zw68, zw310n, ⟨zw312, zw8⟩⟩
theorem zw329 : Cond.code mX1_columnSum.1 mX1_columnSum.2.1 mX1_columnSum.2.2.1 mX1_columnSum.2.2.2 ∈ gtbl := gt_of ⟨mt2 (List.mem_of_getElem? (i := 23) (by decide +kernel)), by decide +kernel⟩
theorem zw328 : Cond.instanceMethod mX1_columnSum.1 ∈ gtbl := gt_of ⟨mt2 (List.mem_of_getElem? (i := 22) (by decide +kernel)), by decide +kernel⟩
theorem zw9 : Cond.selects mX1_columnSum.1.cls mX1_columnSum.1 mX1_columnSum.1 ∈ gtbl := gt_of ⟨mt0 (List.mem_of_getElem? (i := 9) (by decide +kernel)), by decide +kernel⟩
theorem zw326n : Cond.methodLinkNest RX4 92 mX1_columnSum.1 "MeshSums" ∈ lw_tbl := mt2 (List.mem_of_getElem? (i := 20) (by decide +kernel))
theorem zok_X1_columnSum_1 : OkM mX1_columnSum 1 := by decide +kernel
theorem oX4_92 : OkM mX1_columnSum 1 ∧ Cond.code mX1_columnSum.1 mX1_columnSum.2.1 mX1_columnSum.2.2.1 mX1_columnSum.2.2.2 ∈ gtbl ∧ Cond.initialized mX1_columnSum.1.cls ∈ gtbl ∧ Cond.methodLinkNest RX4 92 mX1_columnSum.1 "MeshSums" ∈ lw_tbl ∧ Cond.instanceMethod mX1_columnSum.1 ∈ gtbl ∧ Cond.selects mX1_columnSum.1.cls mX1_columnSum.1 mX1_columnSum.1 ∈ gtbl := ⟨zok_X1_columnSum_1, zw329, zw68, zw326n, ⟨zw328, zw9⟩⟩
theorem zw334 : Cond.code mX1_convert.1 mX1_convert.2.1 mX1_convert.2.2.1 mX1_convert.2.2.2 ∈ gtbl := gt_of ⟨mt2 (List.mem_of_getElem? (i := 28) (by decide +kernel)), by decide +kernel⟩
theorem zw333 : Cond.instanceMethod mX1_convert.1 ∈ gtbl := gt_of ⟨mt2 (List.mem_of_getElem? (i := 27) (by decide +kernel)), by decide +kernel⟩
theorem zw10 : Cond.selects mX1_convert.1.cls mX1_convert.1 mX1_convert.1 ∈ gtbl := gt_of ⟨mt0 (List.mem_of_getElem? (i := 10) (by decide +kernel)), by decide +kernel⟩
theorem zw331n : Cond.methodLinkNest RX4 96 mX1_convert.1 "MeshSums" ∈ lw_tbl := mt2 (List.mem_of_getElem? (i := 25) (by decide +kernel))
theorem zok_X1_convert_1 : OkM mX1_convert 1 := by decide +kernel
theorem oX4_96 : OkM mX1_convert 1 ∧ Cond.code mX1_convert.1 mX1_convert.2.1 mX1_convert.2.2.1 mX1_convert.2.2.2 ∈ gtbl ∧ Cond.initialized mX1_convert.1.cls ∈ gtbl ∧ Cond.methodLinkNest RX4 96 mX1_convert.1 "MeshSums" ∈ lw_tbl ∧ Cond.instanceMethod mX1_convert.1 ∈ gtbl ∧ Cond.selects mX1_convert.1.cls mX1_convert.1 mX1_convert.1 ∈ gtbl := ⟨zok_X1_convert_1, zw334, zw68, zw331n, ⟨zw333, zw10⟩⟩
theorem zw345 : Cond.code mX3_begin.1 mX3_begin.2.1 mX3_begin.2.2.1 mX3_begin.2.2.2 ∈ gtbl := gt_of ⟨mt2 (List.mem_of_getElem? (i := 39) (by decide +kernel)), by decide +kernel⟩
theorem zw344 : Cond.instanceMethod mX3_begin.1 ∈ gtbl := gt_of ⟨mt2 (List.mem_of_getElem? (i := 38) (by decide +kernel)), by decide +kernel⟩
theorem zw11 : Cond.selects mX3_begin.1.cls mX3_begin.1 mX3_begin.1 ∈ gtbl := gt_of ⟨mt0 (List.mem_of_getElem? (i := 11) (by decide +kernel)), by decide +kernel⟩
theorem zw342n : Cond.methodLinkNest RX4 99 mX3_begin.1 "MeshSums" ∈ lw_tbl := mt2 (List.mem_of_getElem? (i := 36) (by decide +kernel))
theorem zok_X3_begin_3 : OkM mX3_begin 3 := by decide +kernel
theorem oX4_99 : OkM mX3_begin 3 ∧ Cond.code mX3_begin.1 mX3_begin.2.1 mX3_begin.2.2.1 mX3_begin.2.2.2 ∈ gtbl ∧ Cond.initialized mX3_begin.1.cls ∈ gtbl ∧ Cond.methodLinkNest RX4 99 mX3_begin.1 "MeshSums" ∈ lw_tbl ∧ Cond.instanceMethod mX3_begin.1 ∈ gtbl ∧ Cond.selects mX3_begin.1.cls mX3_begin.1 mX3_begin.1 ∈ gtbl := ⟨zok_X3_begin_3, zw345, zw70, zw342n, ⟨zw344, zw11⟩⟩
theorem zw362 : Cond.code mX3_exchange.1 mX3_exchange.2.1 mX3_exchange.2.2.1 mX3_exchange.2.2.2 ∈ gtbl := gt_of ⟨mt2 (List.mem_of_getElem? (i := 56) (by decide +kernel)), by decide +kernel⟩
theorem zw361 : Cond.instanceMethod mX3_exchange.1 ∈ gtbl := gt_of ⟨mt2 (List.mem_of_getElem? (i := 55) (by decide +kernel)), by decide +kernel⟩
theorem zw13 : Cond.selects mX3_exchange.1.cls mX3_exchange.1 mX3_exchange.1 ∈ gtbl := gt_of ⟨mt0 (List.mem_of_getElem? (i := 13) (by decide +kernel)), by decide +kernel⟩
theorem zw359n : Cond.methodLinkNest RX4 112 mX3_exchange.1 "MeshSums" ∈ lw_tbl := mt2 (List.mem_of_getElem? (i := 53) (by decide +kernel))
theorem zok_X3_exchange_3 : OkM mX3_exchange 3 := by decide +kernel
theorem oX4_112 : OkM mX3_exchange 3 ∧ Cond.code mX3_exchange.1 mX3_exchange.2.1 mX3_exchange.2.2.1 mX3_exchange.2.2.2 ∈ gtbl ∧ Cond.initialized mX3_exchange.1.cls ∈ gtbl ∧ Cond.methodLinkNest RX4 112 mX3_exchange.1 "MeshSums" ∈ lw_tbl ∧ Cond.instanceMethod mX3_exchange.1 ∈ gtbl ∧ Cond.selects mX3_exchange.1.cls mX3_exchange.1 mX3_exchange.1 ∈ gtbl := ⟨zok_X3_exchange_3, zw362, zw70, zw359n, ⟨zw361, zw13⟩⟩
theorem zw374 : Cond.code mX3_exists.1 mX3_exists.2.1 mX3_exists.2.2.1 mX3_exists.2.2.2 ∈ gtbl := gt_of ⟨mt2 (List.mem_of_getElem? (i := 68) (by decide +kernel)), by decide +kernel⟩
theorem zw373 : Cond.instanceMethod mX3_exists.1 ∈ gtbl := gt_of ⟨mt2 (List.mem_of_getElem? (i := 67) (by decide +kernel)), by decide +kernel⟩
theorem zw15 : Cond.selects mX3_exists.1.cls mX3_exists.1 mX3_exists.1 ∈ gtbl := gt_of ⟨mt0 (List.mem_of_getElem? (i := 15) (by decide +kernel)), by decide +kernel⟩
theorem zw371n : Cond.methodLinkNest RX4 116 mX3_exists.1 "MeshSums" ∈ lw_tbl := mt2 (List.mem_of_getElem? (i := 65) (by decide +kernel))
theorem zok_X3_exists_0 : OkM mX3_exists 0 := by decide +kernel
theorem oX4_116 : OkM mX3_exists 0 ∧ Cond.code mX3_exists.1 mX3_exists.2.1 mX3_exists.2.2.1 mX3_exists.2.2.2 ∈ gtbl ∧ Cond.initialized mX3_exists.1.cls ∈ gtbl ∧ Cond.methodLinkNest RX4 116 mX3_exists.1 "MeshSums" ∈ lw_tbl ∧ Cond.instanceMethod mX3_exists.1 ∈ gtbl ∧ Cond.selects mX3_exists.1.cls mX3_exists.1 mX3_exists.1 ∈ gtbl := ⟨zok_X3_exists_0, zw374, zw70, zw371n, ⟨zw373, zw15⟩⟩
theorem zw378 : Cond.code mX3_layAll.1 mX3_layAll.2.1 mX3_layAll.2.2.1 mX3_layAll.2.2.2 ∈ gtbl := gt_of ⟨mt2 (List.mem_of_getElem? (i := 72) (by decide +kernel)), by decide +kernel⟩
theorem zw377 : Cond.instanceMethod mX3_layAll.1 ∈ gtbl := gt_of ⟨mt2 (List.mem_of_getElem? (i := 71) (by decide +kernel)), by decide +kernel⟩
theorem zw16 : Cond.selects mX3_layAll.1.cls mX3_layAll.1 mX3_layAll.1 ∈ gtbl := gt_of ⟨mt0 (List.mem_of_getElem? (i := 16) (by decide +kernel)), by decide +kernel⟩
theorem zw375n : Cond.methodLinkNest RX4 120 mX3_layAll.1 "MeshSums" ∈ lw_tbl := mt2 (List.mem_of_getElem? (i := 69) (by decide +kernel))
theorem zok_X3_layAll_0 : OkM mX3_layAll 0 := by decide +kernel
theorem oX4_120 : OkM mX3_layAll 0 ∧ Cond.code mX3_layAll.1 mX3_layAll.2.1 mX3_layAll.2.2.1 mX3_layAll.2.2.2 ∈ gtbl ∧ Cond.initialized mX3_layAll.1.cls ∈ gtbl ∧ Cond.methodLinkNest RX4 120 mX3_layAll.1 "MeshSums" ∈ lw_tbl ∧ Cond.instanceMethod mX3_layAll.1 ∈ gtbl ∧ Cond.selects mX3_layAll.1.cls mX3_layAll.1 mX3_layAll.1 ∈ gtbl := ⟨zok_X3_layAll_0, zw378, zw70, zw375n, ⟨zw377, zw16⟩⟩
theorem zw401 : Cond.code mX3_meshProduct.1 mX3_meshProduct.2.1 mX3_meshProduct.2.2.1 mX3_meshProduct.2.2.2 ∈ gtbl := gt_of ⟨mt2 (List.mem_of_getElem? (i := 95) (by decide +kernel)), by decide +kernel⟩
theorem zw400 : Cond.instanceMethod mX3_meshProduct.1 ∈ gtbl := gt_of ⟨mt2 (List.mem_of_getElem? (i := 94) (by decide +kernel)), by decide +kernel⟩
theorem zw19 : Cond.selects mX3_meshProduct.1.cls mX3_meshProduct.1 mX3_meshProduct.1 ∈ gtbl := gt_of ⟨mt0 (List.mem_of_getElem? (i := 19) (by decide +kernel)), by decide +kernel⟩
theorem zw398n : Cond.methodLinkNest RX4 129 mX3_meshProduct.1 "MeshSums" ∈ lw_tbl := mt2 (List.mem_of_getElem? (i := 92) (by decide +kernel))
theorem zok_X3_meshProduct_1 : OkM mX3_meshProduct 1 := by decide +kernel
theorem oX4_129 : OkM mX3_meshProduct 1 ∧ Cond.code mX3_meshProduct.1 mX3_meshProduct.2.1 mX3_meshProduct.2.2.1 mX3_meshProduct.2.2.2 ∈ gtbl ∧ Cond.initialized mX3_meshProduct.1.cls ∈ gtbl ∧ Cond.methodLinkNest RX4 129 mX3_meshProduct.1 "MeshSums" ∈ lw_tbl ∧ Cond.instanceMethod mX3_meshProduct.1 ∈ gtbl ∧ Cond.selects mX3_meshProduct.1.cls mX3_meshProduct.1 mX3_meshProduct.1 ∈ gtbl := ⟨zok_X3_meshProduct_1, zw401, zw70, zw398n, ⟨zw400, zw19⟩⟩
theorem zw414 : Cond.code mX3_trueProduct.1 mX3_trueProduct.2.1 mX3_trueProduct.2.2.1 mX3_trueProduct.2.2.2 ∈ gtbl := gt_of ⟨mt2 (List.mem_of_getElem? (i := 108) (by decide +kernel)), by decide +kernel⟩
theorem zw413 : Cond.instanceMethod mX3_trueProduct.1 ∈ gtbl := gt_of ⟨mt2 (List.mem_of_getElem? (i := 107) (by decide +kernel)), by decide +kernel⟩
theorem zw21 : Cond.selects mX3_trueProduct.1.cls mX3_trueProduct.1 mX3_trueProduct.1 ∈ gtbl := gt_of ⟨mt0 (List.mem_of_getElem? (i := 21) (by decide +kernel)), by decide +kernel⟩
theorem zw411n : Cond.methodLinkNest RX4 133 mX3_trueProduct.1 "MeshSums" ∈ lw_tbl := mt2 (List.mem_of_getElem? (i := 105) (by decide +kernel))
theorem zok_X3_trueProduct_1 : OkM mX3_trueProduct 1 := by decide +kernel
theorem oX4_133 : OkM mX3_trueProduct 1 ∧ Cond.code mX3_trueProduct.1 mX3_trueProduct.2.1 mX3_trueProduct.2.2.1 mX3_trueProduct.2.2.2 ∈ gtbl ∧ Cond.initialized mX3_trueProduct.1.cls ∈ gtbl ∧ Cond.methodLinkNest RX4 133 mX3_trueProduct.1 "MeshSums" ∈ lw_tbl ∧ Cond.instanceMethod mX3_trueProduct.1 ∈ gtbl ∧ Cond.selects mX3_trueProduct.1.cls mX3_trueProduct.1 mX3_trueProduct.1 ∈ gtbl := ⟨zok_X3_trueProduct_1, zw414, zw70, zw411n, ⟨zw413, zw21⟩⟩
theorem zw422 : Cond.code mX3_bitsEnough.1 mX3_bitsEnough.2.1 mX3_bitsEnough.2.2.1 mX3_bitsEnough.2.2.2 ∈ gtbl := gt_of ⟨mt2 (List.mem_of_getElem? (i := 116) (by decide +kernel)), by decide +kernel⟩
theorem zw421 : Cond.instanceMethod mX3_bitsEnough.1 ∈ gtbl := gt_of ⟨mt2 (List.mem_of_getElem? (i := 115) (by decide +kernel)), by decide +kernel⟩
theorem zw22 : Cond.selects mX3_bitsEnough.1.cls mX3_bitsEnough.1 mX3_bitsEnough.1 ∈ gtbl := gt_of ⟨mt0 (List.mem_of_getElem? (i := 22) (by decide +kernel)), by decide +kernel⟩
theorem zw419n : Cond.methodLinkNest RX4 136 mX3_bitsEnough.1 "MeshSums" ∈ lw_tbl := mt2 (List.mem_of_getElem? (i := 113) (by decide +kernel))
theorem zok_X3_bitsEnough_0 : OkM mX3_bitsEnough 0 := by decide +kernel
theorem oX4_136 : OkM mX3_bitsEnough 0 ∧ Cond.code mX3_bitsEnough.1 mX3_bitsEnough.2.1 mX3_bitsEnough.2.2.1 mX3_bitsEnough.2.2.2 ∈ gtbl ∧ Cond.initialized mX3_bitsEnough.1.cls ∈ gtbl ∧ Cond.methodLinkNest RX4 136 mX3_bitsEnough.1 "MeshSums" ∈ lw_tbl ∧ Cond.instanceMethod mX3_bitsEnough.1 ∈ gtbl ∧ Cond.selects mX3_bitsEnough.1.cls mX3_bitsEnough.1 mX3_bitsEnough.1 ∈ gtbl := ⟨zok_X3_bitsEnough_0, zw422, zw70, zw419n, ⟨zw421, zw22⟩⟩
theorem zw430 : Cond.code mX3_mapAnew.1 mX3_mapAnew.2.1 mX3_mapAnew.2.2.1 mX3_mapAnew.2.2.2 ∈ gtbl := gt_of ⟨mt2 (List.mem_of_getElem? (i := 124) (by decide +kernel)), by decide +kernel⟩
theorem zw429 : Cond.instanceMethod mX3_mapAnew.1 ∈ gtbl := gt_of ⟨mt2 (List.mem_of_getElem? (i := 123) (by decide +kernel)), by decide +kernel⟩
theorem zw23 : Cond.selects mX3_mapAnew.1.cls mX3_mapAnew.1 mX3_mapAnew.1 ∈ gtbl := gt_of ⟨mt0 (List.mem_of_getElem? (i := 23) (by decide +kernel)), by decide +kernel⟩
theorem zw427n : Cond.methodLinkNest RX4 139 mX3_mapAnew.1 "MeshSums" ∈ lw_tbl := mt2 (List.mem_of_getElem? (i := 121) (by decide +kernel))
theorem zok_X3_mapAnew_0 : OkM mX3_mapAnew 0 := by decide +kernel
theorem oX4_139 : OkM mX3_mapAnew 0 ∧ Cond.code mX3_mapAnew.1 mX3_mapAnew.2.1 mX3_mapAnew.2.2.1 mX3_mapAnew.2.2.2 ∈ gtbl ∧ Cond.initialized mX3_mapAnew.1.cls ∈ gtbl ∧ Cond.methodLinkNest RX4 139 mX3_mapAnew.1 "MeshSums" ∈ lw_tbl ∧ Cond.instanceMethod mX3_mapAnew.1 ∈ gtbl ∧ Cond.selects mX3_mapAnew.1.cls mX3_mapAnew.1 mX3_mapAnew.1 ∈ gtbl := ⟨zok_X3_mapAnew_0, zw430, zw70, zw427n, ⟨zw429, zw23⟩⟩
theorem zw475 : Cond.code mX0_takeAnew.1 mX0_takeAnew.2.1 mX0_takeAnew.2.2.1 mX0_takeAnew.2.2.2 ∈ gtbl := gt_of ⟨mt2 (List.mem_of_getElem? (i := 169) (by decide +kernel)), by decide +kernel⟩
theorem zw474 : Cond.instanceMethod mX0_takeAnew.1 ∈ gtbl := gt_of ⟨mt2 (List.mem_of_getElem? (i := 168) (by decide +kernel)), by decide +kernel⟩
theorem zw30 : Cond.selects mX0_takeAnew.1.cls mX0_takeAnew.1 mX0_takeAnew.1 ∈ gtbl := gt_of ⟨mt0 (List.mem_of_getElem? (i := 30) (by decide +kernel)), by decide +kernel⟩
theorem zw472n : Cond.methodLinkNest RX4 145 mX0_takeAnew.1 "MeshSums" ∈ lw_tbl := mt2 (List.mem_of_getElem? (i := 166) (by decide +kernel))
theorem zok_X0_takeAnew_0 : OkM mX0_takeAnew 0 := by decide +kernel
theorem oX4_145 : OkM mX0_takeAnew 0 ∧ Cond.code mX0_takeAnew.1 mX0_takeAnew.2.1 mX0_takeAnew.2.2.1 mX0_takeAnew.2.2.2 ∈ gtbl ∧ Cond.initialized mX0_takeAnew.1.cls ∈ gtbl ∧ Cond.methodLinkNest RX4 145 mX0_takeAnew.1 "MeshSums" ∈ lw_tbl ∧ Cond.instanceMethod mX0_takeAnew.1 ∈ gtbl ∧ Cond.selects mX0_takeAnew.1.cls mX0_takeAnew.1 mX0_takeAnew.1 ∈ gtbl := ⟨zok_X0_takeAnew_0, zw475, zw71, zw472n, ⟨zw474, zw30⟩⟩
theorem zw484 : Cond.code mX0_wrongColumn.1 mX0_wrongColumn.2.1 mX0_wrongColumn.2.2.1 mX0_wrongColumn.2.2.2 ∈ gtbl := gt_of ⟨mt2 (List.mem_of_getElem? (i := 178) (by decide +kernel)), by decide +kernel⟩
theorem zw483 : Cond.instanceMethod mX0_wrongColumn.1 ∈ gtbl := gt_of ⟨mt2 (List.mem_of_getElem? (i := 177) (by decide +kernel)), by decide +kernel⟩
theorem zw31 : Cond.selects mX0_wrongColumn.1.cls mX0_wrongColumn.1 mX0_wrongColumn.1 ∈ gtbl := gt_of ⟨mt0 (List.mem_of_getElem? (i := 31) (by decide +kernel)), by decide +kernel⟩
theorem zw481n : Cond.methodLinkNest RX4 148 mX0_wrongColumn.1 "MeshSums" ∈ lw_tbl := mt2 (List.mem_of_getElem? (i := 175) (by decide +kernel))
theorem zok_X0_wrongColumn_0 : OkM mX0_wrongColumn 0 := by decide +kernel
theorem oX4_148 : OkM mX0_wrongColumn 0 ∧ Cond.code mX0_wrongColumn.1 mX0_wrongColumn.2.1 mX0_wrongColumn.2.2.1 mX0_wrongColumn.2.2.2 ∈ gtbl ∧ Cond.initialized mX0_wrongColumn.1.cls ∈ gtbl ∧ Cond.methodLinkNest RX4 148 mX0_wrongColumn.1 "MeshSums" ∈ lw_tbl ∧ Cond.instanceMethod mX0_wrongColumn.1 ∈ gtbl ∧ Cond.selects mX0_wrongColumn.1.cls mX0_wrongColumn.1 mX0_wrongColumn.1 ∈ gtbl := ⟨zok_X0_wrongColumn_0, zw484, zw71, zw481n, ⟨zw483, zw31⟩⟩
theorem zw500 : Cond.code mX1_ageAll.1 mX1_ageAll.2.1 mX1_ageAll.2.2.1 mX1_ageAll.2.2.2 ∈ gtbl := gt_of ⟨mt2 (List.mem_of_getElem? (i := 194) (by decide +kernel)), by decide +kernel⟩
theorem zw499 : Cond.instanceMethod mX1_ageAll.1 ∈ gtbl := gt_of ⟨mt2 (List.mem_of_getElem? (i := 193) (by decide +kernel)), by decide +kernel⟩
theorem zw33 : Cond.selects mX1_ageAll.1.cls mX1_ageAll.1 mX1_ageAll.1 ∈ gtbl := gt_of ⟨mt0 (List.mem_of_getElem? (i := 33) (by decide +kernel)), by decide +kernel⟩
theorem zw497n : Cond.methodLinkNest RX4 151 mX1_ageAll.1 "MeshSums" ∈ lw_tbl := mt2 (List.mem_of_getElem? (i := 191) (by decide +kernel))
theorem zok_X1_ageAll_0 : OkM mX1_ageAll 0 := by decide +kernel
theorem oX4_151 : OkM mX1_ageAll 0 ∧ Cond.code mX1_ageAll.1 mX1_ageAll.2.1 mX1_ageAll.2.2.1 mX1_ageAll.2.2.2 ∈ gtbl ∧ Cond.initialized mX1_ageAll.1.cls ∈ gtbl ∧ Cond.methodLinkNest RX4 151 mX1_ageAll.1 "MeshSums" ∈ lw_tbl ∧ Cond.instanceMethod mX1_ageAll.1 ∈ gtbl ∧ Cond.selects mX1_ageAll.1.cls mX1_ageAll.1 mX1_ageAll.1 ∈ gtbl := ⟨zok_X1_ageAll_0, zw500, zw68, zw497n, ⟨zw499, zw33⟩⟩
theorem zw293 : Cond.code mX1_sticks.1 mX1_sticks.2.1 mX1_sticks.2.2.1 mX1_sticks.2.2.2 ∈ gtbl := gt_of ⟨mt1 (List.mem_of_getElem? (i := 227) (by decide +kernel)), by decide +kernel⟩
theorem zw292 : Cond.instanceMethod mX1_sticks.1 ∈ gtbl := gt_of ⟨mt1 (List.mem_of_getElem? (i := 226) (by decide +kernel)), by decide +kernel⟩
theorem zw5 : Cond.selects mX1_sticks.1.cls mX1_sticks.1 mX1_sticks.1 ∈ gtbl := gt_of ⟨mt0 (List.mem_of_getElem? (i := 5) (by decide +kernel)), by decide +kernel⟩
theorem zw509n : Cond.methodLinkNest RX4 154 mX1_sticks.1 "MeshSums" ∈ lw_tbl := mt2 (List.mem_of_getElem? (i := 203) (by decide +kernel))
theorem zok_X1_sticks_1 : OkM mX1_sticks 1 := by decide +kernel
theorem oX4_154 : OkM mX1_sticks 1 ∧ Cond.code mX1_sticks.1 mX1_sticks.2.1 mX1_sticks.2.2.1 mX1_sticks.2.2.2 ∈ gtbl ∧ Cond.initialized mX1_sticks.1.cls ∈ gtbl ∧ Cond.methodLinkNest RX4 154 mX1_sticks.1 "MeshSums" ∈ lw_tbl ∧ Cond.instanceMethod mX1_sticks.1 ∈ gtbl ∧ Cond.selects mX1_sticks.1.cls mX1_sticks.1 mX1_sticks.1 ∈ gtbl := ⟨zok_X1_sticks_1, zw293, zw68, zw509n, ⟨zw292, zw5⟩⟩
theorem zw513 : Cond.code mX1_pulseTo.1 mX1_pulseTo.2.1 mX1_pulseTo.2.2.1 mX1_pulseTo.2.2.2 ∈ gtbl := gt_of ⟨mt2 (List.mem_of_getElem? (i := 207) (by decide +kernel)), by decide +kernel⟩
theorem zw512 : Cond.instanceMethod mX1_pulseTo.1 ∈ gtbl := gt_of ⟨mt2 (List.mem_of_getElem? (i := 206) (by decide +kernel)), by decide +kernel⟩
theorem zw35 : Cond.selects mX1_pulseTo.1.cls mX1_pulseTo.1 mX1_pulseTo.1 ∈ gtbl := gt_of ⟨mt0 (List.mem_of_getElem? (i := 35) (by decide +kernel)), by decide +kernel⟩
theorem zw510n : Cond.methodLinkNest RX4 158 mX1_pulseTo.1 "MeshSums" ∈ lw_tbl := mt2 (List.mem_of_getElem? (i := 204) (by decide +kernel))
theorem zok_X1_pulseTo_2 : OkM mX1_pulseTo 2 := by decide +kernel
theorem oX4_158 : OkM mX1_pulseTo 2 ∧ Cond.code mX1_pulseTo.1 mX1_pulseTo.2.1 mX1_pulseTo.2.2.1 mX1_pulseTo.2.2.2 ∈ gtbl ∧ Cond.initialized mX1_pulseTo.1.cls ∈ gtbl ∧ Cond.methodLinkNest RX4 158 mX1_pulseTo.1 "MeshSums" ∈ lw_tbl ∧ Cond.instanceMethod mX1_pulseTo.1 ∈ gtbl ∧ Cond.selects mX1_pulseTo.1.cls mX1_pulseTo.1 mX1_pulseTo.1 ∈ gtbl := ⟨zok_X1_pulseTo_2, zw513, zw68, zw510n, ⟨zw512, zw35⟩⟩
theorem zw520 : Cond.code mX4_fullTable.1 mX4_fullTable.2.1 mX4_fullTable.2.2.1 mX4_fullTable.2.2.2 ∈ gtbl := gt_of ⟨mt2 (List.mem_of_getElem? (i := 214) (by decide +kernel)), by decide +kernel⟩
theorem zw519 : Cond.static mX4_fullTable.1 ∈ gtbl := gt_of ⟨mt2 (List.mem_of_getElem? (i := 213) (by decide +kernel)), by decide +kernel⟩
theorem zw518 : Cond.methodLink RX4 161 mX4_fullTable.1 ∈ gtbl := gt_of ⟨mt2 (List.mem_of_getElem? (i := 212) (by decide +kernel)), by decide +kernel⟩
theorem zok_X4_fullTable_1 : OkM mX4_fullTable 1 := by decide +kernel
theorem oX4_161 : OkM mX4_fullTable 1 ∧ Cond.code mX4_fullTable.1 mX4_fullTable.2.1 mX4_fullTable.2.2.1 mX4_fullTable.2.2.2 ∈ gtbl ∧ Cond.initialized mX4_fullTable.1.cls ∈ gtbl ∧ Cond.methodLink RX4 161 mX4_fullTable.1 ∈ gtbl ∧ Cond.static mX4_fullTable.1 ∈ gtbl ∧ True := ⟨zok_X4_fullTable_1, zw520, zw67, zw518, ⟨zw519, trivial⟩⟩
theorem zw524 : Cond.code mX2_seek.1 mX2_seek.2.1 mX2_seek.2.2.1 mX2_seek.2.2.2 ∈ gtbl := gt_of ⟨mt2 (List.mem_of_getElem? (i := 218) (by decide +kernel)), by decide +kernel⟩
theorem zw523 : Cond.instanceMethod mX2_seek.1 ∈ gtbl := gt_of ⟨mt2 (List.mem_of_getElem? (i := 217) (by decide +kernel)), by decide +kernel⟩
theorem zw36 : Cond.selects mX2_seek.1.cls mX2_seek.1 mX2_seek.1 ∈ gtbl := gt_of ⟨mt0 (List.mem_of_getElem? (i := 36) (by decide +kernel)), by decide +kernel⟩
theorem zw521n : Cond.methodLinkNest RX4 164 mX2_seek.1 "MeshSums" ∈ lw_tbl := mt2 (List.mem_of_getElem? (i := 215) (by decide +kernel))
theorem zok_X2_seek_3 : OkM mX2_seek 3 := by decide +kernel
theorem oX4_164 : OkM mX2_seek 3 ∧ Cond.code mX2_seek.1 mX2_seek.2.1 mX2_seek.2.2.1 mX2_seek.2.2.2 ∈ gtbl ∧ Cond.initialized mX2_seek.1.cls ∈ gtbl ∧ Cond.methodLinkNest RX4 164 mX2_seek.1 "MeshSums" ∈ lw_tbl ∧ Cond.instanceMethod mX2_seek.1 ∈ gtbl ∧ Cond.selects mX2_seek.1.cls mX2_seek.1 mX2_seek.1 ∈ gtbl := ⟨zok_X2_seek_3, zw524, zw72, zw521n, ⟨zw523, zw36⟩⟩
theorem zw585 : Cond.code mX4_actPart.1 mX4_actPart.2.1 mX4_actPart.2.2.1 mX4_actPart.2.2.2 ∈ gtbl := gt_of ⟨mt3 (List.mem_of_getElem? (i := 39) (by decide +kernel)), by decide +kernel⟩
theorem zw584 : Cond.static mX4_actPart.1 ∈ gtbl := gt_of ⟨mt3 (List.mem_of_getElem? (i := 38) (by decide +kernel)), by decide +kernel⟩
theorem zw583 : Cond.methodLink RX4 173 mX4_actPart.1 ∈ gtbl := gt_of ⟨mt3 (List.mem_of_getElem? (i := 37) (by decide +kernel)), by decide +kernel⟩
theorem zok_X4_actPart_2 : OkM mX4_actPart 2 := by decide +kernel
theorem oX4_173 : OkM mX4_actPart 2 ∧ Cond.code mX4_actPart.1 mX4_actPart.2.1 mX4_actPart.2.2.1 mX4_actPart.2.2.2 ∈ gtbl ∧ Cond.initialized mX4_actPart.1.cls ∈ gtbl ∧ Cond.methodLink RX4 173 mX4_actPart.1 ∈ gtbl ∧ Cond.static mX4_actPart.1 ∈ gtbl ∧ True := ⟨zok_X4_actPart_2, zw585, zw67, zw583, ⟨zw584, trivial⟩⟩
theorem zw601 : Cond.code mX1_stickingCells.1 mX1_stickingCells.2.1 mX1_stickingCells.2.2.1 mX1_stickingCells.2.2.2 ∈ gtbl := gt_of ⟨mt3 (List.mem_of_getElem? (i := 55) (by decide +kernel)), by decide +kernel⟩
theorem zw600 : Cond.instanceMethod mX1_stickingCells.1 ∈ gtbl := gt_of ⟨mt3 (List.mem_of_getElem? (i := 54) (by decide +kernel)), by decide +kernel⟩
theorem zw46 : Cond.selects mX1_stickingCells.1.cls mX1_stickingCells.1 mX1_stickingCells.1 ∈ gtbl := gt_of ⟨mt0 (List.mem_of_getElem? (i := 46) (by decide +kernel)), by decide +kernel⟩
theorem zw598n : Cond.methodLinkNest RX4 182 mX1_stickingCells.1 "MeshSums" ∈ lw_tbl := mt3 (List.mem_of_getElem? (i := 52) (by decide +kernel))
theorem zok_X1_stickingCells_0 : OkM mX1_stickingCells 0 := by decide +kernel
theorem oX4_182 : OkM mX1_stickingCells 0 ∧ Cond.code mX1_stickingCells.1 mX1_stickingCells.2.1 mX1_stickingCells.2.2.1 mX1_stickingCells.2.2.2 ∈ gtbl ∧ Cond.initialized mX1_stickingCells.1.cls ∈ gtbl ∧ Cond.methodLinkNest RX4 182 mX1_stickingCells.1 "MeshSums" ∈ lw_tbl ∧ Cond.instanceMethod mX1_stickingCells.1 ∈ gtbl ∧ Cond.selects mX1_stickingCells.1.cls mX1_stickingCells.1 mX1_stickingCells.1 ∈ gtbl := ⟨zok_X1_stickingCells_0, zw601, zw68, zw598n, ⟨zw600, zw46⟩⟩
theorem zw597 : Cond.code mX4_count.1 mX4_count.2.1 mX4_count.2.2.1 mX4_count.2.2.2 ∈ gtbl := gt_of ⟨mt3 (List.mem_of_getElem? (i := 51) (by decide +kernel)), by decide +kernel⟩
theorem zw595 : Cond.instanceMethod mX4_count.1 ∈ gtbl := gt_of ⟨mt3 (List.mem_of_getElem? (i := 49) (by decide +kernel)), by decide +kernel⟩
theorem zw596 : Cond.selects mX4_count.1.cls mX4_count.1 mX4_count.1 ∈ gtbl := gt_of ⟨mt3 (List.mem_of_getElem? (i := 50) (by decide +kernel)), by decide +kernel⟩
theorem zw608 : Cond.methodLink RX4 192 mX4_count.1 ∈ gtbl := gt_of ⟨mt3 (List.mem_of_getElem? (i := 62) (by decide +kernel)), by decide +kernel⟩
theorem zok_X4_count_1 : OkM mX4_count 1 := by decide +kernel
theorem oX4_192 : OkM mX4_count 1 ∧ Cond.code mX4_count.1 mX4_count.2.1 mX4_count.2.2.1 mX4_count.2.2.2 ∈ gtbl ∧ Cond.initialized mX4_count.1.cls ∈ gtbl ∧ Cond.methodLink RX4 192 mX4_count.1 ∈ gtbl ∧ Cond.instanceMethod mX4_count.1 ∈ gtbl ∧ Cond.selects mX4_count.1.cls mX4_count.1 mX4_count.1 ∈ gtbl := ⟨zok_X4_count_1, zw597, zw67, zw608, ⟨zw595, zw596⟩⟩
theorem zw612 : Cond.code mX1_addTo.1 mX1_addTo.2.1 mX1_addTo.2.2.1 mX1_addTo.2.2.2 ∈ gtbl := gt_of ⟨mt3 (List.mem_of_getElem? (i := 66) (by decide +kernel)), by decide +kernel⟩
theorem zw611 : Cond.instanceMethod mX1_addTo.1 ∈ gtbl := gt_of ⟨mt3 (List.mem_of_getElem? (i := 65) (by decide +kernel)), by decide +kernel⟩
theorem zw47 : Cond.selects mX1_addTo.1.cls mX1_addTo.1 mX1_addTo.1 ∈ gtbl := gt_of ⟨mt0 (List.mem_of_getElem? (i := 47) (by decide +kernel)), by decide +kernel⟩
theorem zw609n : Cond.methodLinkNest RX4 195 mX1_addTo.1 "MeshSums" ∈ lw_tbl := mt3 (List.mem_of_getElem? (i := 63) (by decide +kernel))
theorem zok_X1_addTo_1 : OkM mX1_addTo 1 := by decide +kernel
theorem oX4_195 : OkM mX1_addTo 1 ∧ Cond.code mX1_addTo.1 mX1_addTo.2.1 mX1_addTo.2.2.1 mX1_addTo.2.2.2 ∈ gtbl ∧ Cond.initialized mX1_addTo.1.cls ∈ gtbl ∧ Cond.methodLinkNest RX4 195 mX1_addTo.1 "MeshSums" ∈ lw_tbl ∧ Cond.instanceMethod mX1_addTo.1 ∈ gtbl ∧ Cond.selects mX1_addTo.1.cls mX1_addTo.1 mX1_addTo.1 ∈ gtbl := ⟨zok_X1_addTo_1, zw612, zw68, zw609n, ⟨zw611, zw47⟩⟩
theorem zw618 : Cond.code mX3_addTo.1 mX3_addTo.2.1 mX3_addTo.2.2.1 mX3_addTo.2.2.2 ∈ gtbl := gt_of ⟨mt3 (List.mem_of_getElem? (i := 72) (by decide +kernel)), by decide +kernel⟩
theorem zw617 : Cond.instanceMethod mX3_addTo.1 ∈ gtbl := gt_of ⟨mt3 (List.mem_of_getElem? (i := 71) (by decide +kernel)), by decide +kernel⟩
theorem zw48 : Cond.selects mX3_addTo.1.cls mX3_addTo.1 mX3_addTo.1 ∈ gtbl := gt_of ⟨mt0 (List.mem_of_getElem? (i := 48) (by decide +kernel)), by decide +kernel⟩
theorem zw615n : Cond.methodLinkNest RX4 199 mX3_addTo.1 "MeshSums" ∈ lw_tbl := mt3 (List.mem_of_getElem? (i := 69) (by decide +kernel))
theorem zok_X3_addTo_1 : OkM mX3_addTo 1 := by decide +kernel
theorem oX4_199 : OkM mX3_addTo 1 ∧ Cond.code mX3_addTo.1 mX3_addTo.2.1 mX3_addTo.2.2.1 mX3_addTo.2.2.2 ∈ gtbl ∧ Cond.initialized mX3_addTo.1.cls ∈ gtbl ∧ Cond.methodLinkNest RX4 199 mX3_addTo.1 "MeshSums" ∈ lw_tbl ∧ Cond.instanceMethod mX3_addTo.1 ∈ gtbl ∧ Cond.selects mX3_addTo.1.cls mX3_addTo.1 mX3_addTo.1 ∈ gtbl := ⟨zok_X3_addTo_1, zw618, zw70, zw615n, ⟨zw617, zw48⟩⟩
theorem zw623 : Cond.code mX2_addTo.1 mX2_addTo.2.1 mX2_addTo.2.2.1 mX2_addTo.2.2.2 ∈ gtbl := gt_of ⟨mt3 (List.mem_of_getElem? (i := 77) (by decide +kernel)), by decide +kernel⟩
theorem zw622 : Cond.instanceMethod mX2_addTo.1 ∈ gtbl := gt_of ⟨mt3 (List.mem_of_getElem? (i := 76) (by decide +kernel)), by decide +kernel⟩
theorem zw49 : Cond.selects mX2_addTo.1.cls mX2_addTo.1 mX2_addTo.1 ∈ gtbl := gt_of ⟨mt0 (List.mem_of_getElem? (i := 49) (by decide +kernel)), by decide +kernel⟩
theorem zw620n : Cond.methodLinkNest RX4 200 mX2_addTo.1 "MeshSums" ∈ lw_tbl := mt3 (List.mem_of_getElem? (i := 74) (by decide +kernel))
theorem zok_X2_addTo_1 : OkM mX2_addTo 1 := by decide +kernel
theorem oX4_200 : OkM mX2_addTo 1 ∧ Cond.code mX2_addTo.1 mX2_addTo.2.1 mX2_addTo.2.2.1 mX2_addTo.2.2.2 ∈ gtbl ∧ Cond.initialized mX2_addTo.1.cls ∈ gtbl ∧ Cond.methodLinkNest RX4 200 mX2_addTo.1 "MeshSums" ∈ lw_tbl ∧ Cond.instanceMethod mX2_addTo.1 ∈ gtbl ∧ Cond.selects mX2_addTo.1.cls mX2_addTo.1 mX2_addTo.1 ∈ gtbl := ⟨zok_X2_addTo_1, zw623, zw72, zw620n, ⟨zw622, zw49⟩⟩
theorem zw188 : Cond.methodLink RX0 3 Lib.objectInit ∈ gtbl := gt_of ⟨mt1 (List.mem_of_getElem? (i := 122) (by decide +kernel)), by decide +kernel⟩
theorem oX0_3 : Cond.methodLink RX0 3 Lib.objectInit ∈ gtbl ∧ Cond.instanceMethod Lib.objectInit ∈ gtbl ∧ Cond.code Lib.objectInit ⟨#[0xb1]⟩ 1 none ∈ gtbl := ⟨zw188, zw82, zw83⟩
theorem zw476n : Cond.methodLinkNest RX0 34 mX1_place.1 "MeshSums" ∈ lw_tbl := mt2 (List.mem_of_getElem? (i := 170) (by decide +kernel))
theorem oX0_34 : OkM mX1_place 2 ∧ Cond.code mX1_place.1 mX1_place.2.1 mX1_place.2.2.1 mX1_place.2.2.2 ∈ gtbl ∧ Cond.initialized mX1_place.1.cls ∈ gtbl ∧ Cond.methodLinkNest RX0 34 mX1_place.1 "MeshSums" ∈ lw_tbl ∧ Cond.instanceMethod mX1_place.1 ∈ gtbl ∧ Cond.selects mX1_place.1.cls mX1_place.1 mX1_place.1 ∈ gtbl := ⟨zok_X1_place_2, zw285, zw68, zw476n, ⟨zw284, zw3⟩⟩
theorem zw485n : Cond.methodLinkNest RX0 42 mX1_columnSum.1 "MeshSums" ∈ lw_tbl := mt2 (List.mem_of_getElem? (i := 179) (by decide +kernel))
theorem oX0_42 : OkM mX1_columnSum 1 ∧ Cond.code mX1_columnSum.1 mX1_columnSum.2.1 mX1_columnSum.2.2.1 mX1_columnSum.2.2.2 ∈ gtbl ∧ Cond.initialized mX1_columnSum.1.cls ∈ gtbl ∧ Cond.methodLinkNest RX0 42 mX1_columnSum.1 "MeshSums" ∈ lw_tbl ∧ Cond.instanceMethod mX1_columnSum.1 ∈ gtbl ∧ Cond.selects mX1_columnSum.1.cls mX1_columnSum.1 mX1_columnSum.1 ∈ gtbl := ⟨zok_X1_columnSum_1, zw329, zw68, zw485n, ⟨zw328, zw9⟩⟩
theorem zw488 : Cond.code mJ9_floorMod_7cf53.1 mJ9_floorMod_7cf53.2.1 mJ9_floorMod_7cf53.2.2.1 mJ9_floorMod_7cf53.2.2.2 ∈ gtbl := gt_of ⟨mt2 (List.mem_of_getElem? (i := 182) (by decide +kernel)), by decide +kernel⟩
theorem zw74 : Cond.initialized mJ9_floorMod_7cf53.1.cls ∈ gtbl := gt_of ⟨mt1 (List.mem_of_getElem? (i := 8) (by decide +kernel)), by decide +kernel⟩
theorem zw487 : Cond.static mJ9_floorMod_7cf53.1 ∈ gtbl := gt_of ⟨mt2 (List.mem_of_getElem? (i := 181) (by decide +kernel)), by decide +kernel⟩
theorem zw486 : Cond.methodLink RX0 49 mJ9_floorMod_7cf53.1 ∈ gtbl := gt_of ⟨mt2 (List.mem_of_getElem? (i := 180) (by decide +kernel)), by decide +kernel⟩
theorem zok_J9_floorMod_7cf53_2 : OkM mJ9_floorMod_7cf53 2 := by decide +kernel
theorem oX0_49 : OkM mJ9_floorMod_7cf53 2 ∧ Cond.code mJ9_floorMod_7cf53.1 mJ9_floorMod_7cf53.2.1 mJ9_floorMod_7cf53.2.2.1 mJ9_floorMod_7cf53.2.2.2 ∈ gtbl ∧ Cond.initialized mJ9_floorMod_7cf53.1.cls ∈ gtbl ∧ Cond.methodLink RX0 49 mJ9_floorMod_7cf53.1 ∈ gtbl ∧ Cond.static mJ9_floorMod_7cf53.1 ∈ gtbl ∧ True := ⟨zok_J9_floorMod_7cf53_2, zw488, zw74, zw486, ⟨zw487, trivial⟩⟩
theorem zw492 : Cond.code mX0_columnBy.1 mX0_columnBy.2.1 mX0_columnBy.2.2.1 mX0_columnBy.2.2.2 ∈ gtbl := gt_of ⟨mt2 (List.mem_of_getElem? (i := 186) (by decide +kernel)), by decide +kernel⟩
theorem zw491 : Cond.instanceMethod mX0_columnBy.1 ∈ gtbl := gt_of ⟨mt2 (List.mem_of_getElem? (i := 185) (by decide +kernel)), by decide +kernel⟩
theorem zw32 : Cond.selects mX0_columnBy.1.cls mX0_columnBy.1 mX0_columnBy.1 ∈ gtbl := gt_of ⟨mt0 (List.mem_of_getElem? (i := 32) (by decide +kernel)), by decide +kernel⟩
theorem zw489 : Cond.methodLink RX0 54 mX0_columnBy.1 ∈ gtbl := gt_of ⟨mt2 (List.mem_of_getElem? (i := 183) (by decide +kernel)), by decide +kernel⟩
theorem zok_X0_columnBy_2 : OkM mX0_columnBy 2 := by decide +kernel
theorem oX0_54 : OkM mX0_columnBy 2 ∧ Cond.code mX0_columnBy.1 mX0_columnBy.2.1 mX0_columnBy.2.2.1 mX0_columnBy.2.2.2 ∈ gtbl ∧ Cond.initialized mX0_columnBy.1.cls ∈ gtbl ∧ Cond.methodLink RX0 54 mX0_columnBy.1 ∈ gtbl ∧ Cond.instanceMethod mX0_columnBy.1 ∈ gtbl ∧ Cond.selects mX0_columnBy.1.cls mX0_columnBy.1 mX0_columnBy.1 ∈ gtbl := ⟨zok_X0_columnBy_2, zw492, zw71, zw489, ⟨zw491, zw32⟩⟩
theorem zw89 : Cond.methodLink RX1 3 Lib.objectInit ∈ gtbl := gt_of ⟨mt1 (List.mem_of_getElem? (i := 23) (by decide +kernel)), by decide +kernel⟩
theorem oX1_3 : Cond.methodLink RX1 3 Lib.objectInit ∈ gtbl ∧ Cond.instanceMethod Lib.objectInit ∈ gtbl ∧ Cond.code Lib.objectInit ⟨#[0xb1]⟩ 1 none ∈ gtbl := ⟨zw89, zw82, zw83⟩
theorem zw90 : Cond.methodLink RX1 24 mX1_renew.1 ∈ gtbl := gt_of ⟨mt1 (List.mem_of_getElem? (i := 24) (by decide +kernel)), by decide +kernel⟩
theorem oX1_24 : OkM mX1_renew 3 ∧ Cond.code mX1_renew.1 mX1_renew.2.1 mX1_renew.2.2.1 mX1_renew.2.2.2 ∈ gtbl ∧ Cond.initialized mX1_renew.1.cls ∈ gtbl ∧ Cond.methodLink RX1 24 mX1_renew.1 ∈ gtbl ∧ Cond.instanceMethod mX1_renew.1 ∈ gtbl ∧ Cond.selects mX1_renew.1.cls mX1_renew.1 mX1_renew.1 ∈ gtbl := ⟨zok_X1_renew_3, zw93, zw68, zw90, ⟨zw92, zw0⟩⟩
theorem zw96 : Cond.code mJ7_fill_53178.1 mJ7_fill_53178.2.1 mJ7_fill_53178.2.2.1 mJ7_fill_53178.2.2.2 ∈ gtbl := gt_of ⟨mt1 (List.mem_of_getElem? (i := 30) (by decide +kernel)), by decide +kernel⟩
theorem zw69 : Cond.initialized mJ7_fill_53178.1.cls ∈ gtbl := gt_of ⟨mt1 (List.mem_of_getElem? (i := 3) (by decide +kernel)), by decide +kernel⟩
theorem zw95 : Cond.static mJ7_fill_53178.1 ∈ gtbl := gt_of ⟨mt1 (List.mem_of_getElem? (i := 29) (by decide +kernel)), by decide +kernel⟩
theorem zw94 : Cond.methodLink RX1 41 mJ7_fill_53178.1 ∈ gtbl := gt_of ⟨mt1 (List.mem_of_getElem? (i := 28) (by decide +kernel)), by decide +kernel⟩
theorem zok_J7_fill_53178_2 : OkM mJ7_fill_53178 2 := by decide +kernel
theorem oX1_41 : OkM mJ7_fill_53178 2 ∧ Cond.code mJ7_fill_53178.1 mJ7_fill_53178.2.1 mJ7_fill_53178.2.2.1 mJ7_fill_53178.2.2.2 ∈ gtbl ∧ Cond.initialized mJ7_fill_53178.1.cls ∈ gtbl ∧ Cond.methodLink RX1 41 mJ7_fill_53178.1 ∈ gtbl ∧ Cond.static mJ7_fill_53178.1 ∈ gtbl ∧ True := ⟨zok_J7_fill_53178_2, zw96, zw69, zw94, ⟨zw95, trivial⟩⟩
theorem zw281n : Cond.methodLinkNest RX1 47 mX4_within.1 "MeshSums" ∈ lw_tbl := mt1 (List.mem_of_getElem? (i := 215) (by decide +kernel))
theorem oX1_47 : OkM mX4_within 3 ∧ Cond.code mX4_within.1 mX4_within.2.1 mX4_within.2.2.1 mX4_within.2.2.2 ∈ gtbl ∧ Cond.initialized mX4_within.1.cls ∈ gtbl ∧ Cond.methodLinkNest RX1 47 mX4_within.1 "MeshSums" ∈ lw_tbl ∧ Cond.static mX4_within.1 ∈ gtbl ∧ True := ⟨zok_X4_within_3, zw267, zw67, zw281n, ⟨zw266, trivial⟩⟩
theorem zw290 : Cond.methodLink RX1 51 mX1_sticks.1 ∈ gtbl := gt_of ⟨mt1 (List.mem_of_getElem? (i := 224) (by decide +kernel)), by decide +kernel⟩
theorem oX1_51 : OkM mX1_sticks 1 ∧ Cond.code mX1_sticks.1 mX1_sticks.2.1 mX1_sticks.2.2.1 mX1_sticks.2.2.2 ∈ gtbl ∧ Cond.initialized mX1_sticks.1.cls ∈ gtbl ∧ Cond.methodLink RX1 51 mX1_sticks.1 ∈ gtbl ∧ Cond.instanceMethod mX1_sticks.1 ∈ gtbl ∧ Cond.selects mX1_sticks.1.cls mX1_sticks.1 mX1_sticks.1 ∈ gtbl := ⟨zok_X1_sticks_1, zw293, zw68, zw290, ⟨zw292, zw5⟩⟩
theorem zw330 : Cond.methodLink RX1 55 mX1_place.1 ∈ gtbl := gt_of ⟨mt2 (List.mem_of_getElem? (i := 24) (by decide +kernel)), by decide +kernel⟩
theorem oX1_55 : OkM mX1_place 2 ∧ Cond.code mX1_place.1 mX1_place.2.1 mX1_place.2.2.1 mX1_place.2.2.2 ∈ gtbl ∧ Cond.initialized mX1_place.1.cls ∈ gtbl ∧ Cond.methodLink RX1 55 mX1_place.1 ∈ gtbl ∧ Cond.instanceMethod mX1_place.1 ∈ gtbl ∧ Cond.selects mX1_place.1.cls mX1_place.1 mX1_place.1 ∈ gtbl := ⟨zok_X1_place_2, zw285, zw68, zw330, ⟨zw284, zw3⟩⟩
theorem zw337 : Cond.code mJ9_min_7cf53.1 mJ9_min_7cf53.2.1 mJ9_min_7cf53.2.2.1 mJ9_min_7cf53.2.2.2 ∈ gtbl := gt_of ⟨mt2 (List.mem_of_getElem? (i := 31) (by decide +kernel)), by decide +kernel⟩
theorem zw336 : Cond.static mJ9_min_7cf53.1 ∈ gtbl := gt_of ⟨mt2 (List.mem_of_getElem? (i := 30) (by decide +kernel)), by decide +kernel⟩
theorem zw335 : Cond.methodLink RX1 59 mJ9_min_7cf53.1 ∈ gtbl := gt_of ⟨mt2 (List.mem_of_getElem? (i := 29) (by decide +kernel)), by decide +kernel⟩
theorem zok_J9_min_7cf53_2 : OkM mJ9_min_7cf53 2 := by decide +kernel
theorem oX1_59 : OkM mJ9_min_7cf53 2 ∧ Cond.code mJ9_min_7cf53.1 mJ9_min_7cf53.2.1 mJ9_min_7cf53.2.2.1 mJ9_min_7cf53.2.2.2 ∈ gtbl ∧ Cond.initialized mJ9_min_7cf53.1.cls ∈ gtbl ∧ Cond.methodLink RX1 59 mJ9_min_7cf53.1 ∈ gtbl ∧ Cond.static mJ9_min_7cf53.1 ∈ gtbl ∧ True := ⟨zok_J9_min_7cf53_2, zw337, zw74, zw335, ⟨zw336, trivial⟩⟩
theorem zw504 : Cond.code mX1_ageOne.1 mX1_ageOne.2.1 mX1_ageOne.2.2.1 mX1_ageOne.2.2.2 ∈ gtbl := gt_of ⟨mt2 (List.mem_of_getElem? (i := 198) (by decide +kernel)), by decide +kernel⟩
theorem zw503 : Cond.instanceMethod mX1_ageOne.1 ∈ gtbl := gt_of ⟨mt2 (List.mem_of_getElem? (i := 197) (by decide +kernel)), by decide +kernel⟩
theorem zw34 : Cond.selects mX1_ageOne.1.cls mX1_ageOne.1 mX1_ageOne.1 ∈ gtbl := gt_of ⟨mt0 (List.mem_of_getElem? (i := 34) (by decide +kernel)), by decide +kernel⟩
theorem zw501 : Cond.methodLink RX1 64 mX1_ageOne.1 ∈ gtbl := gt_of ⟨mt2 (List.mem_of_getElem? (i := 195) (by decide +kernel)), by decide +kernel⟩
theorem zok_X1_ageOne_1 : OkM mX1_ageOne 1 := by decide +kernel
theorem oX1_64 : OkM mX1_ageOne 1 ∧ Cond.code mX1_ageOne.1 mX1_ageOne.2.1 mX1_ageOne.2.2.1 mX1_ageOne.2.2.2 ∈ gtbl ∧ Cond.initialized mX1_ageOne.1.cls ∈ gtbl ∧ Cond.methodLink RX1 64 mX1_ageOne.1 ∈ gtbl ∧ Cond.instanceMethod mX1_ageOne.1 ∈ gtbl ∧ Cond.selects mX1_ageOne.1.cls mX1_ageOne.1 mX1_ageOne.1 ∈ gtbl := ⟨zok_X1_ageOne_1, zw504, zw68, zw501, ⟨zw503, zw34⟩⟩
theorem zw614 : Cond.methodLink RX1 69 mX1_tellCell.1 ∈ gtbl := gt_of ⟨mt3 (List.mem_of_getElem? (i := 68) (by decide +kernel)), by decide +kernel⟩
theorem oX1_69 : OkM mX1_tellCell 2 ∧ Cond.code mX1_tellCell.1 mX1_tellCell.2.1 mX1_tellCell.2.2.1 mX1_tellCell.2.2.2 ∈ gtbl ∧ Cond.initialized mX1_tellCell.1.cls ∈ gtbl ∧ Cond.methodLink RX1 69 mX1_tellCell.1 ∈ gtbl ∧ Cond.instanceMethod mX1_tellCell.1 ∈ gtbl ∧ Cond.selects mX1_tellCell.1.cls mX1_tellCell.1 mX1_tellCell.1 ∈ gtbl := ⟨zok_X1_tellCell_2, zw313, zw68, zw614, ⟨zw312, zw8⟩⟩
theorem zw208 : Cond.methodLink RX2 3 Lib.objectInit ∈ gtbl := gt_of ⟨mt1 (List.mem_of_getElem? (i := 142) (by decide +kernel)), by decide +kernel⟩
theorem oX2_3 : Cond.methodLink RX2 3 Lib.objectInit ∈ gtbl ∧ Cond.instanceMethod Lib.objectInit ∈ gtbl ∧ Cond.code Lib.objectInit ⟨#[0xb1]⟩ 1 none ∈ gtbl := ⟨zw208, zw82, zw83⟩
theorem zw528 : Cond.code mX2_begin.1 mX2_begin.2.1 mX2_begin.2.2.1 mX2_begin.2.2.2 ∈ gtbl := gt_of ⟨mt2 (List.mem_of_getElem? (i := 222) (by decide +kernel)), by decide +kernel⟩
theorem zw527 : Cond.instanceMethod mX2_begin.1 ∈ gtbl := gt_of ⟨mt2 (List.mem_of_getElem? (i := 221) (by decide +kernel)), by decide +kernel⟩
theorem zw37 : Cond.selects mX2_begin.1.cls mX2_begin.1 mX2_begin.1 ∈ gtbl := gt_of ⟨mt0 (List.mem_of_getElem? (i := 37) (by decide +kernel)), by decide +kernel⟩
theorem zw525 : Cond.methodLink RX2 29 mX2_begin.1 ∈ gtbl := gt_of ⟨mt2 (List.mem_of_getElem? (i := 219) (by decide +kernel)), by decide +kernel⟩
theorem zok_X2_begin_2 : OkM mX2_begin 2 := by decide +kernel
theorem oX2_29 : OkM mX2_begin 2 ∧ Cond.code mX2_begin.1 mX2_begin.2.1 mX2_begin.2.2.1 mX2_begin.2.2.2 ∈ gtbl ∧ Cond.initialized mX2_begin.1.cls ∈ gtbl ∧ Cond.methodLink RX2 29 mX2_begin.1 ∈ gtbl ∧ Cond.instanceMethod mX2_begin.1 ∈ gtbl ∧ Cond.selects mX2_begin.1.cls mX2_begin.1 mX2_begin.1 ∈ gtbl := ⟨zok_X2_begin_2, zw528, zw72, zw525, ⟨zw527, zw37⟩⟩
theorem zw544 : Cond.code mX4_stateOf.1 mX4_stateOf.2.1 mX4_stateOf.2.2.1 mX4_stateOf.2.2.2 ∈ gtbl := gt_of ⟨mt2 (List.mem_of_getElem? (i := 238) (by decide +kernel)), by decide +kernel⟩
theorem zw543 : Cond.static mX4_stateOf.1 ∈ gtbl := gt_of ⟨mt2 (List.mem_of_getElem? (i := 237) (by decide +kernel)), by decide +kernel⟩
theorem zw542n : Cond.methodLinkNest RX2 36 mX4_stateOf.1 "MeshSums" ∈ lw_tbl := mt2 (List.mem_of_getElem? (i := 236) (by decide +kernel))
theorem zok_X4_stateOf_1 : OkM mX4_stateOf 1 := by decide +kernel
theorem oX2_36 : OkM mX4_stateOf 1 ∧ Cond.code mX4_stateOf.1 mX4_stateOf.2.1 mX4_stateOf.2.2.1 mX4_stateOf.2.2.2 ∈ gtbl ∧ Cond.initialized mX4_stateOf.1.cls ∈ gtbl ∧ Cond.methodLinkNest RX2 36 mX4_stateOf.1 "MeshSums" ∈ lw_tbl ∧ Cond.static mX4_stateOf.1 ∈ gtbl ∧ True := ⟨zok_X4_stateOf_1, zw544, zw67, zw542n, ⟨zw543, trivial⟩⟩
theorem zw549 : Cond.code mX2_openState.1 mX2_openState.2.1 mX2_openState.2.2.1 mX2_openState.2.2.2 ∈ gtbl := gt_of ⟨mt3 (List.mem_of_getElem? (i := 3) (by decide +kernel)), by decide +kernel⟩
theorem zw548 : Cond.instanceMethod mX2_openState.1 ∈ gtbl := gt_of ⟨mt3 (List.mem_of_getElem? (i := 2) (by decide +kernel)), by decide +kernel⟩
theorem zw40 : Cond.selects mX2_openState.1.cls mX2_openState.1 mX2_openState.1 ∈ gtbl := gt_of ⟨mt0 (List.mem_of_getElem? (i := 40) (by decide +kernel)), by decide +kernel⟩
theorem zw546 : Cond.methodLink RX2 40 mX2_openState.1 ∈ gtbl := gt_of ⟨mt3 (List.mem_of_getElem? (i := 0) (by decide +kernel)), by decide +kernel⟩
theorem zok_X2_openState_1 : OkM mX2_openState 1 := by decide +kernel
theorem oX2_40 : OkM mX2_openState 1 ∧ Cond.code mX2_openState.1 mX2_openState.2.1 mX2_openState.2.2.1 mX2_openState.2.2.2 ∈ gtbl ∧ Cond.initialized mX2_openState.1.cls ∈ gtbl ∧ Cond.methodLink RX2 40 mX2_openState.1 ∈ gtbl ∧ Cond.instanceMethod mX2_openState.1 ∈ gtbl ∧ Cond.selects mX2_openState.1.cls mX2_openState.1 mX2_openState.1 ∈ gtbl := ⟨zok_X2_openState_1, zw549, zw72, zw546, ⟨zw548, zw40⟩⟩
theorem zw557 : Cond.code mX2_cellWith.1 mX2_cellWith.2.1 mX2_cellWith.2.2.1 mX2_cellWith.2.2.2 ∈ gtbl := gt_of ⟨mt3 (List.mem_of_getElem? (i := 11) (by decide +kernel)), by decide +kernel⟩
theorem zw556 : Cond.instanceMethod mX2_cellWith.1 ∈ gtbl := gt_of ⟨mt3 (List.mem_of_getElem? (i := 10) (by decide +kernel)), by decide +kernel⟩
theorem zw42 : Cond.selects mX2_cellWith.1.cls mX2_cellWith.1 mX2_cellWith.1 ∈ gtbl := gt_of ⟨mt0 (List.mem_of_getElem? (i := 42) (by decide +kernel)), by decide +kernel⟩
theorem zw554 : Cond.methodLink RX2 44 mX2_cellWith.1 ∈ gtbl := gt_of ⟨mt3 (List.mem_of_getElem? (i := 8) (by decide +kernel)), by decide +kernel⟩
theorem zok_X2_cellWith_1 : OkM mX2_cellWith 1 := by decide +kernel
theorem oX2_44 : OkM mX2_cellWith 1 ∧ Cond.code mX2_cellWith.1 mX2_cellWith.2.1 mX2_cellWith.2.2.1 mX2_cellWith.2.2.2 ∈ gtbl ∧ Cond.initialized mX2_cellWith.1.cls ∈ gtbl ∧ Cond.methodLink RX2 44 mX2_cellWith.1 ∈ gtbl ∧ Cond.instanceMethod mX2_cellWith.1 ∈ gtbl ∧ Cond.selects mX2_cellWith.1.cls mX2_cellWith.1 mX2_cellWith.1 ∈ gtbl := ⟨zok_X2_cellWith_1, zw557, zw72, zw554, ⟨zw556, zw42⟩⟩
theorem zw561 : Cond.code mX2_keep.1 mX2_keep.2.1 mX2_keep.2.2.1 mX2_keep.2.2.2 ∈ gtbl := gt_of ⟨mt3 (List.mem_of_getElem? (i := 15) (by decide +kernel)), by decide +kernel⟩
theorem zw560 : Cond.instanceMethod mX2_keep.1 ∈ gtbl := gt_of ⟨mt3 (List.mem_of_getElem? (i := 14) (by decide +kernel)), by decide +kernel⟩
theorem zw43 : Cond.selects mX2_keep.1.cls mX2_keep.1 mX2_keep.1 ∈ gtbl := gt_of ⟨mt0 (List.mem_of_getElem? (i := 43) (by decide +kernel)), by decide +kernel⟩
theorem zw558 : Cond.methodLink RX2 48 mX2_keep.1 ∈ gtbl := gt_of ⟨mt3 (List.mem_of_getElem? (i := 12) (by decide +kernel)), by decide +kernel⟩
theorem zok_X2_keep_2 : OkM mX2_keep 2 := by decide +kernel
theorem oX2_48 : OkM mX2_keep 2 ∧ Cond.code mX2_keep.1 mX2_keep.2.1 mX2_keep.2.2.1 mX2_keep.2.2.2 ∈ gtbl ∧ Cond.initialized mX2_keep.1.cls ∈ gtbl ∧ Cond.methodLink RX2 48 mX2_keep.1 ∈ gtbl ∧ Cond.instanceMethod mX2_keep.1 ∈ gtbl ∧ Cond.selects mX2_keep.1.cls mX2_keep.1 mX2_keep.1 ∈ gtbl := ⟨zok_X2_keep_2, zw561, zw72, zw558, ⟨zw560, zw43⟩⟩
theorem zw571 : Cond.code mX2_meetAllFrom.1 mX2_meetAllFrom.2.1 mX2_meetAllFrom.2.2.1 mX2_meetAllFrom.2.2.2 ∈ gtbl := gt_of ⟨mt3 (List.mem_of_getElem? (i := 25) (by decide +kernel)), by decide +kernel⟩
theorem zw570 : Cond.instanceMethod mX2_meetAllFrom.1 ∈ gtbl := gt_of ⟨mt3 (List.mem_of_getElem? (i := 24) (by decide +kernel)), by decide +kernel⟩
theorem zw44 : Cond.selects mX2_meetAllFrom.1.cls mX2_meetAllFrom.1 mX2_meetAllFrom.1 ∈ gtbl := gt_of ⟨mt0 (List.mem_of_getElem? (i := 44) (by decide +kernel)), by decide +kernel⟩
theorem zw568 : Cond.methodLink RX2 54 mX2_meetAllFrom.1 ∈ gtbl := gt_of ⟨mt3 (List.mem_of_getElem? (i := 22) (by decide +kernel)), by decide +kernel⟩
theorem zok_X2_meetAllFrom_1 : OkM mX2_meetAllFrom 1 := by decide +kernel
theorem oX2_54 : OkM mX2_meetAllFrom 1 ∧ Cond.code mX2_meetAllFrom.1 mX2_meetAllFrom.2.1 mX2_meetAllFrom.2.2.1 mX2_meetAllFrom.2.2.2 ∈ gtbl ∧ Cond.initialized mX2_meetAllFrom.1.cls ∈ gtbl ∧ Cond.methodLink RX2 54 mX2_meetAllFrom.1 ∈ gtbl ∧ Cond.instanceMethod mX2_meetAllFrom.1 ∈ gtbl ∧ Cond.selects mX2_meetAllFrom.1.cls mX2_meetAllFrom.1 mX2_meetAllFrom.1 ∈ gtbl := ⟨zok_X2_meetAllFrom_1, zw571, zw72, zw568, ⟨zw570, zw44⟩⟩
theorem zw529n : Cond.methodLinkNest RX2 67 mX4_fullTable.1 "MeshSums" ∈ lw_tbl := mt2 (List.mem_of_getElem? (i := 223) (by decide +kernel))
theorem oX2_67 : OkM mX4_fullTable 1 ∧ Cond.code mX4_fullTable.1 mX4_fullTable.2.1 mX4_fullTable.2.2.1 mX4_fullTable.2.2.2 ∈ gtbl ∧ Cond.initialized mX4_fullTable.1.cls ∈ gtbl ∧ Cond.methodLinkNest RX2 67 mX4_fullTable.1 "MeshSums" ∈ lw_tbl ∧ Cond.static mX4_fullTable.1 ∈ gtbl ∧ True := ⟨zok_X4_fullTable_1, zw520, zw67, zw529n, ⟨zw519, trivial⟩⟩
theorem zw530 : Cond.methodLink RX2 73 mJ7_fill_53178.1 ∈ gtbl := gt_of ⟨mt2 (List.mem_of_getElem? (i := 224) (by decide +kernel)), by decide +kernel⟩
theorem oX2_73 : OkM mJ7_fill_53178 2 ∧ Cond.code mJ7_fill_53178.1 mJ7_fill_53178.2.1 mJ7_fill_53178.2.2.1 mJ7_fill_53178.2.2.2 ∈ gtbl ∧ Cond.initialized mJ7_fill_53178.1.cls ∈ gtbl ∧ Cond.methodLink RX2 73 mJ7_fill_53178.1 ∈ gtbl ∧ Cond.static mJ7_fill_53178.1 ∈ gtbl ∧ True := ⟨zok_J7_fill_53178_2, zw96, zw69, zw530, ⟨zw95, trivial⟩⟩
theorem zw534 : Cond.code mX2_inputTable.1 mX2_inputTable.2.1 mX2_inputTable.2.2.1 mX2_inputTable.2.2.2 ∈ gtbl := gt_of ⟨mt2 (List.mem_of_getElem? (i := 228) (by decide +kernel)), by decide +kernel⟩
theorem zw533 : Cond.instanceMethod mX2_inputTable.1 ∈ gtbl := gt_of ⟨mt2 (List.mem_of_getElem? (i := 227) (by decide +kernel)), by decide +kernel⟩
theorem zw38 : Cond.selects mX2_inputTable.1.cls mX2_inputTable.1 mX2_inputTable.1 ∈ gtbl := gt_of ⟨mt0 (List.mem_of_getElem? (i := 38) (by decide +kernel)), by decide +kernel⟩
theorem zw531 : Cond.methodLink RX2 79 mX2_inputTable.1 ∈ gtbl := gt_of ⟨mt2 (List.mem_of_getElem? (i := 225) (by decide +kernel)), by decide +kernel⟩
theorem zok_X2_inputTable_1 : OkM mX2_inputTable 1 := by decide +kernel
theorem oX2_79 : OkM mX2_inputTable 1 ∧ Cond.code mX2_inputTable.1 mX2_inputTable.2.1 mX2_inputTable.2.2.1 mX2_inputTable.2.2.2 ∈ gtbl ∧ Cond.initialized mX2_inputTable.1.cls ∈ gtbl ∧ Cond.methodLink RX2 79 mX2_inputTable.1 ∈ gtbl ∧ Cond.instanceMethod mX2_inputTable.1 ∈ gtbl ∧ Cond.selects mX2_inputTable.1.cls mX2_inputTable.1 mX2_inputTable.1 ∈ gtbl := ⟨zok_X2_inputTable_1, zw534, zw72, zw531, ⟨zw533, zw38⟩⟩
