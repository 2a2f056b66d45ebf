theorem zw538 : Cond.code mX2_meet.1 mX2_meet.2.1 mX2_meet.2.2.1 mX2_meet.2.2.2 ∈ gtbl := gt_of ⟨mt2 (List.mem_of_getElem? (i := 232) (by decide +kernel)), by decide +kernel⟩
theorem zw537 : Cond.instanceMethod mX2_meet.1 ∈ gtbl := gt_of ⟨mt2 (List.mem_of_getElem? (i := 231) (by decide +kernel)), by decide +kernel⟩
theorem zw39 : Cond.selects mX2_meet.1.cls mX2_meet.1 mX2_meet.1 ∈ gtbl := gt_of ⟨mt0 (List.mem_of_getElem? (i := 39) (by decide +kernel)), by decide +kernel⟩
theorem zw535 : Cond.methodLink RX2 82 mX2_meet.1 ∈ gtbl := gt_of ⟨mt2 (List.mem_of_getElem? (i := 229) (by decide +kernel)), by decide +kernel⟩
theorem zok_X2_meet_3 : OkM mX2_meet 3 := by decide +kernel
theorem oX2_82 : OkM mX2_meet 3 ∧ Cond.code mX2_meet.1 mX2_meet.2.1 mX2_meet.2.2.1 mX2_meet.2.2.2 ∈ gtbl ∧ Cond.initialized mX2_meet.1.cls ∈ gtbl ∧ Cond.methodLink RX2 82 mX2_meet.1 ∈ gtbl ∧ Cond.instanceMethod mX2_meet.1 ∈ gtbl ∧ Cond.selects mX2_meet.1.cls mX2_meet.1 mX2_meet.1 ∈ gtbl := ⟨zok_X2_meet_3, zw538, zw72, zw535, ⟨zw537, zw39⟩⟩
theorem zw553 : Cond.code mX2_shiftOf.1 mX2_shiftOf.2.1 mX2_shiftOf.2.2.1 mX2_shiftOf.2.2.2 ∈ gtbl := gt_of ⟨mt3 (List.mem_of_getElem? (i := 7) (by decide +kernel)), by decide +kernel⟩
theorem zw552 : Cond.instanceMethod mX2_shiftOf.1 ∈ gtbl := gt_of ⟨mt3 (List.mem_of_getElem? (i := 6) (by decide +kernel)), by decide +kernel⟩
theorem zw41 : Cond.selects mX2_shiftOf.1.cls mX2_shiftOf.1 mX2_shiftOf.1 ∈ gtbl := gt_of ⟨mt0 (List.mem_of_getElem? (i := 41) (by decide +kernel)), by decide +kernel⟩
theorem zw550 : Cond.methodLink RX2 86 mX2_shiftOf.1 ∈ gtbl := gt_of ⟨mt3 (List.mem_of_getElem? (i := 4) (by decide +kernel)), by decide +kernel⟩
theorem zok_X2_shiftOf_1 : OkM mX2_shiftOf 1 := by decide +kernel
theorem oX2_86 : OkM mX2_shiftOf 1 ∧ Cond.code mX2_shiftOf.1 mX2_shiftOf.2.1 mX2_shiftOf.2.2.1 mX2_shiftOf.2.2.2 ∈ gtbl ∧ Cond.initialized mX2_shiftOf.1.cls ∈ gtbl ∧ Cond.methodLink RX2 86 mX2_shiftOf.1 ∈ gtbl ∧ Cond.instanceMethod mX2_shiftOf.1 ∈ gtbl ∧ Cond.selects mX2_shiftOf.1.cls mX2_shiftOf.1 mX2_shiftOf.1 ∈ gtbl := ⟨zok_X2_shiftOf_1, zw553, zw72, zw550, ⟨zw552, zw41⟩⟩
theorem zw575 : Cond.code mX2_meetByActs.1 mX2_meetByActs.2.1 mX2_meetByActs.2.2.1 mX2_meetByActs.2.2.2 ∈ gtbl := gt_of ⟨mt3 (List.mem_of_getElem? (i := 29) (by decide +kernel)), by decide +kernel⟩
theorem zw574 : Cond.instanceMethod mX2_meetByActs.1 ∈ gtbl := gt_of ⟨mt3 (List.mem_of_getElem? (i := 28) (by decide +kernel)), by decide +kernel⟩
theorem zw45 : Cond.selects mX2_meetByActs.1.cls mX2_meetByActs.1 mX2_meetByActs.1 ∈ gtbl := gt_of ⟨mt0 (List.mem_of_getElem? (i := 45) (by decide +kernel)), by decide +kernel⟩
theorem zw572 : Cond.methodLink RX2 89 mX2_meetByActs.1 ∈ gtbl := gt_of ⟨mt3 (List.mem_of_getElem? (i := 26) (by decide +kernel)), by decide +kernel⟩
theorem zok_X2_meetByActs_3 : OkM mX2_meetByActs 3 := by decide +kernel
theorem oX2_89 : OkM mX2_meetByActs 3 ∧ Cond.code mX2_meetByActs.1 mX2_meetByActs.2.1 mX2_meetByActs.2.2.1 mX2_meetByActs.2.2.2 ∈ gtbl ∧ Cond.initialized mX2_meetByActs.1.cls ∈ gtbl ∧ Cond.methodLink RX2 89 mX2_meetByActs.1 ∈ gtbl ∧ Cond.instanceMethod mX2_meetByActs.1 ∈ gtbl ∧ Cond.selects mX2_meetByActs.1.cls mX2_meetByActs.1 mX2_meetByActs.1 ∈ gtbl := ⟨zok_X2_meetByActs_3, zw575, zw72, zw572, ⟨zw574, zw45⟩⟩
theorem zw578 : Cond.code mX4_packAct.1 mX4_packAct.2.1 mX4_packAct.2.2.1 mX4_packAct.2.2.2 ∈ gtbl := gt_of ⟨mt3 (List.mem_of_getElem? (i := 32) (by decide +kernel)), by decide +kernel⟩
theorem zw577 : Cond.static mX4_packAct.1 ∈ gtbl := gt_of ⟨mt3 (List.mem_of_getElem? (i := 31) (by decide +kernel)), by decide +kernel⟩
theorem zw576n : Cond.methodLinkNest RX2 92 mX4_packAct.1 "MeshSums" ∈ lw_tbl := mt3 (List.mem_of_getElem? (i := 30) (by decide +kernel))
theorem zok_X4_packAct_3 : OkM mX4_packAct 3 := by decide +kernel
theorem oX2_92 : OkM mX4_packAct 3 ∧ Cond.code mX4_packAct.1 mX4_packAct.2.1 mX4_packAct.2.2.1 mX4_packAct.2.2.2 ∈ gtbl ∧ Cond.initialized mX4_packAct.1.cls ∈ gtbl ∧ Cond.methodLinkNest RX2 92 mX4_packAct.1 "MeshSums" ∈ lw_tbl ∧ Cond.static mX4_packAct.1 ∈ gtbl ∧ True := ⟨zok_X4_packAct_3, zw578, zw67, zw576n, ⟨zw577, trivial⟩⟩
theorem zw541 : Cond.code mX4_packVisit.1 mX4_packVisit.2.1 mX4_packVisit.2.2.1 mX4_packVisit.2.2.2 ∈ gtbl := gt_of ⟨mt2 (List.mem_of_getElem? (i := 235) (by decide +kernel)), by decide +kernel⟩
theorem zw540 : Cond.static mX4_packVisit.1 ∈ gtbl := gt_of ⟨mt2 (List.mem_of_getElem? (i := 234) (by decide +kernel)), by decide +kernel⟩
theorem zw539n : Cond.methodLinkNest RX2 96 mX4_packVisit.1 "MeshSums" ∈ lw_tbl := mt2 (List.mem_of_getElem? (i := 233) (by decide +kernel))
theorem zok_X4_packVisit_3 : OkM mX4_packVisit 3 := by decide +kernel
theorem oX2_96 : OkM mX4_packVisit 3 ∧ Cond.code mX4_packVisit.1 mX4_packVisit.2.1 mX4_packVisit.2.2.1 mX4_packVisit.2.2.2 ∈ gtbl ∧ Cond.initialized mX4_packVisit.1.cls ∈ gtbl ∧ Cond.methodLinkNest RX2 96 mX4_packVisit.1 "MeshSums" ∈ lw_tbl ∧ Cond.static mX4_packVisit.1 ∈ gtbl ∧ True := ⟨zok_X4_packVisit_3, zw541, zw67, zw539n, ⟨zw540, trivial⟩⟩
theorem zw564 : Cond.code mX4_cameFrom.1 mX4_cameFrom.2.1 mX4_cameFrom.2.2.1 mX4_cameFrom.2.2.2 ∈ gtbl := gt_of ⟨mt3 (List.mem_of_getElem? (i := 18) (by decide +kernel)), by decide +kernel⟩
theorem zw563 : Cond.static mX4_cameFrom.1 ∈ gtbl := gt_of ⟨mt3 (List.mem_of_getElem? (i := 17) (by decide +kernel)), by decide +kernel⟩
theorem zw562n : Cond.methodLinkNest RX2 100 mX4_cameFrom.1 "MeshSums" ∈ lw_tbl := mt3 (List.mem_of_getElem? (i := 16) (by decide +kernel))
theorem zok_X4_cameFrom_1 : OkM mX4_cameFrom 1 := by decide +kernel
theorem oX2_100 : OkM mX4_cameFrom 1 ∧ Cond.code mX4_cameFrom.1 mX4_cameFrom.2.1 mX4_cameFrom.2.2.1 mX4_cameFrom.2.2.2 ∈ gtbl ∧ Cond.initialized mX4_cameFrom.1.cls ∈ gtbl ∧ Cond.methodLinkNest RX2 100 mX4_cameFrom.1 "MeshSums" ∈ lw_tbl ∧ Cond.static mX4_cameFrom.1 ∈ gtbl ∧ True := ⟨zok_X4_cameFrom_1, zw564, zw67, zw562n, ⟨zw563, trivial⟩⟩
theorem zw567 : Cond.code mX4_cameBy.1 mX4_cameBy.2.1 mX4_cameBy.2.2.1 mX4_cameBy.2.2.2 ∈ gtbl := gt_of ⟨mt3 (List.mem_of_getElem? (i := 21) (by decide +kernel)), by decide +kernel⟩
theorem zw566 : Cond.static mX4_cameBy.1 ∈ gtbl := gt_of ⟨mt3 (List.mem_of_getElem? (i := 20) (by decide +kernel)), by decide +kernel⟩
theorem zw565n : Cond.methodLinkNest RX2 103 mX4_cameBy.1 "MeshSums" ∈ lw_tbl := mt3 (List.mem_of_getElem? (i := 19) (by decide +kernel))
theorem zok_X4_cameBy_1 : OkM mX4_cameBy 1 := by decide +kernel
theorem oX2_103 : OkM mX4_cameBy 1 ∧ Cond.code mX4_cameBy.1 mX4_cameBy.2.1 mX4_cameBy.2.2.1 mX4_cameBy.2.2.2 ∈ gtbl ∧ Cond.initialized mX4_cameBy.1.cls ∈ gtbl ∧ Cond.methodLinkNest RX2 103 mX4_cameBy.1 "MeshSums" ∈ lw_tbl ∧ Cond.static mX4_cameBy.1 ∈ gtbl ∧ True := ⟨zok_X4_cameBy_1, zw567, zw67, zw565n, ⟨zw566, trivial⟩⟩
theorem zw625n : Cond.methodLinkNest RX2 108 mX4_actPart.1 "MeshSums" ∈ lw_tbl := mt3 (List.mem_of_getElem? (i := 79) (by decide +kernel))
theorem oX2_108 : OkM mX4_actPart 2 ∧ Cond.code mX4_actPart.1 mX4_actPart.2.1 mX4_actPart.2.2.1 mX4_actPart.2.2.2 ∈ gtbl ∧ Cond.initialized mX4_actPart.1.cls ∈ gtbl ∧ Cond.methodLinkNest RX2 108 mX4_actPart.1 "MeshSums" ∈ lw_tbl ∧ Cond.static mX4_actPart.1 ∈ gtbl ∧ True := ⟨zok_X4_actPart_2, zw585, zw67, zw625n, ⟨zw584, trivial⟩⟩
theorem zw142 : Cond.methodLink RX3 3 Lib.objectInit ∈ gtbl := gt_of ⟨mt1 (List.mem_of_getElem? (i := 76) (by decide +kernel)), by decide +kernel⟩
theorem oX3_3 : Cond.methodLink RX3 3 Lib.objectInit ∈ gtbl ∧ Cond.instanceMethod Lib.objectInit ∈ gtbl ∧ Cond.code Lib.objectInit ⟨#[0xb1]⟩ 1 none ∈ gtbl := ⟨zw142, zw82, zw83⟩
theorem zw349 : Cond.code mX3_base.1 mX3_base.2.1 mX3_base.2.2.1 mX3_base.2.2.2 ∈ gtbl := gt_of ⟨mt2 (List.mem_of_getElem? (i := 43) (by decide +kernel)), by decide +kernel⟩
theorem zw348 : Cond.instanceMethod mX3_base.1 ∈ gtbl := gt_of ⟨mt2 (List.mem_of_getElem? (i := 42) (by decide +kernel)), by decide +kernel⟩
theorem zw12 : Cond.selects mX3_base.1.cls mX3_base.1 mX3_base.1 ∈ gtbl := gt_of ⟨mt0 (List.mem_of_getElem? (i := 12) (by decide +kernel)), by decide +kernel⟩
theorem zw346 : Cond.methodLink RX3 45 mX3_base.1 ∈ gtbl := gt_of ⟨mt2 (List.mem_of_getElem? (i := 40) (by decide +kernel)), by decide +kernel⟩
theorem zok_X3_base_0 : OkM mX3_base 0 := by decide +kernel
theorem oX3_45 : OkM mX3_base 0 ∧ Cond.code mX3_base.1 mX3_base.2.1 mX3_base.2.2.1 mX3_base.2.2.2 ∈ gtbl ∧ Cond.initialized mX3_base.1.cls ∈ gtbl ∧ Cond.methodLink RX3 45 mX3_base.1 ∈ gtbl ∧ Cond.instanceMethod mX3_base.1 ∈ gtbl ∧ Cond.selects mX3_base.1.cls mX3_base.1 mX3_base.1 ∈ gtbl := ⟨zok_X3_base_0, zw349, zw70, zw346, ⟨zw348, zw12⟩⟩
theorem zw352 : Cond.code mX3_power.1 mX3_power.2.1 mX3_power.2.2.1 mX3_power.2.2.2 ∈ gtbl := gt_of ⟨mt2 (List.mem_of_getElem? (i := 46) (by decide +kernel)), by decide +kernel⟩
theorem zw351 : Cond.static mX3_power.1 ∈ gtbl := gt_of ⟨mt2 (List.mem_of_getElem? (i := 45) (by decide +kernel)), by decide +kernel⟩
theorem zw350 : Cond.methodLink RX3 49 mX3_power.1 ∈ gtbl := gt_of ⟨mt2 (List.mem_of_getElem? (i := 44) (by decide +kernel)), by decide +kernel⟩
theorem zok_X3_power_2 : OkM mX3_power 2 := by decide +kernel
theorem oX3_49 : OkM mX3_power 2 ∧ Cond.code mX3_power.1 mX3_power.2.1 mX3_power.2.2.1 mX3_power.2.2.2 ∈ gtbl ∧ Cond.initialized mX3_power.1.cls ∈ gtbl ∧ Cond.methodLink RX3 49 mX3_power.1 ∈ gtbl ∧ Cond.static mX3_power.1 ∈ gtbl ∧ True := ⟨zok_X3_power_2, zw352, zw70, zw350, ⟨zw351, trivial⟩⟩
theorem zw353 : Cond.methodLink RX3 56 mJ7_fill_53178.1 ∈ gtbl := gt_of ⟨mt2 (List.mem_of_getElem? (i := 47) (by decide +kernel)), by decide +kernel⟩
theorem oX3_56 : OkM mJ7_fill_53178 2 ∧ Cond.code mJ7_fill_53178.1 mJ7_fill_53178.2.1 mJ7_fill_53178.2.2.1 mJ7_fill_53178.2.2.2 ∈ gtbl ∧ Cond.initialized mJ7_fill_53178.1.cls ∈ gtbl ∧ Cond.methodLink RX3 56 mJ7_fill_53178.1 ∈ gtbl ∧ Cond.static mJ7_fill_53178.1 ∈ gtbl ∧ True := ⟨zok_J7_fill_53178_2, zw96, zw69, zw353, ⟨zw95, trivial⟩⟩
theorem zw366 : Cond.code mX3_numberAt.1 mX3_numberAt.2.1 mX3_numberAt.2.2.1 mX3_numberAt.2.2.2 ∈ gtbl := gt_of ⟨mt2 (List.mem_of_getElem? (i := 60) (by decide +kernel)), by decide +kernel⟩
theorem zw365 : Cond.instanceMethod mX3_numberAt.1 ∈ gtbl := gt_of ⟨mt2 (List.mem_of_getElem? (i := 59) (by decide +kernel)), by decide +kernel⟩
theorem zw14 : Cond.selects mX3_numberAt.1.cls mX3_numberAt.1 mX3_numberAt.1 ∈ gtbl := gt_of ⟨mt0 (List.mem_of_getElem? (i := 14) (by decide +kernel)), by decide +kernel⟩
theorem zw363 : Cond.methodLink RX3 67 mX3_numberAt.1 ∈ gtbl := gt_of ⟨mt2 (List.mem_of_getElem? (i := 57) (by decide +kernel)), by decide +kernel⟩
theorem zok_X3_numberAt_2 : OkM mX3_numberAt 2 := by decide +kernel
theorem oX3_67 : OkM mX3_numberAt 2 ∧ Cond.code mX3_numberAt.1 mX3_numberAt.2.1 mX3_numberAt.2.2.1 mX3_numberAt.2.2.2 ∈ gtbl ∧ Cond.initialized mX3_numberAt.1.cls ∈ gtbl ∧ Cond.methodLink RX3 67 mX3_numberAt.1 ∈ gtbl ∧ Cond.instanceMethod mX3_numberAt.1 ∈ gtbl ∧ Cond.selects mX3_numberAt.1.cls mX3_numberAt.1 mX3_numberAt.1 ∈ gtbl := ⟨zok_X3_numberAt_2, zw366, zw70, zw363, ⟨zw365, zw14⟩⟩
theorem zw385 : Cond.code mJ9_abs_0f7a4.1 mJ9_abs_0f7a4.2.1 mJ9_abs_0f7a4.2.2.1 mJ9_abs_0f7a4.2.2.2 ∈ gtbl := gt_of ⟨mt2 (List.mem_of_getElem? (i := 79) (by decide +kernel)), by decide +kernel⟩
theorem zw384 : Cond.static mJ9_abs_0f7a4.1 ∈ gtbl := gt_of ⟨mt2 (List.mem_of_getElem? (i := 78) (by decide +kernel)), by decide +kernel⟩
theorem zw383 : Cond.methodLink RX3 70 mJ9_abs_0f7a4.1 ∈ gtbl := gt_of ⟨mt2 (List.mem_of_getElem? (i := 77) (by decide +kernel)), by decide +kernel⟩
theorem zok_J9_abs_0f7a4_1 : OkM mJ9_abs_0f7a4 1 := by decide +kernel
theorem oX3_70 : OkM mJ9_abs_0f7a4 1 ∧ Cond.code mJ9_abs_0f7a4.1 mJ9_abs_0f7a4.2.1 mJ9_abs_0f7a4.2.2.1 mJ9_abs_0f7a4.2.2.2 ∈ gtbl ∧ Cond.initialized mJ9_abs_0f7a4.1.cls ∈ gtbl ∧ Cond.methodLink RX3 70 mJ9_abs_0f7a4.1 ∈ gtbl ∧ Cond.static mJ9_abs_0f7a4.1 ∈ gtbl ∧ True := ⟨zok_J9_abs_0f7a4_1, zw385, zw74, zw383, ⟨zw384, trivial⟩⟩
theorem zw382 : Cond.code mX3_spellRow.1 mX3_spellRow.2.1 mX3_spellRow.2.2.1 mX3_spellRow.2.2.2 ∈ gtbl := gt_of ⟨mt2 (List.mem_of_getElem? (i := 76) (by decide +kernel)), by decide +kernel⟩
theorem zw381 : Cond.instanceMethod mX3_spellRow.1 ∈ gtbl := gt_of ⟨mt2 (List.mem_of_getElem? (i := 75) (by decide +kernel)), by decide +kernel⟩
theorem zw17 : Cond.selects mX3_spellRow.1.cls mX3_spellRow.1 mX3_spellRow.1 ∈ gtbl := gt_of ⟨mt0 (List.mem_of_getElem? (i := 17) (by decide +kernel)), by decide +kernel⟩
theorem zw379 : Cond.methodLink RX3 76 mX3_spellRow.1 ∈ gtbl := gt_of ⟨mt2 (List.mem_of_getElem? (i := 73) (by decide +kernel)), by decide +kernel⟩
theorem zok_X3_spellRow_1 : OkM mX3_spellRow 1 := by decide +kernel
theorem oX3_76 : OkM mX3_spellRow 1 ∧ Cond.code mX3_spellRow.1 mX3_spellRow.2.1 mX3_spellRow.2.2.1 mX3_spellRow.2.2.2 ∈ gtbl ∧ Cond.initialized mX3_spellRow.1.cls ∈ gtbl ∧ Cond.methodLink RX3 76 mX3_spellRow.1 ∈ gtbl ∧ Cond.instanceMethod mX3_spellRow.1 ∈ gtbl ∧ Cond.selects mX3_spellRow.1.cls mX3_spellRow.1 mX3_spellRow.1 ∈ gtbl := ⟨zok_X3_spellRow_1, zw382, zw70, zw379, ⟨zw381, zw17⟩⟩
theorem zw389 : Cond.code mX3_usedColumns.1 mX3_usedColumns.2.1 mX3_usedColumns.2.2.1 mX3_usedColumns.2.2.2 ∈ gtbl := gt_of ⟨mt2 (List.mem_of_getElem? (i := 83) (by decide +kernel)), by decide +kernel⟩
theorem zw388 : Cond.instanceMethod mX3_usedColumns.1 ∈ gtbl := gt_of ⟨mt2 (List.mem_of_getElem? (i := 82) (by decide +kernel)), by decide +kernel⟩
theorem zw18 : Cond.selects mX3_usedColumns.1.cls mX3_usedColumns.1 mX3_usedColumns.1 ∈ gtbl := gt_of ⟨mt0 (List.mem_of_getElem? (i := 18) (by decide +kernel)), by decide +kernel⟩
theorem zw386 : Cond.methodLink RX3 80 mX3_usedColumns.1 ∈ gtbl := gt_of ⟨mt2 (List.mem_of_getElem? (i := 80) (by decide +kernel)), by decide +kernel⟩
theorem zok_X3_usedColumns_0 : OkM mX3_usedColumns 0 := by decide +kernel
theorem oX3_80 : OkM mX3_usedColumns 0 ∧ Cond.code mX3_usedColumns.1 mX3_usedColumns.2.1 mX3_usedColumns.2.2.1 mX3_usedColumns.2.2.2 ∈ gtbl ∧ Cond.initialized mX3_usedColumns.1.cls ∈ gtbl ∧ Cond.methodLink RX3 80 mX3_usedColumns.1 ∈ gtbl ∧ Cond.instanceMethod mX3_usedColumns.1 ∈ gtbl ∧ Cond.selects mX3_usedColumns.1.cls mX3_usedColumns.1 mX3_usedColumns.1 ∈ gtbl := ⟨zok_X3_usedColumns_0, zw389, zw70, zw386, ⟨zw388, zw18⟩⟩
theorem zw390n : Cond.methodLinkNest RX3 83 mX1_place.1 "MeshSums" ∈ lw_tbl := mt2 (List.mem_of_getElem? (i := 84) (by decide +kernel))
theorem oX3_83 : OkM mX1_place 2 ∧ Cond.code mX1_place.1 mX1_place.2.1 mX1_place.2.2.1 mX1_place.2.2.2 ∈ gtbl ∧ Cond.initialized mX1_place.1.cls ∈ gtbl ∧ Cond.methodLinkNest RX3 83 mX1_place.1 "MeshSums" ∈ lw_tbl ∧ Cond.instanceMethod mX1_place.1 ∈ gtbl ∧ Cond.selects mX1_place.1.cls mX1_place.1 mX1_place.1 ∈ gtbl := ⟨zok_X1_place_2, zw285, zw68, zw390n, ⟨zw284, zw3⟩⟩
theorem zw391n : Cond.methodLinkNest RX3 86 mX1_put.1 "MeshSums" ∈ lw_tbl := mt2 (List.mem_of_getElem? (i := 85) (by decide +kernel))
theorem oX3_86 : OkM mX1_put 2 ∧ Cond.code mX1_put.1 mX1_put.2.1 mX1_put.2.2.1 mX1_put.2.2.2 ∈ gtbl ∧ Cond.initialized mX1_put.1.cls ∈ gtbl ∧ Cond.methodLinkNest RX3 86 mX1_put.1 "MeshSums" ∈ lw_tbl ∧ Cond.instanceMethod mX1_put.1 ∈ gtbl ∧ Cond.selects mX1_put.1.cls mX1_put.1 mX1_put.1 ∈ gtbl := ⟨zok_X1_put_2, zw297, zw68, zw391n, ⟨zw296, zw6⟩⟩
theorem zw392n : Cond.methodLinkNest RX3 90 mX1_sticksAtAnother.1 "MeshSums" ∈ lw_tbl := mt2 (List.mem_of_getElem? (i := 86) (by decide +kernel))
theorem oX3_90 : OkM mX1_sticksAtAnother 2 ∧ Cond.code mX1_sticksAtAnother.1 mX1_sticksAtAnother.2.1 mX1_sticksAtAnother.2.2.1 mX1_sticksAtAnother.2.2.2 ∈ gtbl ∧ Cond.initialized mX1_sticksAtAnother.1.cls ∈ gtbl ∧ Cond.methodLinkNest RX3 90 mX1_sticksAtAnother.1 "MeshSums" ∈ lw_tbl ∧ Cond.instanceMethod mX1_sticksAtAnother.1 ∈ gtbl ∧ Cond.selects mX1_sticksAtAnother.1.cls mX1_sticksAtAnother.1 mX1_sticksAtAnother.1 ∈ gtbl := ⟨zok_X1_sticksAtAnother_2, zw289, zw68, zw392n, ⟨zw288, zw4⟩⟩
theorem zw405 : Cond.code mX3_bitSum.1 mX3_bitSum.2.1 mX3_bitSum.2.2.1 mX3_bitSum.2.2.2 ∈ gtbl := gt_of ⟨mt2 (List.mem_of_getElem? (i := 99) (by decide +kernel)), by decide +kernel⟩
theorem zw404 : Cond.instanceMethod mX3_bitSum.1 ∈ gtbl := gt_of ⟨mt2 (List.mem_of_getElem? (i := 98) (by decide +kernel)), by decide +kernel⟩
theorem zw20 : Cond.selects mX3_bitSum.1.cls mX3_bitSum.1 mX3_bitSum.1 ∈ gtbl := gt_of ⟨mt0 (List.mem_of_getElem? (i := 20) (by decide +kernel)), by decide +kernel⟩
theorem zw402 : Cond.methodLink RX3 94 mX3_bitSum.1 ∈ gtbl := gt_of ⟨mt2 (List.mem_of_getElem? (i := 96) (by decide +kernel)), by decide +kernel⟩
theorem zok_X3_bitSum_2 : OkM mX3_bitSum 2 := by decide +kernel
theorem oX3_94 : OkM mX3_bitSum 2 ∧ Cond.code mX3_bitSum.1 mX3_bitSum.2.1 mX3_bitSum.2.2.1 mX3_bitSum.2.2.2 ∈ gtbl ∧ Cond.initialized mX3_bitSum.1.cls ∈ gtbl ∧ Cond.methodLink RX3 94 mX3_bitSum.1 ∈ gtbl ∧ Cond.instanceMethod mX3_bitSum.1 ∈ gtbl ∧ Cond.selects mX3_bitSum.1.cls mX3_bitSum.1 mX3_bitSum.1 ∈ gtbl := ⟨zok_X3_bitSum_2, zw405, zw70, zw402, ⟨zw404, zw20⟩⟩
theorem zw406n : Cond.methodLinkNest RX3 97 mX1_convert.1 "MeshSums" ∈ lw_tbl := mt2 (List.mem_of_getElem? (i := 100) (by decide +kernel))
theorem oX3_97 : OkM mX1_convert 1 ∧ Cond.code mX1_convert.1 mX1_convert.2.1 mX1_convert.2.2.1 mX1_convert.2.2.2 ∈ gtbl ∧ Cond.initialized mX1_convert.1.cls ∈ gtbl ∧ Cond.methodLinkNest RX3 97 mX1_convert.1 "MeshSums" ∈ lw_tbl ∧ Cond.instanceMethod mX1_convert.1 ∈ gtbl ∧ Cond.selects mX1_convert.1.cls mX1_convert.1 mX1_convert.1 ∈ gtbl := ⟨zok_X1_convert_1, zw334, zw68, zw406n, ⟨zw333, zw10⟩⟩
theorem zw434 : Cond.code mX3_fillCosts.1 mX3_fillCosts.2.1 mX3_fillCosts.2.2.1 mX3_fillCosts.2.2.2 ∈ gtbl := gt_of ⟨mt2 (List.mem_of_getElem? (i := 128) (by decide +kernel)), by decide +kernel⟩
theorem zw433 : Cond.instanceMethod mX3_fillCosts.1 ∈ gtbl := gt_of ⟨mt2 (List.mem_of_getElem? (i := 127) (by decide +kernel)), by decide +kernel⟩
theorem zw24 : Cond.selects mX3_fillCosts.1.cls mX3_fillCosts.1 mX3_fillCosts.1 ∈ gtbl := gt_of ⟨mt0 (List.mem_of_getElem? (i := 24) (by decide +kernel)), by decide +kernel⟩
theorem zw431 : Cond.methodLink RX3 106 mX3_fillCosts.1 ∈ gtbl := gt_of ⟨mt2 (List.mem_of_getElem? (i := 125) (by decide +kernel)), by decide +kernel⟩
theorem zok_X3_fillCosts_0 : OkM mX3_fillCosts 0 := by decide +kernel
theorem oX3_106 : OkM mX3_fillCosts 0 ∧ Cond.code mX3_fillCosts.1 mX3_fillCosts.2.1 mX3_fillCosts.2.2.1 mX3_fillCosts.2.2.2 ∈ gtbl ∧ Cond.initialized mX3_fillCosts.1.cls ∈ gtbl ∧ Cond.methodLink RX3 106 mX3_fillCosts.1 ∈ gtbl ∧ Cond.instanceMethod mX3_fillCosts.1 ∈ gtbl ∧ Cond.selects mX3_fillCosts.1.cls mX3_fillCosts.1 mX3_fillCosts.1 ∈ gtbl := ⟨zok_X3_fillCosts_0, zw434, zw70, zw431, ⟨zw433, zw24⟩⟩
theorem zw442 : Cond.code mJ6_bitCount_0f7a4.1 mJ6_bitCount_0f7a4.2.1 mJ6_bitCount_0f7a4.2.2.1 mJ6_bitCount_0f7a4.2.2.2 ∈ gtbl := gt_of ⟨mt2 (List.mem_of_getElem? (i := 136) (by decide +kernel)), by decide +kernel⟩
theorem zw75 : Cond.initialized mJ6_bitCount_0f7a4.1.cls ∈ gtbl := gt_of ⟨mt1 (List.mem_of_getElem? (i := 9) (by decide +kernel)), by decide +kernel⟩
theorem zw441 : Cond.static mJ6_bitCount_0f7a4.1 ∈ gtbl := gt_of ⟨mt2 (List.mem_of_getElem? (i := 135) (by decide +kernel)), by decide +kernel⟩
theorem zw440 : Cond.methodLink RX3 112 mJ6_bitCount_0f7a4.1 ∈ gtbl := gt_of ⟨mt2 (List.mem_of_getElem? (i := 134) (by decide +kernel)), by decide +kernel⟩
theorem zok_J6_bitCount_0f7a4_1 : OkM mJ6_bitCount_0f7a4 1 := by decide +kernel
theorem oX3_112 : OkM mJ6_bitCount_0f7a4 1 ∧ Cond.code mJ6_bitCount_0f7a4.1 mJ6_bitCount_0f7a4.2.1 mJ6_bitCount_0f7a4.2.2.1 mJ6_bitCount_0f7a4.2.2.2 ∈ gtbl ∧ Cond.initialized mJ6_bitCount_0f7a4.1.cls ∈ gtbl ∧ Cond.methodLink RX3 112 mJ6_bitCount_0f7a4.1 ∈ gtbl ∧ Cond.static mJ6_bitCount_0f7a4.1 ∈ gtbl ∧ True := ⟨zok_J6_bitCount_0f7a4_1, zw442, zw75, zw440, ⟨zw441, trivial⟩⟩
theorem zw449 : Cond.code mX3_leastFrom.1 mX3_leastFrom.2.1 mX3_leastFrom.2.2.1 mX3_leastFrom.2.2.2 ∈ gtbl := gt_of ⟨mt2 (List.mem_of_getElem? (i := 143) (by decide +kernel)), by decide +kernel⟩
theorem zw448 : Cond.instanceMethod mX3_leastFrom.1 ∈ gtbl := gt_of ⟨mt2 (List.mem_of_getElem? (i := 142) (by decide +kernel)), by decide +kernel⟩
theorem zw26 : Cond.selects mX3_leastFrom.1.cls mX3_leastFrom.1 mX3_leastFrom.1 ∈ gtbl := gt_of ⟨mt0 (List.mem_of_getElem? (i := 26) (by decide +kernel)), by decide +kernel⟩
theorem zw446 : Cond.methodLink RX3 117 mX3_leastFrom.1 ∈ gtbl := gt_of ⟨mt2 (List.mem_of_getElem? (i := 140) (by decide +kernel)), by decide +kernel⟩
theorem zok_X3_leastFrom_2 : OkM mX3_leastFrom 2 := by decide +kernel
theorem oX3_117 : OkM mX3_leastFrom 2 ∧ Cond.code mX3_leastFrom.1 mX3_leastFrom.2.1 mX3_leastFrom.2.2.1 mX3_leastFrom.2.2.2 ∈ gtbl ∧ Cond.initialized mX3_leastFrom.1.cls ∈ gtbl ∧ Cond.methodLink RX3 117 mX3_leastFrom.1 ∈ gtbl ∧ Cond.instanceMethod mX3_leastFrom.1 ∈ gtbl ∧ Cond.selects mX3_leastFrom.1.cls mX3_leastFrom.1 mX3_leastFrom.1 ∈ gtbl := ⟨zok_X3_leastFrom_2, zw449, zw70, zw446, ⟨zw448, zw26⟩⟩
theorem zw459 : Cond.code mX3_chooseFirstLeast.1 mX3_chooseFirstLeast.2.1 mX3_chooseFirstLeast.2.2.1 mX3_chooseFirstLeast.2.2.2 ∈ gtbl := gt_of ⟨mt2 (List.mem_of_getElem? (i := 153) (by decide +kernel)), by decide +kernel⟩
theorem zw458 : Cond.instanceMethod mX3_chooseFirstLeast.1 ∈ gtbl := gt_of ⟨mt2 (List.mem_of_getElem? (i := 152) (by decide +kernel)), by decide +kernel⟩
theorem zw28 : Cond.selects mX3_chooseFirstLeast.1.cls mX3_chooseFirstLeast.1 mX3_chooseFirstLeast.1 ∈ gtbl := gt_of ⟨mt0 (List.mem_of_getElem? (i := 28) (by decide +kernel)), by decide +kernel⟩
theorem zw456 : Cond.methodLink RX3 120 mX3_chooseFirstLeast.1 ∈ gtbl := gt_of ⟨mt2 (List.mem_of_getElem? (i := 150) (by decide +kernel)), by decide +kernel⟩
theorem zok_X3_chooseFirstLeast_0 : OkM mX3_chooseFirstLeast 0 := by decide +kernel
theorem oX3_120 : OkM mX3_chooseFirstLeast 0 ∧ Cond.code mX3_chooseFirstLeast.1 mX3_chooseFirstLeast.2.1 mX3_chooseFirstLeast.2.2.1 mX3_chooseFirstLeast.2.2.2 ∈ gtbl ∧ Cond.initialized mX3_chooseFirstLeast.1.cls ∈ gtbl ∧ Cond.methodLink RX3 120 mX3_chooseFirstLeast.1 ∈ gtbl ∧ Cond.instanceMethod mX3_chooseFirstLeast.1 ∈ gtbl ∧ Cond.selects mX3_chooseFirstLeast.1.cls mX3_chooseFirstLeast.1 mX3_chooseFirstLeast.1 ∈ gtbl := ⟨zok_X3_chooseFirstLeast_0, zw459, zw70, zw456, ⟨zw458, zw28⟩⟩
theorem zw438 : Cond.code mX3_costOn.1 mX3_costOn.2.1 mX3_costOn.2.2.1 mX3_costOn.2.2.2 ∈ gtbl := gt_of ⟨mt2 (List.mem_of_getElem? (i := 132) (by decide +kernel)), by decide +kernel⟩
theorem zw437 : Cond.instanceMethod mX3_costOn.1 ∈ gtbl := gt_of ⟨mt2 (List.mem_of_getElem? (i := 131) (by decide +kernel)), by decide +kernel⟩
theorem zw25 : Cond.selects mX3_costOn.1.cls mX3_costOn.1 mX3_costOn.1 ∈ gtbl := gt_of ⟨mt0 (List.mem_of_getElem? (i := 25) (by decide +kernel)), by decide +kernel⟩
theorem zw435 : Cond.methodLink RX3 123 mX3_costOn.1 ∈ gtbl := gt_of ⟨mt2 (List.mem_of_getElem? (i := 129) (by decide +kernel)), by decide +kernel⟩
theorem zok_X3_costOn_1 : OkM mX3_costOn 1 := by decide +kernel
theorem oX3_123 : OkM mX3_costOn 1 ∧ Cond.code mX3_costOn.1 mX3_costOn.2.1 mX3_costOn.2.2.1 mX3_costOn.2.2.2 ∈ gtbl ∧ Cond.initialized mX3_costOn.1.cls ∈ gtbl ∧ Cond.methodLink RX3 123 mX3_costOn.1 ∈ gtbl ∧ Cond.instanceMethod mX3_costOn.1 ∈ gtbl ∧ Cond.selects mX3_costOn.1.cls mX3_costOn.1 mX3_costOn.1 ∈ gtbl := ⟨zok_X3_costOn_1, zw438, zw70, zw435, ⟨zw437, zw25⟩⟩
theorem zw439n : Cond.methodLinkNest RX3 126 mX1_sticks.1 "MeshSums" ∈ lw_tbl := mt2 (List.mem_of_getElem? (i := 133) (by decide +kernel))
theorem oX3_126 : OkM mX1_sticks 1 ∧ Cond.code mX1_sticks.1 mX1_sticks.2.1 mX1_sticks.2.2.1 mX1_sticks.2.2.2 ∈ gtbl ∧ Cond.initialized mX1_sticks.1.cls ∈ gtbl ∧ Cond.methodLinkNest RX3 126 mX1_sticks.1 "MeshSums" ∈ lw_tbl ∧ Cond.instanceMethod mX1_sticks.1 ∈ gtbl ∧ Cond.selects mX1_sticks.1.cls mX1_sticks.1 mX1_sticks.1 ∈ gtbl := ⟨zok_X1_sticks_1, zw293, zw68, zw439n, ⟨zw292, zw5⟩⟩
theorem zw454 : Cond.code mX3_costWith.1 mX3_costWith.2.1 mX3_costWith.2.2.1 mX3_costWith.2.2.2 ∈ gtbl := gt_of ⟨mt2 (List.mem_of_getElem? (i := 148) (by decide +kernel)), by decide +kernel⟩
theorem zw453 : Cond.instanceMethod mX3_costWith.1 ∈ gtbl := gt_of ⟨mt2 (List.mem_of_getElem? (i := 147) (by decide +kernel)), by decide +kernel⟩
theorem zw27 : Cond.selects mX3_costWith.1.cls mX3_costWith.1 mX3_costWith.1 ∈ gtbl := gt_of ⟨mt0 (List.mem_of_getElem? (i := 27) (by decide +kernel)), by decide +kernel⟩
theorem zw451 : Cond.methodLink RX3 134 mX3_costWith.1 ∈ gtbl := gt_of ⟨mt2 (List.mem_of_getElem? (i := 145) (by decide +kernel)), by decide +kernel⟩
theorem zok_X3_costWith_3 : OkM mX3_costWith 3 := by decide +kernel
theorem oX3_134 : OkM mX3_costWith 3 ∧ Cond.code mX3_costWith.1 mX3_costWith.2.1 mX3_costWith.2.2.1 mX3_costWith.2.2.2 ∈ gtbl ∧ Cond.initialized mX3_costWith.1.cls ∈ gtbl ∧ Cond.methodLink RX3 134 mX3_costWith.1 ∈ gtbl ∧ Cond.instanceMethod mX3_costWith.1 ∈ gtbl ∧ Cond.selects mX3_costWith.1.cls mX3_costWith.1 mX3_costWith.1 ∈ gtbl := ⟨zok_X3_costWith_3, zw454, zw70, zw451, ⟨zw453, zw27⟩⟩
theorem zw455 : Cond.methodLink RX3 138 mJ9_min_7cf53.1 ∈ gtbl := gt_of ⟨mt2 (List.mem_of_getElem? (i := 149) (by decide +kernel)), by decide +kernel⟩
theorem oX3_138 : OkM mJ9_min_7cf53 2 ∧ Cond.code mJ9_min_7cf53.1 mJ9_min_7cf53.2.1 mJ9_min_7cf53.2.2.1 mJ9_min_7cf53.2.2.2 ∈ gtbl ∧ Cond.initialized mJ9_min_7cf53.1.cls ∈ gtbl ∧ Cond.methodLink RX3 138 mJ9_min_7cf53.1 ∈ gtbl ∧ Cond.static mJ9_min_7cf53.1 ∈ gtbl ∧ True := ⟨zok_J9_min_7cf53_2, zw337, zw74, zw455, ⟨zw336, trivial⟩⟩
theorem zw463 : Cond.code mX3_firstLeastRow.1 mX3_firstLeastRow.2.1 mX3_firstLeastRow.2.2.1 mX3_firstLeastRow.2.2.2 ∈ gtbl := gt_of ⟨mt2 (List.mem_of_getElem? (i := 157) (by decide +kernel)), by decide +kernel⟩
theorem zw462 : Cond.instanceMethod mX3_firstLeastRow.1 ∈ gtbl := gt_of ⟨mt2 (List.mem_of_getElem? (i := 156) (by decide +kernel)), by decide +kernel⟩
theorem zw29 : Cond.selects mX3_firstLeastRow.1.cls mX3_firstLeastRow.1 mX3_firstLeastRow.1 ∈ gtbl := gt_of ⟨mt0 (List.mem_of_getElem? (i := 29) (by decide +kernel)), by decide +kernel⟩
theorem zw460 : Cond.methodLink RX3 141 mX3_firstLeastRow.1 ∈ gtbl := gt_of ⟨mt2 (List.mem_of_getElem? (i := 154) (by decide +kernel)), by decide +kernel⟩
theorem zok_X3_firstLeastRow_2 : OkM mX3_firstLeastRow 2 := by decide +kernel
theorem oX3_141 : OkM mX3_firstLeastRow 2 ∧ Cond.code mX3_firstLeastRow.1 mX3_firstLeastRow.2.1 mX3_firstLeastRow.2.2.1 mX3_firstLeastRow.2.2.2 ∈ gtbl ∧ Cond.initialized mX3_firstLeastRow.1.cls ∈ gtbl ∧ Cond.methodLink RX3 141 mX3_firstLeastRow.1 ∈ gtbl ∧ Cond.instanceMethod mX3_firstLeastRow.1 ∈ gtbl ∧ Cond.selects mX3_firstLeastRow.1.cls mX3_firstLeastRow.1 mX3_firstLeastRow.1 ∈ gtbl := ⟨zok_X3_firstLeastRow_2, zw463, zw70, zw460, ⟨zw462, zw29⟩⟩
theorem zw80 : Cond.code mX4_init.1 mX4_init.2.1 mX4_init.2.2.1 mX4_init.2.2.2 ∈ gtbl := gt_of ⟨mt1 (List.mem_of_getElem? (i := 14) (by decide +kernel)), by decide +kernel⟩
theorem zw79 : Cond.instanceMethod mX4_init.1 ∈ gtbl := gt_of ⟨mt1 (List.mem_of_getElem? (i := 13) (by decide +kernel)), by decide +kernel⟩
theorem zw78 : Cond.methodLink RL 9 mX4_init.1 ∈ gtbl := gt_of ⟨mt1 (List.mem_of_getElem? (i := 12) (by decide +kernel)), by decide +kernel⟩
theorem zok_X4_init_0 : OkM mX4_init 0 := by decide +kernel
theorem oL_9 : OkM mX4_init 0 ∧ Cond.code mX4_init.1 mX4_init.2.1 mX4_init.2.2.1 mX4_init.2.2.2 ∈ gtbl ∧ Cond.initialized mX4_init.1.cls ∈ gtbl ∧ Cond.methodLink RL 9 mX4_init.1 ∈ gtbl ∧ Cond.instanceMethod mX4_init.1 ∈ gtbl ∧ mX4_init.1.name = "<init>" := ⟨zok_X4_init_0, zw80, zw67, zw78, ⟨zw79, by decide +kernel⟩⟩
theorem zw630 : Cond.code mX5_init.1 mX5_init.2.1 mX5_init.2.2.1 mX5_init.2.2.2 ∈ gtbl := gt_of ⟨mt3 (List.mem_of_getElem? (i := 84) (by decide +kernel)), by decide +kernel⟩
theorem zw73 : Cond.initialized mX5_init.1.cls ∈ gtbl := gt_of ⟨mt1 (List.mem_of_getElem? (i := 7) (by decide +kernel)), by decide +kernel⟩
theorem zw629 : Cond.instanceMethod mX5_init.1 ∈ gtbl := gt_of ⟨mt3 (List.mem_of_getElem? (i := 83) (by decide +kernel)), by decide +kernel⟩
theorem zw628 : Cond.methodLink RL 12 mX5_init.1 ∈ gtbl := gt_of ⟨mt3 (List.mem_of_getElem? (i := 82) (by decide +kernel)), by decide +kernel⟩
theorem zok_X5_init_0 : OkM mX5_init 0 := by decide +kernel
theorem oL_12 : OkM mX5_init 0 ∧ Cond.code mX5_init.1 mX5_init.2.1 mX5_init.2.2.1 mX5_init.2.2.2 ∈ gtbl ∧ Cond.initialized mX5_init.1.cls ∈ gtbl ∧ Cond.methodLink RL 12 mX5_init.1 ∈ gtbl ∧ Cond.instanceMethod mX5_init.1 ∈ gtbl ∧ mX5_init.1.name = "<init>" := ⟨zok_X5_init_0, zw630, zw73, zw628, ⟨zw629, by decide +kernel⟩⟩
theorem zw264 : Cond.code mX4_mesh.1 mX4_mesh.2.1 mX4_mesh.2.2.1 mX4_mesh.2.2.2 ∈ gtbl := gt_of ⟨mt1 (List.mem_of_getElem? (i := 198) (by decide +kernel)), by decide +kernel⟩
theorem zw262 : Cond.instanceMethod mX4_mesh.1 ∈ gtbl := gt_of ⟨mt1 (List.mem_of_getElem? (i := 196) (by decide +kernel)), by decide +kernel⟩
theorem zw263 : Cond.selects mX4_mesh.1.cls mX4_mesh.1 mX4_mesh.1 ∈ gtbl := gt_of ⟨mt1 (List.mem_of_getElem? (i := 197) (by decide +kernel)), by decide +kernel⟩
theorem zw261 : Cond.methodLink RL 13 mX4_mesh.1 ∈ gtbl := gt_of ⟨mt1 (List.mem_of_getElem? (i := 195) (by decide +kernel)), by decide +kernel⟩
theorem zok_X4_mesh_3 : OkM mX4_mesh 3 := by decide +kernel
theorem oL_13 : OkM mX4_mesh 3 ∧ Cond.code mX4_mesh.1 mX4_mesh.2.1 mX4_mesh.2.2.1 mX4_mesh.2.2.2 ∈ gtbl ∧ Cond.initialized mX4_mesh.1.cls ∈ gtbl ∧ Cond.methodLink RL 13 mX4_mesh.1 ∈ gtbl ∧ Cond.instanceMethod mX4_mesh.1 ∈ gtbl ∧ Cond.selects mX4_mesh.1.cls mX4_mesh.1 mX4_mesh.1 ∈ gtbl := ⟨zok_X4_mesh_3, zw264, zw67, zw261, ⟨zw262, zw263⟩⟩
theorem zw727 : Cond.code mX5_mesh.1 mX5_mesh.2.1 mX5_mesh.2.2.1 mX5_mesh.2.2.2 ∈ gtbl := gt_of ⟨mt3 (List.mem_of_getElem? (i := 181) (by decide +kernel)), by decide +kernel⟩
theorem zw725 : Cond.instanceMethod mX5_mesh.1 ∈ gtbl := gt_of ⟨mt3 (List.mem_of_getElem? (i := 179) (by decide +kernel)), by decide +kernel⟩
theorem zw726 : Cond.selects mX5_mesh.1.cls mX5_mesh.1 mX5_mesh.1 ∈ gtbl := gt_of ⟨mt3 (List.mem_of_getElem? (i := 180) (by decide +kernel)), by decide +kernel⟩
theorem zw724 : Cond.methodLink RL 17 mX5_mesh.1 ∈ gtbl := gt_of ⟨mt3 (List.mem_of_getElem? (i := 178) (by decide +kernel)), by decide +kernel⟩
theorem zok_X5_mesh_3 : OkM mX5_mesh 3 := by decide +kernel
theorem oL_17 : OkM mX5_mesh 3 ∧ Cond.code mX5_mesh.1 mX5_mesh.2.1 mX5_mesh.2.2.1 mX5_mesh.2.2.2 ∈ gtbl ∧ Cond.initialized mX5_mesh.1.cls ∈ gtbl ∧ Cond.methodLink RL 17 mX5_mesh.1 ∈ gtbl ∧ Cond.instanceMethod mX5_mesh.1 ∈ gtbl ∧ Cond.selects mX5_mesh.1.cls mX5_mesh.1 mX5_mesh.1 ∈ gtbl := ⟨zok_X5_mesh_3, zw727, zw73, zw724, ⟨zw725, zw726⟩⟩
theorem zw276 : Cond.code mX4_write.1 mX4_write.2.1 mX4_write.2.2.1 mX4_write.2.2.2 ∈ gtbl := gt_of ⟨mt1 (List.mem_of_getElem? (i := 210) (by decide +kernel)), by decide +kernel⟩
theorem zw274 : Cond.instanceMethod mX4_write.1 ∈ gtbl := gt_of ⟨mt1 (List.mem_of_getElem? (i := 208) (by decide +kernel)), by decide +kernel⟩
theorem zw275 : Cond.selects mX4_write.1.cls mX4_write.1 mX4_write.1 ∈ gtbl := gt_of ⟨mt1 (List.mem_of_getElem? (i := 209) (by decide +kernel)), by decide +kernel⟩
theorem zw273 : Cond.methodLink RL 18 mX4_write.1 ∈ gtbl := gt_of ⟨mt1 (List.mem_of_getElem? (i := 207) (by decide +kernel)), by decide +kernel⟩
theorem zok_X4_write_3 : OkM mX4_write 3 := by decide +kernel
theorem oL_18 : OkM mX4_write 3 ∧ Cond.code mX4_write.1 mX4_write.2.1 mX4_write.2.2.1 mX4_write.2.2.2 ∈ gtbl ∧ Cond.initialized mX4_write.1.cls ∈ gtbl ∧ Cond.methodLink RL 18 mX4_write.1 ∈ gtbl ∧ Cond.instanceMethod mX4_write.1 ∈ gtbl ∧ Cond.selects mX4_write.1.cls mX4_write.1 mX4_write.1 ∈ gtbl := ⟨zok_X4_write_3, zw276, zw67, zw273, ⟨zw274, zw275⟩⟩
theorem zw734 : Cond.code mX5_write.1 mX5_write.2.1 mX5_write.2.2.1 mX5_write.2.2.2 ∈ gtbl := gt_of ⟨mt3 (List.mem_of_getElem? (i := 188) (by decide +kernel)), by decide +kernel⟩
theorem zw732 : Cond.instanceMethod mX5_write.1 ∈ gtbl := gt_of ⟨mt3 (List.mem_of_getElem? (i := 186) (by decide +kernel)), by decide +kernel⟩
theorem zw733 : Cond.selects mX5_write.1.cls mX5_write.1 mX5_write.1 ∈ gtbl := gt_of ⟨mt3 (List.mem_of_getElem? (i := 187) (by decide +kernel)), by decide +kernel⟩
theorem zw731 : Cond.methodLink RL 21 mX5_write.1 ∈ gtbl := gt_of ⟨mt3 (List.mem_of_getElem? (i := 185) (by decide +kernel)), by decide +kernel⟩
theorem zok_X5_write_3 : OkM mX5_write 3 := by decide +kernel
theorem oL_21 : OkM mX5_write 3 ∧ Cond.code mX5_write.1 mX5_write.2.1 mX5_write.2.2.1 mX5_write.2.2.2 ∈ gtbl ∧ Cond.initialized mX5_write.1.cls ∈ gtbl ∧ Cond.methodLink RL 21 mX5_write.1 ∈ gtbl ∧ Cond.instanceMethod mX5_write.1 ∈ gtbl ∧ Cond.selects mX5_write.1.cls mX5_write.1 mX5_write.1 ∈ gtbl := ⟨zok_X5_write_3, zw734, zw73, zw731, ⟨zw732, zw733⟩⟩
theorem zw301 : Cond.code mX4_stick.1 mX4_stick.2.1 mX4_stick.2.2.1 mX4_stick.2.2.2 ∈ gtbl := gt_of ⟨mt1 (List.mem_of_getElem? (i := 235) (by decide +kernel)), by decide +kernel⟩
theorem zw299 : Cond.instanceMethod mX4_stick.1 ∈ gtbl := gt_of ⟨mt1 (List.mem_of_getElem? (i := 233) (by decide +kernel)), by decide +kernel⟩
theorem zw300 : Cond.selects mX4_stick.1.cls mX4_stick.1 mX4_stick.1 ∈ gtbl := gt_of ⟨mt1 (List.mem_of_getElem? (i := 234) (by decide +kernel)), by decide +kernel⟩
theorem zw298 : Cond.methodLink RL 22 mX4_stick.1 ∈ gtbl := gt_of ⟨mt1 (List.mem_of_getElem? (i := 232) (by decide +kernel)), by decide +kernel⟩
theorem zok_X4_stick_3 : OkM mX4_stick 3 := by decide +kernel
theorem oL_22 : OkM mX4_stick 3 ∧ Cond.code mX4_stick.1 mX4_stick.2.1 mX4_stick.2.2.1 mX4_stick.2.2.2 ∈ gtbl ∧ Cond.initialized mX4_stick.1.cls ∈ gtbl ∧ Cond.methodLink RL 22 mX4_stick.1 ∈ gtbl ∧ Cond.instanceMethod mX4_stick.1 ∈ gtbl ∧ Cond.selects mX4_stick.1.cls mX4_stick.1 mX4_stick.1 ∈ gtbl := ⟨zok_X4_stick_3, zw301, zw67, zw298, ⟨zw299, zw300⟩⟩
theorem zw746 : Cond.code mX5_stick.1 mX5_stick.2.1 mX5_stick.2.2.1 mX5_stick.2.2.2 ∈ gtbl := gt_of ⟨mt3 (List.mem_of_getElem? (i := 200) (by decide +kernel)), by decide +kernel⟩
theorem zw744 : Cond.instanceMethod mX5_stick.1 ∈ gtbl := gt_of ⟨mt3 (List.mem_of_getElem? (i := 198) (by decide +kernel)), by decide +kernel⟩
theorem zw745 : Cond.selects mX5_stick.1.cls mX5_stick.1 mX5_stick.1 ∈ gtbl := gt_of ⟨mt3 (List.mem_of_getElem? (i := 199) (by decide +kernel)), by decide +kernel⟩
theorem zw743 : Cond.methodLink RL 25 mX5_stick.1 ∈ gtbl := gt_of ⟨mt3 (List.mem_of_getElem? (i := 197) (by decide +kernel)), by decide +kernel⟩
theorem zok_X5_stick_3 : OkM mX5_stick 3 := by decide +kernel
theorem oL_25 : OkM mX5_stick 3 ∧ Cond.code mX5_stick.1 mX5_stick.2.1 mX5_stick.2.2.1 mX5_stick.2.2.2 ∈ gtbl ∧ Cond.initialized mX5_stick.1.cls ∈ gtbl ∧ Cond.methodLink RL 25 mX5_stick.1 ∈ gtbl ∧ Cond.instanceMethod mX5_stick.1 ∈ gtbl ∧ Cond.selects mX5_stick.1.cls mX5_stick.1 mX5_stick.1 ∈ gtbl := ⟨zok_X5_stick_3, zw746, zw73, zw743, ⟨zw744, zw745⟩⟩
theorem zw309 : Cond.code mX4_cell.1 mX4_cell.2.1 mX4_cell.2.2.1 mX4_cell.2.2.2 ∈ gtbl := gt_of ⟨mt2 (List.mem_of_getElem? (i := 3) (by decide +kernel)), by decide +kernel⟩
theorem zw307 : Cond.instanceMethod mX4_cell.1 ∈ gtbl := gt_of ⟨mt2 (List.mem_of_getElem? (i := 1) (by decide +kernel)), by decide +kernel⟩
theorem zw308 : Cond.selects mX4_cell.1.cls mX4_cell.1 mX4_cell.1 ∈ gtbl := gt_of ⟨mt2 (List.mem_of_getElem? (i := 2) (by decide +kernel)), by decide +kernel⟩
theorem zw306 : Cond.methodLink RL 26 mX4_cell.1 ∈ gtbl := gt_of ⟨mt2 (List.mem_of_getElem? (i := 0) (by decide +kernel)), by decide +kernel⟩
theorem zok_X4_cell_3 : OkM mX4_cell 3 := by decide +kernel
theorem oL_26 : OkM mX4_cell 3 ∧ Cond.code mX4_cell.1 mX4_cell.2.1 mX4_cell.2.2.1 mX4_cell.2.2.2 ∈ gtbl ∧ Cond.initialized mX4_cell.1.cls ∈ gtbl ∧ Cond.methodLink RL 26 mX4_cell.1 ∈ gtbl ∧ Cond.instanceMethod mX4_cell.1 ∈ gtbl ∧ Cond.selects mX4_cell.1.cls mX4_cell.1 mX4_cell.1 ∈ gtbl := ⟨zok_X4_cell_3, zw309, zw67, zw306, ⟨zw307, zw308⟩⟩
theorem zw750 : Cond.code mX5_cell.1 mX5_cell.2.1 mX5_cell.2.2.1 mX5_cell.2.2.2 ∈ gtbl := gt_of ⟨mt3 (List.mem_of_getElem? (i := 204) (by decide +kernel)), by decide +kernel⟩
theorem zw748 : Cond.instanceMethod mX5_cell.1 ∈ gtbl := gt_of ⟨mt3 (List.mem_of_getElem? (i := 202) (by decide +kernel)), by decide +kernel⟩
theorem zw749 : Cond.selects mX5_cell.1.cls mX5_cell.1 mX5_cell.1 ∈ gtbl := gt_of ⟨mt3 (List.mem_of_getElem? (i := 203) (by decide +kernel)), by decide +kernel⟩
theorem zw747 : Cond.methodLink RL 29 mX5_cell.1 ∈ gtbl := gt_of ⟨mt3 (List.mem_of_getElem? (i := 201) (by decide +kernel)), by decide +kernel⟩
theorem zok_X5_cell_3 : OkM mX5_cell 3 := by decide +kernel
theorem oL_29 : OkM mX5_cell 3 ∧ Cond.code mX5_cell.1 mX5_cell.2.1 mX5_cell.2.2.1 mX5_cell.2.2.2 ∈ gtbl ∧ Cond.initialized mX5_cell.1.cls ∈ gtbl ∧ Cond.methodLink RL 29 mX5_cell.1 ∈ gtbl ∧ Cond.instanceMethod mX5_cell.1 ∈ gtbl ∧ Cond.selects mX5_cell.1.cls mX5_cell.1 mX5_cell.1 ∈ gtbl := ⟨zok_X5_cell_3, zw750, zw73, zw747, ⟨zw748, zw749⟩⟩
theorem zw317 : Cond.code mX4_input.1 mX4_input.2.1 mX4_input.2.2.1 mX4_input.2.2.2 ∈ gtbl := gt_of ⟨mt2 (List.mem_of_getElem? (i := 11) (by decide +kernel)), by decide +kernel⟩
theorem zw315 : Cond.instanceMethod mX4_input.1 ∈ gtbl := gt_of ⟨mt2 (List.mem_of_getElem? (i := 9) (by decide +kernel)), by decide +kernel⟩
theorem zw316 : Cond.selects mX4_input.1.cls mX4_input.1 mX4_input.1 ∈ gtbl := gt_of ⟨mt2 (List.mem_of_getElem? (i := 10) (by decide +kernel)), by decide +kernel⟩
theorem zw314 : Cond.methodLink RL 30 mX4_input.1 ∈ gtbl := gt_of ⟨mt2 (List.mem_of_getElem? (i := 8) (by decide +kernel)), by decide +kernel⟩
theorem zok_X4_input_2 : OkM mX4_input 2 := by decide +kernel
theorem oL_30 : OkM mX4_input 2 ∧ Cond.code mX4_input.1 mX4_input.2.1 mX4_input.2.2.1 mX4_input.2.2.2 ∈ gtbl ∧ Cond.initialized mX4_input.1.cls ∈ gtbl ∧ Cond.methodLink RL 30 mX4_input.1 ∈ gtbl ∧ Cond.instanceMethod mX4_input.1 ∈ gtbl ∧ Cond.selects mX4_input.1.cls mX4_input.1 mX4_input.1 ∈ gtbl := ⟨zok_X4_input_2, zw317, zw67, zw314, ⟨zw315, zw316⟩⟩
theorem zw758 : Cond.code mX5_input.1 mX5_input.2.1 mX5_input.2.2.1 mX5_input.2.2.2 ∈ gtbl := gt_of ⟨mt3 (List.mem_of_getElem? (i := 212) (by decide +kernel)), by decide +kernel⟩
theorem zw756 : Cond.instanceMethod mX5_input.1 ∈ gtbl := gt_of ⟨mt3 (List.mem_of_getElem? (i := 210) (by decide +kernel)), by decide +kernel⟩
theorem zw757 : Cond.selects mX5_input.1.cls mX5_input.1 mX5_input.1 ∈ gtbl := gt_of ⟨mt3 (List.mem_of_getElem? (i := 211) (by decide +kernel)), by decide +kernel⟩
theorem zw755 : Cond.methodLink RL 34 mX5_input.1 ∈ gtbl := gt_of ⟨mt3 (List.mem_of_getElem? (i := 209) (by decide +kernel)), by decide +kernel⟩
theorem zok_X5_input_2 : OkM mX5_input 2 := by decide +kernel
theorem oL_34 : OkM mX5_input 2 ∧ Cond.code mX5_input.1 mX5_input.2.1 mX5_input.2.2.1 mX5_input.2.2.2 ∈ gtbl ∧ Cond.initialized mX5_input.1.cls ∈ gtbl ∧ Cond.methodLink RL 34 mX5_input.1 ∈ gtbl ∧ Cond.instanceMethod mX5_input.1 ∈ gtbl ∧ Cond.selects mX5_input.1.cls mX5_input.1 mX5_input.1 ∈ gtbl := ⟨zok_X5_input_2, zw758, zw73, zw755, ⟨zw756, zw757⟩⟩
theorem zw321 : Cond.code mX4_bits.1 mX4_bits.2.1 mX4_bits.2.2.1 mX4_bits.2.2.2 ∈ gtbl := gt_of ⟨mt2 (List.mem_of_getElem? (i := 15) (by decide +kernel)), by decide +kernel⟩
theorem zw319 : Cond.instanceMethod mX4_bits.1 ∈ gtbl := gt_of ⟨mt2 (List.mem_of_getElem? (i := 13) (by decide +kernel)), by decide +kernel⟩
theorem zw320 : Cond.selects mX4_bits.1.cls mX4_bits.1 mX4_bits.1 ∈ gtbl := gt_of ⟨mt2 (List.mem_of_getElem? (i := 14) (by decide +kernel)), by decide +kernel⟩
theorem zw318 : Cond.methodLink RL 35 mX4_bits.1 ∈ gtbl := gt_of ⟨mt2 (List.mem_of_getElem? (i := 12) (by decide +kernel)), by decide +kernel⟩
theorem zok_X4_bits_1 : OkM mX4_bits 1 := by decide +kernel
theorem oL_35 : OkM mX4_bits 1 ∧ Cond.code mX4_bits.1 mX4_bits.2.1 mX4_bits.2.2.1 mX4_bits.2.2.2 ∈ gtbl ∧ Cond.initialized mX4_bits.1.cls ∈ gtbl ∧ Cond.methodLink RL 35 mX4_bits.1 ∈ gtbl ∧ Cond.instanceMethod mX4_bits.1 ∈ gtbl ∧ Cond.selects mX4_bits.1.cls mX4_bits.1 mX4_bits.1 ∈ gtbl := ⟨zok_X4_bits_1, zw321, zw67, zw318, ⟨zw319, zw320⟩⟩
theorem zw762 : Cond.code mX5_bits.1 mX5_bits.2.1 mX5_bits.2.2.1 mX5_bits.2.2.2 ∈ gtbl := gt_of ⟨mt3 (List.mem_of_getElem? (i := 216) (by decide +kernel)), by decide +kernel⟩
theorem zw760 : Cond.instanceMethod mX5_bits.1 ∈ gtbl := gt_of ⟨mt3 (List.mem_of_getElem? (i := 214) (by decide +kernel)), by decide +kernel⟩
theorem zw761 : Cond.selects mX5_bits.1.cls mX5_bits.1 mX5_bits.1 ∈ gtbl := gt_of ⟨mt3 (List.mem_of_getElem? (i := 215) (by decide +kernel)), by decide +kernel⟩
theorem zw759 : Cond.methodLink RL 39 mX5_bits.1 ∈ gtbl := gt_of ⟨mt3 (List.mem_of_getElem? (i := 213) (by decide +kernel)), by decide +kernel⟩
theorem zok_X5_bits_1 : OkM mX5_bits 1 := by decide +kernel
theorem oL_39 : OkM mX5_bits 1 ∧ Cond.code mX5_bits.1 mX5_bits.2.1 mX5_bits.2.2.1 mX5_bits.2.2.2 ∈ gtbl ∧ Cond.initialized mX5_bits.1.cls ∈ gtbl ∧ Cond.methodLink RL 39 mX5_bits.1 ∈ gtbl ∧ Cond.instanceMethod mX5_bits.1 ∈ gtbl ∧ Cond.selects mX5_bits.1.cls mX5_bits.1 mX5_bits.1 ∈ gtbl := ⟨zok_X5_bits_1, zw762, zw73, zw759, ⟨zw760, zw761⟩⟩
theorem zw325 : Cond.code mX4_sum.1 mX4_sum.2.1 mX4_sum.2.2.1 mX4_sum.2.2.2 ∈ gtbl := gt_of ⟨mt2 (List.mem_of_getElem? (i := 19) (by decide +kernel)), by decide +kernel⟩
theorem zw323 : Cond.instanceMethod mX4_sum.1 ∈ gtbl := gt_of ⟨mt2 (List.mem_of_getElem? (i := 17) (by decide +kernel)), by decide +kernel⟩
theorem zw324 : Cond.selects mX4_sum.1.cls mX4_sum.1 mX4_sum.1 ∈ gtbl := gt_of ⟨mt2 (List.mem_of_getElem? (i := 18) (by decide +kernel)), by decide +kernel⟩
theorem zw322 : Cond.methodLink RL 40 mX4_sum.1 ∈ gtbl := gt_of ⟨mt2 (List.mem_of_getElem? (i := 16) (by decide +kernel)), by decide +kernel⟩
theorem zok_X4_sum_1 : OkM mX4_sum 1 := by decide +kernel
theorem oL_40 : OkM mX4_sum 1 ∧ Cond.code mX4_sum.1 mX4_sum.2.1 mX4_sum.2.2.1 mX4_sum.2.2.2 ∈ gtbl ∧ Cond.initialized mX4_sum.1.cls ∈ gtbl ∧ Cond.methodLink RL 40 mX4_sum.1 ∈ gtbl ∧ Cond.instanceMethod mX4_sum.1 ∈ gtbl ∧ Cond.selects mX4_sum.1.cls mX4_sum.1 mX4_sum.1 ∈ gtbl := ⟨zok_X4_sum_1, zw325, zw67, zw322, ⟨zw323, zw324⟩⟩
theorem zw766 : Cond.code mX5_sum.1 mX5_sum.2.1 mX5_sum.2.2.1 mX5_sum.2.2.2 ∈ gtbl := gt_of ⟨mt3 (List.mem_of_getElem? (i := 220) (by decide +kernel)), by decide +kernel⟩
theorem zw764 : Cond.instanceMethod mX5_sum.1 ∈ gtbl := gt_of ⟨mt3 (List.mem_of_getElem? (i := 218) (by decide +kernel)), by decide +kernel⟩
theorem zw765 : Cond.selects mX5_sum.1.cls mX5_sum.1 mX5_sum.1 ∈ gtbl := gt_of ⟨mt3 (List.mem_of_getElem? (i := 219) (by decide +kernel)), by decide +kernel⟩
theorem zw763 : Cond.methodLink RL 43 mX5_sum.1 ∈ gtbl := gt_of ⟨mt3 (List.mem_of_getElem? (i := 217) (by decide +kernel)), by decide +kernel⟩
theorem zok_X5_sum_1 : OkM mX5_sum 1 := by decide +kernel
theorem oL_43 : OkM mX5_sum 1 ∧ Cond.code mX5_sum.1 mX5_sum.2.1 mX5_sum.2.2.1 mX5_sum.2.2.2 ∈ gtbl ∧ Cond.initialized mX5_sum.1.cls ∈ gtbl ∧ Cond.methodLink RL 43 mX5_sum.1 ∈ gtbl ∧ Cond.instanceMethod mX5_sum.1 ∈ gtbl ∧ Cond.selects mX5_sum.1.cls mX5_sum.1 mX5_sum.1 ∈ gtbl := ⟨zok_X5_sum_1, zw766, zw73, zw763, ⟨zw764, zw765⟩⟩
theorem zw341 : Cond.code mX4_table.1 mX4_table.2.1 mX4_table.2.2.1 mX4_table.2.2.2 ∈ gtbl := gt_of ⟨mt2 (List.mem_of_getElem? (i := 35) (by decide +kernel)), by decide +kernel⟩
theorem zw339 : Cond.instanceMethod mX4_table.1 ∈ gtbl := gt_of ⟨mt2 (List.mem_of_getElem? (i := 33) (by decide +kernel)), by decide +kernel⟩
theorem zw340 : Cond.selects mX4_table.1.cls mX4_table.1 mX4_table.1 ∈ gtbl := gt_of ⟨mt2 (List.mem_of_getElem? (i := 34) (by decide +kernel)), by decide +kernel⟩
theorem zw338 : Cond.methodLink RL 44 mX4_table.1 ∈ gtbl := gt_of ⟨mt2 (List.mem_of_getElem? (i := 32) (by decide +kernel)), by decide +kernel⟩
theorem zok_X4_table_3 : OkM mX4_table 3 := by decide +kernel
theorem oL_44 : OkM mX4_table 3 ∧ Cond.code mX4_table.1 mX4_table.2.1 mX4_table.2.2.1 mX4_table.2.2.2 ∈ gtbl ∧ Cond.initialized mX4_table.1.cls ∈ gtbl ∧ Cond.methodLink RL 44 mX4_table.1 ∈ gtbl ∧ Cond.instanceMethod mX4_table.1 ∈ gtbl ∧ Cond.selects mX4_table.1.cls mX4_table.1 mX4_table.1 ∈ gtbl := ⟨zok_X4_table_3, zw341, zw67, zw338, ⟨zw339, zw340⟩⟩
theorem zw778 : Cond.code mX5_table.1 mX5_table.2.1 mX5_table.2.2.1 mX5_table.2.2.2 ∈ gtbl := gt_of ⟨mt3 (List.mem_of_getElem? (i := 232) (by decide +kernel)), by decide +kernel⟩
theorem zw776 : Cond.instanceMethod mX5_table.1 ∈ gtbl := gt_of ⟨mt3 (List.mem_of_getElem? (i := 230) (by decide +kernel)), by decide +kernel⟩
theorem zw777 : Cond.selects mX5_table.1.cls mX5_table.1 mX5_table.1 ∈ gtbl := gt_of ⟨mt3 (List.mem_of_getElem? (i := 231) (by decide +kernel)), by decide +kernel⟩
theorem zw775 : Cond.methodLink RL 47 mX5_table.1 ∈ gtbl := gt_of ⟨mt3 (List.mem_of_getElem? (i := 229) (by decide +kernel)), by decide +kernel⟩
theorem zok_X5_table_3 : OkM mX5_table 3 := by decide +kernel
theorem oL_47 : OkM mX5_table 3 ∧ Cond.code mX5_table.1 mX5_table.2.1 mX5_table.2.2.1 mX5_table.2.2.2 ∈ gtbl ∧ Cond.initialized mX5_table.1.cls ∈ gtbl ∧ Cond.methodLink RL 47 mX5_table.1 ∈ gtbl ∧ Cond.instanceMethod mX5_table.1 ∈ gtbl ∧ Cond.selects mX5_table.1.cls mX5_table.1 mX5_table.1 ∈ gtbl := ⟨zok_X5_table_3, zw778, zw73, zw775, ⟨zw776, zw777⟩⟩
theorem zw357 : Cond.code mX4_number.1 mX4_number.2.1 mX4_number.2.2.1 mX4_number.2.2.2 ∈ gtbl := gt_of ⟨mt2 (List.mem_of_getElem? (i := 51) (by decide +kernel)), by decide +kernel⟩
theorem zw355 : Cond.instanceMethod mX4_number.1 ∈ gtbl := gt_of ⟨mt2 (List.mem_of_getElem? (i := 49) (by decide +kernel)), by decide +kernel⟩
theorem zw356 : Cond.selects mX4_number.1.cls mX4_number.1 mX4_number.1 ∈ gtbl := gt_of ⟨mt2 (List.mem_of_getElem? (i := 50) (by decide +kernel)), by decide +kernel⟩
theorem zw354 : Cond.methodLink RL 48 mX4_number.1 ∈ gtbl := gt_of ⟨mt2 (List.mem_of_getElem? (i := 48) (by decide +kernel)), by decide +kernel⟩
theorem zok_X4_number_3 : OkM mX4_number 3 := by decide +kernel
theorem oL_48 : OkM mX4_number 3 ∧ Cond.code mX4_number.1 mX4_number.2.1 mX4_number.2.2.1 mX4_number.2.2.2 ∈ gtbl ∧ Cond.initialized mX4_number.1.cls ∈ gtbl ∧ Cond.methodLink RL 48 mX4_number.1 ∈ gtbl ∧ Cond.instanceMethod mX4_number.1 ∈ gtbl ∧ Cond.selects mX4_number.1.cls mX4_number.1 mX4_number.1 ∈ gtbl := ⟨zok_X4_number_3, zw357, zw67, zw354, ⟨zw355, zw356⟩⟩
theorem zw782 : Cond.code mX5_number.1 mX5_number.2.1 mX5_number.2.2.1 mX5_number.2.2.2 ∈ gtbl := gt_of ⟨mt3 (List.mem_of_getElem? (i := 236) (by decide +kernel)), by decide +kernel⟩
theorem zw780 : Cond.instanceMethod mX5_number.1 ∈ gtbl := gt_of ⟨mt3 (List.mem_of_getElem? (i := 234) (by decide +kernel)), by decide +kernel⟩
theorem zw781 : Cond.selects mX5_number.1.cls mX5_number.1 mX5_number.1 ∈ gtbl := gt_of ⟨mt3 (List.mem_of_getElem? (i := 235) (by decide +kernel)), by decide +kernel⟩
theorem zw779 : Cond.methodLink RL 51 mX5_number.1 ∈ gtbl := gt_of ⟨mt3 (List.mem_of_getElem? (i := 233) (by decide +kernel)), by decide +kernel⟩
theorem zok_X5_number_3 : OkM mX5_number 3 := by decide +kernel
theorem oL_51 : OkM mX5_number 3 ∧ Cond.code mX5_number.1 mX5_number.2.1 mX5_number.2.2.1 mX5_number.2.2.2 ∈ gtbl ∧ Cond.initialized mX5_number.1.cls ∈ gtbl ∧ Cond.methodLink RL 51 mX5_number.1 ∈ gtbl ∧ Cond.instanceMethod mX5_number.1 ∈ gtbl ∧ Cond.selects mX5_number.1.cls mX5_number.1 mX5_number.1 ∈ gtbl := ⟨zok_X5_number_3, zw782, zw73, zw779, ⟨zw780, zw781⟩⟩
theorem zw370 : Cond.code mX4_lay.1 mX4_lay.2.1 mX4_lay.2.2.1 mX4_lay.2.2.2 ∈ gtbl := gt_of ⟨mt2 (List.mem_of_getElem? (i := 64) (by decide +kernel)), by decide +kernel⟩
theorem zw368 : Cond.instanceMethod mX4_lay.1 ∈ gtbl := gt_of ⟨mt2 (List.mem_of_getElem? (i := 62) (by decide +kernel)), by decide +kernel⟩
theorem zw369 : Cond.selects mX4_lay.1.cls mX4_lay.1 mX4_lay.1 ∈ gtbl := gt_of ⟨mt2 (List.mem_of_getElem? (i := 63) (by decide +kernel)), by decide +kernel⟩
theorem zw367 : Cond.methodLink RL 52 mX4_lay.1 ∈ gtbl := gt_of ⟨mt2 (List.mem_of_getElem? (i := 61) (by decide +kernel)), by decide +kernel⟩
theorem zok_X4_lay_0 : OkM mX4_lay 0 := by decide +kernel
theorem oL_52 : OkM mX4_lay 0 ∧ Cond.code mX4_lay.1 mX4_lay.2.1 mX4_lay.2.2.1 mX4_lay.2.2.2 ∈ gtbl ∧ Cond.initialized mX4_lay.1.cls ∈ gtbl ∧ Cond.methodLink RL 52 mX4_lay.1 ∈ gtbl ∧ Cond.instanceMethod mX4_lay.1 ∈ gtbl ∧ Cond.selects mX4_lay.1.cls mX4_lay.1 mX4_lay.1 ∈ gtbl := ⟨zok_X4_lay_0, zw370, zw67, zw367, ⟨zw368, zw369⟩⟩
theorem zw791 : Cond.code mX5_lay.1 mX5_lay.2.1 mX5_lay.2.2.1 mX5_lay.2.2.2 ∈ gtbl := gt_of ⟨mt4 (List.mem_of_getElem? (i := 5) (by decide +kernel)), by decide +kernel⟩
theorem zw789 : Cond.instanceMethod mX5_lay.1 ∈ gtbl := gt_of ⟨mt4 (List.mem_of_getElem? (i := 3) (by decide +kernel)), by decide +kernel⟩
theorem zw790 : Cond.selects mX5_lay.1.cls mX5_lay.1 mX5_lay.1 ∈ gtbl := gt_of ⟨mt4 (List.mem_of_getElem? (i := 4) (by decide +kernel)), by decide +kernel⟩
theorem zw788 : Cond.methodLink RL 56 mX5_lay.1 ∈ gtbl := gt_of ⟨mt4 (List.mem_of_getElem? (i := 2) (by decide +kernel)), by decide +kernel⟩
theorem zok_X5_lay_0 : OkM mX5_lay 0 := by decide +kernel
theorem oL_56 : OkM mX5_lay 0 ∧ Cond.code mX5_lay.1 mX5_lay.2.1 mX5_lay.2.2.1 mX5_lay.2.2.2 ∈ gtbl ∧ Cond.initialized mX5_lay.1.cls ∈ gtbl ∧ Cond.methodLink RL 56 mX5_lay.1 ∈ gtbl ∧ Cond.instanceMethod mX5_lay.1 ∈ gtbl ∧ Cond.selects mX5_lay.1.cls mX5_lay.1 mX5_lay.1 ∈ gtbl := ⟨zok_X5_lay_0, zw791, zw73, zw788, ⟨zw789, zw790⟩⟩
theorem zw396 : Cond.code mX4_product.1 mX4_product.2.1 mX4_product.2.2.1 mX4_product.2.2.2 ∈ gtbl := gt_of ⟨mt2 (List.mem_of_getElem? (i := 90) (by decide +kernel)), by decide +kernel⟩
theorem zw394 : Cond.instanceMethod mX4_product.1 ∈ gtbl := gt_of ⟨mt2 (List.mem_of_getElem? (i := 88) (by decide +kernel)), by decide +kernel⟩
theorem zw395 : Cond.selects mX4_product.1.cls mX4_product.1 mX4_product.1 ∈ gtbl := gt_of ⟨mt2 (List.mem_of_getElem? (i := 89) (by decide +kernel)), by decide +kernel⟩
theorem zw393 : Cond.methodLink RL 57 mX4_product.1 ∈ gtbl := gt_of ⟨mt2 (List.mem_of_getElem? (i := 87) (by decide +kernel)), by decide +kernel⟩
theorem zok_X4_product_1 : OkM mX4_product 1 := by decide +kernel
theorem oL_57 : OkM mX4_product 1 ∧ Cond.code mX4_product.1 mX4_product.2.1 mX4_product.2.2.1 mX4_product.2.2.2 ∈ gtbl ∧ Cond.initialized mX4_product.1.cls ∈ gtbl ∧ Cond.methodLink RL 57 mX4_product.1 ∈ gtbl ∧ Cond.instanceMethod mX4_product.1 ∈ gtbl ∧ Cond.selects mX4_product.1.cls mX4_product.1 mX4_product.1 ∈ gtbl := ⟨zok_X4_product_1, zw396, zw67, zw393, ⟨zw394, zw395⟩⟩
theorem zw803 : Cond.code mX5_product.1 mX5_product.2.1 mX5_product.2.2.1 mX5_product.2.2.2 ∈ gtbl := gt_of ⟨mt4 (List.mem_of_getElem? (i := 17) (by decide +kernel)), by decide +kernel⟩
theorem zw801 : Cond.instanceMethod mX5_product.1 ∈ gtbl := gt_of ⟨mt4 (List.mem_of_getElem? (i := 15) (by decide +kernel)), by decide +kernel⟩
theorem zw802 : Cond.selects mX5_product.1.cls mX5_product.1 mX5_product.1 ∈ gtbl := gt_of ⟨mt4 (List.mem_of_getElem? (i := 16) (by decide +kernel)), by decide +kernel⟩
theorem zw800 : Cond.methodLink RL 61 mX5_product.1 ∈ gtbl := gt_of ⟨mt4 (List.mem_of_getElem? (i := 14) (by decide +kernel)), by decide +kernel⟩
theorem zok_X5_product_1 : OkM mX5_product 1 := by decide +kernel
theorem oL_61 : OkM mX5_product 1 ∧ Cond.code mX5_product.1 mX5_product.2.1 mX5_product.2.2.1 mX5_product.2.2.2 ∈ gtbl ∧ Cond.initialized mX5_product.1.cls ∈ gtbl ∧ Cond.methodLink RL 61 mX5_product.1 ∈ gtbl ∧ Cond.instanceMethod mX5_product.1 ∈ gtbl ∧ Cond.selects mX5_product.1.cls mX5_product.1 mX5_product.1 ∈ gtbl := ⟨zok_X5_product_1, zw803, zw73, zw800, ⟨zw801, zw802⟩⟩
theorem zw410 : Cond.code mX4_due.1 mX4_due.2.1 mX4_due.2.2.1 mX4_due.2.2.2 ∈ gtbl := gt_of ⟨mt2 (List.mem_of_getElem? (i := 104) (by decide +kernel)), by decide +kernel⟩
theorem zw408 : Cond.instanceMethod mX4_due.1 ∈ gtbl := gt_of ⟨mt2 (List.mem_of_getElem? (i := 102) (by decide +kernel)), by decide +kernel⟩
theorem zw409 : Cond.selects mX4_due.1.cls mX4_due.1 mX4_due.1 ∈ gtbl := gt_of ⟨mt2 (List.mem_of_getElem? (i := 103) (by decide +kernel)), by decide +kernel⟩
theorem zw407 : Cond.methodLink RL 62 mX4_due.1 ∈ gtbl := gt_of ⟨mt2 (List.mem_of_getElem? (i := 101) (by decide +kernel)), by decide +kernel⟩
theorem zok_X4_due_1 : OkM mX4_due 1 := by decide +kernel
theorem oL_62 : OkM mX4_due 1 ∧ Cond.code mX4_due.1 mX4_due.2.1 mX4_due.2.2.1 mX4_due.2.2.2 ∈ gtbl ∧ Cond.initialized mX4_due.1.cls ∈ gtbl ∧ Cond.methodLink RL 62 mX4_due.1 ∈ gtbl ∧ Cond.instanceMethod mX4_due.1 ∈ gtbl ∧ Cond.selects mX4_due.1.cls mX4_due.1 mX4_due.1 ∈ gtbl := ⟨zok_X4_due_1, zw410, zw67, zw407, ⟨zw408, zw409⟩⟩
theorem zw812 : Cond.code mX5_due.1 mX5_due.2.1 mX5_due.2.2.1 mX5_due.2.2.2 ∈ gtbl := gt_of ⟨mt4 (List.mem_of_getElem? (i := 26) (by decide +kernel)), by decide +kernel⟩
theorem zw810 : Cond.instanceMethod mX5_due.1 ∈ gtbl := gt_of ⟨mt4 (List.mem_of_getElem? (i := 24) (by decide +kernel)), by decide +kernel⟩
theorem zw811 : Cond.selects mX5_due.1.cls mX5_due.1 mX5_due.1 ∈ gtbl := gt_of ⟨mt4 (List.mem_of_getElem? (i := 25) (by decide +kernel)), by decide +kernel⟩
theorem zw809 : Cond.methodLink RL 65 mX5_due.1 ∈ gtbl := gt_of ⟨mt4 (List.mem_of_getElem? (i := 23) (by decide +kernel)), by decide +kernel⟩
theorem zok_X5_due_1 : OkM mX5_due 1 := by decide +kernel
theorem oL_65 : OkM mX5_due 1 ∧ Cond.code mX5_due.1 mX5_due.2.1 mX5_due.2.2.1 mX5_due.2.2.2 ∈ gtbl ∧ Cond.initialized mX5_due.1.cls ∈ gtbl ∧ Cond.methodLink RL 65 mX5_due.1 ∈ gtbl ∧ Cond.instanceMethod mX5_due.1 ∈ gtbl ∧ Cond.selects mX5_due.1.cls mX5_due.1 mX5_due.1 ∈ gtbl := ⟨zok_X5_due_1, zw812, zw73, zw809, ⟨zw810, zw811⟩⟩
theorem zw418 : Cond.code mX4_enough.1 mX4_enough.2.1 mX4_enough.2.2.1 mX4_enough.2.2.2 ∈ gtbl := gt_of ⟨mt2 (List.mem_of_getElem? (i := 112) (by decide +kernel)), by decide +kernel⟩
theorem zw416 : Cond.instanceMethod mX4_enough.1 ∈ gtbl := gt_of ⟨mt2 (List.mem_of_getElem? (i := 110) (by decide +kernel)), by decide +kernel⟩
theorem zw417 : Cond.selects mX4_enough.1.cls mX4_enough.1 mX4_enough.1 ∈ gtbl := gt_of ⟨mt2 (List.mem_of_getElem? (i := 111) (by decide +kernel)), by decide +kernel⟩
theorem zw415 : Cond.methodLink RL 66 mX4_enough.1 ∈ gtbl := gt_of ⟨mt2 (List.mem_of_getElem? (i := 109) (by decide +kernel)), by decide +kernel⟩
theorem zok_X4_enough_0 : OkM mX4_enough 0 := by decide +kernel
theorem oL_66 : OkM mX4_enough 0 ∧ Cond.code mX4_enough.1 mX4_enough.2.1 mX4_enough.2.2.1 mX4_enough.2.2.2 ∈ gtbl ∧ Cond.initialized mX4_enough.1.cls ∈ gtbl ∧ Cond.methodLink RL 66 mX4_enough.1 ∈ gtbl ∧ Cond.instanceMethod mX4_enough.1 ∈ gtbl ∧ Cond.selects mX4_enough.1.cls mX4_enough.1 mX4_enough.1 ∈ gtbl := ⟨zok_X4_enough_0, zw418, zw67, zw415, ⟨zw416, zw417⟩⟩
theorem zw816 : Cond.code mX5_enough.1 mX5_enough.2.1 mX5_enough.2.2.1 mX5_enough.2.2.2 ∈ gtbl := gt_of ⟨mt4 (List.mem_of_getElem? (i := 30) (by decide +kernel)), by decide +kernel⟩
theorem zw814 : Cond.instanceMethod mX5_enough.1 ∈ gtbl := gt_of ⟨mt4 (List.mem_of_getElem? (i := 28) (by decide +kernel)), by decide +kernel⟩
theorem zw815 : Cond.selects mX5_enough.1.cls mX5_enough.1 mX5_enough.1 ∈ gtbl := gt_of ⟨mt4 (List.mem_of_getElem? (i := 29) (by decide +kernel)), by decide +kernel⟩
theorem zw813 : Cond.methodLink RL 69 mX5_enough.1 ∈ gtbl := gt_of ⟨mt4 (List.mem_of_getElem? (i := 27) (by decide +kernel)), by decide +kernel⟩
theorem zok_X5_enough_0 : OkM mX5_enough 0 := by decide +kernel
theorem oL_69 : OkM mX5_enough 0 ∧ Cond.code mX5_enough.1 mX5_enough.2.1 mX5_enough.2.2.1 mX5_enough.2.2.2 ∈ gtbl ∧ Cond.initialized mX5_enough.1.cls ∈ gtbl ∧ Cond.methodLink RL 69 mX5_enough.1 ∈ gtbl ∧ Cond.instanceMethod mX5_enough.1 ∈ gtbl ∧ Cond.selects mX5_enough.1.cls mX5_enough.1 mX5_enough.1 ∈ gtbl := ⟨zok_X5_enough_0, zw816, zw73, zw813, ⟨zw814, zw815⟩⟩
theorem zw426 : Cond.code mX4_map.1 mX4_map.2.1 mX4_map.2.2.1 mX4_map.2.2.2 ∈ gtbl := gt_of ⟨mt2 (List.mem_of_getElem? (i := 120) (by decide +kernel)), by decide +kernel⟩
theorem zw424 : Cond.instanceMethod mX4_map.1 ∈ gtbl := gt_of ⟨mt2 (List.mem_of_getElem? (i := 118) (by decide +kernel)), by decide +kernel⟩
theorem zw425 : Cond.selects mX4_map.1.cls mX4_map.1 mX4_map.1 ∈ gtbl := gt_of ⟨mt2 (List.mem_of_getElem? (i := 119) (by decide +kernel)), by decide +kernel⟩
theorem zw423 : Cond.methodLink RL 70 mX4_map.1 ∈ gtbl := gt_of ⟨mt2 (List.mem_of_getElem? (i := 117) (by decide +kernel)), by decide +kernel⟩
theorem zok_X4_map_0 : OkM mX4_map 0 := by decide +kernel
theorem oL_70 : OkM mX4_map 0 ∧ Cond.code mX4_map.1 mX4_map.2.1 mX4_map.2.2.1 mX4_map.2.2.2 ∈ gtbl ∧ Cond.initialized mX4_map.1.cls ∈ gtbl ∧ Cond.methodLink RL 70 mX4_map.1 ∈ gtbl ∧ Cond.instanceMethod mX4_map.1 ∈ gtbl ∧ Cond.selects mX4_map.1.cls mX4_map.1 mX4_map.1 ∈ gtbl := ⟨zok_X4_map_0, zw426, zw67, zw423, ⟨zw424, zw425⟩⟩
theorem zw820 : Cond.code mX5_map.1 mX5_map.2.1 mX5_map.2.2.1 mX5_map.2.2.2 ∈ gtbl := gt_of ⟨mt4 (List.mem_of_getElem? (i := 34) (by decide +kernel)), by decide +kernel⟩
theorem zw818 : Cond.instanceMethod mX5_map.1 ∈ gtbl := gt_of ⟨mt4 (List.mem_of_getElem? (i := 32) (by decide +kernel)), by decide +kernel⟩
theorem zw819 : Cond.selects mX5_map.1.cls mX5_map.1 mX5_map.1 ∈ gtbl := gt_of ⟨mt4 (List.mem_of_getElem? (i := 33) (by decide +kernel)), by decide +kernel⟩
theorem zw817 : Cond.methodLink RL 73 mX5_map.1 ∈ gtbl := gt_of ⟨mt4 (List.mem_of_getElem? (i := 31) (by decide +kernel)), by decide +kernel⟩
theorem zok_X5_map_0 : OkM mX5_map 0 := by decide +kernel
theorem oL_73 : OkM mX5_map 0 ∧ Cond.code mX5_map.1 mX5_map.2.1 mX5_map.2.2.1 mX5_map.2.2.2 ∈ gtbl ∧ Cond.initialized mX5_map.1.cls ∈ gtbl ∧ Cond.methodLink RL 73 mX5_map.1 ∈ gtbl ∧ Cond.instanceMethod mX5_map.1 ∈ gtbl ∧ Cond.selects mX5_map.1.cls mX5_map.1 mX5_map.1 ∈ gtbl := ⟨zok_X5_map_0, zw820, zw73, zw817, ⟨zw818, zw819⟩⟩
theorem zw467 : Cond.code mX4_mapped.1 mX4_mapped.2.1 mX4_mapped.2.2.1 mX4_mapped.2.2.2 ∈ gtbl := gt_of ⟨mt2 (List.mem_of_getElem? (i := 161) (by decide +kernel)), by decide +kernel⟩
theorem zw465 : Cond.instanceMethod mX4_mapped.1 ∈ gtbl := gt_of ⟨mt2 (List.mem_of_getElem? (i := 159) (by decide +kernel)), by decide +kernel⟩
theorem zw466 : Cond.selects mX4_mapped.1.cls mX4_mapped.1 mX4_mapped.1 ∈ gtbl := gt_of ⟨mt2 (List.mem_of_getElem? (i := 160) (by decide +kernel)), by decide +kernel⟩
theorem zw464 : Cond.methodLink RL 74 mX4_mapped.1 ∈ gtbl := gt_of ⟨mt2 (List.mem_of_getElem? (i := 158) (by decide +kernel)), by decide +kernel⟩
theorem zok_X4_mapped_1 : OkM mX4_mapped 1 := by decide +kernel
theorem oL_74 : OkM mX4_mapped 1 ∧ Cond.code mX4_mapped.1 mX4_mapped.2.1 mX4_mapped.2.2.1 mX4_mapped.2.2.2 ∈ gtbl ∧ Cond.initialized mX4_mapped.1.cls ∈ gtbl ∧ Cond.methodLink RL 74 mX4_mapped.1 ∈ gtbl ∧ Cond.instanceMethod mX4_mapped.1 ∈ gtbl ∧ Cond.selects mX4_mapped.1.cls mX4_mapped.1 mX4_mapped.1 ∈ gtbl := ⟨zok_X4_mapped_1, zw467, zw67, zw464, ⟨zw465, zw466⟩⟩
theorem zw832 : Cond.code mX5_mapped.1 mX5_mapped.2.1 mX5_mapped.2.2.1 mX5_mapped.2.2.2 ∈ gtbl := gt_of ⟨mt4 (List.mem_of_getElem? (i := 46) (by decide +kernel)), by decide +kernel⟩
theorem zw830 : Cond.instanceMethod mX5_mapped.1 ∈ gtbl := gt_of ⟨mt4 (List.mem_of_getElem? (i := 44) (by decide +kernel)), by decide +kernel⟩
theorem zw831 : Cond.selects mX5_mapped.1.cls mX5_mapped.1 mX5_mapped.1 ∈ gtbl := gt_of ⟨mt4 (List.mem_of_getElem? (i := 45) (by decide +kernel)), by decide +kernel⟩
theorem zw829 : Cond.methodLink RL 77 mX5_mapped.1 ∈ gtbl := gt_of ⟨mt4 (List.mem_of_getElem? (i := 43) (by decide +kernel)), by decide +kernel⟩
theorem zok_X5_mapped_1 : OkM mX5_mapped 1 := by decide +kernel
theorem oL_77 : OkM mX5_mapped 1 ∧ Cond.code mX5_mapped.1 mX5_mapped.2.1 mX5_mapped.2.2.1 mX5_mapped.2.2.2 ∈ gtbl ∧ Cond.initialized mX5_mapped.1.cls ∈ gtbl ∧ Cond.methodLink RL 77 mX5_mapped.1 ∈ gtbl ∧ Cond.instanceMethod mX5_mapped.1 ∈ gtbl ∧ Cond.selects mX5_mapped.1.cls mX5_mapped.1 mX5_mapped.1 ∈ gtbl := ⟨zok_X5_mapped_1, zw832, zw73, zw829, ⟨zw830, zw831⟩⟩
theorem zw471 : Cond.code mX4_seal.1 mX4_seal.2.1 mX4_seal.2.2.1 mX4_seal.2.2.2 ∈ gtbl := gt_of ⟨mt2 (List.mem_of_getElem? (i := 165) (by decide +kernel)), by decide +kernel⟩
theorem zw469 : Cond.instanceMethod mX4_seal.1 ∈ gtbl := gt_of ⟨mt2 (List.mem_of_getElem? (i := 163) (by decide +kernel)), by decide +kernel⟩
theorem zw470 : Cond.selects mX4_seal.1.cls mX4_seal.1 mX4_seal.1 ∈ gtbl := gt_of ⟨mt2 (List.mem_of_getElem? (i := 164) (by decide +kernel)), by decide +kernel⟩
theorem zw468 : Cond.methodLink RL 78 mX4_seal.1 ∈ gtbl := gt_of ⟨mt2 (List.mem_of_getElem? (i := 162) (by decide +kernel)), by decide +kernel⟩
theorem zok_X4_seal_0 : OkM mX4_seal 0 := by decide +kernel
theorem oL_78 : OkM mX4_seal 0 ∧ Cond.code mX4_seal.1 mX4_seal.2.1 mX4_seal.2.2.1 mX4_seal.2.2.2 ∈ gtbl ∧ Cond.initialized mX4_seal.1.cls ∈ gtbl ∧ Cond.methodLink RL 78 mX4_seal.1 ∈ gtbl ∧ Cond.instanceMethod mX4_seal.1 ∈ gtbl ∧ Cond.selects mX4_seal.1.cls mX4_seal.1 mX4_seal.1 ∈ gtbl := ⟨zok_X4_seal_0, zw471, zw67, zw468, ⟨zw469, zw470⟩⟩
theorem zw836 : Cond.code mX5_seal.1 mX5_seal.2.1 mX5_seal.2.2.1 mX5_seal.2.2.2 ∈ gtbl := gt_of ⟨mt4 (List.mem_of_getElem? (i := 50) (by decide +kernel)), by decide +kernel⟩
theorem zw834 : Cond.instanceMethod mX5_seal.1 ∈ gtbl := gt_of ⟨mt4 (List.mem_of_getElem? (i := 48) (by decide +kernel)), by decide +kernel⟩
theorem zw835 : Cond.selects mX5_seal.1.cls mX5_seal.1 mX5_seal.1 ∈ gtbl := gt_of ⟨mt4 (List.mem_of_getElem? (i := 49) (by decide +kernel)), by decide +kernel⟩
theorem zw833 : Cond.methodLink RL 81 mX5_seal.1 ∈ gtbl := gt_of ⟨mt4 (List.mem_of_getElem? (i := 47) (by decide +kernel)), by decide +kernel⟩
theorem zok_X5_seal_0 : OkM mX5_seal 0 := by decide +kernel
theorem oL_81 : OkM mX5_seal 0 ∧ Cond.code mX5_seal.1 mX5_seal.2.1 mX5_seal.2.2.1 mX5_seal.2.2.2 ∈ gtbl ∧ Cond.initialized mX5_seal.1.cls ∈ gtbl ∧ Cond.methodLink RL 81 mX5_seal.1 ∈ gtbl ∧ Cond.instanceMethod mX5_seal.1 ∈ gtbl ∧ Cond.selects mX5_seal.1.cls mX5_seal.1 mX5_seal.1 ∈ gtbl := ⟨zok_X5_seal_0, zw836, zw73, zw833, ⟨zw834, zw835⟩⟩
theorem zw480 : Cond.code mX4_look.1 mX4_look.2.1 mX4_look.2.2.1 mX4_look.2.2.2 ∈ gtbl := gt_of ⟨mt2 (List.mem_of_getElem? (i := 174) (by decide +kernel)), by decide +kernel⟩
theorem zw478 : Cond.instanceMethod mX4_look.1 ∈ gtbl := gt_of ⟨mt2 (List.mem_of_getElem? (i := 172) (by decide +kernel)), by decide +kernel⟩
theorem zw479 : Cond.selects mX4_look.1.cls mX4_look.1 mX4_look.1 ∈ gtbl := gt_of ⟨mt2 (List.mem_of_getElem? (i := 173) (by decide +kernel)), by decide +kernel⟩
theorem zw477 : Cond.methodLink RL 82 mX4_look.1 ∈ gtbl := gt_of ⟨mt2 (List.mem_of_getElem? (i := 171) (by decide +kernel)), by decide +kernel⟩
theorem zok_X4_look_0 : OkM mX4_look 0 := by decide +kernel
theorem oL_82 : OkM mX4_look 0 ∧ Cond.code mX4_look.1 mX4_look.2.1 mX4_look.2.2.1 mX4_look.2.2.2 ∈ gtbl ∧ Cond.initialized mX4_look.1.cls ∈ gtbl ∧ Cond.methodLink RL 82 mX4_look.1 ∈ gtbl ∧ Cond.instanceMethod mX4_look.1 ∈ gtbl ∧ Cond.selects mX4_look.1.cls mX4_look.1 mX4_look.1 ∈ gtbl := ⟨zok_X4_look_0, zw480, zw67, zw477, ⟨zw478, zw479⟩⟩
theorem zw840 : Cond.code mX5_look.1 mX5_look.2.1 mX5_look.2.2.1 mX5_look.2.2.2 ∈ gtbl := gt_of ⟨mt4 (List.mem_of_getElem? (i := 54) (by decide +kernel)), by decide +kernel⟩
theorem zw838 : Cond.instanceMethod mX5_look.1 ∈ gtbl := gt_of ⟨mt4 (List.mem_of_getElem? (i := 52) (by decide +kernel)), by decide +kernel⟩
theorem zw839 : Cond.selects mX5_look.1.cls mX5_look.1 mX5_look.1 ∈ gtbl := gt_of ⟨mt4 (List.mem_of_getElem? (i := 53) (by decide +kernel)), by decide +kernel⟩
theorem zw837 : Cond.methodLink RL 85 mX5_look.1 ∈ gtbl := gt_of ⟨mt4 (List.mem_of_getElem? (i := 51) (by decide +kernel)), by decide +kernel⟩
theorem zok_X5_look_0 : OkM mX5_look 0 := by decide +kernel
theorem oL_85 : OkM mX5_look 0 ∧ Cond.code mX5_look.1 mX5_look.2.1 mX5_look.2.2.1 mX5_look.2.2.2 ∈ gtbl ∧ Cond.initialized mX5_look.1.cls ∈ gtbl ∧ Cond.methodLink RL 85 mX5_look.1 ∈ gtbl ∧ Cond.instanceMethod mX5_look.1 ∈ gtbl ∧ Cond.selects mX5_look.1.cls mX5_look.1 mX5_look.1 ∈ gtbl := ⟨zok_X5_look_0, zw840, zw73, zw837, ⟨zw838, zw839⟩⟩
theorem zw496 : Cond.code mX4_fade.1 mX4_fade.2.1 mX4_fade.2.2.1 mX4_fade.2.2.2 ∈ gtbl := gt_of ⟨mt2 (List.mem_of_getElem? (i := 190) (by decide +kernel)), by decide +kernel⟩
theorem zw494 : Cond.instanceMethod mX4_fade.1 ∈ gtbl := gt_of ⟨mt2 (List.mem_of_getElem? (i := 188) (by decide +kernel)), by decide +kernel⟩
theorem zw495 : Cond.selects mX4_fade.1.cls mX4_fade.1 mX4_fade.1 ∈ gtbl := gt_of ⟨mt2 (List.mem_of_getElem? (i := 189) (by decide +kernel)), by decide +kernel⟩
theorem zw493 : Cond.methodLink RL 86 mX4_fade.1 ∈ gtbl := gt_of ⟨mt2 (List.mem_of_getElem? (i := 187) (by decide +kernel)), by decide +kernel⟩
theorem zok_X4_fade_1 : OkM mX4_fade 1 := by decide +kernel
theorem oL_86 : OkM mX4_fade 1 ∧ Cond.code mX4_fade.1 mX4_fade.2.1 mX4_fade.2.2.1 mX4_fade.2.2.2 ∈ gtbl ∧ Cond.initialized mX4_fade.1.cls ∈ gtbl ∧ Cond.methodLink RL 86 mX4_fade.1 ∈ gtbl ∧ Cond.instanceMethod mX4_fade.1 ∈ gtbl ∧ Cond.selects mX4_fade.1.cls mX4_fade.1 mX4_fade.1 ∈ gtbl := ⟨zok_X4_fade_1, zw496, zw67, zw493, ⟨zw494, zw495⟩⟩
theorem zw847 : Cond.code mX5_fade.1 mX5_fade.2.1 mX5_fade.2.2.1 mX5_fade.2.2.2 ∈ gtbl := gt_of ⟨mt4 (List.mem_of_getElem? (i := 61) (by decide +kernel)), by decide +kernel⟩
theorem zw845 : Cond.instanceMethod mX5_fade.1 ∈ gtbl := gt_of ⟨mt4 (List.mem_of_getElem? (i := 59) (by decide +kernel)), by decide +kernel⟩
theorem zw846 : Cond.selects mX5_fade.1.cls mX5_fade.1 mX5_fade.1 ∈ gtbl := gt_of ⟨mt4 (List.mem_of_getElem? (i := 60) (by decide +kernel)), by decide +kernel⟩
theorem zw844 : Cond.methodLink RL 89 mX5_fade.1 ∈ gtbl := gt_of ⟨mt4 (List.mem_of_getElem? (i := 58) (by decide +kernel)), by decide +kernel⟩
theorem zok_X5_fade_1 : OkM mX5_fade 1 := by decide +kernel
theorem oL_89 : OkM mX5_fade 1 ∧ Cond.code mX5_fade.1 mX5_fade.2.1 mX5_fade.2.2.1 mX5_fade.2.2.2 ∈ gtbl ∧ Cond.initialized mX5_fade.1.cls ∈ gtbl ∧ Cond.methodLink RL 89 mX5_fade.1 ∈ gtbl ∧ Cond.instanceMethod mX5_fade.1 ∈ gtbl ∧ Cond.selects mX5_fade.1.cls mX5_fade.1 mX5_fade.1 ∈ gtbl := ⟨zok_X5_fade_1, zw847, zw73, zw844, ⟨zw845, zw846⟩⟩
theorem zw508 : Cond.code mX4_pulse.1 mX4_pulse.2.1 mX4_pulse.2.2.1 mX4_pulse.2.2.2 ∈ gtbl := gt_of ⟨mt2 (List.mem_of_getElem? (i := 202) (by decide +kernel)), by decide +kernel⟩
theorem zw506 : Cond.instanceMethod mX4_pulse.1 ∈ gtbl := gt_of ⟨mt2 (List.mem_of_getElem? (i := 200) (by decide +kernel)), by decide +kernel⟩
theorem zw507 : Cond.selects mX4_pulse.1.cls mX4_pulse.1 mX4_pulse.1 ∈ gtbl := gt_of ⟨mt2 (List.mem_of_getElem? (i := 201) (by decide +kernel)), by decide +kernel⟩
theorem zw505 : Cond.methodLink RL 90 mX4_pulse.1 ∈ gtbl := gt_of ⟨mt2 (List.mem_of_getElem? (i := 199) (by decide +kernel)), by decide +kernel⟩
theorem zok_X4_pulse_3 : OkM mX4_pulse 3 := by decide +kernel
theorem oL_90 : OkM mX4_pulse 3 ∧ Cond.code mX4_pulse.1 mX4_pulse.2.1 mX4_pulse.2.2.1 mX4_pulse.2.2.2 ∈ gtbl ∧ Cond.initialized mX4_pulse.1.cls ∈ gtbl ∧ Cond.methodLink RL 90 mX4_pulse.1 ∈ gtbl ∧ Cond.instanceMethod mX4_pulse.1 ∈ gtbl ∧ Cond.selects mX4_pulse.1.cls mX4_pulse.1 mX4_pulse.1 ∈ gtbl := ⟨zok_X4_pulse_3, zw508, zw67, zw505, ⟨zw506, zw507⟩⟩
theorem zw851 : Cond.code mX5_pulse.1 mX5_pulse.2.1 mX5_pulse.2.2.1 mX5_pulse.2.2.2 ∈ gtbl := gt_of ⟨mt4 (List.mem_of_getElem? (i := 65) (by decide +kernel)), by decide +kernel⟩
theorem zw849 : Cond.instanceMethod mX5_pulse.1 ∈ gtbl := gt_of ⟨mt4 (List.mem_of_getElem? (i := 63) (by decide +kernel)), by decide +kernel⟩
theorem zw850 : Cond.selects mX5_pulse.1.cls mX5_pulse.1 mX5_pulse.1 ∈ gtbl := gt_of ⟨mt4 (List.mem_of_getElem? (i := 64) (by decide +kernel)), by decide +kernel⟩
theorem zw848 : Cond.methodLink RL 93 mX5_pulse.1 ∈ gtbl := gt_of ⟨mt4 (List.mem_of_getElem? (i := 62) (by decide +kernel)), by decide +kernel⟩
theorem zok_X5_pulse_3 : OkM mX5_pulse 3 := by decide +kernel
theorem oL_93 : OkM mX5_pulse 3 ∧ Cond.code mX5_pulse.1 mX5_pulse.2.1 mX5_pulse.2.2.1 mX5_pulse.2.2.2 ∈ gtbl ∧ Cond.initialized mX5_pulse.1.cls ∈ gtbl ∧ Cond.methodLink RL 93 mX5_pulse.1 ∈ gtbl ∧ Cond.instanceMethod mX5_pulse.1 ∈ gtbl ∧ Cond.selects mX5_pulse.1.cls mX5_pulse.1 mX5_pulse.1 ∈ gtbl := ⟨zok_X5_pulse_3, zw851, zw73, zw848, ⟨zw849, zw850⟩⟩
theorem zw517 : Cond.code mX4_find.1 mX4_find.2.1 mX4_find.2.2.1 mX4_find.2.2.2 ∈ gtbl := gt_of ⟨mt2 (List.mem_of_getElem? (i := 211) (by decide +kernel)), by decide +kernel⟩
theorem zw515 : Cond.instanceMethod mX4_find.1 ∈ gtbl := gt_of ⟨mt2 (List.mem_of_getElem? (i := 209) (by decide +kernel)), by decide +kernel⟩
theorem zw516 : Cond.selects mX4_find.1.cls mX4_find.1 mX4_find.1 ∈ gtbl := gt_of ⟨mt2 (List.mem_of_getElem? (i := 210) (by decide +kernel)), by decide +kernel⟩
theorem zw514 : Cond.methodLink RL 94 mX4_find.1 ∈ gtbl := gt_of ⟨mt2 (List.mem_of_getElem? (i := 208) (by decide +kernel)), by decide +kernel⟩
theorem zok_X4_find_3 : OkM mX4_find 3 := by decide +kernel
theorem oL_94 : OkM mX4_find 3 ∧ Cond.code mX4_find.1 mX4_find.2.1 mX4_find.2.2.1 mX4_find.2.2.2 ∈ gtbl ∧ Cond.initialized mX4_find.1.cls ∈ gtbl ∧ Cond.methodLink RL 94 mX4_find.1 ∈ gtbl ∧ Cond.instanceMethod mX4_find.1 ∈ gtbl ∧ Cond.selects mX4_find.1.cls mX4_find.1 mX4_find.1 ∈ gtbl := ⟨zok_X4_find_3, zw517, zw67, zw514, ⟨zw515, zw516⟩⟩
theorem zw855 : Cond.code mX5_find.1 mX5_find.2.1 mX5_find.2.2.1 mX5_find.2.2.2 ∈ gtbl := gt_of ⟨mt4 (List.mem_of_getElem? (i := 69) (by decide +kernel)), by decide +kernel⟩
theorem zw853 : Cond.instanceMethod mX5_find.1 ∈ gtbl := gt_of ⟨mt4 (List.mem_of_getElem? (i := 67) (by decide +kernel)), by decide +kernel⟩
theorem zw854 : Cond.selects mX5_find.1.cls mX5_find.1 mX5_find.1 ∈ gtbl := gt_of ⟨mt4 (List.mem_of_getElem? (i := 68) (by decide +kernel)), by decide +kernel⟩
theorem zw852 : Cond.methodLink RL 97 mX5_find.1 ∈ gtbl := gt_of ⟨mt4 (List.mem_of_getElem? (i := 66) (by decide +kernel)), by decide +kernel⟩
theorem zok_X5_find_3 : OkM mX5_find 3 := by decide +kernel
theorem oL_97 : OkM mX5_find 3 ∧ Cond.code mX5_find.1 mX5_find.2.1 mX5_find.2.2.1 mX5_find.2.2.2 ∈ gtbl ∧ Cond.initialized mX5_find.1.cls ∈ gtbl ∧ Cond.methodLink RL 97 mX5_find.1 ∈ gtbl ∧ Cond.instanceMethod mX5_find.1 ∈ gtbl ∧ Cond.selects mX5_find.1.cls mX5_find.1 mX5_find.1 ∈ gtbl := ⟨zok_X5_find_3, zw855, zw73, zw852, ⟨zw853, zw854⟩⟩
theorem zw582 : Cond.code mX4_actAt.1 mX4_actAt.2.1 mX4_actAt.2.2.1 mX4_actAt.2.2.2 ∈ gtbl := gt_of ⟨mt3 (List.mem_of_getElem? (i := 36) (by decide +kernel)), by decide +kernel⟩
theorem zw580 : Cond.instanceMethod mX4_actAt.1 ∈ gtbl := gt_of ⟨mt3 (List.mem_of_getElem? (i := 34) (by decide +kernel)), by decide +kernel⟩
theorem zw581 : Cond.selects mX4_actAt.1.cls mX4_actAt.1 mX4_actAt.1 ∈ gtbl := gt_of ⟨mt3 (List.mem_of_getElem? (i := 35) (by decide +kernel)), by decide +kernel⟩
theorem zw579 : Cond.methodLink RL 98 mX4_actAt.1 ∈ gtbl := gt_of ⟨mt3 (List.mem_of_getElem? (i := 33) (by decide +kernel)), by decide +kernel⟩
theorem zok_X4_actAt_2 : OkM mX4_actAt 2 := by decide +kernel
theorem oL_98 : OkM mX4_actAt 2 ∧ Cond.code mX4_actAt.1 mX4_actAt.2.1 mX4_actAt.2.2.1 mX4_actAt.2.2.2 ∈ gtbl ∧ Cond.initialized mX4_actAt.1.cls ∈ gtbl ∧ Cond.methodLink RL 98 mX4_actAt.1 ∈ gtbl ∧ Cond.instanceMethod mX4_actAt.1 ∈ gtbl ∧ Cond.selects mX4_actAt.1.cls mX4_actAt.1 mX4_actAt.1 ∈ gtbl := ⟨zok_X4_actAt_2, zw582, zw67, zw579, ⟨zw580, zw581⟩⟩
theorem zw884 : Cond.code mX5_actAt.1 mX5_actAt.2.1 mX5_actAt.2.2.1 mX5_actAt.2.2.2 ∈ gtbl := gt_of ⟨mt4 (List.mem_of_getElem? (i := 98) (by decide +kernel)), by decide +kernel⟩
theorem zw882 : Cond.instanceMethod mX5_actAt.1 ∈ gtbl := gt_of ⟨mt4 (List.mem_of_getElem? (i := 96) (by decide +kernel)), by decide +kernel⟩
theorem zw883 : Cond.selects mX5_actAt.1.cls mX5_actAt.1 mX5_actAt.1 ∈ gtbl := gt_of ⟨mt4 (List.mem_of_getElem? (i := 97) (by decide +kernel)), by decide +kernel⟩
theorem zw881 : Cond.methodLink RL 101 mX5_actAt.1 ∈ gtbl := gt_of ⟨mt4 (List.mem_of_getElem? (i := 95) (by decide +kernel)), by decide +kernel⟩
theorem zok_X5_actAt_2 : OkM mX5_actAt 2 := by decide +kernel
theorem oL_101 : OkM mX5_actAt 2 ∧ Cond.code mX5_actAt.1 mX5_actAt.2.1 mX5_actAt.2.2.1 mX5_actAt.2.2.2 ∈ gtbl ∧ Cond.initialized mX5_actAt.1.cls ∈ gtbl ∧ Cond.methodLink RL 101 mX5_actAt.1 ∈ gtbl ∧ Cond.instanceMethod mX5_actAt.1 ∈ gtbl ∧ Cond.selects mX5_actAt.1.cls mX5_actAt.1 mX5_actAt.1 ∈ gtbl := ⟨zok_X5_actAt_2, zw884, zw73, zw881, ⟨zw882, zw883⟩⟩
theorem zw589 : Cond.code mX4_where.1 mX4_where.2.1 mX4_where.2.2.1 mX4_where.2.2.2 ∈ gtbl := gt_of ⟨mt3 (List.mem_of_getElem? (i := 43) (by decide +kernel)), by decide +kernel⟩
theorem zw587 : Cond.instanceMethod mX4_where.1 ∈ gtbl := gt_of ⟨mt3 (List.mem_of_getElem? (i := 41) (by decide +kernel)), by decide +kernel⟩
theorem zw588 : Cond.selects mX4_where.1.cls mX4_where.1 mX4_where.1 ∈ gtbl := gt_of ⟨mt3 (List.mem_of_getElem? (i := 42) (by decide +kernel)), by decide +kernel⟩
theorem zw586 : Cond.methodLink RL 102 mX4_where.1 ∈ gtbl := gt_of ⟨mt3 (List.mem_of_getElem? (i := 40) (by decide +kernel)), by decide +kernel⟩
theorem zok_X4_where_0 : OkM mX4_where 0 := by decide +kernel
theorem oL_102 : OkM mX4_where 0 ∧ Cond.code mX4_where.1 mX4_where.2.1 mX4_where.2.2.1 mX4_where.2.2.2 ∈ gtbl ∧ Cond.initialized mX4_where.1.cls ∈ gtbl ∧ Cond.methodLink RL 102 mX4_where.1 ∈ gtbl ∧ Cond.instanceMethod mX4_where.1 ∈ gtbl ∧ Cond.selects mX4_where.1.cls mX4_where.1 mX4_where.1 ∈ gtbl := ⟨zok_X4_where_0, zw589, zw67, zw586, ⟨zw587, zw588⟩⟩
theorem zw888 : Cond.code mX5_where.1 mX5_where.2.1 mX5_where.2.2.1 mX5_where.2.2.2 ∈ gtbl := gt_of ⟨mt4 (List.mem_of_getElem? (i := 102) (by decide +kernel)), by decide +kernel⟩
theorem zw886 : Cond.instanceMethod mX5_where.1 ∈ gtbl := gt_of ⟨mt4 (List.mem_of_getElem? (i := 100) (by decide +kernel)), by decide +kernel⟩
theorem zw887 : Cond.selects mX5_where.1.cls mX5_where.1 mX5_where.1 ∈ gtbl := gt_of ⟨mt4 (List.mem_of_getElem? (i := 101) (by decide +kernel)), by decide +kernel⟩
theorem zw885 : Cond.methodLink RL 105 mX5_where.1 ∈ gtbl := gt_of ⟨mt4 (List.mem_of_getElem? (i := 99) (by decide +kernel)), by decide +kernel⟩
theorem zok_X5_where_0 : OkM mX5_where 0 := by decide +kernel
theorem oL_105 : OkM mX5_where 0 ∧ Cond.code mX5_where.1 mX5_where.2.1 mX5_where.2.2.1 mX5_where.2.2.2 ∈ gtbl ∧ Cond.initialized mX5_where.1.cls ∈ gtbl ∧ Cond.methodLink RL 105 mX5_where.1 ∈ gtbl ∧ Cond.instanceMethod mX5_where.1 ∈ gtbl ∧ Cond.selects mX5_where.1.cls mX5_where.1 mX5_where.1 ∈ gtbl := ⟨zok_X5_where_0, zw888, zw73, zw885, ⟨zw886, zw887⟩⟩
theorem zw593 : Cond.code mX4_met.1 mX4_met.2.1 mX4_met.2.2.1 mX4_met.2.2.2 ∈ gtbl := gt_of ⟨mt3 (List.mem_of_getElem? (i := 47) (by decide +kernel)), by decide +kernel⟩
theorem zw591 : Cond.instanceMethod mX4_met.1 ∈ gtbl := gt_of ⟨mt3 (List.mem_of_getElem? (i := 45) (by decide +kernel)), by decide +kernel⟩
theorem zw592 : Cond.selects mX4_met.1.cls mX4_met.1 mX4_met.1 ∈ gtbl := gt_of ⟨mt3 (List.mem_of_getElem? (i := 46) (by decide +kernel)), by decide +kernel⟩
theorem zw590 : Cond.methodLink RL 106 mX4_met.1 ∈ gtbl := gt_of ⟨mt3 (List.mem_of_getElem? (i := 44) (by decide +kernel)), by decide +kernel⟩
theorem zok_X4_met_0 : OkM mX4_met 0 := by decide +kernel
theorem oL_106 : OkM mX4_met 0 ∧ Cond.code mX4_met.1 mX4_met.2.1 mX4_met.2.2.1 mX4_met.2.2.2 ∈ gtbl ∧ Cond.initialized mX4_met.1.cls ∈ gtbl ∧ Cond.methodLink RL 106 mX4_met.1 ∈ gtbl ∧ Cond.instanceMethod mX4_met.1 ∈ gtbl ∧ Cond.selects mX4_met.1.cls mX4_met.1 mX4_met.1 ∈ gtbl := ⟨zok_X4_met_0, zw593, zw67, zw590, ⟨zw591, zw592⟩⟩
theorem zw892 : Cond.code mX5_met.1 mX5_met.2.1 mX5_met.2.2.1 mX5_met.2.2.2 ∈ gtbl := gt_of ⟨mt4 (List.mem_of_getElem? (i := 106) (by decide +kernel)), by decide +kernel⟩
theorem zw890 : Cond.instanceMethod mX5_met.1 ∈ gtbl := gt_of ⟨mt4 (List.mem_of_getElem? (i := 104) (by decide +kernel)), by decide +kernel⟩
theorem zw891 : Cond.selects mX5_met.1.cls mX5_met.1 mX5_met.1 ∈ gtbl := gt_of ⟨mt4 (List.mem_of_getElem? (i := 105) (by decide +kernel)), by decide +kernel⟩
theorem zw889 : Cond.methodLink RL 109 mX5_met.1 ∈ gtbl := gt_of ⟨mt4 (List.mem_of_getElem? (i := 103) (by decide +kernel)), by decide +kernel⟩
theorem zok_X5_met_0 : OkM mX5_met 0 := by decide +kernel
theorem oL_109 : OkM mX5_met 0 ∧ Cond.code mX5_met.1 mX5_met.2.1 mX5_met.2.2.1 mX5_met.2.2.2 ∈ gtbl ∧ Cond.initialized mX5_met.1.cls ∈ gtbl ∧ Cond.methodLink RL 109 mX5_met.1 ∈ gtbl ∧ Cond.instanceMethod mX5_met.1 ∈ gtbl ∧ Cond.selects mX5_met.1.cls mX5_met.1 mX5_met.1 ∈ gtbl := ⟨zok_X5_met_0, zw892, zw73, zw889, ⟨zw890, zw891⟩⟩
theorem zw594 : Cond.methodLink RL 110 mX4_count.1 ∈ gtbl := gt_of ⟨mt3 (List.mem_of_getElem? (i := 48) (by decide +kernel)), by decide +kernel⟩
theorem oL_110 : OkM mX4_count 1 ∧ Cond.code mX4_count.1 mX4_count.2.1 mX4_count.2.2.1 mX4_count.2.2.2 ∈ gtbl ∧ Cond.initialized mX4_count.1.cls ∈ gtbl ∧ Cond.methodLink RL 110 mX4_count.1 ∈ gtbl ∧ Cond.instanceMethod mX4_count.1 ∈ gtbl ∧ Cond.selects mX4_count.1.cls mX4_count.1 mX4_count.1 ∈ gtbl := ⟨zok_X4_count_1, zw597, zw67, zw594, ⟨zw595, zw596⟩⟩
theorem zw896 : Cond.code mX5_count.1 mX5_count.2.1 mX5_count.2.2.1 mX5_count.2.2.2 ∈ gtbl := gt_of ⟨mt4 (List.mem_of_getElem? (i := 110) (by decide +kernel)), by decide +kernel⟩
theorem zw894 : Cond.instanceMethod mX5_count.1 ∈ gtbl := gt_of ⟨mt4 (List.mem_of_getElem? (i := 108) (by decide +kernel)), by decide +kernel⟩
theorem zw895 : Cond.selects mX5_count.1.cls mX5_count.1 mX5_count.1 ∈ gtbl := gt_of ⟨mt4 (List.mem_of_getElem? (i := 109) (by decide +kernel)), by decide +kernel⟩
theorem zw893 : Cond.methodLink RL 113 mX5_count.1 ∈ gtbl := gt_of ⟨mt4 (List.mem_of_getElem? (i := 107) (by decide +kernel)), by decide +kernel⟩
theorem zok_X5_count_1 : OkM mX5_count 1 := by decide +kernel
theorem oL_113 : OkM mX5_count 1 ∧ Cond.code mX5_count.1 mX5_count.2.1 mX5_count.2.2.1 mX5_count.2.2.2 ∈ gtbl ∧ Cond.initialized mX5_count.1.cls ∈ gtbl ∧ Cond.methodLink RL 113 mX5_count.1 ∈ gtbl ∧ Cond.instanceMethod mX5_count.1 ∈ gtbl ∧ Cond.selects mX5_count.1.cls mX5_count.1 mX5_count.1 ∈ gtbl := ⟨zok_X5_count_1, zw896, zw73, zw893, ⟨zw894, zw895⟩⟩
theorem zw605 : Cond.code mX4_digest.1 mX4_digest.2.1 mX4_digest.2.2.1 mX4_digest.2.2.2 ∈ gtbl := gt_of ⟨mt3 (List.mem_of_getElem? (i := 59) (by decide +kernel)), by decide +kernel⟩
theorem zw603 : Cond.instanceMethod mX4_digest.1 ∈ gtbl := gt_of ⟨mt3 (List.mem_of_getElem? (i := 57) (by decide +kernel)), by decide +kernel⟩
theorem zw604 : Cond.selects mX4_digest.1.cls mX4_digest.1 mX4_digest.1 ∈ gtbl := gt_of ⟨mt3 (List.mem_of_getElem? (i := 58) (by decide +kernel)), by decide +kernel⟩
theorem zw602 : Cond.methodLink RL 114 mX4_digest.1 ∈ gtbl := gt_of ⟨mt3 (List.mem_of_getElem? (i := 56) (by decide +kernel)), by decide +kernel⟩
theorem zok_X4_digest_0 : OkM mX4_digest 0 := by decide +kernel
theorem oL_114 : OkM mX4_digest 0 ∧ Cond.code mX4_digest.1 mX4_digest.2.1 mX4_digest.2.2.1 mX4_digest.2.2.2 ∈ gtbl ∧ Cond.initialized mX4_digest.1.cls ∈ gtbl ∧ Cond.methodLink RL 114 mX4_digest.1 ∈ gtbl ∧ Cond.instanceMethod mX4_digest.1 ∈ gtbl ∧ Cond.selects mX4_digest.1.cls mX4_digest.1 mX4_digest.1 ∈ gtbl := ⟨zok_X4_digest_0, zw605, zw67, zw602, ⟨zw603, zw604⟩⟩
theorem zw900 : Cond.code mX5_digest.1 mX5_digest.2.1 mX5_digest.2.2.1 mX5_digest.2.2.2 ∈ gtbl := gt_of ⟨mt4 (List.mem_of_getElem? (i := 114) (by decide +kernel)), by decide +kernel⟩
theorem zw898 : Cond.instanceMethod mX5_digest.1 ∈ gtbl := gt_of ⟨mt4 (List.mem_of_getElem? (i := 112) (by decide +kernel)), by decide +kernel⟩
theorem zw899 : Cond.selects mX5_digest.1.cls mX5_digest.1 mX5_digest.1 ∈ gtbl := gt_of ⟨mt4 (List.mem_of_getElem? (i := 113) (by decide +kernel)), by decide +kernel⟩
theorem zw897 : Cond.methodLink RL 118 mX5_digest.1 ∈ gtbl := gt_of ⟨mt4 (List.mem_of_getElem? (i := 111) (by decide +kernel)), by decide +kernel⟩
theorem zok_X5_digest_0 : OkM mX5_digest 0 := by decide +kernel
theorem oL_118 : OkM mX5_digest 0 ∧ Cond.code mX5_digest.1 mX5_digest.2.1 mX5_digest.2.2.1 mX5_digest.2.2.2 ∈ gtbl ∧ Cond.initialized mX5_digest.1.cls ∈ gtbl ∧ Cond.methodLink RL 118 mX5_digest.1 ∈ gtbl ∧ Cond.instanceMethod mX5_digest.1 ∈ gtbl ∧ Cond.selects mX5_digest.1.cls mX5_digest.1 mX5_digest.1 ∈ gtbl := ⟨zok_X5_digest_0, zw900, zw73, zw897, ⟨zw898, zw899⟩⟩
theorem zw631 : Cond.methodLink RX5 1 Lib.objectInit ∈ gtbl := gt_of ⟨mt3 (List.mem_of_getElem? (i := 85) (by decide +kernel)), by decide +kernel⟩
theorem oX5_1 : Cond.methodLink RX5 1 Lib.objectInit ∈ gtbl ∧ Cond.instanceMethod Lib.objectInit ∈ gtbl ∧ Cond.code Lib.objectInit ⟨#[0xb1]⟩ 1 none ∈ gtbl := ⟨zw631, zw82, zw83⟩
theorem zw635 : Cond.code mX5_begins.1 mX5_begins.2.1 mX5_begins.2.2.1 mX5_begins.2.2.2 ∈ gtbl := gt_of ⟨mt3 (List.mem_of_getElem? (i := 89) (by decide +kernel)), by decide +kernel⟩
theorem zw634 : Cond.instanceMethod mX5_begins.1 ∈ gtbl := gt_of ⟨mt3 (List.mem_of_getElem? (i := 88) (by decide +kernel)), by decide +kernel⟩
theorem zw50 : Cond.selects mX5_begins.1.cls mX5_begins.1 mX5_begins.1 ∈ gtbl := gt_of ⟨mt0 (List.mem_of_getElem? (i := 50) (by decide +kernel)), by decide +kernel⟩
theorem zw632 : Cond.methodLink RX5 78 mX5_begins.1 ∈ gtbl := gt_of ⟨mt3 (List.mem_of_getElem? (i := 86) (by decide +kernel)), by decide +kernel⟩
theorem zok_X5_begins_3 : OkM mX5_begins 3 := by decide +kernel
theorem oX5_78 : OkM mX5_begins 3 ∧ Cond.code mX5_begins.1 mX5_begins.2.1 mX5_begins.2.2.1 mX5_begins.2.2.2 ∈ gtbl ∧ Cond.initialized mX5_begins.1.cls ∈ gtbl ∧ Cond.methodLink RX5 78 mX5_begins.1 ∈ gtbl ∧ Cond.instanceMethod mX5_begins.1 ∈ gtbl ∧ Cond.selects mX5_begins.1.cls mX5_begins.1 mX5_begins.1 ∈ gtbl := ⟨zok_X5_begins_3, zw635, zw73, zw632, ⟨zw634, zw50⟩⟩
theorem zw730 : Cond.code mX5_in.1 mX5_in.2.1 mX5_in.2.2.1 mX5_in.2.2.2 ∈ gtbl := gt_of ⟨mt3 (List.mem_of_getElem? (i := 184) (by decide +kernel)), by decide +kernel⟩
theorem zw729 : Cond.static mX5_in.1 ∈ gtbl := gt_of ⟨mt3 (List.mem_of_getElem? (i := 183) (by decide +kernel)), by decide +kernel⟩
theorem zw728 : Cond.methodLink RX5 98 mX5_in.1 ∈ gtbl := gt_of ⟨mt3 (List.mem_of_getElem? (i := 182) (by decide +kernel)), by decide +kernel⟩
theorem zok_X5_in_3 : OkM mX5_in 3 := by decide +kernel
theorem oX5_98 : OkM mX5_in 3 ∧ Cond.code mX5_in.1 mX5_in.2.1 mX5_in.2.2.1 mX5_in.2.2.2 ∈ gtbl ∧ Cond.initialized mX5_in.1.cls ∈ gtbl ∧ Cond.methodLink RX5 98 mX5_in.1 ∈ gtbl ∧ Cond.static mX5_in.1 ∈ gtbl ∧ True := ⟨zok_X5_in_3, zw730, zw73, zw728, ⟨zw729, trivial⟩⟩
theorem zw738 : Cond.code mX5_isCell.1 mX5_isCell.2.1 mX5_isCell.2.2.1 mX5_isCell.2.2.2 ∈ gtbl := gt_of ⟨mt3 (List.mem_of_getElem? (i := 192) (by decide +kernel)), by decide +kernel⟩
theorem zw737 : Cond.instanceMethod mX5_isCell.1 ∈ gtbl := gt_of ⟨mt3 (List.mem_of_getElem? (i := 191) (by decide +kernel)), by decide +kernel⟩
theorem zw51 : Cond.selects mX5_isCell.1.cls mX5_isCell.1 mX5_isCell.1 ∈ gtbl := gt_of ⟨mt0 (List.mem_of_getElem? (i := 51) (by decide +kernel)), by decide +kernel⟩
theorem zw735 : Cond.methodLink RX5 102 mX5_isCell.1 ∈ gtbl := gt_of ⟨mt3 (List.mem_of_getElem? (i := 189) (by decide +kernel)), by decide +kernel⟩
theorem zok_X5_isCell_2 : OkM mX5_isCell 2 := by decide +kernel
theorem oX5_102 : OkM mX5_isCell 2 ∧ Cond.code mX5_isCell.1 mX5_isCell.2.1 mX5_isCell.2.2.1 mX5_isCell.2.2.2 ∈ gtbl ∧ Cond.initialized mX5_isCell.1.cls ∈ gtbl ∧ Cond.methodLink RX5 102 mX5_isCell.1 ∈ gtbl ∧ Cond.instanceMethod mX5_isCell.1 ∈ gtbl ∧ Cond.selects mX5_isCell.1.cls mX5_isCell.1 mX5_isCell.1 ∈ gtbl := ⟨zok_X5_isCell_2, zw738, zw73, zw735, ⟨zw737, zw51⟩⟩
theorem zw742 : Cond.code mX5_writes.1 mX5_writes.2.1 mX5_writes.2.2.1 mX5_writes.2.2.2 ∈ gtbl := gt_of ⟨mt3 (List.mem_of_getElem? (i := 196) (by decide +kernel)), by decide +kernel⟩
theorem zw741 : Cond.instanceMethod mX5_writes.1 ∈ gtbl := gt_of ⟨mt3 (List.mem_of_getElem? (i := 195) (by decide +kernel)), by decide +kernel⟩
theorem zw52 : Cond.selects mX5_writes.1.cls mX5_writes.1 mX5_writes.1 ∈ gtbl := gt_of ⟨mt0 (List.mem_of_getElem? (i := 52) (by decide +kernel)), by decide +kernel⟩
theorem zw739 : Cond.methodLink RX5 106 mX5_writes.1 ∈ gtbl := gt_of ⟨mt3 (List.mem_of_getElem? (i := 193) (by decide +kernel)), by decide +kernel⟩
theorem zok_X5_writes_2 : OkM mX5_writes 2 := by decide +kernel
theorem oX5_106 : OkM mX5_writes 2 ∧ Cond.code mX5_writes.1 mX5_writes.2.1 mX5_writes.2.2.1 mX5_writes.2.2.2 ∈ gtbl ∧ Cond.initialized mX5_writes.1.cls ∈ gtbl ∧ Cond.methodLink RX5 106 mX5_writes.1 ∈ gtbl ∧ Cond.instanceMethod mX5_writes.1 ∈ gtbl ∧ Cond.selects mX5_writes.1.cls mX5_writes.1 mX5_writes.1 ∈ gtbl := ⟨zok_X5_writes_2, zw742, zw73, zw739, ⟨zw741, zw52⟩⟩
theorem zw754 : Cond.code mX5_cellAt.1 mX5_cellAt.2.1 mX5_cellAt.2.2.1 mX5_cellAt.2.2.2 ∈ gtbl := gt_of ⟨mt3 (List.mem_of_getElem? (i := 208) (by decide +kernel)), by decide +kernel⟩
theorem zw753 : Cond.instanceMethod mX5_cellAt.1 ∈ gtbl := gt_of ⟨mt3 (List.mem_of_getElem? (i := 207) (by decide +kernel)), by decide +kernel⟩
theorem zw53 : Cond.selects mX5_cellAt.1.cls mX5_cellAt.1 mX5_cellAt.1 ∈ gtbl := gt_of ⟨mt0 (List.mem_of_getElem? (i := 53) (by decide +kernel)), by decide +kernel⟩
theorem zw751 : Cond.methodLink RX5 109 mX5_cellAt.1 ∈ gtbl := gt_of ⟨mt3 (List.mem_of_getElem? (i := 205) (by decide +kernel)), by decide +kernel⟩
theorem zok_X5_cellAt_2 : OkM mX5_cellAt 2 := by decide +kernel
theorem oX5_109 : OkM mX5_cellAt 2 ∧ Cond.code mX5_cellAt.1 mX5_cellAt.2.1 mX5_cellAt.2.2.1 mX5_cellAt.2.2.2 ∈ gtbl ∧ Cond.initialized mX5_cellAt.1.cls ∈ gtbl ∧ Cond.methodLink RX5 109 mX5_cellAt.1 ∈ gtbl ∧ Cond.instanceMethod mX5_cellAt.1 ∈ gtbl ∧ Cond.selects mX5_cellAt.1.cls mX5_cellAt.1 mX5_cellAt.1 ∈ gtbl := ⟨zok_X5_cellAt_2, zw754, zw73, zw751, ⟨zw753, zw53⟩⟩
theorem zw770 : Cond.code mX5_sumOf.1 mX5_sumOf.2.1 mX5_sumOf.2.2.1 mX5_sumOf.2.2.2 ∈ gtbl := gt_of ⟨mt3 (List.mem_of_getElem? (i := 224) (by decide +kernel)), by decide +kernel⟩
theorem zw769 : Cond.instanceMethod mX5_sumOf.1 ∈ gtbl := gt_of ⟨mt3 (List.mem_of_getElem? (i := 223) (by decide +kernel)), by decide +kernel⟩
theorem zw54 : Cond.selects mX5_sumOf.1.cls mX5_sumOf.1 mX5_sumOf.1 ∈ gtbl := gt_of ⟨mt0 (List.mem_of_getElem? (i := 54) (by decide +kernel)), by decide +kernel⟩
theorem zw767 : Cond.methodLink RX5 113 mX5_sumOf.1 ∈ gtbl := gt_of ⟨mt3 (List.mem_of_getElem? (i := 221) (by decide +kernel)), by decide +kernel⟩
theorem zok_X5_sumOf_1 : OkM mX5_sumOf 1 := by decide +kernel
theorem oX5_113 : OkM mX5_sumOf 1 ∧ Cond.code mX5_sumOf.1 mX5_sumOf.2.1 mX5_sumOf.2.2.1 mX5_sumOf.2.2.2 ∈ gtbl ∧ Cond.initialized mX5_sumOf.1.cls ∈ gtbl ∧ Cond.methodLink RX5 113 mX5_sumOf.1 ∈ gtbl ∧ Cond.instanceMethod mX5_sumOf.1 ∈ gtbl ∧ Cond.selects mX5_sumOf.1.cls mX5_sumOf.1 mX5_sumOf.1 ∈ gtbl := ⟨zok_X5_sumOf_1, zw770, zw73, zw767, ⟨zw769, zw54⟩⟩
theorem zw774 : Cond.code mX5_converted.1 mX5_converted.2.1 mX5_converted.2.2.1 mX5_converted.2.2.2 ∈ gtbl := gt_of ⟨mt3 (List.mem_of_getElem? (i := 228) (by decide +kernel)), by decide +kernel⟩
theorem zw773 : Cond.instanceMethod mX5_converted.1 ∈ gtbl := gt_of ⟨mt3 (List.mem_of_getElem? (i := 227) (by decide +kernel)), by decide +kernel⟩
theorem zw55 : Cond.selects mX5_converted.1.cls mX5_converted.1 mX5_converted.1 ∈ gtbl := gt_of ⟨mt0 (List.mem_of_getElem? (i := 55) (by decide +kernel)), by decide +kernel⟩
theorem zw771 : Cond.methodLink RX5 117 mX5_converted.1 ∈ gtbl := gt_of ⟨mt3 (List.mem_of_getElem? (i := 225) (by decide +kernel)), by decide +kernel⟩
theorem zok_X5_converted_1 : OkM mX5_converted 1 := by decide +kernel
theorem oX5_117 : OkM mX5_converted 1 ∧ Cond.code mX5_converted.1 mX5_converted.2.1 mX5_converted.2.2.1 mX5_converted.2.2.2 ∈ gtbl ∧ Cond.initialized mX5_converted.1.cls ∈ gtbl ∧ Cond.methodLink RX5 117 mX5_converted.1 ∈ gtbl ∧ Cond.instanceMethod mX5_converted.1 ∈ gtbl ∧ Cond.selects mX5_converted.1.cls mX5_converted.1 mX5_converted.1 ∈ gtbl := ⟨zok_X5_converted_1, zw774, zw73, zw771, ⟨zw773, zw55⟩⟩
theorem zw786 : Cond.code mX5_greatest.1 mX5_greatest.2.1 mX5_greatest.2.2.1 mX5_greatest.2.2.2 ∈ gtbl := gt_of ⟨mt4 (List.mem_of_getElem? (i := 0) (by decide +kernel)), by decide +kernel⟩
theorem zw785 : Cond.instanceMethod mX5_greatest.1 ∈ gtbl := gt_of ⟨mt3 (List.mem_of_getElem? (i := 239) (by decide +kernel)), by decide +kernel⟩
theorem zw56 : Cond.selects mX5_greatest.1.cls mX5_greatest.1 mX5_greatest.1 ∈ gtbl := gt_of ⟨mt0 (List.mem_of_getElem? (i := 56) (by decide +kernel)), by decide +kernel⟩
theorem zw783 : Cond.methodLink RX5 120 mX5_greatest.1 ∈ gtbl := gt_of ⟨mt3 (List.mem_of_getElem? (i := 237) (by decide +kernel)), by decide +kernel⟩
theorem zok_X5_greatest_0 : OkM mX5_greatest 0 := by decide +kernel
theorem oX5_120 : OkM mX5_greatest 0 ∧ Cond.code mX5_greatest.1 mX5_greatest.2.1 mX5_greatest.2.2.1 mX5_greatest.2.2.2 ∈ gtbl ∧ Cond.initialized mX5_greatest.1.cls ∈ gtbl ∧ Cond.methodLink RX5 120 mX5_greatest.1 ∈ gtbl ∧ Cond.instanceMethod mX5_greatest.1 ∈ gtbl ∧ Cond.selects mX5_greatest.1.cls mX5_greatest.1 mX5_greatest.1 ∈ gtbl := ⟨zok_X5_greatest_0, zw786, zw73, zw783, ⟨zw785, zw56⟩⟩
theorem zw795 : Cond.code mX5_hasTable.1 mX5_hasTable.2.1 mX5_hasTable.2.2.1 mX5_hasTable.2.2.2 ∈ gtbl := gt_of ⟨mt4 (List.mem_of_getElem? (i := 9) (by decide +kernel)), by decide +kernel⟩
theorem zw794 : Cond.instanceMethod mX5_hasTable.1 ∈ gtbl := gt_of ⟨mt4 (List.mem_of_getElem? (i := 8) (by decide +kernel)), by decide +kernel⟩
theorem zw57 : Cond.selects mX5_hasTable.1.cls mX5_hasTable.1 mX5_hasTable.1 ∈ gtbl := gt_of ⟨mt0 (List.mem_of_getElem? (i := 57) (by decide +kernel)), by decide +kernel⟩
theorem zw792 : Cond.methodLink RX5 125 mX5_hasTable.1 ∈ gtbl := gt_of ⟨mt4 (List.mem_of_getElem? (i := 6) (by decide +kernel)), by decide +kernel⟩
theorem zok_X5_hasTable_0 : OkM mX5_hasTable 0 := by decide +kernel
theorem oX5_125 : OkM mX5_hasTable 0 ∧ Cond.code mX5_hasTable.1 mX5_hasTable.2.1 mX5_hasTable.2.2.1 mX5_hasTable.2.2.2 ∈ gtbl ∧ Cond.initialized mX5_hasTable.1.cls ∈ gtbl ∧ Cond.methodLink RX5 125 mX5_hasTable.1 ∈ gtbl ∧ Cond.instanceMethod mX5_hasTable.1 ∈ gtbl ∧ Cond.selects mX5_hasTable.1.cls mX5_hasTable.1 mX5_hasTable.1 ∈ gtbl := ⟨zok_X5_hasTable_0, zw795, zw73, zw792, ⟨zw794, zw57⟩⟩
theorem zw799 : Cond.code mX5_wanted.1 mX5_wanted.2.1 mX5_wanted.2.2.1 mX5_wanted.2.2.2 ∈ gtbl := gt_of ⟨mt4 (List.mem_of_getElem? (i := 13) (by decide +kernel)), by decide +kernel⟩
theorem zw798 : Cond.instanceMethod mX5_wanted.1 ∈ gtbl := gt_of ⟨mt4 (List.mem_of_getElem? (i := 12) (by decide +kernel)), by decide +kernel⟩
theorem zw58 : Cond.selects mX5_wanted.1.cls mX5_wanted.1 mX5_wanted.1 ∈ gtbl := gt_of ⟨mt0 (List.mem_of_getElem? (i := 58) (by decide +kernel)), by decide +kernel⟩
theorem zw796 : Cond.methodLink RX5 129 mX5_wanted.1 ∈ gtbl := gt_of ⟨mt4 (List.mem_of_getElem? (i := 10) (by decide +kernel)), by decide +kernel⟩
theorem zok_X5_wanted_2 : OkM mX5_wanted 2 := by decide +kernel
theorem oX5_129 : OkM mX5_wanted 2 ∧ Cond.code mX5_wanted.1 mX5_wanted.2.1 mX5_wanted.2.2.1 mX5_wanted.2.2.2 ∈ gtbl ∧ Cond.initialized mX5_wanted.1.cls ∈ gtbl ∧ Cond.methodLink RX5 129 mX5_wanted.1 ∈ gtbl ∧ Cond.instanceMethod mX5_wanted.1 ∈ gtbl ∧ Cond.selects mX5_wanted.1.cls mX5_wanted.1 mX5_wanted.1 ∈ gtbl := ⟨zok_X5_wanted_2, zw799, zw73, zw796, ⟨zw798, zw58⟩⟩
theorem zw808 : Cond.code mX5_bitSum.1 mX5_bitSum.2.1 mX5_bitSum.2.2.1 mX5_bitSum.2.2.2 ∈ gtbl := gt_of ⟨mt4 (List.mem_of_getElem? (i := 22) (by decide +kernel)), by decide +kernel⟩
theorem zw807 : Cond.instanceMethod mX5_bitSum.1 ∈ gtbl := gt_of ⟨mt4 (List.mem_of_getElem? (i := 21) (by decide +kernel)), by decide +kernel⟩
theorem zw59 : Cond.selects mX5_bitSum.1.cls mX5_bitSum.1 mX5_bitSum.1 ∈ gtbl := gt_of ⟨mt0 (List.mem_of_getElem? (i := 59) (by decide +kernel)), by decide +kernel⟩
theorem zw805 : Cond.methodLink RX5 134 mX5_bitSum.1 ∈ gtbl := gt_of ⟨mt4 (List.mem_of_getElem? (i := 19) (by decide +kernel)), by decide +kernel⟩
theorem zok_X5_bitSum_2 : OkM mX5_bitSum 2 := by decide +kernel
theorem oX5_134 : OkM mX5_bitSum 2 ∧ Cond.code mX5_bitSum.1 mX5_bitSum.2.1 mX5_bitSum.2.2.1 mX5_bitSum.2.2.2 ∈ gtbl ∧ Cond.initialized mX5_bitSum.1.cls ∈ gtbl ∧ Cond.methodLink RX5 134 mX5_bitSum.1 ∈ gtbl ∧ Cond.instanceMethod mX5_bitSum.1 ∈ gtbl ∧ Cond.selects mX5_bitSum.1.cls mX5_bitSum.1 mX5_bitSum.1 ∈ gtbl := ⟨zok_X5_bitSum_2, zw808, zw73, zw805, ⟨zw807, zw59⟩⟩
theorem zw824 : Cond.code mX5_findCosts.1 mX5_findCosts.2.1 mX5_findCosts.2.2.1 mX5_findCosts.2.2.2 ∈ gtbl := gt_of ⟨mt4 (List.mem_of_getElem? (i := 38) (by decide +kernel)), by decide +kernel⟩
theorem zw823 : Cond.instanceMethod mX5_findCosts.1 ∈ gtbl := gt_of ⟨mt4 (List.mem_of_getElem? (i := 37) (by decide +kernel)), by decide +kernel⟩
theorem zw60 : Cond.selects mX5_findCosts.1.cls mX5_findCosts.1 mX5_findCosts.1 ∈ gtbl := gt_of ⟨mt0 (List.mem_of_getElem? (i := 60) (by decide +kernel)), by decide +kernel⟩
theorem zw821 : Cond.methodLink RX5 138 mX5_findCosts.1 ∈ gtbl := gt_of ⟨mt4 (List.mem_of_getElem? (i := 35) (by decide +kernel)), by decide +kernel⟩
theorem zok_X5_findCosts_0 : OkM mX5_findCosts 0 := by decide +kernel
theorem oX5_138 : OkM mX5_findCosts 0 ∧ Cond.code mX5_findCosts.1 mX5_findCosts.2.1 mX5_findCosts.2.2.1 mX5_findCosts.2.2.2 ∈ gtbl ∧ Cond.initialized mX5_findCosts.1.cls ∈ gtbl ∧ Cond.methodLink RX5 138 mX5_findCosts.1 ∈ gtbl ∧ Cond.instanceMethod mX5_findCosts.1 ∈ gtbl ∧ Cond.selects mX5_findCosts.1.cls mX5_findCosts.1 mX5_findCosts.1 ∈ gtbl := ⟨zok_X5_findCosts_0, zw824, zw73, zw821, ⟨zw823, zw60⟩⟩
theorem zw828 : Cond.code mX5_isUsed.1 mX5_isUsed.2.1 mX5_isUsed.2.2.1 mX5_isUsed.2.2.2 ∈ gtbl := gt_of ⟨mt4 (List.mem_of_getElem? (i := 42) (by decide +kernel)), by decide +kernel⟩
theorem zw827 : Cond.instanceMethod mX5_isUsed.1 ∈ gtbl := gt_of ⟨mt4 (List.mem_of_getElem? (i := 41) (by decide +kernel)), by decide +kernel⟩
theorem zw61 : Cond.selects mX5_isUsed.1.cls mX5_isUsed.1 mX5_isUsed.1 ∈ gtbl := gt_of ⟨mt0 (List.mem_of_getElem? (i := 61) (by decide +kernel)), by decide +kernel⟩
theorem zw825 : Cond.methodLink RX5 141 mX5_isUsed.1 ∈ gtbl := gt_of ⟨mt4 (List.mem_of_getElem? (i := 39) (by decide +kernel)), by decide +kernel⟩
theorem zok_X5_isUsed_2 : OkM mX5_isUsed 2 := by decide +kernel
theorem oX5_141 : OkM mX5_isUsed 2 ∧ Cond.code mX5_isUsed.1 mX5_isUsed.2.1 mX5_isUsed.2.2.1 mX5_isUsed.2.2.2 ∈ gtbl ∧ Cond.initialized mX5_isUsed.1.cls ∈ gtbl ∧ Cond.methodLink RX5 141 mX5_isUsed.1 ∈ gtbl ∧ Cond.instanceMethod mX5_isUsed.1 ∈ gtbl ∧ Cond.selects mX5_isUsed.1.cls mX5_isUsed.1 mX5_isUsed.1 ∈ gtbl := ⟨zok_X5_isUsed_2, zw828, zw73, zw825, ⟨zw827, zw61⟩⟩
theorem zw843 : Cond.code mX5_rest.1 mX5_rest.2.1 mX5_rest.2.2.1 mX5_rest.2.2.2 ∈ gtbl := gt_of ⟨mt4 (List.mem_of_getElem? (i := 57) (by decide +kernel)), by decide +kernel⟩
theorem zw842 : Cond.static mX5_rest.1 ∈ gtbl := gt_of ⟨mt4 (List.mem_of_getElem? (i := 56) (by decide +kernel)), by decide +kernel⟩
theorem zw841 : Cond.methodLink RX5 144 mX5_rest.1 ∈ gtbl := gt_of ⟨mt4 (List.mem_of_getElem? (i := 55) (by decide +kernel)), by decide +kernel⟩
theorem zok_X5_rest_1 : OkM mX5_rest 1 := by decide +kernel
theorem oX5_144 : OkM mX5_rest 1 ∧ Cond.code mX5_rest.1 mX5_rest.2.1 mX5_rest.2.2.1 mX5_rest.2.2.2 ∈ gtbl ∧ Cond.initialized mX5_rest.1.cls ∈ gtbl ∧ Cond.methodLink RX5 144 mX5_rest.1 ∈ gtbl ∧ Cond.static mX5_rest.1 ∈ gtbl ∧ True := ⟨zok_X5_rest_1, zw843, zw73, zw841, ⟨zw842, trivial⟩⟩
theorem zw863 : Cond.code mX5_isNew.1 mX5_isNew.2.1 mX5_isNew.2.2.1 mX5_isNew.2.2.2 ∈ gtbl := gt_of ⟨mt4 (List.mem_of_getElem? (i := 77) (by decide +kernel)), by decide +kernel⟩
theorem zw862 : Cond.instanceMethod mX5_isNew.1 ∈ gtbl := gt_of ⟨mt4 (List.mem_of_getElem? (i := 76) (by decide +kernel)), by decide +kernel⟩
theorem zw63 : Cond.selects mX5_isNew.1.cls mX5_isNew.1 mX5_isNew.1 ∈ gtbl := gt_of ⟨mt0 (List.mem_of_getElem? (i := 63) (by decide +kernel)), by decide +kernel⟩
theorem zw860 : Cond.methodLink RX5 152 mX5_isNew.1 ∈ gtbl := gt_of ⟨mt4 (List.mem_of_getElem? (i := 74) (by decide +kernel)), by decide +kernel⟩
theorem zok_X5_isNew_1 : OkM mX5_isNew 1 := by decide +kernel
theorem oX5_152 : OkM mX5_isNew 1 ∧ Cond.code mX5_isNew.1 mX5_isNew.2.1 mX5_isNew.2.2.1 mX5_isNew.2.2.2 ∈ gtbl ∧ Cond.initialized mX5_isNew.1.cls ∈ gtbl ∧ Cond.methodLink RX5 152 mX5_isNew.1 ∈ gtbl ∧ Cond.instanceMethod mX5_isNew.1 ∈ gtbl ∧ Cond.selects mX5_isNew.1.cls mX5_isNew.1 mX5_isNew.1 ∈ gtbl := ⟨zok_X5_isNew_1, zw863, zw73, zw860, ⟨zw862, zw63⟩⟩
theorem zw870 : Cond.code mX5_tableOf.1 mX5_tableOf.2.1 mX5_tableOf.2.2.1 mX5_tableOf.2.2.2 ∈ gtbl := gt_of ⟨mt4 (List.mem_of_getElem? (i := 84) (by decide +kernel)), by decide +kernel⟩
theorem zw869 : Cond.static mX5_tableOf.1 ∈ gtbl := gt_of ⟨mt4 (List.mem_of_getElem? (i := 83) (by decide +kernel)), by decide +kernel⟩
theorem zw868 : Cond.methodLink RX5 156 mX5_tableOf.1 ∈ gtbl := gt_of ⟨mt4 (List.mem_of_getElem? (i := 82) (by decide +kernel)), by decide +kernel⟩
theorem zok_X5_tableOf_2 : OkM mX5_tableOf 2 := by decide +kernel
theorem oX5_156 : OkM mX5_tableOf 2 ∧ Cond.code mX5_tableOf.1 mX5_tableOf.2.1 mX5_tableOf.2.2.1 mX5_tableOf.2.2.2 ∈ gtbl ∧ Cond.initialized mX5_tableOf.1.cls ∈ gtbl ∧ Cond.methodLink RX5 156 mX5_tableOf.1 ∈ gtbl ∧ Cond.static mX5_tableOf.1 ∈ gtbl ∧ True := ⟨zok_X5_tableOf_2, zw870, zw73, zw868, ⟨zw869, trivial⟩⟩
theorem zw859 : Cond.code mX5_meets.1 mX5_meets.2.1 mX5_meets.2.2.1 mX5_meets.2.2.2 ∈ gtbl := gt_of ⟨mt4 (List.mem_of_getElem? (i := 73) (by decide +kernel)), by decide +kernel⟩
theorem zw858 : Cond.instanceMethod mX5_meets.1 ∈ gtbl := gt_of ⟨mt4 (List.mem_of_getElem? (i := 72) (by decide +kernel)), by decide +kernel⟩
theorem zw62 : Cond.selects mX5_meets.1.cls mX5_meets.1 mX5_meets.1 ∈ gtbl := gt_of ⟨mt0 (List.mem_of_getElem? (i := 62) (by decide +kernel)), by decide +kernel⟩
theorem zw856 : Cond.methodLink RX5 167 mX5_meets.1 ∈ gtbl := gt_of ⟨mt4 (List.mem_of_getElem? (i := 70) (by decide +kernel)), by decide +kernel⟩
theorem zok_X5_meets_3 : OkM mX5_meets 3 := by decide +kernel
theorem oX5_167 : OkM mX5_meets 3 ∧ Cond.code mX5_meets.1 mX5_meets.2.1 mX5_meets.2.2.1 mX5_meets.2.2.2 ∈ gtbl ∧ Cond.initialized mX5_meets.1.cls ∈ gtbl ∧ Cond.methodLink RX5 167 mX5_meets.1 ∈ gtbl ∧ Cond.instanceMethod mX5_meets.1 ∈ gtbl ∧ Cond.selects mX5_meets.1.cls mX5_meets.1 mX5_meets.1 ∈ gtbl := ⟨zok_X5_meets_3, zw859, zw73, zw856, ⟨zw858, zw62⟩⟩
theorem zw867 : Cond.code mX5_whereIs.1 mX5_whereIs.2.1 mX5_whereIs.2.2.1 mX5_whereIs.2.2.2 ∈ gtbl := gt_of ⟨mt4 (List.mem_of_getElem? (i := 81) (by decide +kernel)), by decide +kernel⟩
theorem zw866 : Cond.static mX5_whereIs.1 ∈ gtbl := gt_of ⟨mt4 (List.mem_of_getElem? (i := 80) (by decide +kernel)), by decide +kernel⟩
theorem zw865 : Cond.methodLink RX5 171 mX5_whereIs.1 ∈ gtbl := gt_of ⟨mt4 (List.mem_of_getElem? (i := 79) (by decide +kernel)), by decide +kernel⟩
theorem zok_X5_whereIs_3 : OkM mX5_whereIs 3 := by decide +kernel
theorem oX5_171 : OkM mX5_whereIs 3 ∧ Cond.code mX5_whereIs.1 mX5_whereIs.2.1 mX5_whereIs.2.2.1 mX5_whereIs.2.2.2 ∈ gtbl ∧ Cond.initialized mX5_whereIs.1.cls ∈ gtbl ∧ Cond.methodLink RX5 171 mX5_whereIs.1 ∈ gtbl ∧ Cond.static mX5_whereIs.1 ∈ gtbl ∧ True := ⟨zok_X5_whereIs_3, zw867, zw73, zw865, ⟨zw866, trivial⟩⟩
theorem zw874 : Cond.code mX5_becomesFound.1 mX5_becomesFound.2.1 mX5_becomesFound.2.2.1 mX5_becomesFound.2.2.2 ∈ gtbl := gt_of ⟨mt4 (List.mem_of_getElem? (i := 88) (by decide +kernel)), by decide +kernel⟩
theorem zw873 : Cond.instanceMethod mX5_becomesFound.1 ∈ gtbl := gt_of ⟨mt4 (List.mem_of_getElem? (i := 87) (by decide +kernel)), by decide +kernel⟩
theorem zw64 : Cond.selects mX5_becomesFound.1.cls mX5_becomesFound.1 mX5_becomesFound.1 ∈ gtbl := gt_of ⟨mt0 (List.mem_of_getElem? (i := 64) (by decide +kernel)), by decide +kernel⟩
theorem zw871 : Cond.methodLink RX5 175 mX5_becomesFound.1 ∈ gtbl := gt_of ⟨mt4 (List.mem_of_getElem? (i := 85) (by decide +kernel)), by decide +kernel⟩
theorem zok_X5_becomesFound_2 : OkM mX5_becomesFound 2 := by decide +kernel
theorem oX5_175 : OkM mX5_becomesFound 2 ∧ Cond.code mX5_becomesFound.1 mX5_becomesFound.2.1 mX5_becomesFound.2.2.1 mX5_becomesFound.2.2.2 ∈ gtbl ∧ Cond.initialized mX5_becomesFound.1.cls ∈ gtbl ∧ Cond.methodLink RX5 175 mX5_becomesFound.1 ∈ gtbl ∧ Cond.instanceMethod mX5_becomesFound.1 ∈ gtbl ∧ Cond.selects mX5_becomesFound.1.cls mX5_becomesFound.1 mX5_becomesFound.1 ∈ gtbl := ⟨zok_X5_becomesFound_2, zw874, zw73, zw871, ⟨zw873, zw64⟩⟩
theorem zw878 : Cond.code mX5_goesOn.1 mX5_goesOn.2.1 mX5_goesOn.2.2.1 mX5_goesOn.2.2.2 ∈ gtbl := gt_of ⟨mt4 (List.mem_of_getElem? (i := 92) (by decide +kernel)), by decide +kernel⟩
theorem zw877 : Cond.instanceMethod mX5_goesOn.1 ∈ gtbl := gt_of ⟨mt4 (List.mem_of_getElem? (i := 91) (by decide +kernel)), by decide +kernel⟩
theorem zw65 : Cond.selects mX5_goesOn.1.cls mX5_goesOn.1 mX5_goesOn.1 ∈ gtbl := gt_of ⟨mt0 (List.mem_of_getElem? (i := 65) (by decide +kernel)), by decide +kernel⟩
theorem zw875 : Cond.methodLink RX5 179 mX5_goesOn.1 ∈ gtbl := gt_of ⟨mt4 (List.mem_of_getElem? (i := 89) (by decide +kernel)), by decide +kernel⟩
theorem zok_X5_goesOn_4 : OkM mX5_goesOn 4 := by decide +kernel
theorem oX5_179 : OkM mX5_goesOn 4 ∧ Cond.code mX5_goesOn.1 mX5_goesOn.2.1 mX5_goesOn.2.2.1 mX5_goesOn.2.2.2 ∈ gtbl ∧ Cond.initialized mX5_goesOn.1.cls ∈ gtbl ∧ Cond.methodLink RX5 179 mX5_goesOn.1 ∈ gtbl ∧ Cond.instanceMethod mX5_goesOn.1 ∈ gtbl ∧ Cond.selects mX5_goesOn.1.cls mX5_goesOn.1 mX5_goesOn.1 ∈ gtbl := ⟨zok_X5_goesOn_4, zw878, zw73, zw875, ⟨zw877, zw65⟩⟩
theorem zw903 : Cond.methodLink RX5 187 mX5_count.1 ∈ gtbl := gt_of ⟨mt4 (List.mem_of_getElem? (i := 117) (by decide +kernel)), by decide +kernel⟩
theorem oX5_187 : OkM mX5_count 1 ∧ Cond.code mX5_count.1 mX5_count.2.1 mX5_count.2.2.1 mX5_count.2.2.2 ∈ gtbl ∧ Cond.initialized mX5_count.1.cls ∈ gtbl ∧ Cond.methodLink RX5 187 mX5_count.1 ∈ gtbl ∧ Cond.instanceMethod mX5_count.1 ∈ gtbl ∧ Cond.selects mX5_count.1.cls mX5_count.1 mX5_count.1 ∈ gtbl := ⟨zok_X5_count_1, zw896, zw73, zw903, ⟨zw894, zw895⟩⟩
theorem zw358 : Cond.constant RX4 111 (-2000000000) ∈ gtbl := gt_of ⟨mt2 (List.mem_of_getElem? (i := 52) (by decide +kernel)), by decide +kernel⟩
theorem kX4_111 : Cond.constant RX4 111 (-2000000000) ∈ gtbl := zw358
theorem zw397 : Cond.constantLong RX4 127 (-2000000000000000000) ∈ gtbl := gt_of ⟨mt2 (List.mem_of_getElem? (i := 91) (by decide +kernel)), by decide +kernel⟩
theorem kX4_127 : Cond.constantLong RX4 127 (-2000000000000000000) ∈ gtbl := zw397
theorem zw606 : Cond.constantLong RX4 188 (167) ∈ gtbl := gt_of ⟨mt3 (List.mem_of_getElem? (i := 60) (by decide +kernel)), by decide +kernel⟩
theorem kX4_188 : Cond.constantLong RX4 188 (167) ∈ gtbl := zw606
theorem zw607 : Cond.constantLong RX4 190 (31) ∈ gtbl := gt_of ⟨mt3 (List.mem_of_getElem? (i := 61) (by decide +kernel)), by decide +kernel⟩
theorem kX4_190 : Cond.constantLong RX4 190 (31) ∈ gtbl := zw607
theorem zw545 : Cond.constant RX4 201 (65535) ∈ gtbl := gt_of ⟨mt2 (List.mem_of_getElem? (i := 239) (by decide +kernel)), by decide +kernel⟩
theorem kX4_201 : Cond.constant RX4 201 (65535) ∈ gtbl := zw545
theorem zw613 : Cond.constantLong RX1 67 (31) ∈ gtbl := gt_of ⟨mt3 (List.mem_of_getElem? (i := 67) (by decide +kernel)), by decide +kernel⟩
theorem kX1_67 : Cond.constantLong RX1 67 (31) ∈ gtbl := zw613
theorem zw624 : Cond.constantLong RX2 106 (31) ∈ gtbl := gt_of ⟨mt3 (List.mem_of_getElem? (i := 78) (by decide +kernel)), by decide +kernel⟩
theorem kX2_106 : Cond.constantLong RX2 106 (31) ∈ gtbl := zw624
theorem zw450 : Cond.constant RX3 133 (2147483647) ∈ gtbl := gt_of ⟨mt2 (List.mem_of_getElem? (i := 144) (by decide +kernel)), by decide +kernel⟩
theorem kX3_133 : Cond.constant RX3 133 (2147483647) ∈ gtbl := zw450
theorem zw619 : Cond.constantLong RX3 144 (31) ∈ gtbl := gt_of ⟨mt3 (List.mem_of_getElem? (i := 73) (by decide +kernel)), by decide +kernel⟩
theorem kX3_144 : Cond.constantLong RX3 144 (31) ∈ gtbl := zw619
theorem zw787 : Cond.constant RX5 124 (-2000000000) ∈ gtbl := gt_of ⟨mt4 (List.mem_of_getElem? (i := 1) (by decide +kernel)), by decide +kernel⟩
theorem kX5_124 : Cond.constant RX5 124 (-2000000000) ∈ gtbl := zw787
theorem zw804 : Cond.constantLong RX5 132 (-2000000000000000000) ∈ gtbl := gt_of ⟨mt4 (List.mem_of_getElem? (i := 18) (by decide +kernel)), by decide +kernel⟩
theorem kX5_132 : Cond.constantLong RX5 132 (-2000000000000000000) ∈ gtbl := zw804
theorem zw864 : Cond.constantLong RX5 147 (-7046029254386353131) ∈ gtbl := gt_of ⟨mt4 (List.mem_of_getElem? (i := 78) (by decide +kernel)), by decide +kernel⟩
theorem kX5_147 : Cond.constantLong RX5 147 (-7046029254386353131) ∈ gtbl := zw864
theorem zw879 : Cond.constantLong RX5 163 (255) ∈ gtbl := gt_of ⟨mt4 (List.mem_of_getElem? (i := 93) (by decide +kernel)), by decide +kernel⟩
theorem kX5_163 : Cond.constantLong RX5 163 (255) ∈ gtbl := zw879
theorem zw880 : Cond.constantLong RX5 165 (-1) ∈ gtbl := gt_of ⟨mt4 (List.mem_of_getElem? (i := 94) (by decide +kernel)), by decide +kernel⟩
theorem kX5_165 : Cond.constantLong RX5 165 (-1) ∈ gtbl := zw880
theorem zw901 : Cond.constantLong RX5 183 (167) ∈ gtbl := gt_of ⟨mt4 (List.mem_of_getElem? (i := 115) (by decide +kernel)), by decide +kernel⟩
theorem kX5_183 : Cond.constantLong RX5 183 (167) ∈ gtbl := zw901
theorem zw902 : Cond.constantLong RX5 185 (31) ∈ gtbl := gt_of ⟨mt4 (List.mem_of_getElem? (i := 116) (by decide +kernel)), by decide +kernel⟩
theorem kX5_185 : Cond.constantLong RX5 185 (31) ∈ gtbl := zw902
theorem zw443 : Cond.constant RJ6 265 (1431655765) ∈ gtbl := gt_of ⟨mt2 (List.mem_of_getElem? (i := 137) (by decide +kernel)), by decide +kernel⟩
theorem kJ6_265 : Cond.constant RJ6 265 (1431655765) ∈ gtbl := zw443
theorem zw444 : Cond.constant RJ6 266 (858993459) ∈ gtbl := gt_of ⟨mt2 (List.mem_of_getElem? (i := 138) (by decide +kernel)), by decide +kernel⟩
theorem kJ6_266 : Cond.constant RJ6 266 (858993459) ∈ gtbl := zw444
theorem zw445 : Cond.constant RJ6 267 (252645135) ∈ gtbl := gt_of ⟨mt2 (List.mem_of_getElem? (i := 139) (by decide +kernel)), by decide +kernel⟩
theorem kJ6_267 : Cond.constant RJ6 267 (252645135) ∈ gtbl := zw445
theorem zw84 : Cond.classLink RX4 7 RX1 ∈ gtbl := gt_of ⟨mt1 (List.mem_of_getElem? (i := 18) (by decide +kernel)), by decide +kernel⟩
theorem zw85 : Cond.instantiable RX1 8 ∈ gtbl := gt_of ⟨mt1 (List.mem_of_getElem? (i := 19) (by decide +kernel)), by decide +kernel⟩
theorem nX4_7 : Cond.classLink RX4 7 RX1 ∈ gtbl ∧ Cond.instantiable RX1 8 ∈ gtbl ∧ Cond.initialized RX1 ∈ gtbl := ⟨zw84, zw85, zw68⟩
theorem zw137 : Cond.classLink RX4 16 RX3 ∈ gtbl := gt_of ⟨mt1 (List.mem_of_getElem? (i := 71) (by decide +kernel)), by decide +kernel⟩
theorem zw138 : Cond.instantiable RX3 11 ∈ gtbl := gt_of ⟨mt1 (List.mem_of_getElem? (i := 72) (by decide +kernel)), by decide +kernel⟩
theorem nX4_16 : Cond.classLink RX4 16 RX3 ∈ gtbl ∧ Cond.instantiable RX3 11 ∈ gtbl ∧ Cond.initialized RX3 ∈ gtbl := ⟨zw137, zw138, zw70⟩
theorem zw183 : Cond.classLink RX4 25 RX0 ∈ gtbl := gt_of ⟨mt1 (List.mem_of_getElem? (i := 117) (by decide +kernel)), by decide +kernel⟩
theorem zw184 : Cond.instantiable RX0 4 ∈ gtbl := gt_of ⟨mt1 (List.mem_of_getElem? (i := 118) (by decide +kernel)), by decide +kernel⟩
theorem nX4_25 : Cond.classLink RX4 25 RX0 ∈ gtbl ∧ Cond.instantiable RX0 4 ∈ gtbl ∧ Cond.initialized RX0 ∈ gtbl := ⟨zw183, zw184, zw71⟩
theorem zw203 : Cond.classLink RX4 32 RX2 ∈ gtbl := gt_of ⟨mt1 (List.mem_of_getElem? (i := 137) (by decide +kernel)), by decide +kernel⟩
theorem zw204 : Cond.instantiable RX2 11 ∈ gtbl := gt_of ⟨mt1 (List.mem_of_getElem? (i := 138) (by decide +kernel)), by decide +kernel⟩
theorem nX4_32 : Cond.classLink RX4 32 RX2 ∈ gtbl ∧ Cond.instantiable RX2 11 ∈ gtbl ∧ Cond.initialized RX2 ∈ gtbl := ⟨zw203, zw204, zw72⟩
theorem zw76 : Cond.classLink RL 7 RX4 ∈ gtbl := gt_of ⟨mt1 (List.mem_of_getElem? (i := 10) (by decide +kernel)), by decide +kernel⟩
theorem zw77 : Cond.instantiable RX4 4 ∈ gtbl := gt_of ⟨mt1 (List.mem_of_getElem? (i := 11) (by decide +kernel)), by decide +kernel⟩
theorem nL_7 : Cond.classLink RL 7 RX4 ∈ gtbl ∧ Cond.instantiable RX4 4 ∈ gtbl ∧ Cond.initialized RX4 ∈ gtbl := ⟨zw76, zw77, zw67⟩
theorem zw626 : Cond.classLink RL 10 RX5 ∈ gtbl := gt_of ⟨mt3 (List.mem_of_getElem? (i := 80) (by decide +kernel)), by decide +kernel⟩
theorem zw627 : Cond.instantiable RX5 29 ∈ gtbl := gt_of ⟨mt3 (List.mem_of_getElem? (i := 81) (by decide +kernel)), by decide +kernel⟩
theorem nL_10 : Cond.classLink RL 10 RX5 ∈ gtbl ∧ Cond.instantiable RX5 29 ∈ gtbl ∧ Cond.initialized RX5 ∈ gtbl := ⟨zw626, zw627, zw73⟩
theorem zw136 : Cond.arrayClass .int ∈ gtbl := gt_of ⟨mt1 (List.mem_of_getElem? (i := 70) (by decide +kernel)), by decide +kernel⟩
theorem zw247 : Cond.arrayClass .long ∈ gtbl := gt_of ⟨mt1 (List.mem_of_getElem? (i := 181) (by decide +kernel)), by decide +kernel⟩
theorem aI_ok : Cond.arrayClass .int ∈ gtbl := zw136
theorem aJ_ok : Cond.arrayClass .long ∈ gtbl := zw247
