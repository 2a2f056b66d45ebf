section
-- ===== PART A: goes FIRST, ahead of the names: the tables' words, and 'selects' of the private methods out of them =====
/-- a private method of a class that the tables say can be made, by its rows of tables_1 -/
def lw_okq (q : MethodName × Nat) : Prop := (q.1.cls ≠ "java/lang/invoke/MethodHandle" ∧ q.1.cls ≠ "java/lang/invoke/VarHandle") ∧ Cond.instantiable q.1.cls q.2 ∈ tables_1 ∧ Cond.privateMethod q.1 ∈ tables_1 ∧ Cond.instanceMethod q.1 ∈ tables_1
theorem lw_p0 : lw_okq (⟨"MeshSums$Grid", "renew", "(III)V"⟩, 8) := ⟨⟨by decide +kernel, by decide +kernel⟩, List.mem_of_getElem? (i := 19) (by decide +kernel), List.mem_of_getElem? (i := 25) (by decide +kernel), List.mem_of_getElem? (i := 26) (by decide +kernel)⟩
theorem lw_p1 : lw_okq (⟨"MeshSums$Sheet", "drop", "()V"⟩, 11) := ⟨⟨by decide +kernel, by decide +kernel⟩, List.mem_of_getElem? (i := 72) (by decide +kernel), List.mem_of_getElem? (i := 204) (by decide +kernel), List.mem_of_getElem? (i := 205) (by decide +kernel)⟩
theorem lw_p2 : lw_okq (⟨"MeshSums$Grid", "hasCell", "(II)Z"⟩, 8) := ⟨⟨by decide +kernel, by decide +kernel⟩, List.mem_of_getElem? (i := 19) (by decide +kernel), List.mem_of_getElem? (i := 212) (by decide +kernel), List.mem_of_getElem? (i := 213) (by decide +kernel)⟩
theorem lw_p3 : lw_okq (⟨"MeshSums$Grid", "place", "(II)I"⟩, 8) := ⟨⟨by decide +kernel, by decide +kernel⟩, List.mem_of_getElem? (i := 19) (by decide +kernel), List.mem_of_getElem? (i := 217) (by decide +kernel), List.mem_of_getElem? (i := 218) (by decide +kernel)⟩
theorem lw_p4 : lw_okq (⟨"MeshSums$Grid", "sticksAtAnother", "(II)Z"⟩, 8) := ⟨⟨by decide +kernel, by decide +kernel⟩, List.mem_of_getElem? (i := 19) (by decide +kernel), List.mem_of_getElem? (i := 221) (by decide +kernel), List.mem_of_getElem? (i := 222) (by decide +kernel)⟩
theorem lw_p5 : lw_okq (⟨"MeshSums$Grid", "sticks", "(I)Z"⟩, 8) := ⟨⟨by decide +kernel, by decide +kernel⟩, List.mem_of_getElem? (i := 19) (by decide +kernel), List.mem_of_getElem? (i := 225) (by decide +kernel), List.mem_of_getElem? (i := 226) (by decide +kernel)⟩
theorem lw_p6 : lw_okq (⟨"MeshSums$Grid", "put", "(II)V"⟩, 8) := ⟨⟨by decide +kernel, by decide +kernel⟩, List.mem_of_getElem? (i := 19) (by decide +kernel), List.mem_of_getElem? (i := 229) (by decide +kernel), List.mem_of_getElem? (i := 230) (by decide +kernel)⟩
theorem lw_p7 : lw_okq (⟨"MeshSums$Grid", "hold", "(II)V"⟩, 8) := ⟨⟨by decide +kernel, by decide +kernel⟩, List.mem_of_getElem? (i := 19) (by decide +kernel), List.mem_of_getElem? (i := 237) (by decide +kernel), List.mem_of_getElem? (i := 238) (by decide +kernel)⟩
theorem lw_p8 : lw_okq (⟨"MeshSums$Grid", "tellCell", "(II)I"⟩, 8) := ⟨⟨by decide +kernel, by decide +kernel⟩, List.mem_of_getElem? (i := 19) (by decide +kernel), List.mem_of_getElem? (i := 245) (by decide +kernel), List.mem_of_getElem? (i := 246) (by decide +kernel)⟩
theorem lw_p9 : lw_okq (⟨"MeshSums$Grid", "columnSum", "(I)I"⟩, 8) := ⟨⟨by decide +kernel, by decide +kernel⟩, List.mem_of_getElem? (i := 19) (by decide +kernel), List.mem_of_getElem? (i := 261) (by decide +kernel), List.mem_of_getElem? (i := 262) (by decide +kernel)⟩
theorem lw_p10 : lw_okq (⟨"MeshSums$Grid", "convert", "(I)I"⟩, 8) := ⟨⟨by decide +kernel, by decide +kernel⟩, List.mem_of_getElem? (i := 19) (by decide +kernel), List.mem_of_getElem? (i := 266) (by decide +kernel), List.mem_of_getElem? (i := 267) (by decide +kernel)⟩
theorem lw_p11 : lw_okq (⟨"MeshSums$Sheet", "begin", "(III)V"⟩, 11) := ⟨⟨by decide +kernel, by decide +kernel⟩, List.mem_of_getElem? (i := 72) (by decide +kernel), List.mem_of_getElem? (i := 277) (by decide +kernel), List.mem_of_getElem? (i := 278) (by decide +kernel)⟩
theorem lw_p12 : lw_okq (⟨"MeshSums$Sheet", "base", "()I"⟩, 11) := ⟨⟨by decide +kernel, by decide +kernel⟩, List.mem_of_getElem? (i := 72) (by decide +kernel), List.mem_of_getElem? (i := 281) (by decide +kernel), List.mem_of_getElem? (i := 282) (by decide +kernel)⟩
theorem lw_p13 : lw_okq (⟨"MeshSums$Sheet", "exchange", "(III)I"⟩, 11) := ⟨⟨by decide +kernel, by decide +kernel⟩, List.mem_of_getElem? (i := 72) (by decide +kernel), List.mem_of_getElem? (i := 294) (by decide +kernel), List.mem_of_getElem? (i := 295) (by decide +kernel)⟩
theorem lw_p14 : lw_okq (⟨"MeshSums$Sheet", "numberAt", "(II)I"⟩, 11) := ⟨⟨by decide +kernel, by decide +kernel⟩, List.mem_of_getElem? (i := 72) (by decide +kernel), List.mem_of_getElem? (i := 298) (by decide +kernel), List.mem_of_getElem? (i := 299) (by decide +kernel)⟩
theorem lw_p15 : lw_okq (⟨"MeshSums$Sheet", "exists", "()Z"⟩, 11) := ⟨⟨by decide +kernel, by decide +kernel⟩, List.mem_of_getElem? (i := 72) (by decide +kernel), List.mem_of_getElem? (i := 306) (by decide +kernel), List.mem_of_getElem? (i := 307) (by decide +kernel)⟩
def lw_privs_1 : List (MethodName × Nat) := [(⟨"MeshSums$Grid", "renew", "(III)V"⟩, 8), (⟨"MeshSums$Sheet", "drop", "()V"⟩, 11), (⟨"MeshSums$Grid", "hasCell", "(II)Z"⟩, 8), (⟨"MeshSums$Grid", "place", "(II)I"⟩, 8), (⟨"MeshSums$Grid", "sticksAtAnother", "(II)Z"⟩, 8), (⟨"MeshSums$Grid", "sticks", "(I)Z"⟩, 8), (⟨"MeshSums$Grid", "put", "(II)V"⟩, 8), (⟨"MeshSums$Grid", "hold", "(II)V"⟩, 8), (⟨"MeshSums$Grid", "tellCell", "(II)I"⟩, 8), (⟨"MeshSums$Grid", "columnSum", "(I)I"⟩, 8), (⟨"MeshSums$Grid", "convert", "(I)I"⟩, 8), (⟨"MeshSums$Sheet", "begin", "(III)V"⟩, 11), (⟨"MeshSums$Sheet", "base", "()I"⟩, 11), (⟨"MeshSums$Sheet", "exchange", "(III)I"⟩, 11), (⟨"MeshSums$Sheet", "numberAt", "(II)I"⟩, 11), (⟨"MeshSums$Sheet", "exists", "()Z"⟩, 11)]
theorem lw_r1 : ∀ q ∈ lw_privs_1, lw_okq q := List.forall_mem_cons.mpr ⟨lw_p0, List.forall_mem_cons.mpr ⟨lw_p1, List.forall_mem_cons.mpr ⟨lw_p2, List.forall_mem_cons.mpr ⟨lw_p3, List.forall_mem_cons.mpr ⟨lw_p4, List.forall_mem_cons.mpr ⟨lw_p5, List.forall_mem_cons.mpr ⟨lw_p6, List.forall_mem_cons.mpr ⟨lw_p7, List.forall_mem_cons.mpr ⟨lw_p8, List.forall_mem_cons.mpr ⟨lw_p9, List.forall_mem_cons.mpr ⟨lw_p10, List.forall_mem_cons.mpr ⟨lw_p11, List.forall_mem_cons.mpr ⟨lw_p12, List.forall_mem_cons.mpr ⟨lw_p13, List.forall_mem_cons.mpr ⟨lw_p14, List.forall_mem_cons.mpr ⟨lw_p15, fun _ h => absurd h List.not_mem_nil⟩⟩⟩⟩⟩⟩⟩⟩⟩⟩⟩⟩⟩⟩⟩⟩
theorem lw_p16 : lw_okq (⟨"MeshSums$Sheet", "layAll", "()I"⟩, 11) := ⟨⟨by decide +kernel, by decide +kernel⟩, List.mem_of_getElem? (i := 72) (by decide +kernel), List.mem_of_getElem? (i := 310) (by decide +kernel), List.mem_of_getElem? (i := 311) (by decide +kernel)⟩
theorem lw_p17 : lw_okq (⟨"MeshSums$Sheet", "spellRow", "(I)V"⟩, 11) := ⟨⟨by decide +kernel, by decide +kernel⟩, List.mem_of_getElem? (i := 72) (by decide +kernel), List.mem_of_getElem? (i := 314) (by decide +kernel), List.mem_of_getElem? (i := 315) (by decide +kernel)⟩
theorem lw_p18 : lw_okq (⟨"MeshSums$Sheet", "usedColumns", "()I"⟩, 11) := ⟨⟨by decide +kernel, by decide +kernel⟩, List.mem_of_getElem? (i := 72) (by decide +kernel), List.mem_of_getElem? (i := 321) (by decide +kernel), List.mem_of_getElem? (i := 322) (by decide +kernel)⟩
theorem lw_p19 : lw_okq (⟨"MeshSums$Sheet", "meshProduct", "(I)J"⟩, 11) := ⟨⟨by decide +kernel, by decide +kernel⟩, List.mem_of_getElem? (i := 72) (by decide +kernel), List.mem_of_getElem? (i := 333) (by decide +kernel), List.mem_of_getElem? (i := 334) (by decide +kernel)⟩
theorem lw_p20 : lw_okq (⟨"MeshSums$Sheet", "bitSum", "(II)I"⟩, 11) := ⟨⟨by decide +kernel, by decide +kernel⟩, List.mem_of_getElem? (i := 72) (by decide +kernel), List.mem_of_getElem? (i := 337) (by decide +kernel), List.mem_of_getElem? (i := 338) (by decide +kernel)⟩
theorem lw_p21 : lw_okq (⟨"MeshSums$Sheet", "trueProduct", "(I)J"⟩, 11) := ⟨⟨by decide +kernel, by decide +kernel⟩, List.mem_of_getElem? (i := 72) (by decide +kernel), List.mem_of_getElem? (i := 346) (by decide +kernel), List.mem_of_getElem? (i := 347) (by decide +kernel)⟩
theorem lw_p22 : lw_okq (⟨"MeshSums$Sheet", "bitsEnough", "()I"⟩, 11) := ⟨⟨by decide +kernel, by decide +kernel⟩, List.mem_of_getElem? (i := 72) (by decide +kernel), List.mem_of_getElem? (i := 354) (by decide +kernel), List.mem_of_getElem? (i := 355) (by decide +kernel)⟩
theorem lw_p23 : lw_okq (⟨"MeshSums$Sheet", "mapAnew", "()I"⟩, 11) := ⟨⟨by decide +kernel, by decide +kernel⟩, List.mem_of_getElem? (i := 72) (by decide +kernel), List.mem_of_getElem? (i := 362) (by decide +kernel), List.mem_of_getElem? (i := 363) (by decide +kernel)⟩
theorem lw_p24 : lw_okq (⟨"MeshSums$Sheet", "fillCosts", "()V"⟩, 11) := ⟨⟨by decide +kernel, by decide +kernel⟩, List.mem_of_getElem? (i := 72) (by decide +kernel), List.mem_of_getElem? (i := 366) (by decide +kernel), List.mem_of_getElem? (i := 367) (by decide +kernel)⟩
theorem lw_p25 : lw_okq (⟨"MeshSums$Sheet", "costOn", "(I)I"⟩, 11) := ⟨⟨by decide +kernel, by decide +kernel⟩, List.mem_of_getElem? (i := 72) (by decide +kernel), List.mem_of_getElem? (i := 370) (by decide +kernel), List.mem_of_getElem? (i := 371) (by decide +kernel)⟩
theorem lw_p26 : lw_okq (⟨"MeshSums$Sheet", "leastFrom", "(II)I"⟩, 11) := ⟨⟨by decide +kernel, by decide +kernel⟩, List.mem_of_getElem? (i := 72) (by decide +kernel), List.mem_of_getElem? (i := 381) (by decide +kernel), List.mem_of_getElem? (i := 382) (by decide +kernel)⟩
theorem lw_p27 : lw_okq (⟨"MeshSums$Sheet", "costWith", "(III)I"⟩, 11) := ⟨⟨by decide +kernel, by decide +kernel⟩, List.mem_of_getElem? (i := 72) (by decide +kernel), List.mem_of_getElem? (i := 386) (by decide +kernel), List.mem_of_getElem? (i := 387) (by decide +kernel)⟩
theorem lw_p28 : lw_okq (⟨"MeshSums$Sheet", "chooseFirstLeast", "()V"⟩, 11) := ⟨⟨by decide +kernel, by decide +kernel⟩, List.mem_of_getElem? (i := 72) (by decide +kernel), List.mem_of_getElem? (i := 391) (by decide +kernel), List.mem_of_getElem? (i := 392) (by decide +kernel)⟩
theorem lw_p29 : lw_okq (⟨"MeshSums$Sheet", "firstLeastRow", "(II)I"⟩, 11) := ⟨⟨by decide +kernel, by decide +kernel⟩, List.mem_of_getElem? (i := 72) (by decide +kernel), List.mem_of_getElem? (i := 395) (by decide +kernel), List.mem_of_getElem? (i := 396) (by decide +kernel)⟩
theorem lw_p30 : lw_okq (⟨"MeshSums$Checks", "takeAnew", "()V"⟩, 4) := ⟨⟨by decide +kernel, by decide +kernel⟩, List.mem_of_getElem? (i := 118) (by decide +kernel), List.mem_of_getElem? (i := 407) (by decide +kernel), List.mem_of_getElem? (i := 408) (by decide +kernel)⟩
theorem lw_p31 : lw_okq (⟨"MeshSums$Checks", "wrongColumn", "()I"⟩, 4) := ⟨⟨by decide +kernel, by decide +kernel⟩, List.mem_of_getElem? (i := 118) (by decide +kernel), List.mem_of_getElem? (i := 416) (by decide +kernel), List.mem_of_getElem? (i := 417) (by decide +kernel)⟩
def lw_privs_2 : List (MethodName × Nat) := [(⟨"MeshSums$Sheet", "layAll", "()I"⟩, 11), (⟨"MeshSums$Sheet", "spellRow", "(I)V"⟩, 11), (⟨"MeshSums$Sheet", "usedColumns", "()I"⟩, 11), (⟨"MeshSums$Sheet", "meshProduct", "(I)J"⟩, 11), (⟨"MeshSums$Sheet", "bitSum", "(II)I"⟩, 11), (⟨"MeshSums$Sheet", "trueProduct", "(I)J"⟩, 11), (⟨"MeshSums$Sheet", "bitsEnough", "()I"⟩, 11), (⟨"MeshSums$Sheet", "mapAnew", "()I"⟩, 11), (⟨"MeshSums$Sheet", "fillCosts", "()V"⟩, 11), (⟨"MeshSums$Sheet", "costOn", "(I)I"⟩, 11), (⟨"MeshSums$Sheet", "leastFrom", "(II)I"⟩, 11), (⟨"MeshSums$Sheet", "costWith", "(III)I"⟩, 11), (⟨"MeshSums$Sheet", "chooseFirstLeast", "()V"⟩, 11), (⟨"MeshSums$Sheet", "firstLeastRow", "(II)I"⟩, 11), (⟨"MeshSums$Checks", "takeAnew", "()V"⟩, 4), (⟨"MeshSums$Checks", "wrongColumn", "()I"⟩, 4)]
theorem lw_r2 : ∀ q ∈ lw_privs_2, lw_okq q := List.forall_mem_cons.mpr ⟨lw_p16, List.forall_mem_cons.mpr ⟨lw_p17, List.forall_mem_cons.mpr ⟨lw_p18, List.forall_mem_cons.mpr ⟨lw_p19, List.forall_mem_cons.mpr ⟨lw_p20, List.forall_mem_cons.mpr ⟨lw_p21, List.forall_mem_cons.mpr ⟨lw_p22, List.forall_mem_cons.mpr ⟨lw_p23, List.forall_mem_cons.mpr ⟨lw_p24, List.forall_mem_cons.mpr ⟨lw_p25, List.forall_mem_cons.mpr ⟨lw_p26, List.forall_mem_cons.mpr ⟨lw_p27, List.forall_mem_cons.mpr ⟨lw_p28, List.forall_mem_cons.mpr ⟨lw_p29, List.forall_mem_cons.mpr ⟨lw_p30, List.forall_mem_cons.mpr ⟨lw_p31, fun _ h => absurd h List.not_mem_nil⟩⟩⟩⟩⟩⟩⟩⟩⟩⟩⟩⟩⟩⟩⟩⟩
theorem lw_p32 : lw_okq (⟨"MeshSums$Checks", "columnBy", "(II)I"⟩, 4) := ⟨⟨by decide +kernel, by decide +kernel⟩, List.mem_of_getElem? (i := 118) (by decide +kernel), List.mem_of_getElem? (i := 424) (by decide +kernel), List.mem_of_getElem? (i := 425) (by decide +kernel)⟩
theorem lw_p33 : lw_okq (⟨"MeshSums$Grid", "ageAll", "()I"⟩, 8) := ⟨⟨by decide +kernel, by decide +kernel⟩, List.mem_of_getElem? (i := 19) (by decide +kernel), List.mem_of_getElem? (i := 432) (by decide +kernel), List.mem_of_getElem? (i := 433) (by decide +kernel)⟩
theorem lw_p34 : lw_okq (⟨"MeshSums$Grid", "ageOne", "(I)Z"⟩, 8) := ⟨⟨by decide +kernel, by decide +kernel⟩, List.mem_of_getElem? (i := 19) (by decide +kernel), List.mem_of_getElem? (i := 436) (by decide +kernel), List.mem_of_getElem? (i := 437) (by decide +kernel)⟩
theorem lw_p35 : lw_okq (⟨"MeshSums$Grid", "pulseTo", "(II)I"⟩, 8) := ⟨⟨by decide +kernel, by decide +kernel⟩, List.mem_of_getElem? (i := 19) (by decide +kernel), List.mem_of_getElem? (i := 445) (by decide +kernel), List.mem_of_getElem? (i := 446) (by decide +kernel)⟩
theorem lw_p36 : lw_okq (⟨"MeshSums$Search", "seek", "(III)I"⟩, 11) := ⟨⟨by decide +kernel, by decide +kernel⟩, List.mem_of_getElem? (i := 138) (by decide +kernel), List.mem_of_getElem? (i := 456) (by decide +kernel), List.mem_of_getElem? (i := 457) (by decide +kernel)⟩
theorem lw_p37 : lw_okq (⟨"MeshSums$Search", "begin", "(II)V"⟩, 11) := ⟨⟨by decide +kernel, by decide +kernel⟩, List.mem_of_getElem? (i := 138) (by decide +kernel), List.mem_of_getElem? (i := 460) (by decide +kernel), List.mem_of_getElem? (i := 461) (by decide +kernel)⟩
theorem lw_p38 : lw_okq (⟨"MeshSums$Search", "inputTable", "(I)I"⟩, 11) := ⟨⟨by decide +kernel, by decide +kernel⟩, List.mem_of_getElem? (i := 138) (by decide +kernel), List.mem_of_getElem? (i := 466) (by decide +kernel), List.mem_of_getElem? (i := 467) (by decide +kernel)⟩
theorem lw_p39 : lw_okq (⟨"MeshSums$Search", "meet", "(III)Z"⟩, 11) := ⟨⟨by decide +kernel, by decide +kernel⟩, List.mem_of_getElem? (i := 138) (by decide +kernel), List.mem_of_getElem? (i := 470) (by decide +kernel), List.mem_of_getElem? (i := 471) (by decide +kernel)⟩
theorem lw_p40 : lw_okq (⟨"MeshSums$Search", "openState", "(I)V"⟩, 11) := ⟨⟨by decide +kernel, by decide +kernel⟩, List.mem_of_getElem? (i := 138) (by decide +kernel), List.mem_of_getElem? (i := 481) (by decide +kernel), List.mem_of_getElem? (i := 482) (by decide +kernel)⟩
theorem lw_p41 : lw_okq (⟨"MeshSums$Search", "shiftOf", "(I)I"⟩, 11) := ⟨⟨by decide +kernel, by decide +kernel⟩, List.mem_of_getElem? (i := 138) (by decide +kernel), List.mem_of_getElem? (i := 485) (by decide +kernel), List.mem_of_getElem? (i := 486) (by decide +kernel)⟩
theorem lw_p42 : lw_okq (⟨"MeshSums$Search", "cellWith", "(I)I"⟩, 11) := ⟨⟨by decide +kernel, by decide +kernel⟩, List.mem_of_getElem? (i := 138) (by decide +kernel), List.mem_of_getElem? (i := 489) (by decide +kernel), List.mem_of_getElem? (i := 490) (by decide +kernel)⟩
theorem lw_p43 : lw_okq (⟨"MeshSums$Search", "keep", "(II)V"⟩, 11) := ⟨⟨by decide +kernel, by decide +kernel⟩, List.mem_of_getElem? (i := 138) (by decide +kernel), List.mem_of_getElem? (i := 493) (by decide +kernel), List.mem_of_getElem? (i := 494) (by decide +kernel)⟩
theorem lw_p44 : lw_okq (⟨"MeshSums$Search", "meetAllFrom", "(I)Z"⟩, 11) := ⟨⟨by decide +kernel, by decide +kernel⟩, List.mem_of_getElem? (i := 138) (by decide +kernel), List.mem_of_getElem? (i := 503) (by decide +kernel), List.mem_of_getElem? (i := 504) (by decide +kernel)⟩
theorem lw_p45 : lw_okq (⟨"MeshSums$Search", "meetByActs", "(III)Z"⟩, 11) := ⟨⟨by decide +kernel, by decide +kernel⟩, List.mem_of_getElem? (i := 138) (by decide +kernel), List.mem_of_getElem? (i := 507) (by decide +kernel), List.mem_of_getElem? (i := 508) (by decide +kernel)⟩
theorem lw_p46 : lw_okq (⟨"MeshSums$Grid", "stickingCells", "()I"⟩, 8) := ⟨⟨by decide +kernel, by decide +kernel⟩, List.mem_of_getElem? (i := 19) (by decide +kernel), List.mem_of_getElem? (i := 533) (by decide +kernel), List.mem_of_getElem? (i := 534) (by decide +kernel)⟩
theorem lw_p47 : lw_okq (⟨"MeshSums$Grid", "addTo", "(J)J"⟩, 8) := ⟨⟨by decide +kernel, by decide +kernel⟩, List.mem_of_getElem? (i := 19) (by decide +kernel), List.mem_of_getElem? (i := 544) (by decide +kernel), List.mem_of_getElem? (i := 545) (by decide +kernel)⟩
def lw_privs_3 : List (MethodName × Nat) := [(⟨"MeshSums$Checks", "columnBy", "(II)I"⟩, 4), (⟨"MeshSums$Grid", "ageAll", "()I"⟩, 8), (⟨"MeshSums$Grid", "ageOne", "(I)Z"⟩, 8), (⟨"MeshSums$Grid", "pulseTo", "(II)I"⟩, 8), (⟨"MeshSums$Search", "seek", "(III)I"⟩, 11), (⟨"MeshSums$Search", "begin", "(II)V"⟩, 11), (⟨"MeshSums$Search", "inputTable", "(I)I"⟩, 11), (⟨"MeshSums$Search", "meet", "(III)Z"⟩, 11), (⟨"MeshSums$Search", "openState", "(I)V"⟩, 11), (⟨"MeshSums$Search", "shiftOf", "(I)I"⟩, 11), (⟨"MeshSums$Search", "cellWith", "(I)I"⟩, 11), (⟨"MeshSums$Search", "keep", "(II)V"⟩, 11), (⟨"MeshSums$Search", "meetAllFrom", "(I)Z"⟩, 11), (⟨"MeshSums$Search", "meetByActs", "(III)Z"⟩, 11), (⟨"MeshSums$Grid", "stickingCells", "()I"⟩, 8), (⟨"MeshSums$Grid", "addTo", "(J)J"⟩, 8)]
theorem lw_r3 : ∀ q ∈ lw_privs_3, lw_okq q := List.forall_mem_cons.mpr ⟨lw_p32, List.forall_mem_cons.mpr ⟨lw_p33, List.forall_mem_cons.mpr ⟨lw_p34, List.forall_mem_cons.mpr ⟨lw_p35, List.forall_mem_cons.mpr ⟨lw_p36, List.forall_mem_cons.mpr ⟨lw_p37, List.forall_mem_cons.mpr ⟨lw_p38, List.forall_mem_cons.mpr ⟨lw_p39, List.forall_mem_cons.mpr ⟨lw_p40, List.forall_mem_cons.mpr ⟨lw_p41, List.forall_mem_cons.mpr ⟨lw_p42, List.forall_mem_cons.mpr ⟨lw_p43, List.forall_mem_cons.mpr ⟨lw_p44, List.forall_mem_cons.mpr ⟨lw_p45, List.forall_mem_cons.mpr ⟨lw_p46, List.forall_mem_cons.mpr ⟨lw_p47, fun _ h => absurd h List.not_mem_nil⟩⟩⟩⟩⟩⟩⟩⟩⟩⟩⟩⟩⟩⟩⟩⟩
theorem lw_p48 : lw_okq (⟨"MeshSums$Sheet", "addTo", "(J)J"⟩, 11) := ⟨⟨by decide +kernel, by decide +kernel⟩, List.mem_of_getElem? (i := 72) (by decide +kernel), List.mem_of_getElem? (i := 550) (by decide +kernel), List.mem_of_getElem? (i := 551) (by decide +kernel)⟩
theorem lw_p49 : lw_okq (⟨"MeshSums$Search", "addTo", "(J)J"⟩, 11) := ⟨⟨by decide +kernel, by decide +kernel⟩, List.mem_of_getElem? (i := 138) (by decide +kernel), List.mem_of_getElem? (i := 555) (by decide +kernel), List.mem_of_getElem? (i := 556) (by decide +kernel)⟩
theorem lw_p50 : lw_okq (⟨"MeshSumsModel", "begins", "(III)V"⟩, 29) := ⟨⟨by decide +kernel, by decide +kernel⟩, List.mem_of_getElem? (i := 561) (by decide +kernel), List.mem_of_getElem? (i := 567) (by decide +kernel), List.mem_of_getElem? (i := 568) (by decide +kernel)⟩
theorem lw_p51 : lw_okq (⟨"MeshSumsModel", "isCell", "(II)Z"⟩, 29) := ⟨⟨by decide +kernel, by decide +kernel⟩, List.mem_of_getElem? (i := 561) (by decide +kernel), List.mem_of_getElem? (i := 670) (by decide +kernel), List.mem_of_getElem? (i := 671) (by decide +kernel)⟩
theorem lw_p52 : lw_okq (⟨"MeshSumsModel", "writes", "(II)Z"⟩, 29) := ⟨⟨by decide +kernel, by decide +kernel⟩, List.mem_of_getElem? (i := 561) (by decide +kernel), List.mem_of_getElem? (i := 674) (by decide +kernel), List.mem_of_getElem? (i := 675) (by decide +kernel)⟩
theorem lw_p53 : lw_okq (⟨"MeshSumsModel", "cellAt", "(II)I"⟩, 29) := ⟨⟨by decide +kernel, by decide +kernel⟩, List.mem_of_getElem? (i := 561) (by decide +kernel), List.mem_of_getElem? (i := 686) (by decide +kernel), List.mem_of_getElem? (i := 687) (by decide +kernel)⟩
theorem lw_p54 : lw_okq (⟨"MeshSumsModel", "sumOf", "(I)I"⟩, 29) := ⟨⟨by decide +kernel, by decide +kernel⟩, List.mem_of_getElem? (i := 561) (by decide +kernel), List.mem_of_getElem? (i := 702) (by decide +kernel), List.mem_of_getElem? (i := 703) (by decide +kernel)⟩
theorem lw_p55 : lw_okq (⟨"MeshSumsModel", "converted", "(I)I"⟩, 29) := ⟨⟨by decide +kernel, by decide +kernel⟩, List.mem_of_getElem? (i := 561) (by decide +kernel), List.mem_of_getElem? (i := 706) (by decide +kernel), List.mem_of_getElem? (i := 707) (by decide +kernel)⟩
theorem lw_p56 : lw_okq (⟨"MeshSumsModel", "greatest", "()I"⟩, 29) := ⟨⟨by decide +kernel, by decide +kernel⟩, List.mem_of_getElem? (i := 561) (by decide +kernel), List.mem_of_getElem? (i := 718) (by decide +kernel), List.mem_of_getElem? (i := 719) (by decide +kernel)⟩
theorem lw_p57 : lw_okq (⟨"MeshSumsModel", "hasTable", "()Z"⟩, 29) := ⟨⟨by decide +kernel, by decide +kernel⟩, List.mem_of_getElem? (i := 561) (by decide +kernel), List.mem_of_getElem? (i := 727) (by decide +kernel), List.mem_of_getElem? (i := 728) (by decide +kernel)⟩
theorem lw_p58 : lw_okq (⟨"MeshSumsModel", "wanted", "(II)I"⟩, 29) := ⟨⟨by decide +kernel, by decide +kernel⟩, List.mem_of_getElem? (i := 561) (by decide +kernel), List.mem_of_getElem? (i := 731) (by decide +kernel), List.mem_of_getElem? (i := 732) (by decide +kernel)⟩
theorem lw_p59 : lw_okq (⟨"MeshSumsModel", "bitSum", "(II)J"⟩, 29) := ⟨⟨by decide +kernel, by decide +kernel⟩, List.mem_of_getElem? (i := 561) (by decide +kernel), List.mem_of_getElem? (i := 740) (by decide +kernel), List.mem_of_getElem? (i := 741) (by decide +kernel)⟩
theorem lw_p60 : lw_okq (⟨"MeshSumsModel", "findCosts", "()V"⟩, 29) := ⟨⟨by decide +kernel, by decide +kernel⟩, List.mem_of_getElem? (i := 561) (by decide +kernel), List.mem_of_getElem? (i := 756) (by decide +kernel), List.mem_of_getElem? (i := 757) (by decide +kernel)⟩
theorem lw_p61 : lw_okq (⟨"MeshSumsModel", "isUsed", "(II)Z"⟩, 29) := ⟨⟨by decide +kernel, by decide +kernel⟩, List.mem_of_getElem? (i := 561) (by decide +kernel), List.mem_of_getElem? (i := 760) (by decide +kernel), List.mem_of_getElem? (i := 761) (by decide +kernel)⟩
theorem lw_p62 : lw_okq (⟨"MeshSumsModel", "meets", "(JII)Z"⟩, 29) := ⟨⟨by decide +kernel, by decide +kernel⟩, List.mem_of_getElem? (i := 561) (by decide +kernel), List.mem_of_getElem? (i := 791) (by decide +kernel), List.mem_of_getElem? (i := 792) (by decide +kernel)⟩
theorem lw_p63 : lw_okq (⟨"MeshSumsModel", "isNew", "(J)Z"⟩, 29) := ⟨⟨by decide +kernel, by decide +kernel⟩, List.mem_of_getElem? (i := 561) (by decide +kernel), List.mem_of_getElem? (i := 795) (by decide +kernel), List.mem_of_getElem? (i := 796) (by decide +kernel)⟩
def lw_privs_4 : List (MethodName × Nat) := [(⟨"MeshSums$Sheet", "addTo", "(J)J"⟩, 11), (⟨"MeshSums$Search", "addTo", "(J)J"⟩, 11), (⟨"MeshSumsModel", "begins", "(III)V"⟩, 29), (⟨"MeshSumsModel", "isCell", "(II)Z"⟩, 29), (⟨"MeshSumsModel", "writes", "(II)Z"⟩, 29), (⟨"MeshSumsModel", "cellAt", "(II)I"⟩, 29), (⟨"MeshSumsModel", "sumOf", "(I)I"⟩, 29), (⟨"MeshSumsModel", "converted", "(I)I"⟩, 29), (⟨"MeshSumsModel", "greatest", "()I"⟩, 29), (⟨"MeshSumsModel", "hasTable", "()Z"⟩, 29), (⟨"MeshSumsModel", "wanted", "(II)I"⟩, 29), (⟨"MeshSumsModel", "bitSum", "(II)J"⟩, 29), (⟨"MeshSumsModel", "findCosts", "()V"⟩, 29), (⟨"MeshSumsModel", "isUsed", "(II)Z"⟩, 29), (⟨"MeshSumsModel", "meets", "(JII)Z"⟩, 29), (⟨"MeshSumsModel", "isNew", "(J)Z"⟩, 29)]
theorem lw_r4 : ∀ q ∈ lw_privs_4, lw_okq q := List.forall_mem_cons.mpr ⟨lw_p48, List.forall_mem_cons.mpr ⟨lw_p49, List.forall_mem_cons.mpr ⟨lw_p50, List.forall_mem_cons.mpr ⟨lw_p51, List.forall_mem_cons.mpr ⟨lw_p52, List.forall_mem_cons.mpr ⟨lw_p53, List.forall_mem_cons.mpr ⟨lw_p54, List.forall_mem_cons.mpr ⟨lw_p55, List.forall_mem_cons.mpr ⟨lw_p56, List.forall_mem_cons.mpr ⟨lw_p57, List.forall_mem_cons.mpr ⟨lw_p58, List.forall_mem_cons.mpr ⟨lw_p59, List.forall_mem_cons.mpr ⟨lw_p60, List.forall_mem_cons.mpr ⟨lw_p61, List.forall_mem_cons.mpr ⟨lw_p62, List.forall_mem_cons.mpr ⟨lw_p63, fun _ h => absurd h List.not_mem_nil⟩⟩⟩⟩⟩⟩⟩⟩⟩⟩⟩⟩⟩⟩⟩⟩
theorem lw_p64 : lw_okq (⟨"MeshSumsModel", "becomesFound", "(II)V"⟩, 29) := ⟨⟨by decide +kernel, by decide +kernel⟩, List.mem_of_getElem? (i := 561) (by decide +kernel), List.mem_of_getElem? (i := 806) (by decide +kernel), List.mem_of_getElem? (i := 807) (by decide +kernel)⟩
theorem lw_p65 : lw_okq (⟨"MeshSumsModel", "goesOn", "(IIII)Z"⟩, 29) := ⟨⟨by decide +kernel, by decide +kernel⟩, List.mem_of_getElem? (i := 561) (by decide +kernel), List.mem_of_getElem? (i := 810) (by decide +kernel), List.mem_of_getElem? (i := 811) (by decide +kernel)⟩
def lw_privs_5 : List (MethodName × Nat) := [(⟨"MeshSumsModel", "becomesFound", "(II)V"⟩, 29), (⟨"MeshSumsModel", "goesOn", "(IIII)Z"⟩, 29)]
theorem lw_r5 : ∀ q ∈ lw_privs_5, lw_okq q := List.forall_mem_cons.mpr ⟨lw_p64, List.forall_mem_cons.mpr ⟨lw_p65, fun _ h => absurd h List.not_mem_nil⟩⟩
def lw_privs : List (MethodName × Nat) := lw_privs_1 ++ (lw_privs_2 ++ (lw_privs_3 ++ (lw_privs_4 ++ (lw_privs_5))))
def lw_tbl : List Cond := k2_sels lw_privs ++ tables_1
theorem lw_privs_ok : ∀ q ∈ lw_privs, lw_okq q := by
  show ∀ q ∈ lw_privs_1 ++ (lw_privs_2 ++ (lw_privs_3 ++ (lw_privs_4 ++ (lw_privs_5)))), lw_okq q
  exact List.forall_mem_append.mpr ⟨lw_r1, List.forall_mem_append.mpr ⟨lw_r2, List.forall_mem_append.mpr ⟨lw_r3, List.forall_mem_append.mpr ⟨lw_r4, lw_r5⟩⟩⟩⟩
end
section
def RX0 : String := "MeshSums$Checks"
def TX0 : u_T := fun k => match k with
  | 0 => ("MeshSums$Checks", "grid", "LMeshSums$Grid;", true)
  | 1 => ("MeshSums$Checks", "sealed", "Z", false)
  | 2 => ("MeshSums$Checks", "plain", "[I", true)
  | _ => ("MeshSums$Checks", "weighted", "[I", true)
def tyX0 : Nat → FieldType := fun k => match k with
  | 0 => .object "MeshSums$Grid"
  | 1 => .boolean
  | 2 => .array .int
  | _ => .array .int
abbrev wsX00 : List Cond := u_ws RX0 TX0 4
theorem nmX0 : ∀ a, a < 4 → ∀ b, b < 4 → a ≠ b → (TX0 a).2.1 ≠ (TX0 b).2.1 := by decide +kernel
theorem tyX0_ok : ∀ k, k < 4 → parseFieldDescriptor (TX0 k).2.2.1 = some (tyX0 k) := by decide +kernel
abbrev cX0_init : ByteArray := prog_2_method_1_code
def yX0_init : MethodName := ⟨RX0, "<init>", "(LMeshSums$Grid;)V"⟩
abbrev cX0_takeAnew : ByteArray := prog_2_method_2_code
def yX0_takeAnew : MethodName := ⟨RX0, "takeAnew", "()V"⟩
abbrev cX0_wrongColumn : ByteArray := prog_2_method_3_code
def yX0_wrongColumn : MethodName := ⟨RX0, "wrongColumn", "()I"⟩
abbrev cX0_columnBy : ByteArray := prog_2_method_4_code
def yX0_columnBy : MethodName := ⟨RX0, "columnBy", "(II)I"⟩
def RX1 : String := "MeshSums$Grid"
def TX1 : u_T := fun k => match k with
  | 0 => ("MeshSums$Grid", "rows", "I", false)
  | 1 => ("MeshSums$Grid", "columns", "I", false)
  | 2 => ("MeshSums$Grid", "top", "I", false)
  | 3 => ("MeshSums$Grid", "converterBits", "I", false)
  | 4 => ("MeshSums$Grid", "levels", "[I", true)
  | 5 => ("MeshSums$Grid", "stuckAt", "[I", true)
  | 6 => ("MeshSums$Grid", "ages", "[I", true)
  | _ => ("MeshSums$Grid", "inputs", "[I", true)
def tyX1 : Nat → FieldType := fun k => match k with
  | 0 => .int
  | 1 => .int
  | 2 => .int
  | 3 => .int
  | 4 => .array .int
  | 5 => .array .int
  | 6 => .array .int
  | _ => .array .int
abbrev wsX10 : List Cond := u_ws RX1 TX1 8
theorem nmX1 : ∀ a, a < 8 → ∀ b, b < 8 → a ≠ b → (TX1 a).2.1 ≠ (TX1 b).2.1 := by decide +kernel
theorem tyX1_ok : ∀ k, k < 8 → parseFieldDescriptor (TX1 k).2.2.1 = some (tyX1 k) := by decide +kernel
abbrev cX1_init : ByteArray := prog_3_method_1_code
def yX1_init : MethodName := ⟨RX1, "<init>", "()V"⟩
abbrev cX1_renew : ByteArray := prog_3_method_2_code
def yX1_renew : MethodName := ⟨RX1, "renew", "(III)V"⟩
abbrev cX1_hasCell : ByteArray := prog_3_method_3_code
def yX1_hasCell : MethodName := ⟨RX1, "hasCell", "(II)Z"⟩
abbrev cX1_place : ByteArray := prog_3_method_4_code
def yX1_place : MethodName := ⟨RX1, "place", "(II)I"⟩
abbrev cX1_sticks : ByteArray := prog_3_method_5_code
def yX1_sticks : MethodName := ⟨RX1, "sticks", "(I)Z"⟩
abbrev cX1_sticksAtAnother : ByteArray := prog_3_method_6_code
def yX1_sticksAtAnother : MethodName := ⟨RX1, "sticksAtAnother", "(II)Z"⟩
abbrev cX1_put : ByteArray := prog_3_method_7_code
def yX1_put : MethodName := ⟨RX1, "put", "(II)V"⟩
abbrev cX1_hold : ByteArray := prog_3_method_8_code
def yX1_hold : MethodName := ⟨RX1, "hold", "(II)V"⟩
abbrev cX1_tellCell : ByteArray := prog_3_method_9_code
def yX1_tellCell : MethodName := ⟨RX1, "tellCell", "(II)I"⟩
abbrev cX1_columnSum : ByteArray := prog_3_method_10_code
def yX1_columnSum : MethodName := ⟨RX1, "columnSum", "(I)I"⟩
abbrev cX1_convert : ByteArray := prog_3_method_11_code
def yX1_convert : MethodName := ⟨RX1, "convert", "(I)I"⟩
abbrev cX1_stickingCells : ByteArray := prog_3_method_12_code
def yX1_stickingCells : MethodName := ⟨RX1, "stickingCells", "()I"⟩
abbrev cX1_ageAll : ByteArray := prog_3_method_13_code
def yX1_ageAll : MethodName := ⟨RX1, "ageAll", "()I"⟩
abbrev cX1_ageOne : ByteArray := prog_3_method_14_code
def yX1_ageOne : MethodName := ⟨RX1, "ageOne", "(I)Z"⟩
abbrev cX1_pulseTo : ByteArray := prog_3_method_15_code
def yX1_pulseTo : MethodName := ⟨RX1, "pulseTo", "(II)I"⟩
abbrev cX1_addTo : ByteArray := prog_3_method_16_code
def yX1_addTo : MethodName := ⟨RX1, "addTo", "(J)J"⟩
def RX2 : String := "MeshSums$Search"
def TX2 : u_T := fun k => match k with
  | 0 => ("MeshSums$Search", "visits", "[J", true)
  | 1 => ("MeshSums$Search", "seen", "[I", true)
  | 2 => ("MeshSums$Search", "tables", "[I", true)
  | 3 => ("MeshSums$Search", "inputs", "I", false)
  | 4 => ("MeshSums$Search", "cells", "I", false)
  | 5 => ("MeshSums$Search", "tableBits", "I", false)
  | 6 => ("MeshSums$Search", "fullMask", "I", false)
  | 7 => ("MeshSums$Search", "metStates", "I", false)
  | 8 => ("MeshSums$Search", "found", "[I", false)
  | 9 => ("MeshSums$Search", "foundActs", "I", false)
  | _ => ("MeshSums$Search", "foundCell", "I", false)
def tyX2 : Nat → FieldType := fun k => match k with
  | 0 => .array .long
  | 1 => .array .int
  | 2 => .array .int
  | 3 => .int
  | 4 => .int
  | 5 => .int
  | 6 => .int
  | 7 => .int
  | 8 => .array .int
  | 9 => .int
  | _ => .int
abbrev wsX20 : List Cond := u_ws RX2 TX2 11
theorem nmX2 : ∀ a, a < 11 → ∀ b, b < 11 → a ≠ b → (TX2 a).2.1 ≠ (TX2 b).2.1 := by decide +kernel
theorem tyX2_ok : ∀ k, k < 11 → parseFieldDescriptor (TX2 k).2.2.1 = some (tyX2 k) := by decide +kernel
abbrev cX2_init : ByteArray := prog_4_method_1_code
def yX2_init : MethodName := ⟨RX2, "<init>", "()V"⟩
abbrev cX2_seek : ByteArray := prog_4_method_2_code
def yX2_seek : MethodName := ⟨RX2, "seek", "(III)I"⟩
abbrev cX2_begin : ByteArray := prog_4_method_3_code
def yX2_begin : MethodName := ⟨RX2, "begin", "(II)V"⟩
abbrev cX2_inputTable : ByteArray := prog_4_method_4_code
def yX2_inputTable : MethodName := ⟨RX2, "inputTable", "(I)I"⟩
abbrev cX2_shiftOf : ByteArray := prog_4_method_5_code
def yX2_shiftOf : MethodName := ⟨RX2, "shiftOf", "(I)I"⟩
abbrev cX2_openState : ByteArray := prog_4_method_6_code
def yX2_openState : MethodName := ⟨RX2, "openState", "(I)V"⟩
abbrev cX2_cellWith : ByteArray := prog_4_method_7_code
def yX2_cellWith : MethodName := ⟨RX2, "cellWith", "(I)I"⟩
abbrev cX2_meetAllFrom : ByteArray := prog_4_method_8_code
def yX2_meetAllFrom : MethodName := ⟨RX2, "meetAllFrom", "(I)Z"⟩
abbrev cX2_meetByActs : ByteArray := prog_4_method_9_code
def yX2_meetByActs : MethodName := ⟨RX2, "meetByActs", "(III)Z"⟩
abbrev cX2_meet : ByteArray := prog_4_method_10_code
def yX2_meet : MethodName := ⟨RX2, "meet", "(III)Z"⟩
abbrev cX2_keep : ByteArray := prog_4_method_11_code
def yX2_keep : MethodName := ⟨RX2, "keep", "(II)V"⟩
abbrev cX2_addTo : ByteArray := prog_4_method_12_code
def yX2_addTo : MethodName := ⟨RX2, "addTo", "(J)J"⟩
def RX3 : String := "MeshSums$Sheet"
def TX3 : u_T := fun k => match k with
  | 0 => ("MeshSums$Sheet", "grid", "LMeshSums$Grid;", true)
  | 1 => ("MeshSums$Sheet", "height", "I", false)
  | 2 => ("MeshSums$Sheet", "width", "I", false)
  | 3 => ("MeshSums$Sheet", "digits", "I", false)
  | 4 => ("MeshSums$Sheet", "greatest", "I", false)
  | 5 => ("MeshSums$Sheet", "laid", "Z", false)
  | 6 => ("MeshSums$Sheet", "numbers", "[I", true)
  | 7 => ("MeshSums$Sheet", "rowOf", "[I", true)
  | 8 => ("MeshSums$Sheet", "wanted", "[I", true)
  | 9 => ("MeshSums$Sheet", "costs", "[I", true)
  | _ => ("MeshSums$Sheet", "leastRest", "[I", true)
def tyX3 : Nat → FieldType := fun k => match k with
  | 0 => .object "MeshSums$Grid"
  | 1 => .int
  | 2 => .int
  | 3 => .int
  | 4 => .int
  | 5 => .boolean
  | 6 => .array .int
  | 7 => .array .int
  | 8 => .array .int
  | 9 => .array .int
  | _ => .array .int
abbrev wsX30 : List Cond := u_ws RX3 TX3 11
theorem nmX3 : ∀ a, a < 11 → ∀ b, b < 11 → a ≠ b → (TX3 a).2.1 ≠ (TX3 b).2.1 := by decide +kernel
theorem tyX3_ok : ∀ k, k < 11 → parseFieldDescriptor (TX3 k).2.2.1 = some (tyX3 k) := by decide +kernel
abbrev cX3_init : ByteArray := prog_5_method_1_code
def yX3_init : MethodName := ⟨RX3, "<init>", "(LMeshSums$Grid;)V"⟩
abbrev cX3_exists : ByteArray := prog_5_method_2_code
def yX3_exists : MethodName := ⟨RX3, "exists", "()Z"⟩
abbrev cX3_drop : ByteArray := prog_5_method_3_code
def yX3_drop : MethodName := ⟨RX3, "drop", "()V"⟩
abbrev cX3_begin : ByteArray := prog_5_method_4_code
def yX3_begin : MethodName := ⟨RX3, "begin", "(III)V"⟩
abbrev cX3_base : ByteArray := prog_5_method_5_code
def yX3_base : MethodName := ⟨RX3, "base", "()I"⟩
abbrev cX3_power : ByteArray := prog_5_method_6_code
def yX3_power : MethodName := ⟨RX3, "power", "(II)I"⟩
abbrev cX3_numberAt : ByteArray := prog_5_method_7_code
def yX3_numberAt : MethodName := ⟨RX3, "numberAt", "(II)I"⟩
abbrev cX3_exchange : ByteArray := prog_5_method_8_code
def yX3_exchange : MethodName := ⟨RX3, "exchange", "(III)I"⟩
abbrev cX3_usedColumns : ByteArray := prog_5_method_9_code
def yX3_usedColumns : MethodName := ⟨RX3, "usedColumns", "()I"⟩
abbrev cX3_spellRow : ByteArray := prog_5_method_10_code
def yX3_spellRow : MethodName := ⟨RX3, "spellRow", "(I)V"⟩
abbrev cX3_layAll : ByteArray := prog_5_method_11_code
def yX3_layAll : MethodName := ⟨RX3, "layAll", "()I"⟩
abbrev cX3_meshProduct : ByteArray := prog_5_method_12_code
def yX3_meshProduct : MethodName := ⟨RX3, "meshProduct", "(I)J"⟩
abbrev cX3_bitSum : ByteArray := prog_5_method_13_code
def yX3_bitSum : MethodName := ⟨RX3, "bitSum", "(II)I"⟩
abbrev cX3_trueProduct : ByteArray := prog_5_method_14_code
def yX3_trueProduct : MethodName := ⟨RX3, "trueProduct", "(I)J"⟩
abbrev cX3_bitsEnough : ByteArray := prog_5_method_15_code
def yX3_bitsEnough : MethodName := ⟨RX3, "bitsEnough", "()I"⟩
abbrev cX3_mapAnew : ByteArray := prog_5_method_16_code
def yX3_mapAnew : MethodName := ⟨RX3, "mapAnew", "()I"⟩
abbrev cX3_fillCosts : ByteArray := prog_5_method_17_code
def yX3_fillCosts : MethodName := ⟨RX3, "fillCosts", "()V"⟩
abbrev cX3_costOn : ByteArray := prog_5_method_18_code
def yX3_costOn : MethodName := ⟨RX3, "costOn", "(I)I"⟩
abbrev cX3_costWith : ByteArray := prog_5_method_19_code
def yX3_costWith : MethodName := ⟨RX3, "costWith", "(III)I"⟩
abbrev cX3_leastFrom : ByteArray := prog_5_method_20_code
def yX3_leastFrom : MethodName := ⟨RX3, "leastFrom", "(II)I"⟩
abbrev cX3_chooseFirstLeast : ByteArray := prog_5_method_21_code
def yX3_chooseFirstLeast : MethodName := ⟨RX3, "chooseFirstLeast", "()V"⟩
abbrev cX3_firstLeastRow : ByteArray := prog_5_method_22_code
def yX3_firstLeastRow : MethodName := ⟨RX3, "firstLeastRow", "(II)I"⟩
abbrev cX3_addTo : ByteArray := prog_5_method_23_code
def yX3_addTo : MethodName := ⟨RX3, "addTo", "(J)J"⟩
def RX4 : String := "MeshSums"
def TX4 : u_T := fun k => match k with
  | 0 => ("MeshSums", "grid", "LMeshSums$Grid;", true)
  | 1 => ("MeshSums", "sheet", "LMeshSums$Sheet;", true)
  | 2 => ("MeshSums", "checks", "LMeshSums$Checks;", true)
  | _ => ("MeshSums", "search", "LMeshSums$Search;", true)
def tyX4 : Nat → FieldType := fun k => match k with
  | 0 => .object "MeshSums$Grid"
  | 1 => .object "MeshSums$Sheet"
  | 2 => .object "MeshSums$Checks"
  | _ => .object "MeshSums$Search"
abbrev wsX40 : List Cond := u_ws RX4 TX4 4
theorem nmX4 : ∀ a, a < 4 → ∀ b, b < 4 → a ≠ b → (TX4 a).2.1 ≠ (TX4 b).2.1 := by decide +kernel
theorem tyX4_ok : ∀ k, k < 4 → parseFieldDescriptor (TX4 k).2.2.1 = some (tyX4 k) := by decide +kernel
abbrev cX4_init : ByteArray := prog_1_method_1_code
def yX4_init : MethodName := ⟨RX4, "<init>", "()V"⟩
abbrev cX4_mesh : ByteArray := prog_1_method_2_code
def yX4_mesh : MethodName := ⟨RX4, "mesh", "(III)I"⟩
abbrev cX4_write : ByteArray := prog_1_method_3_code
def yX4_write : MethodName := ⟨RX4, "write", "(III)I"⟩
abbrev cX4_stick : ByteArray := prog_1_method_4_code
def yX4_stick : MethodName := ⟨RX4, "stick", "(III)I"⟩
abbrev cX4_cell : ByteArray := prog_1_method_5_code
def yX4_cell : MethodName := ⟨RX4, "cell", "(III)I"⟩
abbrev cX4_input : ByteArray := prog_1_method_6_code
def yX4_input : MethodName := ⟨RX4, "input", "(II)I"⟩
abbrev cX4_bits : ByteArray := prog_1_method_7_code
def yX4_bits : MethodName := ⟨RX4, "bits", "(I)I"⟩
abbrev cX4_sum : ByteArray := prog_1_method_8_code
def yX4_sum : MethodName := ⟨RX4, "sum", "(I)I"⟩
abbrev cX4_table : ByteArray := prog_1_method_9_code
def yX4_table : MethodName := ⟨RX4, "table", "(III)I"⟩
abbrev cX4_number : ByteArray := prog_1_method_10_code
def yX4_number : MethodName := ⟨RX4, "number", "(III)I"⟩
abbrev cX4_lay : ByteArray := prog_1_method_11_code
def yX4_lay : MethodName := ⟨RX4, "lay", "()I"⟩
abbrev cX4_product : ByteArray := prog_1_method_12_code
def yX4_product : MethodName := ⟨RX4, "product", "(I)J"⟩
abbrev cX4_due : ByteArray := prog_1_method_13_code
def yX4_due : MethodName := ⟨RX4, "due", "(I)J"⟩
abbrev cX4_enough : ByteArray := prog_1_method_14_code
def yX4_enough : MethodName := ⟨RX4, "enough", "()I"⟩
abbrev cX4_map : ByteArray := prog_1_method_15_code
def yX4_map : MethodName := ⟨RX4, "map", "()I"⟩
abbrev cX4_mapped : ByteArray := prog_1_method_16_code
def yX4_mapped : MethodName := ⟨RX4, "mapped", "(I)I"⟩
abbrev cX4_seal : ByteArray := prog_1_method_17_code
def yX4_seal : MethodName := ⟨RX4, "seal", "()I"⟩
abbrev cX4_look : ByteArray := prog_1_method_18_code
def yX4_look : MethodName := ⟨RX4, "look", "()I"⟩
abbrev cX4_fade : ByteArray := prog_1_method_19_code
def yX4_fade : MethodName := ⟨RX4, "fade", "(I)I"⟩
abbrev cX4_pulse : ByteArray := prog_1_method_20_code
def yX4_pulse : MethodName := ⟨RX4, "pulse", "(III)I"⟩
abbrev cX4_find : ByteArray := prog_1_method_21_code
def yX4_find : MethodName := ⟨RX4, "find", "(III)I"⟩
abbrev cX4_actAt : ByteArray := prog_1_method_22_code
def yX4_actAt : MethodName := ⟨RX4, "actAt", "(II)I"⟩
abbrev cX4_where : ByteArray := prog_1_method_23_code
def yX4_where : MethodName := ⟨RX4, "where", "()I"⟩
abbrev cX4_met : ByteArray := prog_1_method_24_code
def yX4_met : MethodName := ⟨RX4, "met", "()I"⟩
abbrev cX4_count : ByteArray := prog_1_method_25_code
def yX4_count : MethodName := ⟨RX4, "count", "(I)I"⟩
abbrev cX4_digest : ByteArray := prog_1_method_26_code
def yX4_digest : MethodName := ⟨RX4, "digest", "()J"⟩
abbrev cX4_within : ByteArray := prog_1_method_27_code
def yX4_within : MethodName := ⟨RX4, "within", "(III)Z"⟩
abbrev cX4_fullTable : ByteArray := prog_1_method_28_code
def yX4_fullTable : MethodName := ⟨RX4, "fullTable", "(I)I"⟩
abbrev cX4_packAct : ByteArray := prog_1_method_29_code
def yX4_packAct : MethodName := ⟨RX4, "packAct", "(III)I"⟩
abbrev cX4_actPart : ByteArray := prog_1_method_30_code
def yX4_actPart : MethodName := ⟨RX4, "actPart", "(II)I"⟩
abbrev cX4_packVisit : ByteArray := prog_1_method_31_code
def yX4_packVisit : MethodName := ⟨RX4, "packVisit", "(III)J"⟩
abbrev cX4_stateOf : ByteArray := prog_1_method_32_code
def yX4_stateOf : MethodName := ⟨RX4, "stateOf", "(J)I"⟩
abbrev cX4_cameBy : ByteArray := prog_1_method_33_code
def yX4_cameBy : MethodName := ⟨RX4, "cameBy", "(J)I"⟩
abbrev cX4_cameFrom : ByteArray := prog_1_method_34_code
def yX4_cameFrom : MethodName := ⟨RX4, "cameFrom", "(J)I"⟩
def RX5 : String := "MeshSumsModel"
def TX5 : u_T := fun k => match k with
  | 0 => ("MeshSumsModel", "rows", "I", false)
  | 1 => ("MeshSumsModel", "columns", "I", false)
  | 2 => ("MeshSumsModel", "top", "I", false)
  | 3 => ("MeshSumsModel", "level", "[I", true)
  | 4 => ("MeshSumsModel", "stuck", "[I", true)
  | 5 => ("MeshSumsModel", "age", "[I", true)
  | 6 => ("MeshSumsModel", "inputs", "[I", true)
  | 7 => ("MeshSumsModel", "bits", "I", false)
  | 8 => ("MeshSumsModel", "high", "I", false)
  | 9 => ("MeshSumsModel", "wide", "I", false)
  | 10 => ("MeshSumsModel", "digits", "I", false)
  | 11 => ("MeshSumsModel", "isLaid", "Z", false)
  | 12 => ("MeshSumsModel", "isSealed", "Z", false)
  | 13 => ("MeshSumsModel", "number", "[I", true)
  | 14 => ("MeshSumsModel", "mapped", "[I", true)
  | 15 => ("MeshSumsModel", "checkOne", "[I", true)
  | 16 => ("MeshSumsModel", "checkTwo", "[I", true)
  | 17 => ("MeshSumsModel", "costs", "[I", true)
  | 18 => ("MeshSumsModel", "now", "[I", true)
  | 19 => ("MeshSumsModel", "best", "[I", true)
  | 20 => ("MeshSumsModel", "paid", "[I", true)
  | 21 => ("MeshSumsModel", "state", "[J", true)
  | 22 => ("MeshSumsModel", "from", "[I", true)
  | 23 => ("MeshSumsModel", "by", "[I", true)
  | 24 => ("MeshSumsModel", "place", "[I", true)
  | 25 => ("MeshSumsModel", "many", "I", false)
  | 26 => ("MeshSumsModel", "foundLong", "I", false)
  | 27 => ("MeshSumsModel", "found", "[I", true)
  | _ => ("MeshSumsModel", "foundWhere", "I", false)
def tyX5 : Nat → FieldType := fun k => match k with
  | 0 => .int
  | 1 => .int
  | 2 => .int
  | 3 => .array .int
  | 4 => .array .int
  | 5 => .array .int
  | 6 => .array .int
  | 7 => .int
  | 8 => .int
  | 9 => .int
  | 10 => .int
  | 11 => .boolean
  | 12 => .boolean
  | 13 => .array .int
  | 14 => .array .int
  | 15 => .array .int
  | 16 => .array .int
  | 17 => .array .int
  | 18 => .array .int
  | 19 => .array .int
  | 20 => .array .int
  | 21 => .array .long
  | 22 => .array .int
  | 23 => .array .int
  | 24 => .array .int
  | 25 => .int
  | 26 => .int
  | 27 => .array .int
  | _ => .int
abbrev wsX50 : List Cond := u_ws RX5 TX5 29
theorem nmX5 : ∀ a, a < 29 → ∀ b, b < 29 → a ≠ b → (TX5 a).2.1 ≠ (TX5 b).2.1 := by decide +kernel
theorem tyX5_ok : ∀ k, k < 29 → parseFieldDescriptor (TX5 k).2.2.1 = some (tyX5 k) := by decide +kernel
abbrev cX5_in : ByteArray := prog_7_method_2_code
def yX5_in : MethodName := ⟨RX5, "in", "(III)Z"⟩
abbrev cX5_init : ByteArray := prog_7_method_3_code
def yX5_init : MethodName := ⟨RX5, "<init>", "()V"⟩
abbrev cX5_begins : ByteArray := prog_7_method_4_code
def yX5_begins : MethodName := ⟨RX5, "begins", "(III)V"⟩
abbrev cX5_mesh : ByteArray := prog_7_method_5_code
def yX5_mesh : MethodName := ⟨RX5, "mesh", "(III)I"⟩
abbrev cX5_isCell : ByteArray := prog_7_method_6_code
def yX5_isCell : MethodName := ⟨RX5, "isCell", "(II)Z"⟩
abbrev cX5_writes : ByteArray := prog_7_method_7_code
def yX5_writes : MethodName := ⟨RX5, "writes", "(II)Z"⟩
abbrev cX5_write : ByteArray := prog_7_method_8_code
def yX5_write : MethodName := ⟨RX5, "write", "(III)I"⟩
abbrev cX5_stick : ByteArray := prog_7_method_9_code
def yX5_stick : MethodName := ⟨RX5, "stick", "(III)I"⟩
abbrev cX5_cellAt : ByteArray := prog_7_method_10_code
def yX5_cellAt : MethodName := ⟨RX5, "cellAt", "(II)I"⟩
abbrev cX5_cell : ByteArray := prog_7_method_11_code
def yX5_cell : MethodName := ⟨RX5, "cell", "(III)I"⟩
abbrev cX5_input : ByteArray := prog_7_method_12_code
def yX5_input : MethodName := ⟨RX5, "input", "(II)I"⟩
abbrev cX5_bits : ByteArray := prog_7_method_13_code
def yX5_bits : MethodName := ⟨RX5, "bits", "(I)I"⟩
abbrev cX5_converted : ByteArray := prog_7_method_14_code
def yX5_converted : MethodName := ⟨RX5, "converted", "(I)I"⟩
abbrev cX5_sumOf : ByteArray := prog_7_method_15_code
def yX5_sumOf : MethodName := ⟨RX5, "sumOf", "(I)I"⟩
abbrev cX5_sum : ByteArray := prog_7_method_16_code
def yX5_sum : MethodName := ⟨RX5, "sum", "(I)I"⟩
abbrev cX5_hasTable : ByteArray := prog_7_method_17_code
def yX5_hasTable : MethodName := ⟨RX5, "hasTable", "()Z"⟩
abbrev cX5_table : ByteArray := prog_7_method_18_code
def yX5_table : MethodName := ⟨RX5, "table", "(III)I"⟩
abbrev cX5_greatest : ByteArray := prog_7_method_19_code
def yX5_greatest : MethodName := ⟨RX5, "greatest", "()I"⟩
abbrev cX5_number : ByteArray := prog_7_method_20_code
def yX5_number : MethodName := ⟨RX5, "number", "(III)I"⟩
abbrev cX5_wanted : ByteArray := prog_7_method_21_code
def yX5_wanted : MethodName := ⟨RX5, "wanted", "(II)I"⟩
abbrev cX5_lay : ByteArray := prog_7_method_22_code
def yX5_lay : MethodName := ⟨RX5, "lay", "()I"⟩
abbrev cX5_bitSum : ByteArray := prog_7_method_23_code
def yX5_bitSum : MethodName := ⟨RX5, "bitSum", "(II)J"⟩
abbrev cX5_product : ByteArray := prog_7_method_24_code
def yX5_product : MethodName := ⟨RX5, "product", "(I)J"⟩
abbrev cX5_due : ByteArray := prog_7_method_25_code
def yX5_due : MethodName := ⟨RX5, "due", "(I)J"⟩
abbrev cX5_enough : ByteArray := prog_7_method_26_code
def yX5_enough : MethodName := ⟨RX5, "enough", "()I"⟩
abbrev cX5_findCosts : ByteArray := prog_7_method_27_code
def yX5_findCosts : MethodName := ⟨RX5, "findCosts", "()V"⟩
abbrev cX5_isUsed : ByteArray := prog_7_method_28_code
def yX5_isUsed : MethodName := ⟨RX5, "isUsed", "(II)Z"⟩
abbrev cX5_map : ByteArray := prog_7_method_29_code
def yX5_map : MethodName := ⟨RX5, "map", "()I"⟩
abbrev cX5_mapped : ByteArray := prog_7_method_30_code
def yX5_mapped : MethodName := ⟨RX5, "mapped", "(I)I"⟩
abbrev cX5_seal : ByteArray := prog_7_method_31_code
def yX5_seal : MethodName := ⟨RX5, "seal", "()I"⟩
abbrev cX5_rest : ByteArray := prog_7_method_32_code
def yX5_rest : MethodName := ⟨RX5, "rest", "(I)I"⟩
abbrev cX5_look : ByteArray := prog_7_method_33_code
def yX5_look : MethodName := ⟨RX5, "look", "()I"⟩
abbrev cX5_fade : ByteArray := prog_7_method_34_code
def yX5_fade : MethodName := ⟨RX5, "fade", "(I)I"⟩
abbrev cX5_pulse : ByteArray := prog_7_method_35_code
def yX5_pulse : MethodName := ⟨RX5, "pulse", "(III)I"⟩
abbrev cX5_isNew : ByteArray := prog_7_method_36_code
def yX5_isNew : MethodName := ⟨RX5, "isNew", "(J)Z"⟩
abbrev cX5_meets : ByteArray := prog_7_method_37_code
def yX5_meets : MethodName := ⟨RX5, "meets", "(JII)Z"⟩
abbrev cX5_tableOf : ByteArray := prog_7_method_38_code
def yX5_tableOf : MethodName := ⟨RX5, "tableOf", "(JI)I"⟩
abbrev cX5_whereIs : ByteArray := prog_7_method_39_code
def yX5_whereIs : MethodName := ⟨RX5, "whereIs", "(JII)I"⟩
abbrev cX5_becomesFound : ByteArray := prog_7_method_40_code
def yX5_becomesFound : MethodName := ⟨RX5, "becomesFound", "(II)V"⟩
abbrev cX5_goesOn : ByteArray := prog_7_method_41_code
def yX5_goesOn : MethodName := ⟨RX5, "goesOn", "(IIII)Z"⟩
abbrev cX5_find : ByteArray := prog_7_method_42_code
def yX5_find : MethodName := ⟨RX5, "find", "(III)I"⟩
abbrev cX5_actAt : ByteArray := prog_7_method_43_code
def yX5_actAt : MethodName := ⟨RX5, "actAt", "(II)I"⟩
abbrev cX5_where : ByteArray := prog_7_method_44_code
def yX5_where : MethodName := ⟨RX5, "where", "()I"⟩
abbrev cX5_met : ByteArray := prog_7_method_45_code
def yX5_met : MethodName := ⟨RX5, "met", "()I"⟩
abbrev cX5_count : ByteArray := prog_7_method_46_code
def yX5_count : MethodName := ⟨RX5, "count", "(I)I"⟩
abbrev cX5_digest : ByteArray := prog_7_method_47_code
def yX5_digest : MethodName := ⟨RX5, "digest", "()J"⟩
def RJ6 : String := "java/lang/Integer"
def TJ6 : u_T := fun k => match k with
  | _ => ("", "", "", false)
def tyJ6 : Nat → FieldType := fun k => match k with
  | _ => .int
abbrev wsJ60 : List Cond := u_ws RJ6 TJ6 0
theorem nmJ6 : ∀ a, a < 0 → ∀ b, b < 0 → a ≠ b → (TJ6 a).2.1 ≠ (TJ6 b).2.1 := by decide +kernel
theorem tyJ6_ok : ∀ k, k < 0 → parseFieldDescriptor (TJ6 k).2.2.1 = some (tyJ6 k) := by decide +kernel
abbrev cJ6_bitCount_0f7a4 : ByteArray := prog_8_method_49_code
def yJ6_bitCount_0f7a4 : MethodName := ⟨RJ6, "bitCount", "(I)I"⟩
def RJ9 : String := "java/lang/Math"
def TJ9 : u_T := fun k => match k with
  | _ => ("", "", "", false)
def tyJ9 : Nat → FieldType := fun k => match k with
  | _ => .int
abbrev wsJ90 : List Cond := u_ws RJ9 TJ9 0
theorem nmJ9 : ∀ a, a < 0 → ∀ b, b < 0 → a ≠ b → (TJ9 a).2.1 ≠ (TJ9 b).2.1 := by decide +kernel
theorem tyJ9_ok : ∀ k, k < 0 → parseFieldDescriptor (TJ9 k).2.2.1 = some (tyJ9 k) := by decide +kernel
abbrev cJ9_floorMod_7cf53 : ByteArray := prog_9_method_50_code
def yJ9_floorMod_7cf53 : MethodName := ⟨RJ9, "floorMod", "(II)I"⟩
abbrev cJ9_abs_0f7a4 : ByteArray := prog_9_method_59_code
def yJ9_abs_0f7a4 : MethodName := ⟨RJ9, "abs", "(I)I"⟩
abbrev cJ9_min_7cf53 : ByteArray := prog_9_method_69_code
def yJ9_min_7cf53 : MethodName := ⟨RJ9, "min", "(II)I"⟩
def RJ7 : String := "java/util/Arrays"
def TJ7 : u_T := fun k => match k with
  | _ => ("", "", "", false)
def tyJ7 : Nat → FieldType := fun k => match k with
  | _ => .int
abbrev wsJ70 : List Cond := u_ws RJ7 TJ7 0
theorem nmJ7 : ∀ a, a < 0 → ∀ b, b < 0 → a ≠ b → (TJ7 a).2.1 ≠ (TJ7 b).2.1 := by decide +kernel
theorem tyJ7_ok : ∀ k, k < 0 → parseFieldDescriptor (TJ7 k).2.2.1 = some (tyJ7 k) := by decide +kernel
abbrev cJ7_fill_53178 : ByteArray := prog_10_method_103_code
def yJ7_fill_53178 : MethodName := ⟨RJ7, "fill", "([II)V"⟩
def RL : String := "MeshSumsLaw"
abbrev cL_law : ByteArray := code
def yL_law : MethodName := ⟨RL, "law", "([I)Z"⟩
abbrev vwCl : List vw_C := [(RX0, TX0, 4), (RX1, TX1, 8), (RX2, TX2, 11), (RX3, TX3, 11), (RX4, TX4, 4), (RX5, TX5, 29)]
end
section
/-! The layer: a goal GG that hides heap, frame and locals array; one rule an instruction. -/
def gtbl : List Cond := lw_tbl.filter goodWord
theorem gt_of {w : Cond} (h : w ∈ lw_tbl ∧ goodWord w = true) : w ∈ gtbl := List.mem_filter.mpr h
abbrev Mth : Type := MethodName × ByteArray × Nat × Option FieldType
abbrev gws (M : Mth) : List Cond := Cond.code M.1 M.2.1 M.2.2.1 M.2.2.2 :: gtbl
theorem gws_in {M : Mth} (h : Cond.code M.1 M.2.1 M.2.2.1 M.2.2.2 ∈ gtbl) : GoodIn gtbl (gws M) := by
  intro w hw
  have hg : w ∈ gtbl := by
    rcases List.mem_cons.mp hw with h2 | h2
    · rw [h2]; exact h
    · exact h2
  exact ⟨hg, good_of_word (List.mem_filter.mp hg).2⟩
def isNest : Cond → Bool
  | .fieldLinkNest .. => true
  | .methodLinkNest .. => true
  | _ => false
def NW (U : State) : Prop := ∀ w ∈ lw_tbl, isNest w = true → va_Nw w U
theorem NW.warm {s U : State} (hW : s.WarmedH U.vm) (h : NW s) : NW U := by
  intro w hw hn
  have h0 := h w hw hn
  cases w with
  | fieldLinkNest => exact va_Nw.warmF hW h0
  | methodLinkNest => exact va_Nw.warmM hW h0
  | _ => exact absurd hn (by simp [isNest])
theorem NW.same {s U : State} (hv : s.vm = U.vm) (h : NW s) : NW U := by
  intro w hw hn
  have h0 := h w hw hn
  cases w with
  | fieldLinkNest => exact va_Nw.same rfl hv h0
  | methodLinkNest => exact va_Nw.same rfl hv h0
  | _ => exact absurd hn (by simp [isNest])
abbrev En : Type := Launch × va_G × ClassId × ClassId
abbrev Fx : Type := Program × Env × Room × State × MethodId × Array Value × List Frame × Method × Code × (Nat → Prop) × (State → Prop)
abbrev tyE (E : En) : List (ClassId × FieldType) := [(E.2.2.1, .int), (E.2.2.2, .long)]
def Cx (E : En) (X : Fx) (cc : ByteArray) (nL : Nat) (own : String) (ret : Option FieldType) (fr lo rc rs : Nat) : Prop :=
  match X with
  | (p, _, R, s, m, args, _, meth, c, A, _) => p.tables.exec = Jvm.exec ∧ c.code = cc ∧ c.maxLocals = nL ∧ s.vm.findClass own = some m.cls ∧ (∀ w ∈ gtbl, w.before args s = true) ∧ meth.locks = false ∧ meth.sig.returnType = ret ∧ va_K E.2.1 vwCl (tyE E) s ∧ NW s ∧ (∀ q, s.heap.size ≤ q → A q) ∧ R = { frames := fr, cells := rc, slots := rs, locals := lo }
def GG (E : En) (X : Fx) (ws : va_W) (k n pc : Nat) (lv : List (Nat × Value)) (st : List Value) : Prop :=
  match X with
  | (p, e, R, s, m, args, below, meth, c, A, Q) => ∀ (H : Heap) (locs : List Loc) (ls : Array Slot), va_P E.2.1 vwCl ws H → va_D A ws → va_S A s.heap H locs → lv_has ls c.maxLocals lv → W p E.1 e R s m args below meth c H locs k n Q (F0 m pc ls st)
def QQ (E : En) (Z : Option Value → va_W → Prop) (A : Nat → Prop) : Array Value → State → Outcome → State → Prop := fun _ st oc t => (∃ (v : Option Value) (w : va_W), oc = .returned v ∧ Z v w ∧ va_P E.2.1 vwCl w t.heap ∧ va_K E.2.1 vwCl (tyE E) t ∧ va_D A w) ∧ va_F A st t
/-- a method's contract: called with 'av' over the world 'ws' it returns, and Z holds of its answer and the world behind it -/
def Ct (E : En) (M : Mth) (d mc ms : Nat) (av : List Value) (ws : va_W) (Z : Option Value → va_W → Prop) : Prop :=
  ∀ sz : Nat, Met E.1 M.1 (gws M) { frames := d, cells := mc, slots := ms, locals := 40 * d } (va_Pc av (fun U => U.heap.size = sz ∧ va_P E.2.1 vwCl ws U.heap ∧ va_K E.2.1 vwCl (tyE E) U ∧ va_D (fun _ => True) ws ∧ NW U)) (QQ E Z (va_A ws sz)) mc ms (va_A ws sz)
def Rt (E : En) (X : Fx) (Z : Option Value → va_W → Prop) (mc ms : Nat) : Prop :=
  match X with
  | (_, _, _, s, _, args, below, _, _, A, Q) => Q = MQ below (QQ E Z A) args s mc ms A
def lvg (i : Nat) : List (Nat × Value) → Option Value
  | [] => none
  | q :: r => bif Nat.beq q.1 i then some q.2 else lvg i r
theorem lvg_mem {i : Nat} {v : Value} : ∀ {lv : List (Nat × Value)}, lvg i lv = some v → (i, v) ∈ lv
  | [], h => by simp [lvg] at h
  | q :: r, h => by
    simp only [lvg] at h
    cases hb : Nat.beq q.1 i with
    | true =>
      rw [hb] at h
      have h2 : q.1 = i := Nat.eq_of_beq_eq_true hb
      have h3 : q.2 = v := Option.some.inj h
      exact List.mem_cons.mpr (Or.inl (by rw [← h2, ← h3]))
    | false =>
      rw [hb] at h
      exact List.mem_cons_of_mem _ (lvg_mem h)
theorem nbq (a b : Nat) : Nat.beq a b = (a == b) := by
  cases h : Nat.beq a b with
  | true => rw [Nat.eq_of_beq_eq_true h]; simp
  | false => have h2 := Nat.ne_of_beq_eq_false h; simp [h2]
def lvi (q : Nat × Value) : List (Nat × Value) → List (Nat × Value)
  | [] => [q]
  | r :: t => bif Nat.ble q.1 r.1 then q :: r :: t else r :: lvi q t
theorem lvi_mem {q x : Nat × Value} : ∀ {t : List (Nat × Value)}, x ∈ lvi q t → x = q ∨ x ∈ t
  | [], h => by simp [lvi] at h; exact Or.inl h
  | r :: t, h => by
    simp only [lvi] at h
    cases hb : Nat.ble q.1 r.1 with
    | true =>
      rw [hb] at h
      exact List.mem_cons.mp h
    | false =>
      rw [hb] at h
      rcases List.mem_cons.mp h with h2 | h2
      · exact Or.inr (List.mem_cons.mpr (Or.inl h2))
      · rcases lvi_mem h2 with h3 | h3
        · exact Or.inl h3
        · exact Or.inr (List.mem_cons_of_mem _ h3)
/-- the locals' list behind a store of one word: what stood at i goes -/
def lvd1 (i : Nat) : List (Nat × Value) → List (Nat × Value)
  | [] => []
  | q :: r => bif (Nat.beq q.1 i || (Nat.beq (q.1 + 1) i && Nat.beq q.2.category 2)) then lvd1 i r else q :: lvd1 i r
def lvd2 (i : Nat) : List (Nat × Value) → List (Nat × Value)
  | [] => []
  | q :: r => bif (Nat.beq q.1 i || (Nat.beq q.1 (i + 1) || (Nat.beq (q.1 + 1) i && Nat.beq q.2.category 2))) then lvd2 i r else q :: lvd2 i r
theorem lvd1_eq (i : Nat) : ∀ lv : List (Nat × Value), lvd1 i lv = lv.filter (fun q => !(q.1 == i) && !(q.1 + 1 == i && q.2.category == 2))
  | [] => rfl
  | q :: r => by
    simp only [lvd1, List.filter_cons, lvd1_eq i r]
    simp only [nbq]
    cases (q.1 == i) <;> cases (q.1 + 1 == i) <;> cases (q.2.category == 2) <;> rfl
theorem lvd2_eq (i : Nat) : ∀ lv : List (Nat × Value), lvd2 i lv = lv.filter (fun q => !(q.1 == i) && (!(q.1 == i + 1) && !(q.1 + 1 == i && q.2.category == 2)))
  | [] => rfl
  | q :: r => by
    simp only [lvd2, List.filter_cons, lvd2_eq i r]
    simp only [nbq]
    cases (q.1 == i) <;> cases (q.1 == i + 1) <;> cases (q.1 + 1 == i) <;> cases (q.2.category == 2) <;> rfl
abbrev lvs1 (i : Nat) (v : Value) (lv : List (Nat × Value)) : List (Nat × Value) := lvi (i, v) (lvd1 i lv)
abbrev lvs2 (i : Nat) (v : Value) (lv : List (Nat × Value)) : List (Nat × Value) := lvi (i, v) (lvd2 i lv)
theorem lvs1_has {ls : Array Slot} {nL i : Nat} {v : Value} {lv : List (Nat × Value)} (h : lv_has ls nL ((i, v) :: lv.filter (fun q => !(q.1 == i) && !(q.1 + 1 == i && q.2.category == 2)))) : lv_has ls nL (lvs1 i v lv) := by
  refine ⟨h.1, h.2.1, fun q hq => h.2.2 q ?_⟩
  rcases lvi_mem hq with h1 | h1
  · exact List.mem_cons.mpr (Or.inl h1)
  · exact List.mem_cons_of_mem _ (by rw [← lvd1_eq]; exact h1)
theorem lvs2_has {ls : Array Slot} {nL i : Nat} {v : Value} {lv : List (Nat × Value)} (h : lv_has ls nL ((i, v) :: lv.filter (fun q => !(q.1 == i) && (!(q.1 == i + 1) && !(q.1 + 1 == i && q.2.category == 2))))) : lv_has ls nL (lvs2 i v lv) := by
  refine ⟨h.1, h.2.1, fun q hq => h.2.2 q ?_⟩
  rcases lvi_mem hq with h1 | h1
  · exact List.mem_cons.mpr (Or.inl h1)
  · exact List.mem_cons_of_mem _ (by rw [← lvd2_eq]; exact h1)
theorem lvg_has {ls : Array Slot} {nL i : Nat} {v : Value} {lv : List (Nat × Value)} (h : lv_has ls nL lv) (hg : lvg i lv = some v) : ls[i]? = some (.val v) := h.2.2 (i, v) (lvg_mem hg)
section MG
variable {E : En} {X : Fx} {cc : ByteArray} {nL : Nat} {own : String} {ret : Option FieldType} {fr lo rc rs : Nat} {ws : va_W} {k n pc : Nat} {lv : List (Nat × Value)} {st rest : List Value}
theorem mg_iconst (C : Cx E X cc nL own ret fr lo rc rs) {i : Int} {v : Int32}  (hdg : decode cc pc = .ok (.iconst i, 1)) (hv : Int32.ofInt i = v) (kk : GG E X ws k n (pc + 1) lv (.int v :: rest)) : GG E X ws k n pc lv (rest) := by
  obtain ⟨p, e, R, s, m, args, below, meth, c, A, Q⟩ := X
  obtain ⟨hx, hb, hml, hown, hts, hlk, hrt, hK, hnw, hA, hR⟩ := C
  intro H locs ls hP hD hS hl
  exact lv_iconst hx hb hdg hv (kk H locs ls hP hD hS hl)
theorem mg_bipush (C : Cx E X cc nL own ret fr lo rc rs) {i : Int} {v : Int32}  (hdg : decode cc pc = .ok (.bipush i, 2)) (hv : (Int8.ofInt i).toInt32 = v) (kk : GG E X ws k n (pc + 2) lv (.int v :: rest)) : GG E X ws k n pc lv (rest) := by
  obtain ⟨p, e, R, s, m, args, below, meth, c, A, Q⟩ := X
  obtain ⟨hx, hb, hml, hown, hts, hlk, hrt, hK, hnw, hA, hR⟩ := C
  intro H locs ls hP hD hS hl
  exact lv_bipush hx hb hdg hv (kk H locs ls hP hD hS hl)
theorem mg_sipush (C : Cx E X cc nL own ret fr lo rc rs) {i : Int} {v : Int32}  (hdg : decode cc pc = .ok (.sipush i, 3)) (hv : (Int16.ofInt i).toInt32 = v) (kk : GG E X ws k n (pc + 3) lv (.int v :: rest)) : GG E X ws k n pc lv (rest) := by
  obtain ⟨p, e, R, s, m, args, below, meth, c, A, Q⟩ := X
  obtain ⟨hx, hb, hml, hown, hts, hlk, hrt, hK, hnw, hA, hR⟩ := C
  intro H locs ls hP hD hS hl
  exact lv_sipush hx hb hdg hv (kk H locs ls hP hD hS hl)
theorem mg_lconst (C : Cx E X cc nL own ret fr lo rc rs) {i : Fin 2} {v : Int64}  (hdg : decode cc pc = .ok (.lconst i, 1)) (hv : Int64.ofNat (i : Nat) = v) (kk : GG E X ws k n (pc + 1) lv (.long v :: rest)) : GG E X ws k n pc lv (rest) := by
  obtain ⟨p, e, R, s, m, args, below, meth, c, A, Q⟩ := X
  obtain ⟨hx, hb, hml, hown, hts, hlk, hrt, hK, hnw, hA, hR⟩ := C
  intro H locs ls hP hD hS hl
  exact lv_lconst hx hb hdg hv (kk H locs ls hP hD hS hl)
theorem mg_ldc (C : Cx E X cc nL own ret fr lo rc rs) {i : Nat} {v : Int32}  (hdg : decode cc pc = .ok (.ldc i, 2)) (hv : Cond.constant own i v ∈ gtbl) (kk : GG E X ws k n (pc + 2) lv (.int v :: rest)) : GG E X ws k n pc lv (rest) := by
  obtain ⟨p, e, R, s, m, args, below, meth, c, A, Q⟩ := X
  obtain ⟨hx, hb, hml, hown, hts, hlk, hrt, hK, hnw, hA, hR⟩ := C
  intro H locs ls hP hD hS hl
  exact lv_ldc hx hb hown (hts _ hv) hdg (kk H locs ls hP hD hS hl)
theorem mg_ldcw (C : Cx E X cc nL own ret fr lo rc rs) {i : Nat} {v : Int32}  (hdg : decode cc pc = .ok (.ldc_w i, 3)) (hv : Cond.constant own i v ∈ gtbl) (kk : GG E X ws k n (pc + 3) lv (.int v :: rest)) : GG E X ws k n pc lv (rest) := by
  obtain ⟨p, e, R, s, m, args, below, meth, c, A, Q⟩ := X
  obtain ⟨hx, hb, hml, hown, hts, hlk, hrt, hK, hnw, hA, hR⟩ := C
  intro H locs ls hP hD hS hl
  exact lv_ldcw hx hb hown (hts _ hv) hdg (kk H locs ls hP hD hS hl)
theorem mg_ldc2 (C : Cx E X cc nL own ret fr lo rc rs) {i : Nat} {v : Int64}  (hdg : decode cc pc = .ok (.ldc2_w i, 3)) (hv : Cond.constantLong own i v ∈ gtbl) (kk : GG E X ws k n (pc + 3) lv (.long v :: rest)) : GG E X ws k n pc lv (rest) := by
  obtain ⟨p, e, R, s, m, args, below, meth, c, A, Q⟩ := X
  obtain ⟨hx, hb, hml, hown, hts, hlk, hrt, hK, hnw, hA, hR⟩ := C
  intro H locs ls hP hD hS hl
  exact lv_ldc2 hx hb hown (hts _ hv) hdg (kk H locs ls hP hD hS hl)
theorem mg_iload_n (C : Cx E X cc nL own ret fr lo rc rs) {i : Fin 4} {x : Int32}  (hdg : decode cc pc = .ok (.iload_n i, 1)) (hg : lvg (i : Nat) lv = some (.int x)) (kk : GG E X ws k n (pc + 1) lv (.int x :: rest)) : GG E X ws k n pc lv (rest) := by
  obtain ⟨p, e, R, s, m, args, below, meth, c, A, Q⟩ := X
  obtain ⟨hx, hb, hml, hown, hts, hlk, hrt, hK, hnw, hA, hR⟩ := C
  intro H locs ls hP hD hS hl
  exact lv_iload_n hx hb hdg rfl (lvg_has hl hg) (kk H locs ls hP hD hS hl)
theorem mg_iload (C : Cx E X cc nL own ret fr lo rc rs) {i : Nat} {x : Int32}  (hdg : decode cc pc = .ok (.iload i, 2)) (hg : lvg i lv = some (.int x)) (kk : GG E X ws k n (pc + 2) lv (.int x :: rest)) : GG E X ws k n pc lv (rest) := by
  obtain ⟨p, e, R, s, m, args, below, meth, c, A, Q⟩ := X
  obtain ⟨hx, hb, hml, hown, hts, hlk, hrt, hK, hnw, hA, hR⟩ := C
  intro H locs ls hP hD hS hl
  exact lv_iload hx hb hdg (lvg_has hl hg) (kk H locs ls hP hD hS hl)
theorem mg_lload_n (C : Cx E X cc nL own ret fr lo rc rs) {i : Fin 4} {x : Int64}  (hdg : decode cc pc = .ok (.lload_n i, 1)) (hg : lvg (i : Nat) lv = some (.long x)) (kk : GG E X ws k n (pc + 1) lv (.long x :: rest)) : GG E X ws k n pc lv (rest) := by
  obtain ⟨p, e, R, s, m, args, below, meth, c, A, Q⟩ := X
  obtain ⟨hx, hb, hml, hown, hts, hlk, hrt, hK, hnw, hA, hR⟩ := C
  intro H locs ls hP hD hS hl
  exact lv_lload_n hx hb hdg rfl (lvg_has hl hg) (kk H locs ls hP hD hS hl)
theorem mg_lload (C : Cx E X cc nL own ret fr lo rc rs) {i : Nat} {x : Int64}  (hdg : decode cc pc = .ok (.lload i, 2)) (hg : lvg i lv = some (.long x)) (kk : GG E X ws k n (pc + 2) lv (.long x :: rest)) : GG E X ws k n pc lv (rest) := by
  obtain ⟨p, e, R, s, m, args, below, meth, c, A, Q⟩ := X
  obtain ⟨hx, hb, hml, hown, hts, hlk, hrt, hK, hnw, hA, hR⟩ := C
  intro H locs ls hP hD hS hl
  exact lv_lload hx hb hdg (lvg_has hl hg) (kk H locs ls hP hD hS hl)
theorem mg_aload_n (C : Cx E X cc nL own ret fr lo rc rs) {i : Fin 4} {x : Nat}  (hdg : decode cc pc = .ok (.aload_n i, 1)) (hg : lvg (i : Nat) lv = some (.ref x)) (kk : GG E X ws k n (pc + 1) lv (.ref x :: rest)) : GG E X ws k n pc lv (rest) := by
  obtain ⟨p, e, R, s, m, args, below, meth, c, A, Q⟩ := X
  obtain ⟨hx, hb, hml, hown, hts, hlk, hrt, hK, hnw, hA, hR⟩ := C
  intro H locs ls hP hD hS hl
  exact lv_aload_n hx hb hdg rfl (lvg_has hl hg) (kk H locs ls hP hD hS hl)
theorem mg_aload (C : Cx E X cc nL own ret fr lo rc rs) {i : Nat} {x : Nat}  (hdg : decode cc pc = .ok (.aload i, 2)) (hg : lvg i lv = some (.ref x)) (kk : GG E X ws k n (pc + 2) lv (.ref x :: rest)) : GG E X ws k n pc lv (rest) := by
  obtain ⟨p, e, R, s, m, args, below, meth, c, A, Q⟩ := X
  obtain ⟨hx, hb, hml, hown, hts, hlk, hrt, hK, hnw, hA, hR⟩ := C
  intro H locs ls hP hD hS hl
  exact lv_aload hx hb hdg (lvg_has hl hg) (kk H locs ls hP hD hS hl)
theorem mg_istore_n (C : Cx E X cc nL own ret fr lo rc rs) {i : Fin 4} {x : Int32} (hdg : decode cc pc = .ok (.istore_n i, 1)) (hn : Nat.blt ((i : Nat)) nL = true) (kk : GG E X ws k n (pc + 1) (lvs1 (i : Nat) (.int x) lv) rest) : GG E X ws k n pc lv (.int x :: rest) := by
  obtain ⟨p, e, R, s, m, args, below, meth, c, A, Q⟩ := X
  obtain ⟨hx, hb, hml, hown, hts, hlk, hrt, hK, hnw, hA, hR⟩ := C
  intro H locs ls hP hD hS hl
  have hn2 : (i : Nat) < c.maxLocals := by
    rw [hml]; exact Nat.le_of_ble_eq_true hn
  exact lv_istore_n hx hb hdg rfl hl hn2 rfl (fun ls' h' => kk H locs ls' hP hD hS (lvs1_has h'))
theorem mg_istore (C : Cx E X cc nL own ret fr lo rc rs) {i : Nat} {x : Int32} (hdg : decode cc pc = .ok (.istore i, 2)) (hn : Nat.blt (i) nL = true) (kk : GG E X ws k n (pc + 2) (lvs1 i (.int x) lv) rest) : GG E X ws k n pc lv (.int x :: rest) := by
  obtain ⟨p, e, R, s, m, args, below, meth, c, A, Q⟩ := X
  obtain ⟨hx, hb, hml, hown, hts, hlk, hrt, hK, hnw, hA, hR⟩ := C
  intro H locs ls hP hD hS hl
  have hn2 : i < c.maxLocals := by
    rw [hml]; exact Nat.le_of_ble_eq_true hn
  exact lv_istore hx hb hdg hl hn2 rfl (fun ls' h' => kk H locs ls' hP hD hS (lvs1_has h'))
theorem mg_lstore_n (C : Cx E X cc nL own ret fr lo rc rs) {i : Fin 4} {x : Int64} (hdg : decode cc pc = .ok (.lstore_n i, 1)) (hn : Nat.blt ((i : Nat) + 1) nL = true) (kk : GG E X ws k n (pc + 1) (lvs2 (i : Nat) (.long x) lv) rest) : GG E X ws k n pc lv (.long x :: rest) := by
  obtain ⟨p, e, R, s, m, args, below, meth, c, A, Q⟩ := X
  obtain ⟨hx, hb, hml, hown, hts, hlk, hrt, hK, hnw, hA, hR⟩ := C
  intro H locs ls hP hD hS hl
  have hn2 : (i : Nat) + 1 < c.maxLocals := by
    rw [hml]; exact Nat.le_of_ble_eq_true hn
  exact lv_lstore_n hx hb hdg rfl hl hn2 rfl (fun ls' h' => kk H locs ls' hP hD hS (lvs2_has h'))
theorem mg_lstore (C : Cx E X cc nL own ret fr lo rc rs) {i : Nat} {x : Int64} (hdg : decode cc pc = .ok (.lstore i, 2)) (hn : Nat.blt (i + 1) nL = true) (kk : GG E X ws k n (pc + 2) (lvs2 i (.long x) lv) rest) : GG E X ws k n pc lv (.long x :: rest) := by
  obtain ⟨p, e, R, s, m, args, below, meth, c, A, Q⟩ := X
  obtain ⟨hx, hb, hml, hown, hts, hlk, hrt, hK, hnw, hA, hR⟩ := C
  intro H locs ls hP hD hS hl
  have hn2 : i + 1 < c.maxLocals := by
    rw [hml]; exact Nat.le_of_ble_eq_true hn
  exact lv_lstore hx hb hdg hl hn2 rfl (fun ls' h' => kk H locs ls' hP hD hS (lvs2_has h'))
theorem mg_astore_n (C : Cx E X cc nL own ret fr lo rc rs) {i : Fin 4} {x : Nat} (hdg : decode cc pc = .ok (.astore_n i, 1)) (hn : Nat.blt ((i : Nat)) nL = true) (kk : GG E X ws k n (pc + 1) (lvs1 (i : Nat) (.ref x) lv) rest) : GG E X ws k n pc lv (.ref x :: rest) := by
  obtain ⟨p, e, R, s, m, args, below, meth, c, A, Q⟩ := X
  obtain ⟨hx, hb, hml, hown, hts, hlk, hrt, hK, hnw, hA, hR⟩ := C
  intro H locs ls hP hD hS hl
  have hn2 : (i : Nat) < c.maxLocals := by
    rw [hml]; exact Nat.le_of_ble_eq_true hn
  exact lv_astore_n hx hb hdg rfl hl hn2 rfl (fun ls' h' => kk H locs ls' hP hD hS (lvs1_has h'))
theorem mg_astore (C : Cx E X cc nL own ret fr lo rc rs) {i : Nat} {x : Nat} (hdg : decode cc pc = .ok (.astore i, 2)) (hn : Nat.blt (i) nL = true) (kk : GG E X ws k n (pc + 2) (lvs1 i (.ref x) lv) rest) : GG E X ws k n pc lv (.ref x :: rest) := by
  obtain ⟨p, e, R, s, m, args, below, meth, c, A, Q⟩ := X
  obtain ⟨hx, hb, hml, hown, hts, hlk, hrt, hK, hnw, hA, hR⟩ := C
  intro H locs ls hP hD hS hl
  have hn2 : i < c.maxLocals := by
    rw [hml]; exact Nat.le_of_ble_eq_true hn
  exact lv_astore hx hb hdg hl hn2 rfl (fun ls' h' => kk H locs ls' hP hD hS (lvs1_has h'))
theorem mg_iinc (C : Cx E X cc nL own ret fr lo rc rs) {i : Nat} {j : Int} {x : Int32} (hdg : decode cc pc = .ok (.iinc i j, 3)) (hg : lvg i lv = some (.int x)) (hn : Nat.blt i nL = true) (kk : GG E X ws k n (pc + 3) (lvs1 i (.int (x + Int32.ofInt j)) lv) rest) : GG E X ws k n pc lv rest := by
  obtain ⟨p, e, R, s, m, args, below, meth, c, A, Q⟩ := X
  obtain ⟨hx, hb, hml, hown, hts, hlk, hrt, hK, hnw, hA, hR⟩ := C
  intro H locs ls hP hD hS hl
  have hn2 : i < c.maxLocals := by
    rw [hml]; exact Nat.le_of_ble_eq_true hn
  obtain ⟨j0, hj⟩ := List.getElem?_of_mem (lvg_mem hg)
  exact lv_iinc hx hb hdg hl hj rfl hn2 rfl (fun ls' h' => kk H locs ls' hP hD hS (lvs1_has h'))
theorem mg_iadd (C : Cx E X cc nL own ret fr lo rc rs) {x y : Int32} (hdg : decode cc pc = .ok (.iadd, 1))  (kk : GG E X ws k n (pc + 1) lv (.int (x + y) :: rest)) : GG E X ws k n pc lv (.int y :: .int x :: rest) := by
  obtain ⟨p, e, R, s, m, args, below, meth, c, A, Q⟩ := X
  obtain ⟨hx, hb, hml, hown, hts, hlk, hrt, hK, hnw, hA, hR⟩ := C
  intro H locs ls hP hD hS hl
  exact lv_iadd hx hb hdg (kk H locs ls hP hD hS hl)
theorem mg_isub (C : Cx E X cc nL own ret fr lo rc rs) {x y : Int32} (hdg : decode cc pc = .ok (.isub, 1))  (kk : GG E X ws k n (pc + 1) lv (.int (x - y) :: rest)) : GG E X ws k n pc lv (.int y :: .int x :: rest) := by
  obtain ⟨p, e, R, s, m, args, below, meth, c, A, Q⟩ := X
  obtain ⟨hx, hb, hml, hown, hts, hlk, hrt, hK, hnw, hA, hR⟩ := C
  intro H locs ls hP hD hS hl
  exact lv_isub hx hb hdg (kk H locs ls hP hD hS hl)
theorem mg_imul (C : Cx E X cc nL own ret fr lo rc rs) {x y : Int32} (hdg : decode cc pc = .ok (.imul, 1))  (kk : GG E X ws k n (pc + 1) lv (.int (x * y) :: rest)) : GG E X ws k n pc lv (.int y :: .int x :: rest) := by
  obtain ⟨p, e, R, s, m, args, below, meth, c, A, Q⟩ := X
  obtain ⟨hx, hb, hml, hown, hts, hlk, hrt, hK, hnw, hA, hR⟩ := C
  intro H locs ls hP hD hS hl
  exact lv_imul hx hb hdg (kk H locs ls hP hD hS hl)
theorem mg_iand (C : Cx E X cc nL own ret fr lo rc rs) {x y : Int32} (hdg : decode cc pc = .ok (.iand, 1))  (kk : GG E X ws k n (pc + 1) lv (.int (x &&& y) :: rest)) : GG E X ws k n pc lv (.int y :: .int x :: rest) := by
  obtain ⟨p, e, R, s, m, args, below, meth, c, A, Q⟩ := X
  obtain ⟨hx, hb, hml, hown, hts, hlk, hrt, hK, hnw, hA, hR⟩ := C
  intro H locs ls hP hD hS hl
  exact lv_iand hx hb hdg (kk H locs ls hP hD hS hl)
theorem mg_ior (C : Cx E X cc nL own ret fr lo rc rs) {x y : Int32} (hdg : decode cc pc = .ok (.ior, 1))  (kk : GG E X ws k n (pc + 1) lv (.int (x ||| y) :: rest)) : GG E X ws k n pc lv (.int y :: .int x :: rest) := by
  obtain ⟨p, e, R, s, m, args, below, meth, c, A, Q⟩ := X
  obtain ⟨hx, hb, hml, hown, hts, hlk, hrt, hK, hnw, hA, hR⟩ := C
  intro H locs ls hP hD hS hl
  exact lv_ior hx hb hdg (kk H locs ls hP hD hS hl)
theorem mg_ixor (C : Cx E X cc nL own ret fr lo rc rs) {x y : Int32} (hdg : decode cc pc = .ok (.ixor, 1))  (kk : GG E X ws k n (pc + 1) lv (.int (x ^^^ y) :: rest)) : GG E X ws k n pc lv (.int y :: .int x :: rest) := by
  obtain ⟨p, e, R, s, m, args, below, meth, c, A, Q⟩ := X
  obtain ⟨hx, hb, hml, hown, hts, hlk, hrt, hK, hnw, hA, hR⟩ := C
  intro H locs ls hP hD hS hl
  exact lv_ixor hx hb hdg (kk H locs ls hP hD hS hl)
theorem mg_ishl (C : Cx E X cc nL own ret fr lo rc rs) {x y : Int32} (hdg : decode cc pc = .ok (.ishl, 1))  (kk : GG E X ws k n (pc + 1) lv (.int (x <<< (y &&& 31)) :: rest)) : GG E X ws k n pc lv (.int y :: .int x :: rest) := by
  obtain ⟨p, e, R, s, m, args, below, meth, c, A, Q⟩ := X
  obtain ⟨hx, hb, hml, hown, hts, hlk, hrt, hK, hnw, hA, hR⟩ := C
  intro H locs ls hP hD hS hl
  exact lv_ishl hx hb hdg (kk H locs ls hP hD hS hl)
theorem mg_ishr (C : Cx E X cc nL own ret fr lo rc rs) {x y : Int32} (hdg : decode cc pc = .ok (.ishr, 1))  (kk : GG E X ws k n (pc + 1) lv (.int (x >>> (y &&& 31)) :: rest)) : GG E X ws k n pc lv (.int y :: .int x :: rest) := by
  obtain ⟨p, e, R, s, m, args, below, meth, c, A, Q⟩ := X
  obtain ⟨hx, hb, hml, hown, hts, hlk, hrt, hK, hnw, hA, hR⟩ := C
  intro H locs ls hP hD hS hl
  exact lv_ishr hx hb hdg (kk H locs ls hP hD hS hl)
theorem mg_iushr (C : Cx E X cc nL own ret fr lo rc rs) {x y : Int32} (hdg : decode cc pc = .ok (.iushr, 1))  (kk : GG E X ws k n (pc + 1) lv (.int ((x.toUInt32 >>> (y.toUInt32 &&& Int32.toUInt32 31)).toInt32) :: rest)) : GG E X ws k n pc lv (.int y :: .int x :: rest) := by
  obtain ⟨p, e, R, s, m, args, below, meth, c, A, Q⟩ := X
  obtain ⟨hx, hb, hml, hown, hts, hlk, hrt, hK, hnw, hA, hR⟩ := C
  intro H locs ls hP hD hS hl
  exact lv_iushr hx hb hdg rfl (kk H locs ls hP hD hS hl)
theorem mg_idiv (C : Cx E X cc nL own ret fr lo rc rs) {x y : Int32}  (hdg : decode cc pc = .ok (.idiv, 1)) (hne : ¬ y = 0) (kk : GG E X ws k n (pc + 1) lv (.int (x / y) :: rest)) : GG E X ws k n pc lv (.int y :: .int x :: rest) := by
  obtain ⟨p, e, R, s, m, args, below, meth, c, A, Q⟩ := X
  obtain ⟨hx, hb, hml, hown, hts, hlk, hrt, hK, hnw, hA, hR⟩ := C
  intro H locs ls hP hD hS hl
  exact lv_idiv hx hb hdg hne (kk H locs ls hP hD hS hl)
theorem mg_irem (C : Cx E X cc nL own ret fr lo rc rs) {x y : Int32}  (hdg : decode cc pc = .ok (.irem, 1)) (hne : ¬ y = 0) (kk : GG E X ws k n (pc + 1) lv (.int (x - x / y * y) :: rest)) : GG E X ws k n pc lv (.int y :: .int x :: rest) := by
  obtain ⟨p, e, R, s, m, args, below, meth, c, A, Q⟩ := X
  obtain ⟨hx, hb, hml, hown, hts, hlk, hrt, hK, hnw, hA, hR⟩ := C
  intro H locs ls hP hD hS hl
  exact lv_irem hx hb hdg hne (kk H locs ls hP hD hS hl)
theorem mg_ineg (C : Cx E X cc nL own ret fr lo rc rs) {x : Int32} (hdg : decode cc pc = .ok (.ineg, 1))  (kk : GG E X ws k n (pc + 1) lv (.int (-x) :: rest)) : GG E X ws k n pc lv (.int x :: rest) := by
  obtain ⟨p, e, R, s, m, args, below, meth, c, A, Q⟩ := X
  obtain ⟨hx, hb, hml, hown, hts, hlk, hrt, hK, hnw, hA, hR⟩ := C
  intro H locs ls hP hD hS hl
  exact lv_ineg hx hb hdg (kk H locs ls hP hD hS hl)
theorem mg_ladd (C : Cx E X cc nL own ret fr lo rc rs) {x y : Int64} (hdg : decode cc pc = .ok (.ladd, 1))  (kk : GG E X ws k n (pc + 1) lv (.long (x + y) :: rest)) : GG E X ws k n pc lv (.long y :: .long x :: rest) := by
  obtain ⟨p, e, R, s, m, args, below, meth, c, A, Q⟩ := X
  obtain ⟨hx, hb, hml, hown, hts, hlk, hrt, hK, hnw, hA, hR⟩ := C
  intro H locs ls hP hD hS hl
  exact lv_ladd hx hb hdg (kk H locs ls hP hD hS hl)
theorem mg_lsub (C : Cx E X cc nL own ret fr lo rc rs) {x y : Int64} (hdg : decode cc pc = .ok (.lsub, 1))  (kk : GG E X ws k n (pc + 1) lv (.long (x - y) :: rest)) : GG E X ws k n pc lv (.long y :: .long x :: rest) := by
  obtain ⟨p, e, R, s, m, args, below, meth, c, A, Q⟩ := X
  obtain ⟨hx, hb, hml, hown, hts, hlk, hrt, hK, hnw, hA, hR⟩ := C
  intro H locs ls hP hD hS hl
  exact lv_lsub hx hb hdg (kk H locs ls hP hD hS hl)
theorem mg_lmul (C : Cx E X cc nL own ret fr lo rc rs) {x y : Int64} (hdg : decode cc pc = .ok (.lmul, 1))  (kk : GG E X ws k n (pc + 1) lv (.long (x * y) :: rest)) : GG E X ws k n pc lv (.long y :: .long x :: rest) := by
  obtain ⟨p, e, R, s, m, args, below, meth, c, A, Q⟩ := X
  obtain ⟨hx, hb, hml, hown, hts, hlk, hrt, hK, hnw, hA, hR⟩ := C
  intro H locs ls hP hD hS hl
  exact lv_lmul hx hb hdg (kk H locs ls hP hD hS hl)
theorem mg_land (C : Cx E X cc nL own ret fr lo rc rs) {x y : Int64} (hdg : decode cc pc = .ok (.land, 1))  (kk : GG E X ws k n (pc + 1) lv (.long (x &&& y) :: rest)) : GG E X ws k n pc lv (.long y :: .long x :: rest) := by
  obtain ⟨p, e, R, s, m, args, below, meth, c, A, Q⟩ := X
  obtain ⟨hx, hb, hml, hown, hts, hlk, hrt, hK, hnw, hA, hR⟩ := C
  intro H locs ls hP hD hS hl
  exact lv_land hx hb hdg (kk H locs ls hP hD hS hl)
theorem mg_lor (C : Cx E X cc nL own ret fr lo rc rs) {x y : Int64} (hdg : decode cc pc = .ok (.lor, 1))  (kk : GG E X ws k n (pc + 1) lv (.long (x ||| y) :: rest)) : GG E X ws k n pc lv (.long y :: .long x :: rest) := by
  obtain ⟨p, e, R, s, m, args, below, meth, c, A, Q⟩ := X
  obtain ⟨hx, hb, hml, hown, hts, hlk, hrt, hK, hnw, hA, hR⟩ := C
  intro H locs ls hP hD hS hl
  exact lv_lor hx hb hdg (kk H locs ls hP hD hS hl)
theorem mg_lshl (C : Cx E X cc nL own ret fr lo rc rs) {x : Int64} {y : Int32} (hdg : decode cc pc = .ok (.lshl, 1))  (kk : GG E X ws k n (pc + 1) lv (.long (x <<< (y.toInt64 &&& 63)) :: rest)) : GG E X ws k n pc lv (.int y :: .long x :: rest) := by
  obtain ⟨p, e, R, s, m, args, below, meth, c, A, Q⟩ := X
  obtain ⟨hx, hb, hml, hown, hts, hlk, hrt, hK, hnw, hA, hR⟩ := C
  intro H locs ls hP hD hS hl
  exact lv_lshl hx hb hdg rfl (kk H locs ls hP hD hS hl)
theorem mg_lshr (C : Cx E X cc nL own ret fr lo rc rs) {x : Int64} {y : Int32} (hdg : decode cc pc = .ok (.lshr, 1))  (kk : GG E X ws k n (pc + 1) lv (.long (x >>> (y.toInt64 &&& 63)) :: rest)) : GG E X ws k n pc lv (.int y :: .long x :: rest) := by
  obtain ⟨p, e, R, s, m, args, below, meth, c, A, Q⟩ := X
  obtain ⟨hx, hb, hml, hown, hts, hlk, hrt, hK, hnw, hA, hR⟩ := C
  intro H locs ls hP hD hS hl
  exact lv_lshr hx hb hdg rfl (kk H locs ls hP hD hS hl)
theorem mg_i2l (C : Cx E X cc nL own ret fr lo rc rs) {x : Int32} (hdg : decode cc pc = .ok (.i2l, 1))  (kk : GG E X ws k n (pc + 1) lv (.long x.toInt64 :: rest)) : GG E X ws k n pc lv (.int x :: rest) := by
  obtain ⟨p, e, R, s, m, args, below, meth, c, A, Q⟩ := X
  obtain ⟨hx, hb, hml, hown, hts, hlk, hrt, hK, hnw, hA, hR⟩ := C
  intro H locs ls hP hD hS hl
  exact lv_i2l hx hb hdg rfl (kk H locs ls hP hD hS hl)
theorem mg_l2i (C : Cx E X cc nL own ret fr lo rc rs) {x : Int64} (hdg : decode cc pc = .ok (.l2i, 1))  (kk : GG E X ws k n (pc + 1) lv (.int x.toInt32 :: rest)) : GG E X ws k n pc lv (.long x :: rest) := by
  obtain ⟨p, e, R, s, m, args, below, meth, c, A, Q⟩ := X
  obtain ⟨hx, hb, hml, hown, hts, hlk, hrt, hK, hnw, hA, hR⟩ := C
  intro H locs ls hP hD hS hl
  exact lv_l2i hx hb hdg rfl (kk H locs ls hP hD hS hl)
theorem mg_lcmp (C : Cx E X cc nL own ret fr lo rc rs) {x y : Int64} (hdg : decode cc pc = .ok (.lcmp, 1))  (kk : GG E X ws k n (pc + 1) lv (.int (lg_cmp x y) :: rest)) : GG E X ws k n pc lv (.long y :: .long x :: rest) := by
  obtain ⟨p, e, R, s, m, args, below, meth, c, A, Q⟩ := X
  obtain ⟨hx, hb, hml, hown, hts, hlk, hrt, hK, hnw, hA, hR⟩ := C
  intro H locs ls hP hD hS hl
  exact W.lcmp hx hb hdg (kk H locs ls hP hD hS hl)
theorem mg_dup (C : Cx E X cc nL own ret fr lo rc rs) {va : Value}  (hdg : decode cc pc = .ok (.dup, 1)) (h1 : va.category = 1) (kk : GG E X ws k n (pc + 1) lv (va :: va :: rest)) : GG E X ws k n pc lv (va :: rest) := by
  obtain ⟨p, e, R, s, m, args, below, meth, c, A, Q⟩ := X
  obtain ⟨hx, hb, hml, hown, hts, hlk, hrt, hK, hnw, hA, hR⟩ := C
  intro H locs ls hP hD hS hl
  exact lv_dup hx hb hdg h1 (kk H locs ls hP hD hS hl)
theorem mg_pop (C : Cx E X cc nL own ret fr lo rc rs) {va : Value}  (hdg : decode cc pc = .ok (.pop, 1)) (h1 : va.category = 1) (kk : GG E X ws k n (pc + 1) lv (rest)) : GG E X ws k n pc lv (va :: rest) := by
  obtain ⟨p, e, R, s, m, args, below, meth, c, A, Q⟩ := X
  obtain ⟨hx, hb, hml, hown, hts, hlk, hrt, hK, hnw, hA, hR⟩ := C
  intro H locs ls hP hD hS hl
  exact lv_pop hx hb hdg h1 (kk H locs ls hP hD hS hl)
theorem mg_pop2 (C : Cx E X cc nL own ret fr lo rc rs) {va : Value}  (hdg : decode cc pc = .ok (.pop2, 1)) (h1 : va.category = 2) (kk : GG E X ws k n (pc + 1) lv (rest)) : GG E X ws k n pc lv (va :: rest) := by
  obtain ⟨p, e, R, s, m, args, below, meth, c, A, Q⟩ := X
  obtain ⟨hx, hb, hml, hown, hts, hlk, hrt, hK, hnw, hA, hR⟩ := C
  intro H locs ls hP hD hS hl
  exact lv_pop2_2 hx hb hdg h1 (kk H locs ls hP hD hS hl)
theorem mg_dup_x1 (C : Cx E X cc nL own ret fr lo rc rs) {va vb : Value}  (hdg : decode cc pc = .ok (.dup_x1, 1)) (h1 : va.category = 1) (h2 : vb.category = 1) (kk : GG E X ws k n (pc + 1) lv (va :: vb :: va :: rest)) : GG E X ws k n pc lv (va :: vb :: rest) := by
  obtain ⟨p, e, R, s, m, args, below, meth, c, A, Q⟩ := X
  obtain ⟨hx, hb, hml, hown, hts, hlk, hrt, hK, hnw, hA, hR⟩ := C
  intro H locs ls hP hD hS hl
  exact lv_dup_x1 hx hb hdg h1 h2 (kk H locs ls hP hD hS hl)
theorem mg_dup2_11 (C : Cx E X cc nL own ret fr lo rc rs) {va vb : Value}  (hdg : decode cc pc = .ok (.dup2, 1)) (h1 : va.category = 1) (h2 : vb.category = 1) (kk : GG E X ws k n (pc + 1) lv (va :: vb :: va :: vb :: rest)) : GG E X ws k n pc lv (va :: vb :: rest) := by
  obtain ⟨p, e, R, s, m, args, below, meth, c, A, Q⟩ := X
  obtain ⟨hx, hb, hml, hown, hts, hlk, hrt, hK, hnw, hA, hR⟩ := C
  intro H locs ls hP hD hS hl
  exact lv_dup2_11 hx hb hdg h1 h2 (kk H locs ls hP hD hS hl)
theorem mg_dup_x2 (C : Cx E X cc nL own ret fr lo rc rs) {va vb vd : Value}  (hdg : decode cc pc = .ok (.dup_x2, 1)) (h1 : va.category = 1) (h2 : vb.category = 1) (h3 : vd.category = 1) (kk : GG E X ws k n (pc + 1) lv (va :: vb :: vd :: va :: rest)) : GG E X ws k n pc lv (va :: vb :: vd :: rest) := by
  obtain ⟨p, e, R, s, m, args, below, meth, c, A, Q⟩ := X
  obtain ⟨hx, hb, hml, hown, hts, hlk, hrt, hK, hnw, hA, hR⟩ := C
  intro H locs ls hP hD hS hl
  exact lv_dup_x2 hx hb hdg h1 h2 h3 (kk H locs ls hP hD hS hl)
theorem mg_if_eq (C : Cx E X cc nL own ret fr lo rc rs) {x : Int32} {off : Int} (tgt : Nat) (hdg : decode cc pc = .ok (.ifCond .eq off, 3)) (ht : (pc : Int) + off = (tgt : Int)) (kt : x = 0 → GG E X ws k n tgt lv rest) (kf : ¬ x = 0 → GG E X ws k n (pc + 3) lv rest) : GG E X ws k n pc lv (.int x :: rest) := by
  obtain ⟨p, e, R, s, m, args, below, meth, c, A, Q⟩ := X
  obtain ⟨hx, hb, hml, hown, hts, hlk, hrt, hK, hnw, hA, hR⟩ := C
  intro H locs ls hP hD hS hl
  exact lv_if_eq hx hb hdg ht (fun h => kt h H locs ls hP hD hS hl) (fun h => kf h H locs ls hP hD hS hl)
theorem mg_icmp_eq (C : Cx E X cc nL own ret fr lo rc rs) {x y : Int32} {off : Int} (tgt : Nat) (hdg : decode cc pc = .ok (.if_icmp .eq off, 3)) (ht : (pc : Int) + off = (tgt : Int)) (kt : x = y → GG E X ws k n tgt lv rest) (kf : ¬ x = y → GG E X ws k n (pc + 3) lv rest) : GG E X ws k n pc lv (.int y :: .int x :: rest) := by
  obtain ⟨p, e, R, s, m, args, below, meth, c, A, Q⟩ := X
  obtain ⟨hx, hb, hml, hown, hts, hlk, hrt, hK, hnw, hA, hR⟩ := C
  intro H locs ls hP hD hS hl
  exact lv_icmp_eq hx hb hdg ht (fun h => kt h H locs ls hP hD hS hl) (fun h => kf h H locs ls hP hD hS hl)
theorem mg_if_ne (C : Cx E X cc nL own ret fr lo rc rs) {x : Int32} {off : Int} (tgt : Nat) (hdg : decode cc pc = .ok (.ifCond .ne off, 3)) (ht : (pc : Int) + off = (tgt : Int)) (kt : ¬ x = 0 → GG E X ws k n tgt lv rest) (kf : x = 0 → GG E X ws k n (pc + 3) lv rest) : GG E X ws k n pc lv (.int x :: rest) := by
  obtain ⟨p, e, R, s, m, args, below, meth, c, A, Q⟩ := X
  obtain ⟨hx, hb, hml, hown, hts, hlk, hrt, hK, hnw, hA, hR⟩ := C
  intro H locs ls hP hD hS hl
  exact lv_if_ne hx hb hdg ht (fun h => kt h H locs ls hP hD hS hl) (fun h => kf h H locs ls hP hD hS hl)
theorem mg_icmp_ne (C : Cx E X cc nL own ret fr lo rc rs) {x y : Int32} {off : Int} (tgt : Nat) (hdg : decode cc pc = .ok (.if_icmp .ne off, 3)) (ht : (pc : Int) + off = (tgt : Int)) (kt : ¬ x = y → GG E X ws k n tgt lv rest) (kf : x = y → GG E X ws k n (pc + 3) lv rest) : GG E X ws k n pc lv (.int y :: .int x :: rest) := by
  obtain ⟨p, e, R, s, m, args, below, meth, c, A, Q⟩ := X
  obtain ⟨hx, hb, hml, hown, hts, hlk, hrt, hK, hnw, hA, hR⟩ := C
  intro H locs ls hP hD hS hl
  exact lv_icmp_ne hx hb hdg ht (fun h => kt h H locs ls hP hD hS hl) (fun h => kf h H locs ls hP hD hS hl)
theorem mg_if_lt (C : Cx E X cc nL own ret fr lo rc rs) {x : Int32} {off : Int} (tgt : Nat) (hdg : decode cc pc = .ok (.ifCond .lt off, 3)) (ht : (pc : Int) + off = (tgt : Int)) (kt : x < 0 → GG E X ws k n tgt lv rest) (kf : ¬ x < 0 → GG E X ws k n (pc + 3) lv rest) : GG E X ws k n pc lv (.int x :: rest) := by
  obtain ⟨p, e, R, s, m, args, below, meth, c, A, Q⟩ := X
  obtain ⟨hx, hb, hml, hown, hts, hlk, hrt, hK, hnw, hA, hR⟩ := C
  intro H locs ls hP hD hS hl
  exact lv_if_lt hx hb hdg ht (fun h => kt h H locs ls hP hD hS hl) (fun h => kf h H locs ls hP hD hS hl)
theorem mg_icmp_lt (C : Cx E X cc nL own ret fr lo rc rs) {x y : Int32} {off : Int} (tgt : Nat) (hdg : decode cc pc = .ok (.if_icmp .lt off, 3)) (ht : (pc : Int) + off = (tgt : Int)) (kt : x < y → GG E X ws k n tgt lv rest) (kf : ¬ x < y → GG E X ws k n (pc + 3) lv rest) : GG E X ws k n pc lv (.int y :: .int x :: rest) := by
  obtain ⟨p, e, R, s, m, args, below, meth, c, A, Q⟩ := X
  obtain ⟨hx, hb, hml, hown, hts, hlk, hrt, hK, hnw, hA, hR⟩ := C
  intro H locs ls hP hD hS hl
  exact lv_icmp_lt hx hb hdg ht (fun h => kt h H locs ls hP hD hS hl) (fun h => kf h H locs ls hP hD hS hl)
theorem mg_if_ge (C : Cx E X cc nL own ret fr lo rc rs) {x : Int32} {off : Int} (tgt : Nat) (hdg : decode cc pc = .ok (.ifCond .ge off, 3)) (ht : (pc : Int) + off = (tgt : Int)) (kt : 0 ≤ x → GG E X ws k n tgt lv rest) (kf : ¬ 0 ≤ x → GG E X ws k n (pc + 3) lv rest) : GG E X ws k n pc lv (.int x :: rest) := by
  obtain ⟨p, e, R, s, m, args, below, meth, c, A, Q⟩ := X
  obtain ⟨hx, hb, hml, hown, hts, hlk, hrt, hK, hnw, hA, hR⟩ := C
  intro H locs ls hP hD hS hl
  exact lv_if_ge hx hb hdg ht (fun h => kt h H locs ls hP hD hS hl) (fun h => kf h H locs ls hP hD hS hl)
theorem mg_icmp_ge (C : Cx E X cc nL own ret fr lo rc rs) {x y : Int32} {off : Int} (tgt : Nat) (hdg : decode cc pc = .ok (.if_icmp .ge off, 3)) (ht : (pc : Int) + off = (tgt : Int)) (kt : y ≤ x → GG E X ws k n tgt lv rest) (kf : ¬ y ≤ x → GG E X ws k n (pc + 3) lv rest) : GG E X ws k n pc lv (.int y :: .int x :: rest) := by
  obtain ⟨p, e, R, s, m, args, below, meth, c, A, Q⟩ := X
  obtain ⟨hx, hb, hml, hown, hts, hlk, hrt, hK, hnw, hA, hR⟩ := C
  intro H locs ls hP hD hS hl
  exact lv_icmp_ge hx hb hdg ht (fun h => kt h H locs ls hP hD hS hl) (fun h => kf h H locs ls hP hD hS hl)
theorem mg_if_gt (C : Cx E X cc nL own ret fr lo rc rs) {x : Int32} {off : Int} (tgt : Nat) (hdg : decode cc pc = .ok (.ifCond .gt off, 3)) (ht : (pc : Int) + off = (tgt : Int)) (kt : 0 < x → GG E X ws k n tgt lv rest) (kf : ¬ 0 < x → GG E X ws k n (pc + 3) lv rest) : GG E X ws k n pc lv (.int x :: rest) := by
  obtain ⟨p, e, R, s, m, args, below, meth, c, A, Q⟩ := X
  obtain ⟨hx, hb, hml, hown, hts, hlk, hrt, hK, hnw, hA, hR⟩ := C
  intro H locs ls hP hD hS hl
  exact lv_if_gt hx hb hdg ht (fun h => kt h H locs ls hP hD hS hl) (fun h => kf h H locs ls hP hD hS hl)
theorem mg_icmp_gt (C : Cx E X cc nL own ret fr lo rc rs) {x y : Int32} {off : Int} (tgt : Nat) (hdg : decode cc pc = .ok (.if_icmp .gt off, 3)) (ht : (pc : Int) + off = (tgt : Int)) (kt : y < x → GG E X ws k n tgt lv rest) (kf : ¬ y < x → GG E X ws k n (pc + 3) lv rest) : GG E X ws k n pc lv (.int y :: .int x :: rest) := by
  obtain ⟨p, e, R, s, m, args, below, meth, c, A, Q⟩ := X
  obtain ⟨hx, hb, hml, hown, hts, hlk, hrt, hK, hnw, hA, hR⟩ := C
  intro H locs ls hP hD hS hl
  exact lv_icmp_gt hx hb hdg ht (fun h => kt h H locs ls hP hD hS hl) (fun h => kf h H locs ls hP hD hS hl)
theorem mg_if_le (C : Cx E X cc nL own ret fr lo rc rs) {x : Int32} {off : Int} (tgt : Nat) (hdg : decode cc pc = .ok (.ifCond .le off, 3)) (ht : (pc : Int) + off = (tgt : Int)) (kt : x ≤ 0 → GG E X ws k n tgt lv rest) (kf : ¬ x ≤ 0 → GG E X ws k n (pc + 3) lv rest) : GG E X ws k n pc lv (.int x :: rest) := by
  obtain ⟨p, e, R, s, m, args, below, meth, c, A, Q⟩ := X
  obtain ⟨hx, hb, hml, hown, hts, hlk, hrt, hK, hnw, hA, hR⟩ := C
  intro H locs ls hP hD hS hl
  exact lv_if_le hx hb hdg ht (fun h => kt h H locs ls hP hD hS hl) (fun h => kf h H locs ls hP hD hS hl)
theorem mg_icmp_le (C : Cx E X cc nL own ret fr lo rc rs) {x y : Int32} {off : Int} (tgt : Nat) (hdg : decode cc pc = .ok (.if_icmp .le off, 3)) (ht : (pc : Int) + off = (tgt : Int)) (kt : x ≤ y → GG E X ws k n tgt lv rest) (kf : ¬ x ≤ y → GG E X ws k n (pc + 3) lv rest) : GG E X ws k n pc lv (.int y :: .int x :: rest) := by
  obtain ⟨p, e, R, s, m, args, below, meth, c, A, Q⟩ := X
  obtain ⟨hx, hb, hml, hown, hts, hlk, hrt, hK, hnw, hA, hR⟩ := C
  intro H locs ls hP hD hS hl
  exact lv_icmp_le hx hb hdg ht (fun h => kt h H locs ls hP hD hS hl) (fun h => kf h H locs ls hP hD hS hl)
theorem mg_goto (C : Cx E X cc nL own ret fr lo rc rs) {off : Int} (tgt : Nat) (hdg : decode cc pc = .ok (.goto off, 3)) (ht : (pc : Int) + off = (tgt : Int)) (kk : GG E X ws k n tgt lv rest) : GG E X ws k n pc lv rest := by
  obtain ⟨p, e, R, s, m, args, below, meth, c, A, Q⟩ := X
  obtain ⟨hx, hb, hml, hown, hts, hlk, hrt, hK, hnw, hA, hR⟩ := C
  intro H locs ls hP hD hS hl
  exact lv_goto hx hb hdg ht (kk H locs ls hP hD hS hl)
theorem mg_tabOut (C : Cx E X cc nL own ret fr lo rc rs) {x : Int32} {dflt a b : Int} {offs : Array Int} {len : Nat} (tgt : Nat) (hdg : decode cc pc = .ok (.tableswitch dflt a b offs, len)) (h : x.toInt < a ∨ b < x.toInt) (ht : (pc : Int) + dflt = (tgt : Int)) (kk : GG E X ws k n tgt lv rest) : GG E X ws k n pc lv (.int x :: rest) := by
  obtain ⟨p, e, R, s, m, args, below, meth, c, A, Q⟩ := X
  obtain ⟨hx, hb, hml, hown, hts, hlk, hrt, hK, hnw, hA, hR⟩ := C
  intro H locs ls hP hD hS hl
  exact lv_tableOut hx hb hdg h ht (kk H locs ls hP hD hS hl)
theorem mg_tabIn (C : Cx E X cc nL own ret fr lo rc rs) {x : Int32} {dflt a b off : Int} {offs : Array Int} {len : Nat} (tgt : Nat) (hdg : decode cc pc = .ok (.tableswitch dflt a b offs, len)) (h1 : ¬ x.toInt < a) (h2 : ¬ b < x.toInt) (ho : offs[(x.toInt - a).toNat]? = some off) (ht : (pc : Int) + off = (tgt : Int)) (kk : GG E X ws k n tgt lv rest) : GG E X ws k n pc lv (.int x :: rest) := by
  obtain ⟨p, e, R, s, m, args, below, meth, c, A, Q⟩ := X
  obtain ⟨hx, hb, hml, hown, hts, hlk, hrt, hK, hnw, hA, hR⟩ := C
  intro H locs ls hP hD hS hl
  exact lv_tableIn hx hb hdg h1 h2 ho ht (kk H locs ls hP hD hS hl)
theorem mg_topi {x : Int32} (kk : ∀ y : Int32, y = x → GG E X ws k n pc lv (.int y :: rest)) : GG E X ws k n pc lv (.int x :: rest) := kk x rfl
theorem mg_topl {x : Int64} (kk : ∀ y : Int64, y = x → GG E X ws k n pc lv (.long y :: rest)) : GG E X ws k n pc lv (.long x :: rest) := kk x rfl
theorem mg_v {r : Value} (kk : GG E X ws k n pc lv (r :: rest)) : GG E X ws k n pc lv ((some r).toList ++ rest) := kk
theorem mg_v0 (kk : GG E X ws k n pc lv rest) : GG E X ws k n pc lv ((none : Option Value).toList ++ rest) := kk
theorem mg_as {ws' : va_W} {lv' : List (Nat × Value)} {st' : List Value} (kk : GG E X ws' k n pc lv' st') (h1 : ws = ws') (h2 : lv = lv') (h3 : st = st') : GG E X ws k n pc lv st := by rw [h1, h2, h3]; exact kk
theorem mg_lv {lv' : List (Nat × Value)} (h : ∀ q ∈ lv', q ∈ lv) (kk : GG E X ws k n pc lv' st) : GG E X ws k n pc lv st := by
  obtain ⟨p, e, R, s, m, args, below, meth, c, A, Q⟩ := X
  intro H locs ls hP hD hS hl
  exact kk H locs ls hP hD hS ⟨hl.1, hl.2.1, fun q hq => hl.2.2 q (h q hq)⟩
theorem mg_widen {k' n' : Nat} (h1 : Nat.ble k k' = true) (h2 : Nat.ble n n' = true) (kk : GG E X ws k' n' pc lv st) : GG E X ws k n pc lv st := by
  obtain ⟨p, e, R, s, m, args, below, meth, c, A, Q⟩ := X
  intro H locs ls hP hD hS hl
  exact W.widen (Nat.le_of_ble_eq_true h1) (Nat.le_of_ble_eq_true h2) (kk H locs ls hP hD hS hl)
theorem mg_widen' {k' n' : Nat} (h1 : k ≤ k') (h2 : n ≤ n') (kk : GG E X ws k' n' pc lv st) : GG E X ws k n pc lv st := by
  obtain ⟨p, e, R, s, m, args, below, meth, c, A, Q⟩ := X
  intro H locs ls hP hD hS hl
  exact W.widen h1 h2 (kk H locs ls hP hD hS hl)
/-- another order of the cells, or fewer -/
theorem mg_by {ws' : va_W} (g : Nat → Nat) (hg : ∀ (i : Nat) (q : Nat × va_E), ws'[i]? = some q → ws[g i]? = some q) (hi : ∀ i j : Nat, i < ws'.length → j < ws'.length → g i = g j → i = j) (kk : GG E X ws' k n pc lv st) : GG E X ws k n pc lv st := by
  obtain ⟨p, e, R, s, m, args, below, meth, c, A, Q⟩ := X
  intro H locs ls hP hD hS hl
  exact kk H locs ls (hP.by g hg) (hD.by g hg hi) hS hl
theorem mg_drop2 {x y : Nat × va_E} (kk : GG E X (x :: ws) k n pc lv st) : GG E X (x :: y :: ws) k n pc lv st := by
  refine mg_by (fun i => if i = 0 then 0 else i + 1) ?_ ?_ kk
  · intro i q hq
    cases i with
    | zero => simpa using hq
    | succ i => simpa using hq
  · intro i j _ _ h
    by_cases hi : i = 0 <;> by_cases hj : j = 0 <;> simp [hi, hj] at h ⊢
    · exact h
variable {j : Nat}
theorem mg_get (C : Cx E X cc nL own ret fr lo rc rs) {Cn : String} {T : u_T} {N ci idx : Nat} (hin : ∀ w ∈ u_ws Cn T N, w ∈ gtbl) (hlk2 : Cond.fieldLink own idx (T j).1 (T j).2.1 (T j).2.2.1 ∈ gtbl) (hc : vwCl[ci]? = some (Cn, T, N)) (hj : Nat.blt j N = true) (q0 : Nat) {a : Nat} {fs : List Value} (he : ws[q0]? = some (a, .inr (ci, fs))) {v : Value} (hv : fs[j]? = some v) (hdg : decode cc pc = .ok (.getfield idx, 3)) (kk : GG E X ws k n (pc + 3) lv (v :: rest)) : GG E X ws k n pc lv (.ref a :: rest) := by
  obtain ⟨p, e, R, s, m, args, below, meth, c, A, Q⟩ := X
  obtain ⟨hx, hb, hml, hown, hts, hlk, hrt, hK, hnw, hA, hR⟩ := C
  intro H locs ls hP hD hS hl
  exact va_get hx hb hts hin hown hK hP q0 he hc j (Nat.le_of_ble_eq_true hj) (hts _ hlk2) (fun _ h9 => h9) hv hdg (kk H locs ls hP hD hS hl)
theorem mg_getN (C : Cx E X cc nL own ret fr lo rc rs) {Cn : String} {T : u_T} {N ci idx : Nat} {host : String} (hin : ∀ w ∈ u_ws Cn T N, w ∈ gtbl) (hlk2 : Cond.fieldLinkNest own idx (T j).1 (T j).2.1 (T j).2.2.1 host ∈ lw_tbl) (hc : vwCl[ci]? = some (Cn, T, N)) (hj : Nat.blt j N = true) (q0 : Nat) {a : Nat} {fs : List Value} (he : ws[q0]? = some (a, .inr (ci, fs))) {v : Value} (hv : fs[j]? = some v) (hdg : decode cc pc = .ok (.getfield idx, 3)) (kk : GG E X ws k n (pc + 3) lv (v :: rest)) : GG E X ws k n pc lv (.ref a :: rest) := by
  obtain ⟨p, e, R, s, m, args, below, meth, c, A, Q⟩ := X
  obtain ⟨hx, hb, hml, hown, hts, hlk, hrt, hK, hnw, hA, hR⟩ := C
  intro H locs ls hP hD hS hl
  exact va_getN hx hb hts hin hown hK hP q0 he hc j (Nat.le_of_ble_eq_true hj) (va_Nw.use rfl (hnw _ hlk2 rfl)) (fun _ h9 => h9) hv hdg (kk H locs ls hP hD hS hl)
theorem mg_put (C : Cx E X cc nL own ret fr lo rc rs) {Cn : String} {T : u_T} {N ci idx : Nat} (hin : ∀ w ∈ u_ws Cn T N, w ∈ gtbl) (hlk2 : Cond.fieldLink own idx (T j).1 (T j).2.1 (T j).2.2.1 ∈ gtbl) (hc : vwCl[ci]? = some (Cn, T, N)) (hj : Nat.blt j N = true) (ty0 : Nat → FieldType) (hty : ∀ k, k < N → parseFieldDescriptor (T k).2.2.1 = some (ty0 k)) (hnm : ∀ a, a < N → ∀ b, b < N → a ≠ b → (T a).2.1 ≠ (T b).2.1) (hfin : (T j).2.2.2 = false) (q0 : Nat) {a : Nat} {fs : List Value} (he : ws[q0]? = some (a, .inr (ci, fs))) {v : Value} (hn : narrow (ty0 j) v = v) (hfit : fits (ty0 j) v = true) (hll : Nat.blt j fs.length = true) (hdg : decode cc pc = .ok (.putfield idx, 3)) {ws' : va_W} (hws : ws.set q0 (a, .inr (ci, fs.set j v)) = ws') (kk : GG E X ws' k n (pc + 3) lv rest) : GG E X ws k n pc lv (v :: .ref a :: rest) := by
  obtain ⟨p, e, R, s, m, args, below, meth, c, A, Q⟩ := X
  obtain ⟨hx, hb, hml, hown, hts, hlk, hrt, hK, hnw, hA, hR⟩ := C
  intro H locs ls hP hD hS hl
  subst hws
  exact va_put hx hb hts hin ty0 hty hnm hown hK hP hD hS q0 he hc j (Nat.le_of_ble_eq_true hj) (hts _ hlk2) (fun _ h9 => h9) hfin (hty j (Nat.le_of_ble_eq_true hj)) hn hfit (Nat.le_of_ble_eq_true hll) hdg (fun H1 locs1 hP1 hD1 hS1 => kk H1 locs1 ls hP1 hD1 hS1 hl)
theorem mg_putN (C : Cx E X cc nL own ret fr lo rc rs) {Cn : String} {T : u_T} {N ci idx : Nat} {host : String} (hin : ∀ w ∈ u_ws Cn T N, w ∈ gtbl) (hlk2 : Cond.fieldLinkNest own idx (T j).1 (T j).2.1 (T j).2.2.1 host ∈ lw_tbl) (hc : vwCl[ci]? = some (Cn, T, N)) (hj : Nat.blt j N = true) (ty0 : Nat → FieldType) (hty : ∀ k, k < N → parseFieldDescriptor (T k).2.2.1 = some (ty0 k)) (hnm : ∀ a, a < N → ∀ b, b < N → a ≠ b → (T a).2.1 ≠ (T b).2.1) (hfin : (T j).2.2.2 = false) (q0 : Nat) {a : Nat} {fs : List Value} (he : ws[q0]? = some (a, .inr (ci, fs))) {v : Value} (hn : narrow (ty0 j) v = v) (hfit : fits (ty0 j) v = true) (hll : Nat.blt j fs.length = true) (hdg : decode cc pc = .ok (.putfield idx, 3)) {ws' : va_W} (hws : ws.set q0 (a, .inr (ci, fs.set j v)) = ws') (kk : GG E X ws' k n (pc + 3) lv rest) : GG E X ws k n pc lv (v :: .ref a :: rest) := by
  obtain ⟨p, e, R, s, m, args, below, meth, c, A, Q⟩ := X
  obtain ⟨hx, hb, hml, hown, hts, hlk, hrt, hK, hnw, hA, hR⟩ := C
  intro H locs ls hP hD hS hl
  subst hws
  exact va_putN hx hb hts hin ty0 hty hnm hown hK hP hD hS q0 he hc j (Nat.le_of_ble_eq_true hj) (va_Nw.use rfl (hnw _ hlk2 rfl)) (fun _ h9 => h9) hfin (hty j (Nat.le_of_ble_eq_true hj)) hn hfit (Nat.le_of_ble_eq_true hll) hdg (fun H1 locs1 hP1 hD1 hS1 => kk H1 locs1 ls hP1 hD1 hS1 hl)
theorem mg_putF (C : Cx E X cc nL own ret fr lo rc rs) {Cn : String} {T : u_T} {N ci idx : Nat} (hin : ∀ w ∈ u_ws Cn T N, w ∈ gtbl) (hlk2 : Cond.fieldLink own idx (T j).1 (T j).2.1 (T j).2.2.1 ∈ gtbl) (hc : vwCl[ci]? = some (Cn, T, N)) (hj : Nat.blt j N = true) (ty0 : Nat → FieldType) (hty : ∀ k, k < N → parseFieldDescriptor (T k).2.2.1 = some (ty0 k)) (hnm : ∀ a, a < N → ∀ b, b < N → a ≠ b → (T a).2.1 ≠ (T b).2.1) (hfin : (T j).2.2.2 = true) (hini : X.2.2.2.2.2.2.2.1.name = "<init>") (hdecl : (T j).1 = own) (q0 : Nat) {a : Nat} {fs : List Value} (he : ws[q0]? = some (a, .inr (ci, fs))) {v : Value} (hn : narrow (ty0 j) v = v) (hfit : fits (ty0 j) v = true) (hll : Nat.blt j fs.length = true) (hdg : decode cc pc = .ok (.putfield idx, 3)) {ws' : va_W} (hws : ws.set q0 (a, .inr (ci, fs.set j v)) = ws') (kk : GG E X ws' k n (pc + 3) lv rest) : GG E X ws k n pc lv (v :: .ref a :: rest) := by
  obtain ⟨p, e, R, s, m, args, below, meth, c, A, Q⟩ := X
  obtain ⟨hx, hb, hml, hown, hts, hlk, hrt, hK, hnw, hA, hR⟩ := C
  intro H locs ls hP hD hS hl
  subst hws
  exact va_putF hx hb hts hin ty0 hty hnm hown hK hP hD hS q0 he hc j (Nat.le_of_ble_eq_true hj) (hts _ hlk2) (fun _ h9 => h9) hfin hini hdecl (hty j (Nat.le_of_ble_eq_true hj)) hn hfit (Nat.le_of_ble_eq_true hll) hdg (fun H1 locs1 hP1 hD1 hS1 => kk H1 locs1 ls hP1 hD1 hS1 hl)
theorem mg_iald (C : Cx E X cc nL own ret fr lo rc rs) (q0 : Nat) {a N : Nat} {f : Nat → Int32} (ha : ws[q0]? = some (a, .inl (E.2.2.1, N, .inl f))) {i : Int32} (hin : vp_in i N) (hdg : decode cc pc = .ok (.iaload, 1)) (kk : GG E X ws k n (pc + 1) lv (.int (f i.toNatClampNeg) :: rest)) : GG E X ws k n pc lv (.int i :: .ref a :: rest) := by
  obtain ⟨p, e, R, s, m, args, below, meth, c, A, Q⟩ := X
  obtain ⟨hx, hb, hml, hown, hts, hlk, hrt, hK, hnw, hA, hR⟩ := C
  intro H locs ls hP hD hS hl
  exact va_iald hx hb hK hP q0 0 ha rfl hin hdg (kk H locs ls hP hD hS hl)
theorem mg_lald (C : Cx E X cc nL own ret fr lo rc rs) (q0 : Nat) {a N : Nat} {f : Nat → Int64} (ha : ws[q0]? = some (a, .inl (E.2.2.2, N, .inr (.inl f)))) {i : Int32} (hin : vp_in i N) (hdg : decode cc pc = .ok (.laload, 1)) (kk : GG E X ws k n (pc + 1) lv (.long (f i.toNatClampNeg) :: rest)) : GG E X ws k n pc lv (.int i :: .ref a :: rest) := by
  obtain ⟨p, e, R, s, m, args, below, meth, c, A, Q⟩ := X
  obtain ⟨hx, hb, hml, hown, hts, hlk, hrt, hK, hnw, hA, hR⟩ := C
  intro H locs ls hP hD hS hl
  exact va_lald hx hb hK hP q0 1 ha rfl hin hdg (kk H locs ls hP hD hS hl)
theorem mg_iast (C : Cx E X cc nL own ret fr lo rc rs) (q0 : Nat) {a N : Nat} {f : Nat → Int32} (ha : ws[q0]? = some (a, .inl (E.2.2.1, N, .inl f))) {i : Int32} {x : Int32} (hin : vp_in i N) (hdg : decode cc pc = .ok (.iastore, 1)) {ws' : va_W} (hws : ws.set q0 (a, .inl (E.2.2.1, N, .inl (upd f i.toNatClampNeg x))) = ws') (kk : GG E X ws' k n (pc + 1) lv rest) : GG E X ws k n pc lv (.int x :: .int i :: .ref a :: rest) := by
  obtain ⟨p, e, R, s, m, args, below, meth, c, A, Q⟩ := X
  obtain ⟨hx, hb, hml, hown, hts, hlk, hrt, hK, hnw, hA, hR⟩ := C
  intro H locs ls hP hD hS hl
  subst hws
  exact va_iast hx hb hK hP hD hS q0 0 ha rfl hin hdg (fun H1 locs1 hP1 hD1 hS1 => kk H1 locs1 ls hP1 hD1 hS1 hl)
theorem mg_last (C : Cx E X cc nL own ret fr lo rc rs) (q0 : Nat) {a N : Nat} {f : Nat → Int64} (ha : ws[q0]? = some (a, .inl (E.2.2.2, N, .inr (.inl f)))) {i : Int32} {x : Int64} (hin : vp_in i N) (hdg : decode cc pc = .ok (.lastore, 1)) {ws' : va_W} (hws : ws.set q0 (a, .inl (E.2.2.2, N, .inr (.inl (vp_updL f i.toNatClampNeg x)))) = ws') (kk : GG E X ws' k n (pc + 1) lv rest) : GG E X ws k n pc lv (.long x :: .int i :: .ref a :: rest) := by
  obtain ⟨p, e, R, s, m, args, below, meth, c, A, Q⟩ := X
  obtain ⟨hx, hb, hml, hown, hts, hlk, hrt, hK, hnw, hA, hR⟩ := C
  intro H locs ls hP hD hS hl
  subst hws
  exact va_last hx hb hK hP hD hS q0 1 ha rfl hin hdg (fun H1 locs1 hP1 hD1 hS1 => kk H1 locs1 ls hP1 hD1 hS1 hl)
theorem mg_alen (C : Cx E X cc nL own ret fr lo rc rs) (q0 : Nat) {a : Nat} {x : vp_A} (ha : ws[q0]? = some (a, .inl (E.2.2.1, x))) {v : Int32} (hv : Int32.ofNat x.1 = v) (hdg : decode cc pc = .ok (.arraylength, 1)) (kk : GG E X ws k n (pc + 1) lv (.int v :: rest)) : GG E X ws k n pc lv (.ref a :: rest) := by
  obtain ⟨p, e, R, s, m, args, below, meth, c, A, Q⟩ := X
  obtain ⟨hx, hb, hml, hown, hts, hlk, hrt, hK, hnw, hA, hR⟩ := C
  intro H locs ls hP hD hS hl
  exact va_alen hx hb hK hP q0 0 ha (ty := .int) rfl hv hdg (kk H locs ls hP hD hS hl)
theorem rot_P {D : va_G} {cl : List vw_C} {ws : va_W} {x : Nat × va_E} {H : Heap} (h : va_P D cl (ws ++ [x]) H) : va_P D cl (x :: ws) H := by
  intro i q hq
  cases i with
  | zero => exact h ws.length q (by simpa using hq)
  | succ i =>
    have hq2 : ws[i]? = some q := by simpa using hq
    have hlt : i < ws.length := (List.getElem?_eq_some_iff.mp hq2).1
    exact h i q (by rw [List.getElem?_append_left hlt]; exact hq2)
theorem rot_D {A : Nat → Prop} {ws : va_W} {x : Nat × va_E} (h : va_D A (ws ++ [x])) : va_D A (x :: ws) := by
  refine h.by (fun i => if i = 0 then ws.length else i - 1) ?_ ?_
  · intro i q hq
    cases i with
    | zero => simpa using hq
    | succ i =>
      have hq2 : ws[i]? = some q := by simpa using hq
      have hlt : i < ws.length := (List.getElem?_eq_some_iff.mp hq2).1
      simp only [Nat.succ_ne_zero, if_false, Nat.add_sub_cancel, Nat.add_one_ne_zero]
      rw [List.getElem?_append_left hlt]; exact hq2
  · intro i j hi hj hij
    simp only [List.length_cons] at hi hj
    by_cases h1 : i = 0 <;> by_cases h2 : j = 0 <;> simp only [h1, h2, if_true, if_false] at hij ⊢ <;> omega
theorem mg_newi (C : Cx E X cc nL own ret fr lo rc rs) {x : Int32} {N : Nat} (harr : Cond.arrayClass .int ∈ gtbl) (hn : ¬ x < 0) (hN : x.toNatClampNeg = N) (hby : N * componentBytes .int ≤ 536870912) (hce : k + 1 ≤ rc) (hsl : n + N ≤ rs) (hdg : decode cc pc = .ok (.newarray .int, 2)) (kk : ∀ q : Nat, GG E X ((q, .inl (E.2.2.1, N, .inl (fun _ => 0))) :: ws) (k + 1) (n + N) (pc + 2) lv (.ref q :: rest)) : GG E X ws k n pc lv (.int x :: rest) := by
  obtain ⟨p, e, R, s, m, args, below, meth, c, A, Q⟩ := X
  obtain ⟨hx, hb, hml, hown, hts, hlk, hrt, hK, hnw, hA, hR⟩ := C
  intro H locs ls hP hD hS hl
  refine va_newa (atype := .int) (ty := .int) (a0 := (N, .inl (fun _ => 0))) hx hb (hts _ harr) rfl hK hP hD hS hA (fun _ => rfl) hn hN hby (by rw [hR]; exact hce) (by rw [hR]; exact hsl) hdg (fun q cA H1 hK1 hP1 hD1 hS1 => ?_)
  have e1 : va_RA s cA .int := (hK1.2 2 (cA, .int) rfl).2
  have e2 : va_RA s E.2.2.1 .int := (hK.2 0 (E.2.2.1, .int) rfl).2
  have e3 : cA = E.2.2.1 := Option.some.inj ((show s.vm.findClass _ = some cA from e1).symm.trans e2)
  subst e3
  exact kk q H1 locs ls (rot_P hP1) (rot_D hD1) hS1 hl
theorem mg_newl (C : Cx E X cc nL own ret fr lo rc rs) {x : Int32} {N : Nat} (harr : Cond.arrayClass .long ∈ gtbl) (hn : ¬ x < 0) (hN : x.toNatClampNeg = N) (hby : N * componentBytes .long ≤ 536870912) (hce : k + 1 ≤ rc) (hsl : n + N ≤ rs) (hdg : decode cc pc = .ok (.newarray .long, 2)) (kk : ∀ q : Nat, GG E X ((q, .inl (E.2.2.2, N, .inr (.inl (fun _ => 0)))) :: ws) (k + 1) (n + N) (pc + 2) lv (.ref q :: rest)) : GG E X ws k n pc lv (.int x :: rest) := by
  obtain ⟨p, e, R, s, m, args, below, meth, c, A, Q⟩ := X
  obtain ⟨hx, hb, hml, hown, hts, hlk, hrt, hK, hnw, hA, hR⟩ := C
  intro H locs ls hP hD hS hl
  refine va_newa (atype := .long) (ty := .long) (a0 := (N, .inr (.inl (fun _ => 0)))) hx hb (hts _ harr) rfl hK hP hD hS hA (fun _ => rfl) hn hN hby (by rw [hR]; exact hce) (by rw [hR]; exact hsl) hdg (fun q cA H1 hK1 hP1 hD1 hS1 => ?_)
  have e1 : va_RA s cA .long := (hK1.2 2 (cA, .long) rfl).2
  have e2 : va_RA s E.2.2.2 .long := (hK.2 1 (E.2.2.2, .long) rfl).2
  have e3 : cA = E.2.2.2 := Option.some.inj ((show s.vm.findClass _ = some cA from e1).symm.trans e2)
  subst e3
  exact kk q H1 locs ls (rot_P hP1) (rot_D hD1) hS1 hl
theorem mg_new (C : Cx E X cc nL own ret fr lo rc rs) {Cn : String} {T : u_T} {N ci idx : Nat} (hin : ∀ w ∈ u_ws Cn T N, w ∈ gtbl) (ty : Nat → FieldType) (hty : ∀ k, k < N → parseFieldDescriptor (T k).2.2.1 = some (ty k)) (hw : Cond.classLink own idx Cn ∈ gtbl ∧ Cond.instantiable Cn N ∈ gtbl ∧ Cond.initialized Cn ∈ gtbl) (hc : vwCl[ci]? = some (Cn, T, N)) {fs : List Value} (hfs : (List.range N).map (fun j => defaultValue (ty j)) = fs) (hce : k + 1 ≤ rc) (hsl : n + N ≤ rs) (hdg : decode cc pc = .ok (.new idx, 3)) (kk : ∀ q : Nat, GG E X ((q, .inr (ci, fs)) :: ws) (k + 1) (n + N) (pc + 3) lv (.ref q :: rest)) : GG E X ws k n pc lv rest := by
  obtain ⟨p, e, R, s, m, args, below, meth, c, A, Q⟩ := X
  obtain ⟨hx, hb, hml, hown, hts, hlk, hrt, hK, hnw, hA, hR⟩ := C
  intro H locs ls hP hD hS hl
  have hfs2 : ∀ j, j < N → defaultValue (ty j) = vp_V fs j := by
    intro j hj
    rw [← hfs]
    simp [vp_V, List.getD_eq_getElem?_getD, hj]
  exact va_new hx hb hts hin ty hty hown (hts _ hw.1) (hts _ hw.2.1) (hts _ hw.2.2) hK hP hD hS hA hc hfs2 (by rw [hR]; exact hce) (by rw [hR]; exact hsl) hdg (fun q H1 hP1 hD1 hS1 => kk q H1 locs ls (rot_P hP1) (rot_D hD1) hS1 hl)
theorem mg_objInit (C : Cx E X cc nL own ret fr lo rc rs) {idx a : Nat} (hw : Cond.methodLink own idx Lib.objectInit ∈ gtbl ∧ Cond.instanceMethod Lib.objectInit ∈ gtbl ∧ Cond.code Lib.objectInit ⟨#[0xb1]⟩ 1 none ∈ gtbl) (hfr : 1 ≤ fr) (hlo : (rest.map fun v => v.category).sum + 12 ≤ lo) (hdg : decode cc pc = .ok (.invokespecial idx, 3)) (kk : GG E X ws k n (pc + 3) lv rest) : GG E X ws k n pc lv (.ref a :: rest) := by
  obtain ⟨p, e, R, s, m, args, below, meth, c, A, Q⟩ := X
  obtain ⟨hx, hb, hml, hown, hts, hlk, hrt, hK, hnw, hA, hR⟩ := C
  intro H locs ls hP hD hS hl
  refine W.objInit hx hb hown (hts _ hw.1) (hts _ hw.2.1) (hts _ hw.2.2) rfl hl.1 rfl hdg (by rw [hR]; exact hfr) (by rw [hR]; show 2 * 0 + _ + 12 ≤ lo; omega) ?_
  exact kk H locs ls hP hD hS hl
theorem mg_iret (C : Cx E X cc nL own (some .int) fr lo rc rs) {Z : Option Value → va_W → Prop} (hQ : Rt E X Z k n) {v : Int32} (hdg : decode cc pc = .ok (.ireturn, 1)) (hz : Z (some (.int v)) ws) : GG E X ws k n pc lv [.int v] := by
  obtain ⟨p, e, R, s, m, args, below, meth, c, A, Q⟩ := X
  obtain ⟨hx, hb, hml, hown, hts, hlk, hrt, hK, hnw, hA, hR⟩ := C
  intro H locs ls hP hD hS hl
  have hQ2 : Q = MQ below (QQ E Z A) args s k n A := hQ
  rw [hQ2]
  exact W.iret hx hb hrt (fun t ht hW => ⟨⟨_, ws, rfl, hz, by rw [ht]; exact hP, va_K.moved hW.alike hK, hD⟩, hS.F ht⟩) hS.2.2 hdg
theorem mg_lret (C : Cx E X cc nL own (some .long) fr lo rc rs) {Z : Option Value → va_W → Prop} (hQ : Rt E X Z k n) {v : Int64} (hdg : decode cc pc = .ok (.lreturn, 1)) (hz : Z (some (.long v)) ws) : GG E X ws k n pc lv [.long v] := by
  obtain ⟨p, e, R, s, m, args, below, meth, c, A, Q⟩ := X
  obtain ⟨hx, hb, hml, hown, hts, hlk, hrt, hK, hnw, hA, hR⟩ := C
  intro H locs ls hP hD hS hl
  have hQ2 : Q = MQ below (QQ E Z A) args s k n A := hQ
  rw [hQ2]
  exact W.lret hx hb hrt (fun t ht hW => ⟨⟨_, ws, rfl, hz, by rw [ht]; exact hP, va_K.moved hW.alike hK, hD⟩, hS.F ht⟩) hS.2.2 hdg
theorem mg_zret (C : Cx E X cc nL own (some .boolean) fr lo rc rs) {Z : Option Value → va_W → Prop} (hQ : Rt E X Z k n) {v : Int32} (hnr : narrow .boolean (.int v) = .int v) (hdg : decode cc pc = .ok (.ireturn, 1)) (hz : Z (some (.int v)) ws) : GG E X ws k n pc lv [.int v] := by
  obtain ⟨p, e, R, s, m, args, below, meth, c, A, Q⟩ := X
  obtain ⟨hx, hb, hml, hown, hts, hlk, hrt, hK, hnw, hA, hR⟩ := C
  intro H locs ls hP hD hS hl
  have hQ2 : Q = MQ below (QQ E Z A) args s k n A := hQ
  rw [hQ2]
  exact W.zret hx hb hrt hnr (fun t ht hW => ⟨⟨_, ws, rfl, hz, by rw [ht]; exact hP, va_K.moved hW.alike hK, hD⟩, hS.F ht⟩) hS.2.2 hdg
theorem mg_vret (C : Cx E X cc nL own none fr lo rc rs) {Z : Option Value → va_W → Prop} (hQ : Rt E X Z k n) (hdg : decode cc pc = .ok (.return_, 1)) (hz : Z none ws) : GG E X ws k n pc lv [] := by
  obtain ⟨p, e, R, s, m, args, below, meth, c, A, Q⟩ := X
  obtain ⟨hx, hb, hml, hown, hts, hlk, hrt, hK, hnw, hA, hR⟩ := C
  intro H locs ls hP hD hS hl
  have hQ2 : Q = MQ below (QQ E Z A) args s k n A := hQ
  rw [hQ2]
  exact W.vret hx hb hrt (fun t ht hW => ⟨⟨_, ws, rfl, hz, by rw [ht]; exact hP, va_K.moved hW.alike hK, hD⟩, hS.F ht⟩) hS.2.2 hdg
end MG
theorem Ct.of {E : En} {M : Mth} {d mc ms : Nat} {av : List Value} {ws : va_W} {Z : Option Value → va_W → Prop} (hpl : plainName M.1.cls = true) (hlen : (lg_sl av).length ≤ M.2.2.1)
    (body : ∀ X : Fx, Cx E X M.2.1 M.2.2.1 M.1.cls M.2.2.2 d (40 * d) mc ms → Rt E X Z mc ms → X.2.2.2.2.2.2.2.1.name = M.1.name → GG E X ws 0 0 0 (lv_args 0 av) []) : Ct E M d mc ms av ws Z := by
  intro sz
  refine Met.ofW (cc := M.2.1) (maxL := M.2.2.1) (ret := M.2.2.2) hpl rfl ?_
  intro p e s m args below meth c s₁ B hml hv
  obtain ⟨rfl, hsz, hP, hK, hD0, hnw⟩ := hv
  have hts := atoms_spec (ws := gws M) B.pre
  have hown : s.vm.findClass M.1.cls = some m.cls := findClass_of_methodNamed B.named
  subst hsz
  have hl := lv_entry av (n := M.2.2.1) hlen
  rw [lg_entry_eq]
  have hD := hD0.self (sz := s.heap.size)
  exact body (p, e, { frames := d, cells := mc, slots := ms, locals := 40 * d }, s, m, av.toArray, below, meth, c, va_A ws s.heap.size, MQ below (QQ E Z (va_A ws s.heap.size)) av.toArray s mc ms (va_A ws s.heap.size))
    ⟨B.exec, B.bytes, hml, hown, fun w hw => hts w (List.mem_cons_of_mem _ hw), B.notSynchronized, B.returns, hK, hnw, fun q h => Or.inr h, rfl⟩ rfl (name_of_methodNamed B.named B.method).1
    s.heap [] _ hP hD va_S.rf (by rw [hml]; exact hl)
/-- weaker ends -/
theorem Ct.mono {E : En} {M : Mth} {d mc ms : Nat} {av : List Value} {ws : va_W} {Z Z' : Option Value → va_W → Prop} (h : Ct E M d mc ms av ws Z) (hz : ∀ v w, Z v w → Z' v w) : Ct E M d mc ms av ws Z' := by
  intro sz p e ha hc hk s m args below hf happ hP hKk
  obtain ⟨kk, o, h1, h2, h3, ⟨⟨v, w, e1, e2, e3⟩, e4⟩, L, hF⟩ := h sz p e ha hc hk s m args below hf happ hP hKk
  exact ⟨kk, o, h1, h2, h3, ⟨⟨v, w, e1, hz v w e2, e3⟩, e4⟩, L, hF⟩
section MC
variable {E : En} {X : Fx} {cc : ByteArray} {nL : Nat} {own : String} {ret : Option FieldType} {fr lo rc rs : Nat} {ws : va_W} {k n pc : Nat} {lv : List (Nat × Value)} {st rest : List Value} {M : Mth} {d mc ms idx : Nat} {As : List Value} {Z : Option Value → va_W → Prop}
theorem ct_blind {E : En} {av : List Value} {sz : Nat} {ws : va_W} : FrameBlind (va_Pc av (fun U => U.heap.size = sz ∧ va_P E.2.1 vwCl ws U.heap ∧ va_K E.2.1 vwCl (tyE E) U ∧ va_D (fun _ => True) ws ∧ NW U)) := by
  intro a U g mk q
  obtain ⟨q0, q1, qP, qK, qD, qN⟩ := q
  exact ⟨q0, q1, qP, va_K.moved (u := U) (U := U.calling g mk a) (Vm.Alike.refl U.vm) qK, qD, NW.same (s := U) (U := U.calling g mk a) rfl qN⟩
theorem va_callg {p : Program} {l : Launch} {e : Env} {R : Room} {s : State} {m : MethodId} {args : Array Value} {below : List Frame} {meth : Method} {c : Code} {H : Heap} {locs : List Loc} {cells slots : Nat} {Q : State → Prop}
    {pc : Nat} {ls : Array Slot} {rest st0 : List Value} {a : Array Value} {A0 A1 : Nat → Prop} {H0 : Heap} {mc ms : Nat} {free : Addr → Prop} {E : En} {Z : Option Value → va_W → Prop}
    (hr : va_Run p l e R s m args below meth c H locs cells slots mc ms (F0 m pc ls st0) rest (QQ E Z A1 a) free) (hS : va_S A0 H0 H locs) (hA : ∀ q, q < H.size → A1 q → A0 q) (hf : ∀ q, free q → A0 q)
    (kk : ∀ (v : Option Value) (w : va_W) (H1 : Heap) (locs1 : List Loc), Z v w → va_P E.2.1 vwCl w H1 → va_D A1 w → va_S A0 H0 H1 locs1 → W p l e R s m args below meth c H1 locs1 (cells + mc) (slots + ms) Q (F0 m (pc + 3) ls (v.toList ++ rest))) : W p l e R s m args below meth c H locs cells slots Q (F0 m pc ls st0) := by
  intro T hT X
  obtain ⟨v, st₀, t, T', L, h0, X', hL, e1, e2, ⟨⟨v', w, hv, hz, hP, hK, hD⟩, hz2, hk⟩, st⟩ := hr T hT X
  cases hv
  rw [h0] at hz2 hk
  obtain ⟨t2, a1, b1⟩ := kk v w T'.heap (locs ++ L) hz (by rw [e1]; exact hP) hD
    ⟨Nat.le_trans hS.1 (by rw [e1]; exact hz2), fun q h1 h2 => by rw [e1, hk q (Nat.lt_of_lt_of_le h1 hS.1) (fun z => h2 (hA q (Nat.lt_of_lt_of_le h1 hS.1) z))]; exact hS.2.1 q h1 h2, fun q hq => by
      rcases List.mem_append.mp hq with h | h
      · exact hS.2.2 q h
      · exact hf _ (hL q h)⟩ T' rfl X'
  exact ⟨t2, st t2 a1, b1⟩
theorem free_self {A0 : Nat → Prop} {ws : va_W} {H0 H : Heap} {locs : List Loc} (hD : va_D A0 ws) (hS : va_S A0 H0 H locs) (hA : ∀ q, H0.size ≤ q → A0 q) : ∀ q, va_A ws H.size q → A0 q := by
  intro q h
  rcases h with ⟨i, x, h⟩ | h
  · exact hD.2 i (q, x) h
  · exact hA q (Nat.le_trans hS.1 h)
abbrev OkM (M : Mth) (np : Nat) : Prop := M.1.cls ≠ "java/lang/invoke/MethodHandle" ∧ M.1.cls ≠ "java/lang/invoke/VarHandle" ∧ (parseMethodDescriptor M.1.desc).map (fun d => d.parameters.length) = some np
abbrev RoomOk (d mc ms nl fr lo rc rs k n : Nat) : Prop := (Nat.ble (d + 1) fr && Nat.ble (8 + (nl + 11) + 40 * d) lo && Nat.ble (k + mc) rc && Nat.ble (n + ms) rs) = true
theorem RoomOk.get {d mc ms nl fr lo rc rs k n : Nat} (h : RoomOk d mc ms nl fr lo rc rs k n) : (d + 1 ≤ fr ∧ 8 + (nl + 11) + 40 * d ≤ lo) ∧ k + mc ≤ rc ∧ n + ms ≤ rs := by
  simp only [RoomOk, Bool.and_eq_true] at h
  exact ⟨⟨Nat.le_of_ble_eq_true h.1.1.1, Nat.le_of_ble_eq_true h.1.1.2⟩, Nat.le_of_ble_eq_true h.1.2, Nat.le_of_ble_eq_true h.2⟩
theorem mg_callV (C : Cx E X cc nL own ret fr lo rc rs) {h : Nat} (K : Ct E M d mc ms (.ref h :: As) ws Z) (O : OkM M As.length ∧ Cond.code M.1 M.2.1 M.2.2.1 M.2.2.2 ∈ gtbl ∧ Cond.initialized M.1.cls ∈ gtbl ∧ Cond.methodLink own idx M.1 ∈ gtbl ∧ Cond.instanceMethod M.1 ∈ gtbl ∧ Cond.selects M.1.cls M.1 M.1 ∈ gtbl) (q0 : Nat) {ci : Nat} {fs : List Value} (hq : ws[q0]? = some (h, .inr (ci, fs))) {T : u_T} {N : Nat} (hc : vwCl[ci]? = some (M.1.cls, T, N)) (hrm : RoomOk d mc ms M.2.2.1 fr lo rc rs k n) (hst : st = As.reverse ++ .ref h :: rest) (hrest : Nat.ble (rest.map fun v => v.category).sum 8 = true) (hdg : decode cc pc = .ok (.invokevirtual idx, 3)) (kk : ∀ v w, Z v w → GG E X w (k + mc) (n + ms) (pc + 3) lv (v.toList ++ rest)) : GG E X ws k n pc lv st := by
  obtain ⟨p, e, R, s, m, args, below, meth, c, A, Q⟩ := X
  obtain ⟨hx, hb, hml, hown, hts, hlk, hrt, hK, hnw, hA, hR⟩ := C
  intro H locs ls hP hD hS hl
  subst hst
  have hrm := hrm.get
  obtain ⟨hO1, hO2, hO3, hO4, hO5⟩ := O
  have hFc := free_self hD hS hA
  subst hR
  refine va_callg (va_runV (As := As) (rest := rest) ⟨hx, hb, hml, hown, hts⟩ (K H.size) ⟨callB_of As.length hts (gws_in hO2) rfl rfl rfl (hts _ hO3) (hts _ hO4) hO1 hrm.1, hts _ hO5.1, hts _ hO5.2⟩ ⟨ct_blind, va_recv hK hP (ci := ci) (q0 := q0) hc hq, fun U hU hW => ⟨rfl, by rw [hU], by rw [hU]; exact hP, va_K.moved hW.alike hK, hD.weaken (fun _ _ _ _ => trivial), NW.warm hW hnw⟩⟩ rfl rfl (hl.1.trans hml) rfl (lv_room (Nat.le_of_ble_eq_true hrest)) hdg hrm.2) hS (fun q _ h => hFc q h) hFc (fun v w H1 locs1 hz hP1 hD1 hS1 => ?_)
  exact kk v w hz H1 locs1 ls hP1 (hD1.weaken (fun _ _ _ h => hFc _ h)) hS1 hl
theorem mg_callS (C : Cx E X cc nL own ret fr lo rc rs) (K : Ct E M d mc ms As ws Z) (O : OkM M As.length ∧ Cond.code M.1 M.2.1 M.2.2.1 M.2.2.2 ∈ gtbl ∧ Cond.initialized M.1.cls ∈ gtbl ∧ Cond.methodLink own idx M.1 ∈ gtbl ∧ Cond.static M.1 ∈ gtbl ∧ True) (hrm : RoomOk d mc ms M.2.2.1 fr lo rc rs k n) (hst : st = As.reverse ++ rest) (hrest : Nat.ble (rest.map fun v => v.category).sum 8 = true) (hdg : decode cc pc = .ok (.invokestatic idx, 3)) (kk : ∀ v w, Z v w → GG E X w (k + mc) (n + ms) (pc + 3) lv (v.toList ++ rest)) : GG E X ws k n pc lv st := by
  obtain ⟨p, e, R, s, m, args, below, meth, c, A, Q⟩ := X
  obtain ⟨hx, hb, hml, hown, hts, hlk, hrt, hK, hnw, hA, hR⟩ := C
  intro H locs ls hP hD hS hl
  subst hst
  have hrm := hrm.get
  obtain ⟨hO1, hO2, hO3, hO4, hO5⟩ := O
  have hFc := free_self hD hS hA
  subst hR
  refine va_callg (va_runS (As := As) (rest := rest) ⟨hx, hb, hml, hown, hts⟩ (K H.size) ⟨callB_of As.length hts (gws_in hO2) rfl rfl rfl (hts _ hO3) (hts _ hO4) hO1 hrm.1, hts _ hO5.1⟩ ⟨ct_blind, fun U hU hW => ⟨rfl, by rw [hU], by rw [hU]; exact hP, va_K.moved hW.alike hK, hD.weaken (fun _ _ _ _ => trivial), NW.warm hW hnw⟩⟩ rfl rfl (hl.1.trans hml) rfl (lv_room (Nat.le_of_ble_eq_true hrest)) hdg hrm.2) hS (fun q _ h => hFc q h) hFc (fun v w H1 locs1 hz hP1 hD1 hS1 => ?_)
  exact kk v w hz H1 locs1 ls hP1 (hD1.weaken (fun _ _ _ h => hFc _ h)) hS1 hl
theorem mg_callI (C : Cx E X cc nL own ret fr lo rc rs) {h : Nat} (K : Ct E M d mc ms (.ref h :: As) ws Z) (O : OkM M As.length ∧ Cond.code M.1 M.2.1 M.2.2.1 M.2.2.2 ∈ gtbl ∧ Cond.initialized M.1.cls ∈ gtbl ∧ Cond.methodLink own idx M.1 ∈ gtbl ∧ Cond.instanceMethod M.1 ∈ gtbl ∧ M.1.name = "<init>") (hrn : M.2.2.2 = none) (hrm : RoomOk d mc ms M.2.2.1 fr lo rc rs k n) (hst : st = As.reverse ++ .ref h :: rest) (hrest : Nat.ble (rest.map fun v => v.category).sum 8 = true) (hdg : decode cc pc = .ok (.invokespecial idx, 3)) (kk : ∀ v w, Z v w → GG E X w (k + mc) (n + ms) (pc + 3) lv (v.toList ++ rest)) : GG E X ws k n pc lv st := by
  obtain ⟨p, e, R, s, m, args, below, meth, c, A, Q⟩ := X
  obtain ⟨hx, hb, hml, hown, hts, hlk, hrt, hK, hnw, hA, hR⟩ := C
  intro H locs ls hP hD hS hl
  obtain ⟨y, bb, nl2, rt⟩ := M
  have hrn2 : rt = none := hrn
  subst hrn2
  subst hst
  have hrm := hrm.get
  obtain ⟨hO1, hO2, hO3, hO4, hO5⟩ := O
  have hFc := free_self hD hS hA
  subst hR
  refine va_callg (va_runI (As := As) (rest := rest) ⟨hx, hb, hml, hown, hts⟩ (K H.size) ⟨callB_of As.length hts (gws_in hO2) rfl rfl rfl (hts _ hO3) (hts _ hO4) hO1 hrm.1, hO5.2, hts _ hO5.1⟩ ⟨ct_blind, fun U hU hW => ⟨rfl, by rw [hU], by rw [hU]; exact hP, va_K.moved hW.alike hK, hD.weaken (fun _ _ _ _ => trivial), NW.warm hW hnw⟩⟩ rfl rfl (hl.1.trans hml) rfl (lv_room (Nat.le_of_ble_eq_true hrest)) hdg hrm.2) hS (fun q _ h => hFc q h) hFc (fun v w H1 locs1 hz hP1 hD1 hS1 => ?_)
  exact kk v w hz H1 locs1 ls hP1 (hD1.weaken (fun _ _ _ h => hFc _ h)) hS1 hl
theorem mg_callVN (C : Cx E X cc nL own ret fr lo rc rs) {h : Nat} {host : String} (K : Ct E M d mc ms (.ref h :: As) ws Z) (O : OkM M As.length ∧ Cond.code M.1 M.2.1 M.2.2.1 M.2.2.2 ∈ gtbl ∧ Cond.initialized M.1.cls ∈ gtbl ∧ Cond.methodLinkNest own idx M.1 host ∈ lw_tbl ∧ Cond.instanceMethod M.1 ∈ gtbl ∧ Cond.selects M.1.cls M.1 M.1 ∈ gtbl) (q0 : Nat) {ci : Nat} {fs : List Value} (hq : ws[q0]? = some (h, .inr (ci, fs))) {T : u_T} {N : Nat} (hc : vwCl[ci]? = some (M.1.cls, T, N)) (hrm : RoomOk d mc ms M.2.2.1 fr lo rc rs k n) (hst : st = As.reverse ++ .ref h :: rest) (hrest : Nat.ble (rest.map fun v => v.category).sum 8 = true) (hdg : decode cc pc = .ok (.invokevirtual idx, 3)) (kk : ∀ v w, Z v w → GG E X w (k + mc) (n + ms) (pc + 3) lv (v.toList ++ rest)) : GG E X ws k n pc lv st := by
  obtain ⟨p, e, R, s, m, args, below, meth, c, A, Q⟩ := X
  obtain ⟨hx, hb, hml, hown, hts, hlk, hrt, hK, hnw, hA, hR⟩ := C
  intro H locs ls hP hD hS hl
  subst hst
  have hrm := hrm.get
  obtain ⟨hO1, hO2, hO3, hO4, hO5⟩ := O
  have hFc := free_self hD hS hA
  subst hR
  refine va_callg (va_runVN (As := As) (rest := rest) ⟨hx, hb, hml, hown, hts⟩ (K H.size) ⟨va_cnB As.length hts (gws_in hO2) rfl rfl rfl (hnw _ hO4 rfl) (hts _ hO3) hO1 hrm.1, hts _ hO5.1, hts _ hO5.2⟩ ⟨ct_blind, va_recv hK hP (ci := ci) (q0 := q0) hc hq, fun U hU hW => ⟨rfl, by rw [hU], by rw [hU]; exact hP, va_K.moved hW.alike hK, hD.weaken (fun _ _ _ _ => trivial), NW.warm hW hnw⟩⟩ rfl rfl (hl.1.trans hml) rfl (lv_room (Nat.le_of_ble_eq_true hrest)) hdg hrm.2) hS (fun q _ h => hFc q h) hFc (fun v w H1 locs1 hz hP1 hD1 hS1 => ?_)
  exact kk v w hz H1 locs1 ls hP1 (hD1.weaken (fun _ _ _ h => hFc _ h)) hS1 hl
theorem mg_callSN (C : Cx E X cc nL own ret fr lo rc rs) {host : String} (K : Ct E M d mc ms As ws Z) (O : OkM M As.length ∧ Cond.code M.1 M.2.1 M.2.2.1 M.2.2.2 ∈ gtbl ∧ Cond.initialized M.1.cls ∈ gtbl ∧ Cond.methodLinkNest own idx M.1 host ∈ lw_tbl ∧ Cond.static M.1 ∈ gtbl ∧ True) (hrm : RoomOk d mc ms M.2.2.1 fr lo rc rs k n) (hst : st = As.reverse ++ rest) (hrest : Nat.ble (rest.map fun v => v.category).sum 8 = true) (hdg : decode cc pc = .ok (.invokestatic idx, 3)) (kk : ∀ v w, Z v w → GG E X w (k + mc) (n + ms) (pc + 3) lv (v.toList ++ rest)) : GG E X ws k n pc lv st := by
  obtain ⟨p, e, R, s, m, args, below, meth, c, A, Q⟩ := X
  obtain ⟨hx, hb, hml, hown, hts, hlk, hrt, hK, hnw, hA, hR⟩ := C
  intro H locs ls hP hD hS hl
  subst hst
  have hrm := hrm.get
  obtain ⟨hO1, hO2, hO3, hO4, hO5⟩ := O
  have hFc := free_self hD hS hA
  subst hR
  refine va_callg (va_runSN (As := As) (rest := rest) ⟨hx, hb, hml, hown, hts⟩ (K H.size) ⟨va_cnB As.length hts (gws_in hO2) rfl rfl rfl (hnw _ hO4 rfl) (hts _ hO3) hO1 hrm.1, hts _ hO5.1, trivial⟩ ⟨ct_blind, fun U hU hW => ⟨rfl, by rw [hU], by rw [hU]; exact hP, va_K.moved hW.alike hK, hD.weaken (fun _ _ _ _ => trivial), NW.warm hW hnw⟩⟩ rfl rfl (hl.1.trans hml) rfl (lv_room (Nat.le_of_ble_eq_true hrest)) hdg hrm.2) hS (fun q _ h => hFc q h) hFc (fun v w H1 locs1 hz hP1 hD1 hS1 => ?_)
  exact kk v w hz H1 locs1 ls hP1 (hD1.weaken (fun _ _ _ h => hFc _ h)) hS1 hl
theorem mg_callIN (C : Cx E X cc nL own ret fr lo rc rs) {h : Nat} {host : String} (K : Ct E M d mc ms (.ref h :: As) ws Z) (O : OkM M As.length ∧ Cond.code M.1 M.2.1 M.2.2.1 M.2.2.2 ∈ gtbl ∧ Cond.initialized M.1.cls ∈ gtbl ∧ Cond.methodLinkNest own idx M.1 host ∈ lw_tbl ∧ Cond.instanceMethod M.1 ∈ gtbl ∧ M.1.name = "<init>") (hrn : M.2.2.2 = none) (hrm : RoomOk d mc ms M.2.2.1 fr lo rc rs k n) (hst : st = As.reverse ++ .ref h :: rest) (hrest : Nat.ble (rest.map fun v => v.category).sum 8 = true) (hdg : decode cc pc = .ok (.invokespecial idx, 3)) (kk : ∀ v w, Z v w → GG E X w (k + mc) (n + ms) (pc + 3) lv (v.toList ++ rest)) : GG E X ws k n pc lv st := by
  obtain ⟨p, e, R, s, m, args, below, meth, c, A, Q⟩ := X
  obtain ⟨hx, hb, hml, hown, hts, hlk, hrt, hK, hnw, hA, hR⟩ := C
  intro H locs ls hP hD hS hl
  obtain ⟨y, bb, nl2, rt⟩ := M
  have hrn2 : rt = none := hrn
  subst hrn2
  subst hst
  have hrm := hrm.get
  obtain ⟨hO1, hO2, hO3, hO4, hO5⟩ := O
  have hFc := free_self hD hS hA
  subst hR
  refine va_callg (va_runIN (As := As) (rest := rest) ⟨hx, hb, hml, hown, hts⟩ (K H.size) ⟨va_cnB As.length hts (gws_in hO2) rfl rfl rfl (hnw _ hO4 rfl) (hts _ hO3) hO1 hrm.1, hO5.2, hts _ hO5.1⟩ ⟨ct_blind, fun U hU hW => ⟨rfl, by rw [hU], by rw [hU]; exact hP, va_K.moved hW.alike hK, hD.weaken (fun _ _ _ _ => trivial), NW.warm hW hnw⟩⟩ rfl rfl (hl.1.trans hml) rfl (lv_room (Nat.le_of_ble_eq_true hrest)) hdg hrm.2) hS (fun q _ h => hFc q h) hFc (fun v w H1 locs1 hz hP1 hD1 hS1 => ?_)
  exact kk v w hz H1 locs1 ls hP1 (hD1.weaken (fun _ _ _ h => hFc _ h)) hS1 hl
end MC
end
section
abbrev mX0_init : Mth := (yX0_init, cX0_init, 2, none)
abbrev mX0_takeAnew : Mth := (yX0_takeAnew, cX0_takeAnew, 6, none)
abbrev mX0_wrongColumn : Mth := (yX0_wrongColumn, cX0_wrongColumn, 4, (some .int))
abbrev mX0_columnBy : Mth := (yX0_columnBy, cX0_columnBy, 4, (some .int))
abbrev mX1_init : Mth := (yX1_init, cX1_init, 1, none)
abbrev mX1_renew : Mth := (yX1_renew, cX1_renew, 4, none)
abbrev mX1_hasCell : Mth := (yX1_hasCell, cX1_hasCell, 3, (some .boolean))
abbrev mX1_place : Mth := (yX1_place, cX1_place, 3, (some .int))
abbrev mX1_sticks : Mth := (yX1_sticks, cX1_sticks, 2, (some .boolean))
abbrev mX1_sticksAtAnother : Mth := (yX1_sticksAtAnother, cX1_sticksAtAnother, 3, (some .boolean))
abbrev mX1_put : Mth := (yX1_put, cX1_put, 3, none)
abbrev mX1_hold : Mth := (yX1_hold, cX1_hold, 3, none)
abbrev mX1_tellCell : Mth := (yX1_tellCell, cX1_tellCell, 3, (some .int))
abbrev mX1_columnSum : Mth := (yX1_columnSum, cX1_columnSum, 4, (some .int))
abbrev mX1_convert : Mth := (yX1_convert, cX1_convert, 2, (some .int))
abbrev mX1_stickingCells : Mth := (yX1_stickingCells, cX1_stickingCells, 4, (some .int))
abbrev mX1_ageAll : Mth := (yX1_ageAll, cX1_ageAll, 4, (some .int))
abbrev mX1_ageOne : Mth := (yX1_ageOne, cX1_ageOne, 2, (some .boolean))
abbrev mX1_pulseTo : Mth := (yX1_pulseTo, cX1_pulseTo, 4, (some .int))
abbrev mX1_addTo : Mth := (yX1_addTo, cX1_addTo, 8, (some .long))
abbrev mX2_init : Mth := (yX2_init, cX2_init, 1, none)
abbrev mX2_seek : Mth := (yX2_seek, cX2_seek, 6, (some .int))
abbrev mX2_begin : Mth := (yX2_begin, cX2_begin, 4, none)
abbrev mX2_inputTable : Mth := (yX2_inputTable, cX2_inputTable, 4, (some .int))
abbrev mX2_shiftOf : Mth := (yX2_shiftOf, cX2_shiftOf, 2, (some .int))
abbrev mX2_openState : Mth := (yX2_openState, cX2_openState, 3, none)
abbrev mX2_cellWith : Mth := (yX2_cellWith, cX2_cellWith, 3, (some .int))
abbrev mX2_meetAllFrom : Mth := (yX2_meetAllFrom, cX2_meetAllFrom, 4, (some .boolean))
abbrev mX2_meetByActs : Mth := (yX2_meetByActs, cX2_meetByActs, 7, (some .boolean))
abbrev mX2_meet : Mth := (yX2_meet, cX2_meet, 6, (some .boolean))
abbrev mX2_keep : Mth := (yX2_keep, cX2_keep, 5, none)
abbrev mX2_addTo : Mth := (yX2_addTo, cX2_addTo, 7, (some .long))
abbrev mX3_init : Mth := (yX3_init, cX3_init, 2, none)
abbrev mX3_exists : Mth := (yX3_exists, cX3_exists, 1, (some .boolean))
abbrev mX3_drop : Mth := (yX3_drop, cX3_drop, 1, none)
abbrev mX3_begin : Mth := (yX3_begin, cX3_begin, 5, none)
abbrev mX3_base : Mth := (yX3_base, cX3_base, 1, (some .int))
abbrev mX3_power : Mth := (yX3_power, cX3_power, 4, (some .int))
abbrev mX3_numberAt : Mth := (yX3_numberAt, cX3_numberAt, 3, (some .int))
abbrev mX3_exchange : Mth := (yX3_exchange, cX3_exchange, 5, (some .int))
abbrev mX3_usedColumns : Mth := (yX3_usedColumns, cX3_usedColumns, 1, (some .int))
abbrev mX3_spellRow : Mth := (yX3_spellRow, cX3_spellRow, 8, none)
abbrev mX3_layAll : Mth := (yX3_layAll, cX3_layAll, 5, (some .int))
abbrev mX3_meshProduct : Mth := (yX3_meshProduct, cX3_meshProduct, 11, (some .long))
abbrev mX3_bitSum : Mth := (yX3_bitSum, cX3_bitSum, 5, (some .int))
abbrev mX3_trueProduct : Mth := (yX3_trueProduct, cX3_trueProduct, 5, (some .long))
abbrev mX3_bitsEnough : Mth := (yX3_bitsEnough, cX3_bitsEnough, 3, (some .int))
abbrev mX3_mapAnew : Mth := (yX3_mapAnew, cX3_mapAnew, 3, (some .int))
abbrev mX3_fillCosts : Mth := (yX3_fillCosts, cX3_fillCosts, 3, none)
abbrev mX3_costOn : Mth := (yX3_costOn, cX3_costOn, 5, (some .int))
abbrev mX3_costWith : Mth := (yX3_costWith, cX3_costWith, 4, (some .int))
abbrev mX3_leastFrom : Mth := (yX3_leastFrom, cX3_leastFrom, 5, (some .int))
abbrev mX3_chooseFirstLeast : Mth := (yX3_chooseFirstLeast, cX3_chooseFirstLeast, 3, none)
abbrev mX3_firstLeastRow : Mth := (yX3_firstLeastRow, cX3_firstLeastRow, 4, (some .int))
abbrev mX3_addTo : Mth := (yX3_addTo, cX3_addTo, 7, (some .long))
abbrev mX4_init : Mth := (yX4_init, cX4_init, 1, none)
abbrev mX4_mesh : Mth := (yX4_mesh, cX4_mesh, 4, (some .int))
abbrev mX4_write : Mth := (yX4_write, cX4_write, 5, (some .int))
abbrev mX4_stick : Mth := (yX4_stick, cX4_stick, 4, (some .int))
abbrev mX4_cell : Mth := (yX4_cell, cX4_cell, 4, (some .int))
abbrev mX4_input : Mth := (yX4_input, cX4_input, 4, (some .int))
abbrev mX4_bits : Mth := (yX4_bits, cX4_bits, 3, (some .int))
abbrev mX4_sum : Mth := (yX4_sum, cX4_sum, 2, (some .int))
abbrev mX4_table : Mth := (yX4_table, cX4_table, 4, (some .int))
abbrev mX4_number : Mth := (yX4_number, cX4_number, 4, (some .int))
abbrev mX4_lay : Mth := (yX4_lay, cX4_lay, 1, (some .int))
abbrev mX4_product : Mth := (yX4_product, cX4_product, 2, (some .long))
abbrev mX4_due : Mth := (yX4_due, cX4_due, 2, (some .long))
abbrev mX4_enough : Mth := (yX4_enough, cX4_enough, 1, (some .int))
abbrev mX4_map : Mth := (yX4_map, cX4_map, 1, (some .int))
abbrev mX4_mapped : Mth := (yX4_mapped, cX4_mapped, 2, (some .int))
abbrev mX4_seal : Mth := (yX4_seal, cX4_seal, 1, (some .int))
abbrev mX4_look : Mth := (yX4_look, cX4_look, 1, (some .int))
abbrev mX4_fade : Mth := (yX4_fade, cX4_fade, 4, (some .int))
abbrev mX4_pulse : Mth := (yX4_pulse, cX4_pulse, 5, (some .int))
abbrev mX4_find : Mth := (yX4_find, cX4_find, 4, (some .int))
abbrev mX4_actAt : Mth := (yX4_actAt, cX4_actAt, 3, (some .int))
abbrev mX4_where : Mth := (yX4_where, cX4_where, 1, (some .int))
abbrev mX4_met : Mth := (yX4_met, cX4_met, 1, (some .int))
abbrev mX4_count : Mth := (yX4_count, cX4_count, 2, (some .int))
abbrev mX4_digest : Mth := (yX4_digest, cX4_digest, 4, (some .long))
abbrev mX4_within : Mth := (yX4_within, cX4_within, 3, (some .boolean))
abbrev mX4_fullTable : Mth := (yX4_fullTable, cX4_fullTable, 1, (some .int))
abbrev mX4_packAct : Mth := (yX4_packAct, cX4_packAct, 3, (some .int))
abbrev mX4_actPart : Mth := (yX4_actPart, cX4_actPart, 2, (some .int))
abbrev mX4_packVisit : Mth := (yX4_packVisit, cX4_packVisit, 3, (some .long))
abbrev mX4_stateOf : Mth := (yX4_stateOf, cX4_stateOf, 2, (some .int))
abbrev mX4_cameBy : Mth := (yX4_cameBy, cX4_cameBy, 2, (some .int))
abbrev mX4_cameFrom : Mth := (yX4_cameFrom, cX4_cameFrom, 2, (some .int))
abbrev mX5_in : Mth := (yX5_in, cX5_in, 3, (some .boolean))
abbrev mX5_init : Mth := (yX5_init, cX5_init, 1, none)
abbrev mX5_begins : Mth := (yX5_begins, cX5_begins, 5, none)
abbrev mX5_mesh : Mth := (yX5_mesh, cX5_mesh, 4, (some .int))
abbrev mX5_isCell : Mth := (yX5_isCell, cX5_isCell, 3, (some .boolean))
abbrev mX5_writes : Mth := (yX5_writes, cX5_writes, 3, (some .boolean))
abbrev mX5_write : Mth := (yX5_write, cX5_write, 4, (some .int))
abbrev mX5_stick : Mth := (yX5_stick, cX5_stick, 5, (some .int))
abbrev mX5_cellAt : Mth := (yX5_cellAt, cX5_cellAt, 3, (some .int))
abbrev mX5_cell : Mth := (yX5_cell, cX5_cell, 4, (some .int))
abbrev mX5_input : Mth := (yX5_input, cX5_input, 4, (some .int))
abbrev mX5_bits : Mth := (yX5_bits, cX5_bits, 3, (some .int))
abbrev mX5_converted : Mth := (yX5_converted, cX5_converted, 3, (some .int))
abbrev mX5_sumOf : Mth := (yX5_sumOf, cX5_sumOf, 4, (some .int))
abbrev mX5_sum : Mth := (yX5_sum, cX5_sum, 2, (some .int))
abbrev mX5_hasTable : Mth := (yX5_hasTable, cX5_hasTable, 1, (some .boolean))
abbrev mX5_table : Mth := (yX5_table, cX5_table, 5, (some .int))
abbrev mX5_greatest : Mth := (yX5_greatest, cX5_greatest, 3, (some .int))
abbrev mX5_number : Mth := (yX5_number, cX5_number, 5, (some .int))
abbrev mX5_wanted : Mth := (yX5_wanted, cX5_wanted, 8, (some .int))
abbrev mX5_lay : Mth := (yX5_lay, cX5_lay, 4, (some .int))
abbrev mX5_bitSum : Mth := (yX5_bitSum, cX5_bitSum, 5, (some .long))
abbrev mX5_product : Mth := (yX5_product, cX5_product, 9, (some .long))
abbrev mX5_due : Mth := (yX5_due, cX5_due, 5, (some .long))
abbrev mX5_enough : Mth := (yX5_enough, cX5_enough, 2, (some .int))
abbrev mX5_findCosts : Mth := (yX5_findCosts, cX5_findCosts, 7, none)
abbrev mX5_isUsed : Mth := (yX5_isUsed, cX5_isUsed, 4, (some .boolean))
abbrev mX5_map : Mth := (yX5_map, cX5_map, 4, (some .int))
abbrev mX5_mapped : Mth := (yX5_mapped, cX5_mapped, 2, (some .int))
abbrev mX5_seal : Mth := (yX5_seal, cX5_seal, 5, (some .int))
abbrev mX5_rest : Mth := (yX5_rest, cX5_rest, 1, (some .int))
abbrev mX5_look : Mth := (yX5_look, cX5_look, 6, (some .int))
abbrev mX5_fade : Mth := (yX5_fade, cX5_fade, 5, (some .int))
abbrev mX5_pulse : Mth := (yX5_pulse, cX5_pulse, 7, (some .int))
abbrev mX5_isNew : Mth := (yX5_isNew, cX5_isNew, 6, (some .boolean))
abbrev mX5_meets : Mth := (yX5_meets, cX5_meets, 5, (some .boolean))
abbrev mX5_tableOf : Mth := (yX5_tableOf, cX5_tableOf, 3, (some .int))
abbrev mX5_whereIs : Mth := (yX5_whereIs, cX5_whereIs, 5, (some .int))
abbrev mX5_becomesFound : Mth := (yX5_becomesFound, cX5_becomesFound, 5, none)
abbrev mX5_goesOn : Mth := (yX5_goesOn, cX5_goesOn, 12, (some .boolean))
abbrev mX5_find : Mth := (yX5_find, cX5_find, 9, (some .int))
abbrev mX5_actAt : Mth := (yX5_actAt, cX5_actAt, 3, (some .int))
abbrev mX5_where : Mth := (yX5_where, cX5_where, 1, (some .int))
abbrev mX5_met : Mth := (yX5_met, cX5_met, 1, (some .int))
abbrev mX5_count : Mth := (yX5_count, cX5_count, 4, (some .int))
abbrev mX5_digest : Mth := (yX5_digest, cX5_digest, 6, (some .long))
abbrev mJ6_bitCount_0f7a4 : Mth := (yJ6_bitCount_0f7a4, cJ6_bitCount_0f7a4, 1, (some .int))
abbrev mJ9_floorMod_7cf53 : Mth := (yJ9_floorMod_7cf53, cJ9_floorMod_7cf53, 3, (some .int))
abbrev mJ9_abs_0f7a4 : Mth := (yJ9_abs_0f7a4, cJ9_abs_0f7a4, 1, (some .int))
abbrev mJ9_min_7cf53 : Mth := (yJ9_min_7cf53, cJ9_min_7cf53, 2, (some .int))
abbrev mJ7_fill_53178 : Mth := (yJ7_fill_53178, cJ7_fill_53178, 4, none)
theorem inG_X0 : ∀ w ∈ u_ws RX0 TX0 4, w ∈ gtbl := fun w h => gt_of ((by decide +kernel : ∀ w ∈ u_ws RX0 TX0 4, w ∈ lw_tbl ∧ goodWord w = true) w h)
theorem inG_X1 : ∀ w ∈ u_ws RX1 TX1 8, w ∈ gtbl := fun w h => gt_of ((by decide +kernel : ∀ w ∈ u_ws RX1 TX1 8, w ∈ lw_tbl ∧ goodWord w = true) w h)
theorem inG_X2 : ∀ w ∈ u_ws RX2 TX2 11, w ∈ gtbl := fun w h => gt_of ((by decide +kernel : ∀ w ∈ u_ws RX2 TX2 11, w ∈ lw_tbl ∧ goodWord w = true) w h)
theorem inG_X3 : ∀ w ∈ u_ws RX3 TX3 11, w ∈ gtbl := fun w h => gt_of ((by decide +kernel : ∀ w ∈ u_ws RX3 TX3 11, w ∈ lw_tbl ∧ goodWord w = true) w h)
theorem inG_X4 : ∀ w ∈ u_ws RX4 TX4 4, w ∈ gtbl := fun w h => gt_of ((by decide +kernel : ∀ w ∈ u_ws RX4 TX4 4, w ∈ lw_tbl ∧ goodWord w = true) w h)
theorem inG_X5 : ∀ w ∈ u_ws RX5 TX5 29, w ∈ gtbl := fun w h => gt_of ((by decide +kernel : ∀ w ∈ u_ws RX5 TX5 29, w ∈ lw_tbl ∧ goodWord w = true) w h)
theorem fX4_10 : Cond.fieldLink RX4 10 (TX4 0).1 (TX4 0).2.1 (TX4 0).2.2.1 ∈ gtbl := gt_of ⟨List.mem_of_getElem? (i := 248) (by decide +kernel), by decide +kernel⟩
theorem fX4_21 : Cond.fieldLink RX4 21 (TX4 1).1 (TX4 1).2.1 (TX4 1).2.2.1 ∈ gtbl := gt_of ⟨List.mem_of_getElem? (i := 249) (by decide +kernel), by decide +kernel⟩
theorem fX4_28 : Cond.fieldLink RX4 28 (TX4 2).1 (TX4 2).2.1 (TX4 2).2.2.1 ∈ gtbl := gt_of ⟨List.mem_of_getElem? (i := 250) (by decide +kernel), by decide +kernel⟩
theorem fX4_35 : Cond.fieldLink RX4 35 (TX4 3).1 (TX4 3).2.1 (TX4 3).2.2.1 ∈ gtbl := gt_of ⟨List.mem_of_getElem? (i := 251) (by decide +kernel), by decide +kernel⟩
theorem fX4_50 : Cond.fieldLinkNest RX4 50 (TX0 1).1 (TX0 1).2.1 (TX0 1).2.2.1 "MeshSums" ∈ lw_tbl := List.mem_of_getElem? (i := 190) (by decide +kernel)
theorem fX4_58 : Cond.fieldLinkNest RX4 58 (TX1 2).1 (TX1 2).2.1 (TX1 2).2.2.1 "MeshSums" ∈ lw_tbl := List.mem_of_getElem? (i := 105) (by decide +kernel)
theorem fX4_79 : Cond.fieldLinkNest RX4 79 (TX1 0).1 (TX1 0).2.1 (TX1 0).2.2.1 "MeshSums" ∈ lw_tbl := List.mem_of_getElem? (i := 99) (by decide +kernel)
theorem fX4_82 : Cond.fieldLinkNest RX4 82 (TX1 7).1 (TX1 7).2.1 (TX1 7).2.2.1 "MeshSums" ∈ lw_tbl := List.mem_of_getElem? (i := 117) (by decide +kernel)
theorem fX4_86 : Cond.fieldLinkNest RX4 86 (TX1 3).1 (TX1 3).2.1 (TX1 3).2.2.1 "MeshSums" ∈ lw_tbl := List.mem_of_getElem? (i := 108) (by decide +kernel)
theorem fX4_89 : Cond.fieldLinkNest RX4 89 (TX1 1).1 (TX1 1).2.1 (TX1 1).2.2.1 "MeshSums" ∈ lw_tbl := List.mem_of_getElem? (i := 103) (by decide +kernel)
theorem fX4_102 : Cond.fieldLinkNest RX4 102 (TX3 1).1 (TX3 1).2.1 (TX3 1).2.2.1 "MeshSums" ∈ lw_tbl := List.mem_of_getElem? (i := 145) (by decide +kernel)
theorem fX4_105 : Cond.fieldLinkNest RX4 105 (TX3 2).1 (TX3 2).2.1 (TX3 2).2.2.1 "MeshSums" ∈ lw_tbl := List.mem_of_getElem? (i := 147) (by decide +kernel)
theorem fX4_108 : Cond.fieldLinkNest RX4 108 (TX3 4).1 (TX3 4).2.1 (TX3 4).2.2.1 "MeshSums" ∈ lw_tbl := List.mem_of_getElem? (i := 151) (by decide +kernel)
theorem fX4_124 : Cond.fieldLinkNest RX4 124 (TX3 5).1 (TX3 5).2.1 (TX3 5).2.2.1 "MeshSums" ∈ lw_tbl := List.mem_of_getElem? (i := 153) (by decide +kernel)
theorem fX4_142 : Cond.fieldLinkNest RX4 142 (TX3 7).1 (TX3 7).2.1 (TX3 7).2.2.1 "MeshSums" ∈ lw_tbl := List.mem_of_getElem? (i := 156) (by decide +kernel)
theorem fX4_167 : Cond.fieldLinkNest RX4 167 (TX2 9).1 (TX2 9).2.1 (TX2 9).2.2.1 "MeshSums" ∈ lw_tbl := List.mem_of_getElem? (i := 221) (by decide +kernel)
theorem fX4_170 : Cond.fieldLinkNest RX4 170 (TX2 8).1 (TX2 8).2.1 (TX2 8).2.2.1 "MeshSums" ∈ lw_tbl := List.mem_of_getElem? (i := 219) (by decide +kernel)
theorem fX4_176 : Cond.fieldLinkNest RX4 176 (TX2 10).1 (TX2 10).2.1 (TX2 10).2.2.1 "MeshSums" ∈ lw_tbl := List.mem_of_getElem? (i := 223) (by decide +kernel)
theorem fX4_179 : Cond.fieldLinkNest RX4 179 (TX2 7).1 (TX2 7).2.1 (TX2 7).2.2.1 "MeshSums" ∈ lw_tbl := List.mem_of_getElem? (i := 217) (by decide +kernel)
theorem fX4_185 : Cond.fieldLinkNest RX4 185 (TX3 3).1 (TX3 3).2.1 (TX3 3).2.2.1 "MeshSums" ∈ lw_tbl := List.mem_of_getElem? (i := 149) (by decide +kernel)
theorem fX0_9 : Cond.fieldLink RX0 9 (TX0 2).1 (TX0 2).2.1 (TX0 2).2.2.1 ∈ gtbl := gt_of ⟨List.mem_of_getElem? (i := 192) (by decide +kernel), by decide +kernel⟩
theorem fX0_15 : Cond.fieldLink RX0 15 (TX0 3).1 (TX0 3).2.1 (TX0 3).2.2.1 ∈ gtbl := gt_of ⟨List.mem_of_getElem? (i := 193) (by decide +kernel), by decide +kernel⟩
theorem fX0_18 : Cond.fieldLink RX0 18 (TX0 0).1 (TX0 0).2.1 (TX0 0).2.2.1 ∈ gtbl := gt_of ⟨List.mem_of_getElem? (i := 189) (by decide +kernel), by decide +kernel⟩
theorem fX0_22 : Cond.fieldLinkNest RX0 22 (TX1 0).1 (TX1 0).2.1 (TX1 0).2.2.1 "MeshSums" ∈ lw_tbl := List.mem_of_getElem? (i := 98) (by decide +kernel)
theorem fX0_28 : Cond.fieldLinkNest RX0 28 (TX1 1).1 (TX1 1).2.1 (TX1 1).2.2.1 "MeshSums" ∈ lw_tbl := List.mem_of_getElem? (i := 102) (by decide +kernel)
theorem fX0_31 : Cond.fieldLinkNest RX0 31 (TX1 4).1 (TX1 4).2.1 (TX1 4).2.2.1 "MeshSums" ∈ lw_tbl := List.mem_of_getElem? (i := 110) (by decide +kernel)
theorem fX0_38 : Cond.fieldLink RX0 38 (TX0 1).1 (TX0 1).2.1 (TX0 1).2.2.1 ∈ gtbl := gt_of ⟨List.mem_of_getElem? (i := 191) (by decide +kernel), by decide +kernel⟩
theorem fX0_46 : Cond.fieldLinkNest RX0 46 (TX1 7).1 (TX1 7).2.1 (TX1 7).2.2.1 "MeshSums" ∈ lw_tbl := List.mem_of_getElem? (i := 116) (by decide +kernel)
theorem fX1_9 : Cond.fieldLink RX1 9 (TX1 4).1 (TX1 4).2.1 (TX1 4).2.2.1 ∈ gtbl := gt_of ⟨List.mem_of_getElem? (i := 109) (by decide +kernel), by decide +kernel⟩
theorem fX1_15 : Cond.fieldLink RX1 15 (TX1 5).1 (TX1 5).2.1 (TX1 5).2.2.1 ∈ gtbl := gt_of ⟨List.mem_of_getElem? (i := 112) (by decide +kernel), by decide +kernel⟩
theorem fX1_18 : Cond.fieldLink RX1 18 (TX1 6).1 (TX1 6).2.1 (TX1 6).2.2.1 ∈ gtbl := gt_of ⟨List.mem_of_getElem? (i := 114) (by decide +kernel), by decide +kernel⟩
theorem fX1_21 : Cond.fieldLink RX1 21 (TX1 7).1 (TX1 7).2.1 (TX1 7).2.2.1 ∈ gtbl := gt_of ⟨List.mem_of_getElem? (i := 115) (by decide +kernel), by decide +kernel⟩
theorem fX1_28 : Cond.fieldLink RX1 28 (TX1 0).1 (TX1 0).2.1 (TX1 0).2.2.1 ∈ gtbl := gt_of ⟨List.mem_of_getElem? (i := 97) (by decide +kernel), by decide +kernel⟩
theorem fX1_32 : Cond.fieldLink RX1 32 (TX1 1).1 (TX1 1).2.1 (TX1 1).2.2.1 ∈ gtbl := gt_of ⟨List.mem_of_getElem? (i := 101) (by decide +kernel), by decide +kernel⟩
theorem fX1_35 : Cond.fieldLink RX1 35 (TX1 2).1 (TX1 2).2.1 (TX1 2).2.2.1 ∈ gtbl := gt_of ⟨List.mem_of_getElem? (i := 104) (by decide +kernel), by decide +kernel⟩
theorem fX1_38 : Cond.fieldLink RX1 38 (TX1 3).1 (TX1 3).2.1 (TX1 3).2.2.1 ∈ gtbl := gt_of ⟨List.mem_of_getElem? (i := 107) (by decide +kernel), by decide +kernel⟩
theorem fX2_9 : Cond.fieldLink RX2 9 (TX2 0).1 (TX2 0).2.1 (TX2 0).2.2.1 ∈ gtbl := gt_of ⟨List.mem_of_getElem? (i := 209) (by decide +kernel), by decide +kernel⟩
theorem fX2_15 : Cond.fieldLink RX2 15 (TX2 1).1 (TX2 1).2.1 (TX2 1).2.2.1 ∈ gtbl := gt_of ⟨List.mem_of_getElem? (i := 210) (by decide +kernel), by decide +kernel⟩
theorem fX2_19 : Cond.fieldLink RX2 19 (TX2 2).1 (TX2 2).2.1 (TX2 2).2.2.1 ∈ gtbl := gt_of ⟨List.mem_of_getElem? (i := 211) (by decide +kernel), by decide +kernel⟩
theorem fX2_22 : Cond.fieldLink RX2 22 (TX2 8).1 (TX2 8).2.1 (TX2 8).2.2.1 ∈ gtbl := gt_of ⟨List.mem_of_getElem? (i := 218) (by decide +kernel), by decide +kernel⟩
theorem fX2_25 : Cond.fieldLink RX2 25 (TX2 10).1 (TX2 10).2.1 (TX2 10).2.2.1 ∈ gtbl := gt_of ⟨List.mem_of_getElem? (i := 222) (by decide +kernel), by decide +kernel⟩
theorem fX2_33 : Cond.fieldLink RX2 33 (TX2 7).1 (TX2 7).2.1 (TX2 7).2.2.1 ∈ gtbl := gt_of ⟨List.mem_of_getElem? (i := 216) (by decide +kernel), by decide +kernel⟩
theorem fX2_51 : Cond.fieldLink RX2 51 (TX2 9).1 (TX2 9).2.1 (TX2 9).2.2.1 ∈ gtbl := gt_of ⟨List.mem_of_getElem? (i := 220) (by decide +kernel), by decide +kernel⟩
theorem fX2_58 : Cond.fieldLink RX2 58 (TX2 3).1 (TX2 3).2.1 (TX2 3).2.2.1 ∈ gtbl := gt_of ⟨List.mem_of_getElem? (i := 212) (by decide +kernel), by decide +kernel⟩
theorem fX2_61 : Cond.fieldLink RX2 61 (TX2 4).1 (TX2 4).2.1 (TX2 4).2.2.1 ∈ gtbl := gt_of ⟨List.mem_of_getElem? (i := 213) (by decide +kernel), by decide +kernel⟩
theorem fX2_64 : Cond.fieldLink RX2 64 (TX2 5).1 (TX2 5).2.1 (TX2 5).2.2.1 ∈ gtbl := gt_of ⟨List.mem_of_getElem? (i := 214) (by decide +kernel), by decide +kernel⟩
theorem fX2_70 : Cond.fieldLink RX2 70 (TX2 6).1 (TX2 6).2.1 (TX2 6).2.2.1 ∈ gtbl := gt_of ⟨List.mem_of_getElem? (i := 215) (by decide +kernel), by decide +kernel⟩
theorem fX3_9 : Cond.fieldLink RX3 9 (TX3 6).1 (TX3 6).2.1 (TX3 6).2.2.1 ∈ gtbl := gt_of ⟨List.mem_of_getElem? (i := 154) (by decide +kernel), by decide +kernel⟩
theorem fX3_15 : Cond.fieldLink RX3 15 (TX3 7).1 (TX3 7).2.1 (TX3 7).2.2.1 ∈ gtbl := gt_of ⟨List.mem_of_getElem? (i := 155) (by decide +kernel), by decide +kernel⟩
theorem fX3_18 : Cond.fieldLink RX3 18 (TX3 8).1 (TX3 8).2.1 (TX3 8).2.2.1 ∈ gtbl := gt_of ⟨List.mem_of_getElem? (i := 157) (by decide +kernel), by decide +kernel⟩
theorem fX3_21 : Cond.fieldLink RX3 21 (TX3 9).1 (TX3 9).2.1 (TX3 9).2.2.1 ∈ gtbl := gt_of ⟨List.mem_of_getElem? (i := 158) (by decide +kernel), by decide +kernel⟩
theorem fX3_24 : Cond.fieldLink RX3 24 (TX3 10).1 (TX3 10).2.1 (TX3 10).2.2.1 ∈ gtbl := gt_of ⟨List.mem_of_getElem? (i := 159) (by decide +kernel), by decide +kernel⟩
theorem fX3_27 : Cond.fieldLink RX3 27 (TX3 0).1 (TX3 0).2.1 (TX3 0).2.2.1 ∈ gtbl := gt_of ⟨List.mem_of_getElem? (i := 143) (by decide +kernel), by decide +kernel⟩
theorem fX3_31 : Cond.fieldLink RX3 31 (TX3 1).1 (TX3 1).2.1 (TX3 1).2.2.1 ∈ gtbl := gt_of ⟨List.mem_of_getElem? (i := 144) (by decide +kernel), by decide +kernel⟩
theorem fX3_35 : Cond.fieldLink RX3 35 (TX3 2).1 (TX3 2).2.1 (TX3 2).2.2.1 ∈ gtbl := gt_of ⟨List.mem_of_getElem? (i := 146) (by decide +kernel), by decide +kernel⟩
theorem fX3_38 : Cond.fieldLink RX3 38 (TX3 3).1 (TX3 3).2.1 (TX3 3).2.2.1 ∈ gtbl := gt_of ⟨List.mem_of_getElem? (i := 148) (by decide +kernel), by decide +kernel⟩
theorem fX3_41 : Cond.fieldLink RX3 41 (TX3 5).1 (TX3 5).2.1 (TX3 5).2.2.1 ∈ gtbl := gt_of ⟨List.mem_of_getElem? (i := 152) (by decide +kernel), by decide +kernel⟩
theorem fX3_53 : Cond.fieldLink RX3 53 (TX3 4).1 (TX3 4).2.1 (TX3 4).2.2.1 ∈ gtbl := gt_of ⟨List.mem_of_getElem? (i := 150) (by decide +kernel), by decide +kernel⟩
theorem fX3_62 : Cond.fieldLinkNest RX3 62 (TX1 2).1 (TX1 2).2.1 (TX1 2).2.2.1 "MeshSums" ∈ lw_tbl := List.mem_of_getElem? (i := 106) (by decide +kernel)
theorem fX3_100 : Cond.fieldLinkNest RX3 100 (TX1 7).1 (TX1 7).2.1 (TX1 7).2.2.1 "MeshSums" ∈ lw_tbl := List.mem_of_getElem? (i := 118) (by decide +kernel)
theorem fX3_103 : Cond.fieldLinkNest RX3 103 (TX1 4).1 (TX1 4).2.1 (TX1 4).2.2.1 "MeshSums" ∈ lw_tbl := List.mem_of_getElem? (i := 111) (by decide +kernel)
theorem fX3_109 : Cond.fieldLinkNest RX3 109 (TX1 0).1 (TX1 0).2.1 (TX1 0).2.2.1 "MeshSums" ∈ lw_tbl := List.mem_of_getElem? (i := 100) (by decide +kernel)
theorem fX3_130 : Cond.fieldLinkNest RX3 130 (TX1 5).1 (TX1 5).2.1 (TX1 5).2.2.1 "MeshSums" ∈ lw_tbl := List.mem_of_getElem? (i := 113) (by decide +kernel)
theorem fX5_7 : Cond.fieldLink RX5 7 (TX5 0).1 (TX5 0).2.1 (TX5 0).2.2.1 ∈ gtbl := gt_of ⟨List.mem_of_getElem? (i := 636) (by decide +kernel), by decide +kernel⟩
theorem fX5_13 : Cond.fieldLink RX5 13 (TX5 1).1 (TX5 1).2.1 (TX5 1).2.2.1 ∈ gtbl := gt_of ⟨List.mem_of_getElem? (i := 637) (by decide +kernel), by decide +kernel⟩
theorem fX5_16 : Cond.fieldLink RX5 16 (TX5 2).1 (TX5 2).2.1 (TX5 2).2.2.1 ∈ gtbl := gt_of ⟨List.mem_of_getElem? (i := 638) (by decide +kernel), by decide +kernel⟩
theorem fX5_19 : Cond.fieldLink RX5 19 (TX5 3).1 (TX5 3).2.1 (TX5 3).2.2.1 ∈ gtbl := gt_of ⟨List.mem_of_getElem? (i := 639) (by decide +kernel), by decide +kernel⟩
theorem fX5_23 : Cond.fieldLink RX5 23 (TX5 4).1 (TX5 4).2.1 (TX5 4).2.2.1 ∈ gtbl := gt_of ⟨List.mem_of_getElem? (i := 640) (by decide +kernel), by decide +kernel⟩
theorem fX5_26 : Cond.fieldLink RX5 26 (TX5 5).1 (TX5 5).2.1 (TX5 5).2.2.1 ∈ gtbl := gt_of ⟨List.mem_of_getElem? (i := 641) (by decide +kernel), by decide +kernel⟩
theorem fX5_29 : Cond.fieldLink RX5 29 (TX5 6).1 (TX5 6).2.1 (TX5 6).2.2.1 ∈ gtbl := gt_of ⟨List.mem_of_getElem? (i := 642) (by decide +kernel), by decide +kernel⟩
theorem fX5_32 : Cond.fieldLink RX5 32 (TX5 7).1 (TX5 7).2.1 (TX5 7).2.2.1 ∈ gtbl := gt_of ⟨List.mem_of_getElem? (i := 643) (by decide +kernel), by decide +kernel⟩
theorem fX5_35 : Cond.fieldLink RX5 35 (TX5 13).1 (TX5 13).2.1 (TX5 13).2.2.1 ∈ gtbl := gt_of ⟨List.mem_of_getElem? (i := 649) (by decide +kernel), by decide +kernel⟩
theorem fX5_38 : Cond.fieldLink RX5 38 (TX5 14).1 (TX5 14).2.1 (TX5 14).2.2.1 ∈ gtbl := gt_of ⟨List.mem_of_getElem? (i := 650) (by decide +kernel), by decide +kernel⟩
theorem fX5_41 : Cond.fieldLink RX5 41 (TX5 15).1 (TX5 15).2.1 (TX5 15).2.2.1 ∈ gtbl := gt_of ⟨List.mem_of_getElem? (i := 651) (by decide +kernel), by decide +kernel⟩
theorem fX5_44 : Cond.fieldLink RX5 44 (TX5 16).1 (TX5 16).2.1 (TX5 16).2.2.1 ∈ gtbl := gt_of ⟨List.mem_of_getElem? (i := 652) (by decide +kernel), by decide +kernel⟩
theorem fX5_47 : Cond.fieldLink RX5 47 (TX5 17).1 (TX5 17).2.1 (TX5 17).2.2.1 ∈ gtbl := gt_of ⟨List.mem_of_getElem? (i := 653) (by decide +kernel), by decide +kernel⟩
theorem fX5_50 : Cond.fieldLink RX5 50 (TX5 18).1 (TX5 18).2.1 (TX5 18).2.2.1 ∈ gtbl := gt_of ⟨List.mem_of_getElem? (i := 654) (by decide +kernel), by decide +kernel⟩
theorem fX5_53 : Cond.fieldLink RX5 53 (TX5 19).1 (TX5 19).2.1 (TX5 19).2.2.1 ∈ gtbl := gt_of ⟨List.mem_of_getElem? (i := 655) (by decide +kernel), by decide +kernel⟩
theorem fX5_56 : Cond.fieldLink RX5 56 (TX5 20).1 (TX5 20).2.1 (TX5 20).2.2.1 ∈ gtbl := gt_of ⟨List.mem_of_getElem? (i := 656) (by decide +kernel), by decide +kernel⟩
theorem fX5_59 : Cond.fieldLink RX5 59 (TX5 21).1 (TX5 21).2.1 (TX5 21).2.2.1 ∈ gtbl := gt_of ⟨List.mem_of_getElem? (i := 657) (by decide +kernel), by decide +kernel⟩
theorem fX5_63 : Cond.fieldLink RX5 63 (TX5 22).1 (TX5 22).2.1 (TX5 22).2.2.1 ∈ gtbl := gt_of ⟨List.mem_of_getElem? (i := 658) (by decide +kernel), by decide +kernel⟩
theorem fX5_66 : Cond.fieldLink RX5 66 (TX5 23).1 (TX5 23).2.1 (TX5 23).2.2.1 ∈ gtbl := gt_of ⟨List.mem_of_getElem? (i := 659) (by decide +kernel), by decide +kernel⟩
theorem fX5_69 : Cond.fieldLink RX5 69 (TX5 24).1 (TX5 24).2.1 (TX5 24).2.2.1 ∈ gtbl := gt_of ⟨List.mem_of_getElem? (i := 660) (by decide +kernel), by decide +kernel⟩
theorem fX5_72 : Cond.fieldLink RX5 72 (TX5 27).1 (TX5 27).2.1 (TX5 27).2.2.1 ∈ gtbl := gt_of ⟨List.mem_of_getElem? (i := 663) (by decide +kernel), by decide +kernel⟩
theorem fX5_75 : Cond.fieldLink RX5 75 (TX5 28).1 (TX5 28).2.1 (TX5 28).2.2.1 ∈ gtbl := gt_of ⟨List.mem_of_getElem? (i := 664) (by decide +kernel), by decide +kernel⟩
theorem fX5_82 : Cond.fieldLink RX5 82 (TX5 8).1 (TX5 8).2.1 (TX5 8).2.2.1 ∈ gtbl := gt_of ⟨List.mem_of_getElem? (i := 644) (by decide +kernel), by decide +kernel⟩
theorem fX5_85 : Cond.fieldLink RX5 85 (TX5 9).1 (TX5 9).2.1 (TX5 9).2.2.1 ∈ gtbl := gt_of ⟨List.mem_of_getElem? (i := 645) (by decide +kernel), by decide +kernel⟩
theorem fX5_88 : Cond.fieldLink RX5 88 (TX5 10).1 (TX5 10).2.1 (TX5 10).2.2.1 ∈ gtbl := gt_of ⟨List.mem_of_getElem? (i := 646) (by decide +kernel), by decide +kernel⟩
theorem fX5_91 : Cond.fieldLink RX5 91 (TX5 11).1 (TX5 11).2.1 (TX5 11).2.2.1 ∈ gtbl := gt_of ⟨List.mem_of_getElem? (i := 647) (by decide +kernel), by decide +kernel⟩
theorem fX5_95 : Cond.fieldLink RX5 95 (TX5 12).1 (TX5 12).2.1 (TX5 12).2.2.1 ∈ gtbl := gt_of ⟨List.mem_of_getElem? (i := 648) (by decide +kernel), by decide +kernel⟩
theorem fX5_149 : Cond.fieldLink RX5 149 (TX5 25).1 (TX5 25).2.1 (TX5 25).2.2.1 ∈ gtbl := gt_of ⟨List.mem_of_getElem? (i := 661) (by decide +kernel), by decide +kernel⟩
theorem fX5_160 : Cond.fieldLink RX5 160 (TX5 26).1 (TX5 26).2.1 (TX5 26).2.2.1 ∈ gtbl := gt_of ⟨List.mem_of_getElem? (i := 662) (by decide +kernel), by decide +kernel⟩
theorem oX4_1 : Cond.methodLink RX4 1 Lib.objectInit ∈ gtbl ∧ Cond.instanceMethod Lib.objectInit ∈ gtbl ∧ Cond.code Lib.objectInit ⟨#[0xb1]⟩ 1 none ∈ gtbl := ⟨gt_of ⟨List.mem_of_getElem? (i := 81) (by decide +kernel), by decide +kernel⟩, gt_of ⟨List.mem_of_getElem? (i := 82) (by decide +kernel), by decide +kernel⟩, gt_of ⟨List.mem_of_getElem? (i := 83) (by decide +kernel), by decide +kernel⟩⟩
theorem oX4_9 : OkM mX1_init 0 ∧ Cond.code mX1_init.1 mX1_init.2.1 mX1_init.2.2.1 mX1_init.2.2.2 ∈ gtbl ∧ Cond.initialized mX1_init.1.cls ∈ gtbl ∧ Cond.methodLinkNest RX4 9 mX1_init.1 "MeshSums" ∈ lw_tbl ∧ Cond.instanceMethod mX1_init.1 ∈ gtbl ∧ mX1_init.1.name = "<init>" := ⟨by decide +kernel, gt_of ⟨List.mem_of_getElem? (i := 88) (by decide +kernel), by decide +kernel⟩, gt_of ⟨List.mem_of_getElem? (i := 68) (by decide +kernel), by decide +kernel⟩, List.mem_of_getElem? (i := 86) (by decide +kernel), ⟨gt_of ⟨List.mem_of_getElem? (i := 87) (by decide +kernel), by decide +kernel⟩, by decide +kernel⟩⟩
theorem oX4_18 : OkM mX3_init 1 ∧ Cond.code mX3_init.1 mX3_init.2.1 mX3_init.2.2.1 mX3_init.2.2.2 ∈ gtbl ∧ Cond.initialized mX3_init.1.cls ∈ gtbl ∧ Cond.methodLinkNest RX4 18 mX3_init.1 "MeshSums" ∈ lw_tbl ∧ Cond.instanceMethod mX3_init.1 ∈ gtbl ∧ mX3_init.1.name = "<init>" := ⟨by decide +kernel, gt_of ⟨List.mem_of_getElem? (i := 141) (by decide +kernel), by decide +kernel⟩, gt_of ⟨List.mem_of_getElem? (i := 70) (by decide +kernel), by decide +kernel⟩, List.mem_of_getElem? (i := 139) (by decide +kernel), ⟨gt_of ⟨List.mem_of_getElem? (i := 140) (by decide +kernel), by decide +kernel⟩, by decide +kernel⟩⟩
theorem oX4_27 : OkM mX0_init 1 ∧ Cond.code mX0_init.1 mX0_init.2.1 mX0_init.2.2.1 mX0_init.2.2.2 ∈ gtbl ∧ Cond.initialized mX0_init.1.cls ∈ gtbl ∧ Cond.methodLinkNest RX4 27 mX0_init.1 "MeshSums" ∈ lw_tbl ∧ Cond.instanceMethod mX0_init.1 ∈ gtbl ∧ mX0_init.1.name = "<init>" := ⟨by decide +kernel, gt_of ⟨List.mem_of_getElem? (i := 187) (by decide +kernel), by decide +kernel⟩, gt_of ⟨List.mem_of_getElem? (i := 71) (by decide +kernel), by decide +kernel⟩, List.mem_of_getElem? (i := 185) (by decide +kernel), ⟨gt_of ⟨List.mem_of_getElem? (i := 186) (by decide +kernel), by decide +kernel⟩, by decide +kernel⟩⟩
theorem oX4_34 : OkM mX2_init 0 ∧ Cond.code mX2_init.1 mX2_init.2.1 mX2_init.2.2.1 mX2_init.2.2.2 ∈ gtbl ∧ Cond.initialized mX2_init.1.cls ∈ gtbl ∧ Cond.methodLinkNest RX4 34 mX2_init.1 "MeshSums" ∈ lw_tbl ∧ Cond.instanceMethod mX2_init.1 ∈ gtbl ∧ mX2_init.1.name = "<init>" := ⟨by decide +kernel, gt_of ⟨List.mem_of_getElem? (i := 207) (by decide +kernel), by decide +kernel⟩, gt_of ⟨List.mem_of_getElem? (i := 72) (by decide +kernel), by decide +kernel⟩, List.mem_of_getElem? (i := 205) (by decide +kernel), ⟨gt_of ⟨List.mem_of_getElem? (i := 206) (by decide +kernel), by decide +kernel⟩, by decide +kernel⟩⟩
theorem oX4_39 : OkM mX4_within 3 ∧ Cond.code mX4_within.1 mX4_within.2.1 mX4_within.2.2.1 mX4_within.2.2.2 ∈ gtbl ∧ Cond.initialized mX4_within.1.cls ∈ gtbl ∧ Cond.methodLink RX4 39 mX4_within.1 ∈ gtbl ∧ Cond.static mX4_within.1 ∈ gtbl ∧ True := ⟨by decide +kernel, gt_of ⟨List.mem_of_getElem? (i := 267) (by decide +kernel), by decide +kernel⟩, gt_of ⟨List.mem_of_getElem? (i := 67) (by decide +kernel), by decide +kernel⟩, gt_of ⟨List.mem_of_getElem? (i := 265) (by decide +kernel), by decide +kernel⟩, ⟨gt_of ⟨List.mem_of_getElem? (i := 266) (by decide +kernel), by decide +kernel⟩, trivial⟩⟩
theorem oX4_43 : OkM mX1_renew 3 ∧ Cond.code mX1_renew.1 mX1_renew.2.1 mX1_renew.2.2.1 mX1_renew.2.2.2 ∈ gtbl ∧ Cond.initialized mX1_renew.1.cls ∈ gtbl ∧ Cond.methodLinkNest RX4 43 mX1_renew.1 "MeshSums" ∈ lw_tbl ∧ Cond.instanceMethod mX1_renew.1 ∈ gtbl ∧ Cond.selects mX1_renew.1.cls mX1_renew.1 mX1_renew.1 ∈ gtbl := ⟨by decide +kernel, gt_of ⟨List.mem_of_getElem? (i := 93) (by decide +kernel), by decide +kernel⟩, gt_of ⟨List.mem_of_getElem? (i := 68) (by decide +kernel), by decide +kernel⟩, List.mem_of_getElem? (i := 268) (by decide +kernel), ⟨gt_of ⟨List.mem_of_getElem? (i := 92) (by decide +kernel), by decide +kernel⟩, gt_of ⟨List.mem_of_getElem? (i := 0) (by decide +kernel), by decide +kernel⟩⟩⟩
theorem oX4_47 : OkM mX3_drop 0 ∧ Cond.code mX3_drop.1 mX3_drop.2.1 mX3_drop.2.2.1 mX3_drop.2.2.2 ∈ gtbl ∧ Cond.initialized mX3_drop.1.cls ∈ gtbl ∧ Cond.methodLinkNest RX4 47 mX3_drop.1 "MeshSums" ∈ lw_tbl ∧ Cond.instanceMethod mX3_drop.1 ∈ gtbl ∧ Cond.selects mX3_drop.1.cls mX3_drop.1 mX3_drop.1 ∈ gtbl := ⟨by decide +kernel, gt_of ⟨List.mem_of_getElem? (i := 272) (by decide +kernel), by decide +kernel⟩, gt_of ⟨List.mem_of_getElem? (i := 70) (by decide +kernel), by decide +kernel⟩, List.mem_of_getElem? (i := 269) (by decide +kernel), ⟨gt_of ⟨List.mem_of_getElem? (i := 271) (by decide +kernel), by decide +kernel⟩, gt_of ⟨List.mem_of_getElem? (i := 1) (by decide +kernel), by decide +kernel⟩⟩⟩
theorem oX4_54 : OkM mX1_hasCell 2 ∧ Cond.code mX1_hasCell.1 mX1_hasCell.2.1 mX1_hasCell.2.2.1 mX1_hasCell.2.2.2 ∈ gtbl ∧ Cond.initialized mX1_hasCell.1.cls ∈ gtbl ∧ Cond.methodLinkNest RX4 54 mX1_hasCell.1 "MeshSums" ∈ lw_tbl ∧ Cond.instanceMethod mX1_hasCell.1 ∈ gtbl ∧ Cond.selects mX1_hasCell.1.cls mX1_hasCell.1 mX1_hasCell.1 ∈ gtbl := ⟨by decide +kernel, gt_of ⟨List.mem_of_getElem? (i := 280) (by decide +kernel), by decide +kernel⟩, gt_of ⟨List.mem_of_getElem? (i := 68) (by decide +kernel), by decide +kernel⟩, List.mem_of_getElem? (i := 277) (by decide +kernel), ⟨gt_of ⟨List.mem_of_getElem? (i := 279) (by decide +kernel), by decide +kernel⟩, gt_of ⟨List.mem_of_getElem? (i := 2) (by decide +kernel), by decide +kernel⟩⟩⟩
theorem oX4_62 : OkM mX1_place 2 ∧ Cond.code mX1_place.1 mX1_place.2.1 mX1_place.2.2.1 mX1_place.2.2.2 ∈ gtbl ∧ Cond.initialized mX1_place.1.cls ∈ gtbl ∧ Cond.methodLinkNest RX4 62 mX1_place.1 "MeshSums" ∈ lw_tbl ∧ Cond.instanceMethod mX1_place.1 ∈ gtbl ∧ Cond.selects mX1_place.1.cls mX1_place.1 mX1_place.1 ∈ gtbl := ⟨by decide +kernel, gt_of ⟨List.mem_of_getElem? (i := 285) (by decide +kernel), by decide +kernel⟩, gt_of ⟨List.mem_of_getElem? (i := 68) (by decide +kernel), by decide +kernel⟩, List.mem_of_getElem? (i := 282) (by decide +kernel), ⟨gt_of ⟨List.mem_of_getElem? (i := 284) (by decide +kernel), by decide +kernel⟩, gt_of ⟨List.mem_of_getElem? (i := 3) (by decide +kernel), by decide +kernel⟩⟩⟩
theorem oX4_66 : OkM mX1_sticksAtAnother 2 ∧ Cond.code mX1_sticksAtAnother.1 mX1_sticksAtAnother.2.1 mX1_sticksAtAnother.2.2.1 mX1_sticksAtAnother.2.2.2 ∈ gtbl ∧ Cond.initialized mX1_sticksAtAnother.1.cls ∈ gtbl ∧ Cond.methodLinkNest RX4 66 mX1_sticksAtAnother.1 "MeshSums" ∈ lw_tbl ∧ Cond.instanceMethod mX1_sticksAtAnother.1 ∈ gtbl ∧ Cond.selects mX1_sticksAtAnother.1.cls mX1_sticksAtAnother.1 mX1_sticksAtAnother.1 ∈ gtbl := ⟨by decide +kernel, gt_of ⟨List.mem_of_getElem? (i := 289) (by decide +kernel), by decide +kernel⟩, gt_of ⟨List.mem_of_getElem? (i := 68) (by decide +kernel), by decide +kernel⟩, List.mem_of_getElem? (i := 286) (by decide +kernel), ⟨gt_of ⟨List.mem_of_getElem? (i := 288) (by decide +kernel), by decide +kernel⟩, gt_of ⟨List.mem_of_getElem? (i := 4) (by decide +kernel), by decide +kernel⟩⟩⟩
theorem oX4_69 : OkM mX1_put 2 ∧ Cond.code mX1_put.1 mX1_put.2.1 mX1_put.2.2.1 mX1_put.2.2.2 ∈ gtbl ∧ Cond.initialized mX1_put.1.cls ∈ gtbl ∧ Cond.methodLinkNest RX4 69 mX1_put.1 "MeshSums" ∈ lw_tbl ∧ Cond.instanceMethod mX1_put.1 ∈ gtbl ∧ Cond.selects mX1_put.1.cls mX1_put.1 mX1_put.1 ∈ gtbl := ⟨by decide +kernel, gt_of ⟨List.mem_of_getElem? (i := 297) (by decide +kernel), by decide +kernel⟩, gt_of ⟨List.mem_of_getElem? (i := 68) (by decide +kernel), by decide +kernel⟩, List.mem_of_getElem? (i := 294) (by decide +kernel), ⟨gt_of ⟨List.mem_of_getElem? (i := 296) (by decide +kernel), by decide +kernel⟩, gt_of ⟨List.mem_of_getElem? (i := 6) (by decide +kernel), by decide +kernel⟩⟩⟩
theorem oX4_73 : OkM mX1_hold 2 ∧ Cond.code mX1_hold.1 mX1_hold.2.1 mX1_hold.2.2.1 mX1_hold.2.2.2 ∈ gtbl ∧ Cond.initialized mX1_hold.1.cls ∈ gtbl ∧ Cond.methodLinkNest RX4 73 mX1_hold.1 "MeshSums" ∈ lw_tbl ∧ Cond.instanceMethod mX1_hold.1 ∈ gtbl ∧ Cond.selects mX1_hold.1.cls mX1_hold.1 mX1_hold.1 ∈ gtbl := ⟨by decide +kernel, gt_of ⟨List.mem_of_getElem? (i := 305) (by decide +kernel), by decide +kernel⟩, gt_of ⟨List.mem_of_getElem? (i := 68) (by decide +kernel), by decide +kernel⟩, List.mem_of_getElem? (i := 302) (by decide +kernel), ⟨gt_of ⟨List.mem_of_getElem? (i := 304) (by decide +kernel), by decide +kernel⟩, gt_of ⟨List.mem_of_getElem? (i := 7) (by decide +kernel), by decide +kernel⟩⟩⟩
theorem oX4_76 : OkM mX1_tellCell 2 ∧ Cond.code mX1_tellCell.1 mX1_tellCell.2.1 mX1_tellCell.2.2.1 mX1_tellCell.2.2.2 ∈ gtbl ∧ Cond.initialized mX1_tellCell.1.cls ∈ gtbl ∧ Cond.methodLinkNest RX4 76 mX1_tellCell.1 "MeshSums" ∈ lw_tbl ∧ Cond.instanceMethod mX1_tellCell.1 ∈ gtbl ∧ Cond.selects mX1_tellCell.1.cls mX1_tellCell.1 mX1_tellCell.1 ∈ gtbl := ⟨by decide +kernel, gt_of ⟨List.mem_of_getElem? (i := 313) (by decide +kernel), by decide +kernel⟩, gt_of ⟨List.mem_of_getElem? (i := 68) (by decide +kernel), by decide +kernel⟩, List.mem_of_getElem? (i := 310) (by decide +kernel), ⟨gt_of ⟨List.mem_of_getElem? (i := 312) (by decide +kernel), by decide +kernel⟩, gt_of ⟨List.mem_of_getElem? (i := 8) (by decide +kernel), by decide +kernel⟩⟩⟩
theorem oX4_92 : OkM mX1_columnSum 1 ∧ Cond.code mX1_columnSum.1 mX1_columnSum.2.1 mX1_columnSum.2.2.1 mX1_columnSum.2.2.2 ∈ gtbl ∧ Cond.initialized mX1_columnSum.1.cls ∈ gtbl ∧ Cond.methodLinkNest RX4 92 mX1_columnSum.1 "MeshSums" ∈ lw_tbl ∧ Cond.instanceMethod mX1_columnSum.1 ∈ gtbl ∧ Cond.selects mX1_columnSum.1.cls mX1_columnSum.1 mX1_columnSum.1 ∈ gtbl := ⟨by decide +kernel, gt_of ⟨List.mem_of_getElem? (i := 329) (by decide +kernel), by decide +kernel⟩, gt_of ⟨List.mem_of_getElem? (i := 68) (by decide +kernel), by decide +kernel⟩, List.mem_of_getElem? (i := 326) (by decide +kernel), ⟨gt_of ⟨List.mem_of_getElem? (i := 328) (by decide +kernel), by decide +kernel⟩, gt_of ⟨List.mem_of_getElem? (i := 9) (by decide +kernel), by decide +kernel⟩⟩⟩
theorem oX4_96 : OkM mX1_convert 1 ∧ Cond.code mX1_convert.1 mX1_convert.2.1 mX1_convert.2.2.1 mX1_convert.2.2.2 ∈ gtbl ∧ Cond.initialized mX1_convert.1.cls ∈ gtbl ∧ Cond.methodLinkNest RX4 96 mX1_convert.1 "MeshSums" ∈ lw_tbl ∧ Cond.instanceMethod mX1_convert.1 ∈ gtbl ∧ Cond.selects mX1_convert.1.cls mX1_convert.1 mX1_convert.1 ∈ gtbl := ⟨by decide +kernel, gt_of ⟨List.mem_of_getElem? (i := 334) (by decide +kernel), by decide +kernel⟩, gt_of ⟨List.mem_of_getElem? (i := 68) (by decide +kernel), by decide +kernel⟩, List.mem_of_getElem? (i := 331) (by decide +kernel), ⟨gt_of ⟨List.mem_of_getElem? (i := 333) (by decide +kernel), by decide +kernel⟩, gt_of ⟨List.mem_of_getElem? (i := 10) (by decide +kernel), by decide +kernel⟩⟩⟩
theorem oX4_99 : OkM mX3_begin 3 ∧ Cond.code mX3_begin.1 mX3_begin.2.1 mX3_begin.2.2.1 mX3_begin.2.2.2 ∈ gtbl ∧ Cond.initialized mX3_begin.1.cls ∈ gtbl ∧ Cond.methodLinkNest RX4 99 mX3_begin.1 "MeshSums" ∈ lw_tbl ∧ Cond.instanceMethod mX3_begin.1 ∈ gtbl ∧ Cond.selects mX3_begin.1.cls mX3_begin.1 mX3_begin.1 ∈ gtbl := ⟨by decide +kernel, gt_of ⟨List.mem_of_getElem? (i := 345) (by decide +kernel), by decide +kernel⟩, gt_of ⟨List.mem_of_getElem? (i := 70) (by decide +kernel), by decide +kernel⟩, List.mem_of_getElem? (i := 342) (by decide +kernel), ⟨gt_of ⟨List.mem_of_getElem? (i := 344) (by decide +kernel), by decide +kernel⟩, gt_of ⟨List.mem_of_getElem? (i := 11) (by decide +kernel), by decide +kernel⟩⟩⟩
theorem oX4_112 : OkM mX3_exchange 3 ∧ Cond.code mX3_exchange.1 mX3_exchange.2.1 mX3_exchange.2.2.1 mX3_exchange.2.2.2 ∈ gtbl ∧ Cond.initialized mX3_exchange.1.cls ∈ gtbl ∧ Cond.methodLinkNest RX4 112 mX3_exchange.1 "MeshSums" ∈ lw_tbl ∧ Cond.instanceMethod mX3_exchange.1 ∈ gtbl ∧ Cond.selects mX3_exchange.1.cls mX3_exchange.1 mX3_exchange.1 ∈ gtbl := ⟨by decide +kernel, gt_of ⟨List.mem_of_getElem? (i := 362) (by decide +kernel), by decide +kernel⟩, gt_of ⟨List.mem_of_getElem? (i := 70) (by decide +kernel), by decide +kernel⟩, List.mem_of_getElem? (i := 359) (by decide +kernel), ⟨gt_of ⟨List.mem_of_getElem? (i := 361) (by decide +kernel), by decide +kernel⟩, gt_of ⟨List.mem_of_getElem? (i := 13) (by decide +kernel), by decide +kernel⟩⟩⟩
theorem oX4_116 : OkM mX3_exists 0 ∧ Cond.code mX3_exists.1 mX3_exists.2.1 mX3_exists.2.2.1 mX3_exists.2.2.2 ∈ gtbl ∧ Cond.initialized mX3_exists.1.cls ∈ gtbl ∧ Cond.methodLinkNest RX4 116 mX3_exists.1 "MeshSums" ∈ lw_tbl ∧ Cond.instanceMethod mX3_exists.1 ∈ gtbl ∧ Cond.selects mX3_exists.1.cls mX3_exists.1 mX3_exists.1 ∈ gtbl := ⟨by decide +kernel, gt_of ⟨List.mem_of_getElem? (i := 374) (by decide +kernel), by decide +kernel⟩, gt_of ⟨List.mem_of_getElem? (i := 70) (by decide +kernel), by decide +kernel⟩, List.mem_of_getElem? (i := 371) (by decide +kernel), ⟨gt_of ⟨List.mem_of_getElem? (i := 373) (by decide +kernel), by decide +kernel⟩, gt_of ⟨List.mem_of_getElem? (i := 15) (by decide +kernel), by decide +kernel⟩⟩⟩
theorem oX4_120 : OkM mX3_layAll 0 ∧ Cond.code mX3_layAll.1 mX3_layAll.2.1 mX3_layAll.2.2.1 mX3_layAll.2.2.2 ∈ gtbl ∧ Cond.initialized mX3_layAll.1.cls ∈ gtbl ∧ Cond.methodLinkNest RX4 120 mX3_layAll.1 "MeshSums" ∈ lw_tbl ∧ Cond.instanceMethod mX3_layAll.1 ∈ gtbl ∧ Cond.selects mX3_layAll.1.cls mX3_layAll.1 mX3_layAll.1 ∈ gtbl := ⟨by decide +kernel, gt_of ⟨List.mem_of_getElem? (i := 378) (by decide +kernel), by decide +kernel⟩, gt_of ⟨List.mem_of_getElem? (i := 70) (by decide +kernel), by decide +kernel⟩, List.mem_of_getElem? (i := 375) (by decide +kernel), ⟨gt_of ⟨List.mem_of_getElem? (i := 377) (by decide +kernel), by decide +kernel⟩, gt_of ⟨List.mem_of_getElem? (i := 16) (by decide +kernel), by decide +kernel⟩⟩⟩
theorem oX4_129 : OkM mX3_meshProduct 1 ∧ Cond.code mX3_meshProduct.1 mX3_meshProduct.2.1 mX3_meshProduct.2.2.1 mX3_meshProduct.2.2.2 ∈ gtbl ∧ Cond.initialized mX3_meshProduct.1.cls ∈ gtbl ∧ Cond.methodLinkNest RX4 129 mX3_meshProduct.1 "MeshSums" ∈ lw_tbl ∧ Cond.instanceMethod mX3_meshProduct.1 ∈ gtbl ∧ Cond.selects mX3_meshProduct.1.cls mX3_meshProduct.1 mX3_meshProduct.1 ∈ gtbl := ⟨by decide +kernel, gt_of ⟨List.mem_of_getElem? (i := 401) (by decide +kernel), by decide +kernel⟩, gt_of ⟨List.mem_of_getElem? (i := 70) (by decide +kernel), by decide +kernel⟩, List.mem_of_getElem? (i := 398) (by decide +kernel), ⟨gt_of ⟨List.mem_of_getElem? (i := 400) (by decide +kernel), by decide +kernel⟩, gt_of ⟨List.mem_of_getElem? (i := 19) (by decide +kernel), by decide +kernel⟩⟩⟩
theorem oX4_133 : OkM mX3_trueProduct 1 ∧ Cond.code mX3_trueProduct.1 mX3_trueProduct.2.1 mX3_trueProduct.2.2.1 mX3_trueProduct.2.2.2 ∈ gtbl ∧ Cond.initialized mX3_trueProduct.1.cls ∈ gtbl ∧ Cond.methodLinkNest RX4 133 mX3_trueProduct.1 "MeshSums" ∈ lw_tbl ∧ Cond.instanceMethod mX3_trueProduct.1 ∈ gtbl ∧ Cond.selects mX3_trueProduct.1.cls mX3_trueProduct.1 mX3_trueProduct.1 ∈ gtbl := ⟨by decide +kernel, gt_of ⟨List.mem_of_getElem? (i := 414) (by decide +kernel), by decide +kernel⟩, gt_of ⟨List.mem_of_getElem? (i := 70) (by decide +kernel), by decide +kernel⟩, List.mem_of_getElem? (i := 411) (by decide +kernel), ⟨gt_of ⟨List.mem_of_getElem? (i := 413) (by decide +kernel), by decide +kernel⟩, gt_of ⟨List.mem_of_getElem? (i := 21) (by decide +kernel), by decide +kernel⟩⟩⟩
theorem oX4_136 : OkM mX3_bitsEnough 0 ∧ Cond.code mX3_bitsEnough.1 mX3_bitsEnough.2.1 mX3_bitsEnough.2.2.1 mX3_bitsEnough.2.2.2 ∈ gtbl ∧ Cond.initialized mX3_bitsEnough.1.cls ∈ gtbl ∧ Cond.methodLinkNest RX4 136 mX3_bitsEnough.1 "MeshSums" ∈ lw_tbl ∧ Cond.instanceMethod mX3_bitsEnough.1 ∈ gtbl ∧ Cond.selects mX3_bitsEnough.1.cls mX3_bitsEnough.1 mX3_bitsEnough.1 ∈ gtbl := ⟨by decide +kernel, gt_of ⟨List.mem_of_getElem? (i := 422) (by decide +kernel), by decide +kernel⟩, gt_of ⟨List.mem_of_getElem? (i := 70) (by decide +kernel), by decide +kernel⟩, List.mem_of_getElem? (i := 419) (by decide +kernel), ⟨gt_of ⟨List.mem_of_getElem? (i := 421) (by decide +kernel), by decide +kernel⟩, gt_of ⟨List.mem_of_getElem? (i := 22) (by decide +kernel), by decide +kernel⟩⟩⟩
theorem oX4_139 : OkM mX3_mapAnew 0 ∧ Cond.code mX3_mapAnew.1 mX3_mapAnew.2.1 mX3_mapAnew.2.2.1 mX3_mapAnew.2.2.2 ∈ gtbl ∧ Cond.initialized mX3_mapAnew.1.cls ∈ gtbl ∧ Cond.methodLinkNest RX4 139 mX3_mapAnew.1 "MeshSums" ∈ lw_tbl ∧ Cond.instanceMethod mX3_mapAnew.1 ∈ gtbl ∧ Cond.selects mX3_mapAnew.1.cls mX3_mapAnew.1 mX3_mapAnew.1 ∈ gtbl := ⟨by decide +kernel, gt_of ⟨List.mem_of_getElem? (i := 430) (by decide +kernel), by decide +kernel⟩, gt_of ⟨List.mem_of_getElem? (i := 70) (by decide +kernel), by decide +kernel⟩, List.mem_of_getElem? (i := 427) (by decide +kernel), ⟨gt_of ⟨List.mem_of_getElem? (i := 429) (by decide +kernel), by decide +kernel⟩, gt_of ⟨List.mem_of_getElem? (i := 23) (by decide +kernel), by decide +kernel⟩⟩⟩
theorem oX4_145 : OkM mX0_takeAnew 0 ∧ Cond.code mX0_takeAnew.1 mX0_takeAnew.2.1 mX0_takeAnew.2.2.1 mX0_takeAnew.2.2.2 ∈ gtbl ∧ Cond.initialized mX0_takeAnew.1.cls ∈ gtbl ∧ Cond.methodLinkNest RX4 145 mX0_takeAnew.1 "MeshSums" ∈ lw_tbl ∧ Cond.instanceMethod mX0_takeAnew.1 ∈ gtbl ∧ Cond.selects mX0_takeAnew.1.cls mX0_takeAnew.1 mX0_takeAnew.1 ∈ gtbl := ⟨by decide +kernel, gt_of ⟨List.mem_of_getElem? (i := 475) (by decide +kernel), by decide +kernel⟩, gt_of ⟨List.mem_of_getElem? (i := 71) (by decide +kernel), by decide +kernel⟩, List.mem_of_getElem? (i := 472) (by decide +kernel), ⟨gt_of ⟨List.mem_of_getElem? (i := 474) (by decide +kernel), by decide +kernel⟩, gt_of ⟨List.mem_of_getElem? (i := 30) (by decide +kernel), by decide +kernel⟩⟩⟩
theorem oX4_148 : OkM mX0_wrongColumn 0 ∧ Cond.code mX0_wrongColumn.1 mX0_wrongColumn.2.1 mX0_wrongColumn.2.2.1 mX0_wrongColumn.2.2.2 ∈ gtbl ∧ Cond.initialized mX0_wrongColumn.1.cls ∈ gtbl ∧ Cond.methodLinkNest RX4 148 mX0_wrongColumn.1 "MeshSums" ∈ lw_tbl ∧ Cond.instanceMethod mX0_wrongColumn.1 ∈ gtbl ∧ Cond.selects mX0_wrongColumn.1.cls mX0_wrongColumn.1 mX0_wrongColumn.1 ∈ gtbl := ⟨by decide +kernel, gt_of ⟨List.mem_of_getElem? (i := 484) (by decide +kernel), by decide +kernel⟩, gt_of ⟨List.mem_of_getElem? (i := 71) (by decide +kernel), by decide +kernel⟩, List.mem_of_getElem? (i := 481) (by decide +kernel), ⟨gt_of ⟨List.mem_of_getElem? (i := 483) (by decide +kernel), by decide +kernel⟩, gt_of ⟨List.mem_of_getElem? (i := 31) (by decide +kernel), by decide +kernel⟩⟩⟩
theorem oX4_151 : OkM mX1_ageAll 0 ∧ Cond.code mX1_ageAll.1 mX1_ageAll.2.1 mX1_ageAll.2.2.1 mX1_ageAll.2.2.2 ∈ gtbl ∧ Cond.initialized mX1_ageAll.1.cls ∈ gtbl ∧ Cond.methodLinkNest RX4 151 mX1_ageAll.1 "MeshSums" ∈ lw_tbl ∧ Cond.instanceMethod mX1_ageAll.1 ∈ gtbl ∧ Cond.selects mX1_ageAll.1.cls mX1_ageAll.1 mX1_ageAll.1 ∈ gtbl := ⟨by decide +kernel, gt_of ⟨List.mem_of_getElem? (i := 500) (by decide +kernel), by decide +kernel⟩, gt_of ⟨List.mem_of_getElem? (i := 68) (by decide +kernel), by decide +kernel⟩, List.mem_of_getElem? (i := 497) (by decide +kernel), ⟨gt_of ⟨List.mem_of_getElem? (i := 499) (by decide +kernel), by decide +kernel⟩, gt_of ⟨List.mem_of_getElem? (i := 33) (by decide +kernel), by decide +kernel⟩⟩⟩
theorem oX4_154 : OkM mX1_sticks 1 ∧ Cond.code mX1_sticks.1 mX1_sticks.2.1 mX1_sticks.2.2.1 mX1_sticks.2.2.2 ∈ gtbl ∧ Cond.initialized mX1_sticks.1.cls ∈ gtbl ∧ Cond.methodLinkNest RX4 154 mX1_sticks.1 "MeshSums" ∈ lw_tbl ∧ Cond.instanceMethod mX1_sticks.1 ∈ gtbl ∧ Cond.selects mX1_sticks.1.cls mX1_sticks.1 mX1_sticks.1 ∈ gtbl := ⟨by decide +kernel, gt_of ⟨List.mem_of_getElem? (i := 293) (by decide +kernel), by decide +kernel⟩, gt_of ⟨List.mem_of_getElem? (i := 68) (by decide +kernel), by decide +kernel⟩, List.mem_of_getElem? (i := 509) (by decide +kernel), ⟨gt_of ⟨List.mem_of_getElem? (i := 292) (by decide +kernel), by decide +kernel⟩, gt_of ⟨List.mem_of_getElem? (i := 5) (by decide +kernel), by decide +kernel⟩⟩⟩
theorem oX4_158 : OkM mX1_pulseTo 2 ∧ Cond.code mX1_pulseTo.1 mX1_pulseTo.2.1 mX1_pulseTo.2.2.1 mX1_pulseTo.2.2.2 ∈ gtbl ∧ Cond.initialized mX1_pulseTo.1.cls ∈ gtbl ∧ Cond.methodLinkNest RX4 158 mX1_pulseTo.1 "MeshSums" ∈ lw_tbl ∧ Cond.instanceMethod mX1_pulseTo.1 ∈ gtbl ∧ Cond.selects mX1_pulseTo.1.cls mX1_pulseTo.1 mX1_pulseTo.1 ∈ gtbl := ⟨by decide +kernel, gt_of ⟨List.mem_of_getElem? (i := 513) (by decide +kernel), by decide +kernel⟩, gt_of ⟨List.mem_of_getElem? (i := 68) (by decide +kernel), by decide +kernel⟩, List.mem_of_getElem? (i := 510) (by decide +kernel), ⟨gt_of ⟨List.mem_of_getElem? (i := 512) (by decide +kernel), by decide +kernel⟩, gt_of ⟨List.mem_of_getElem? (i := 35) (by decide +kernel), by decide +kernel⟩⟩⟩
theorem oX4_161 : OkM mX4_fullTable 1 ∧ Cond.code mX4_fullTable.1 mX4_fullTable.2.1 mX4_fullTable.2.2.1 mX4_fullTable.2.2.2 ∈ gtbl ∧ Cond.initialized mX4_fullTable.1.cls ∈ gtbl ∧ Cond.methodLink RX4 161 mX4_fullTable.1 ∈ gtbl ∧ Cond.static mX4_fullTable.1 ∈ gtbl ∧ True := ⟨by decide +kernel, gt_of ⟨List.mem_of_getElem? (i := 520) (by decide +kernel), by decide +kernel⟩, gt_of ⟨List.mem_of_getElem? (i := 67) (by decide +kernel), by decide +kernel⟩, gt_of ⟨List.mem_of_getElem? (i := 518) (by decide +kernel), by decide +kernel⟩, ⟨gt_of ⟨List.mem_of_getElem? (i := 519) (by decide +kernel), by decide +kernel⟩, trivial⟩⟩
theorem oX4_164 : OkM mX2_seek 3 ∧ Cond.code mX2_seek.1 mX2_seek.2.1 mX2_seek.2.2.1 mX2_seek.2.2.2 ∈ gtbl ∧ Cond.initialized mX2_seek.1.cls ∈ gtbl ∧ Cond.methodLinkNest RX4 164 mX2_seek.1 "MeshSums" ∈ lw_tbl ∧ Cond.instanceMethod mX2_seek.1 ∈ gtbl ∧ Cond.selects mX2_seek.1.cls mX2_seek.1 mX2_seek.1 ∈ gtbl := ⟨by decide +kernel, gt_of ⟨List.mem_of_getElem? (i := 524) (by decide +kernel), by decide +kernel⟩, gt_of ⟨List.mem_of_getElem? (i := 72) (by decide +kernel), by decide +kernel⟩, List.mem_of_getElem? (i := 521) (by decide +kernel), ⟨gt_of ⟨List.mem_of_getElem? (i := 523) (by decide +kernel), by decide +kernel⟩, gt_of ⟨List.mem_of_getElem? (i := 36) (by decide +kernel), by decide +kernel⟩⟩⟩
theorem oX4_173 : OkM mX4_actPart 2 ∧ Cond.code mX4_actPart.1 mX4_actPart.2.1 mX4_actPart.2.2.1 mX4_actPart.2.2.2 ∈ gtbl ∧ Cond.initialized mX4_actPart.1.cls ∈ gtbl ∧ Cond.methodLink RX4 173 mX4_actPart.1 ∈ gtbl ∧ Cond.static mX4_actPart.1 ∈ gtbl ∧ True := ⟨by decide +kernel, gt_of ⟨List.mem_of_getElem? (i := 585) (by decide +kernel), by decide +kernel⟩, gt_of ⟨List.mem_of_getElem? (i := 67) (by decide +kernel), by decide +kernel⟩, gt_of ⟨List.mem_of_getElem? (i := 583) (by decide +kernel), by decide +kernel⟩, ⟨gt_of ⟨List.mem_of_getElem? (i := 584) (by decide +kernel), by decide +kernel⟩, trivial⟩⟩
theorem oX4_182 : OkM mX1_stickingCells 0 ∧ Cond.code mX1_stickingCells.1 mX1_stickingCells.2.1 mX1_stickingCells.2.2.1 mX1_stickingCells.2.2.2 ∈ gtbl ∧ Cond.initialized mX1_stickingCells.1.cls ∈ gtbl ∧ Cond.methodLinkNest RX4 182 mX1_stickingCells.1 "MeshSums" ∈ lw_tbl ∧ Cond.instanceMethod mX1_stickingCells.1 ∈ gtbl ∧ Cond.selects mX1_stickingCells.1.cls mX1_stickingCells.1 mX1_stickingCells.1 ∈ gtbl := ⟨by decide +kernel, gt_of ⟨List.mem_of_getElem? (i := 601) (by decide +kernel), by decide +kernel⟩, gt_of ⟨List.mem_of_getElem? (i := 68) (by decide +kernel), by decide +kernel⟩, List.mem_of_getElem? (i := 598) (by decide +kernel), ⟨gt_of ⟨List.mem_of_getElem? (i := 600) (by decide +kernel), by decide +kernel⟩, gt_of ⟨List.mem_of_getElem? (i := 46) (by decide +kernel), by decide +kernel⟩⟩⟩
theorem oX4_192 : OkM mX4_count 1 ∧ Cond.code mX4_count.1 mX4_count.2.1 mX4_count.2.2.1 mX4_count.2.2.2 ∈ gtbl ∧ Cond.initialized mX4_count.1.cls ∈ gtbl ∧ Cond.methodLink RX4 192 mX4_count.1 ∈ gtbl ∧ Cond.instanceMethod mX4_count.1 ∈ gtbl ∧ Cond.selects mX4_count.1.cls mX4_count.1 mX4_count.1 ∈ gtbl := ⟨by decide +kernel, gt_of ⟨List.mem_of_getElem? (i := 597) (by decide +kernel), by decide +kernel⟩, gt_of ⟨List.mem_of_getElem? (i := 67) (by decide +kernel), by decide +kernel⟩, gt_of ⟨List.mem_of_getElem? (i := 608) (by decide +kernel), by decide +kernel⟩, ⟨gt_of ⟨List.mem_of_getElem? (i := 595) (by decide +kernel), by decide +kernel⟩, gt_of ⟨List.mem_of_getElem? (i := 596) (by decide +kernel), by decide +kernel⟩⟩⟩
theorem oX4_195 : OkM mX1_addTo 1 ∧ Cond.code mX1_addTo.1 mX1_addTo.2.1 mX1_addTo.2.2.1 mX1_addTo.2.2.2 ∈ gtbl ∧ Cond.initialized mX1_addTo.1.cls ∈ gtbl ∧ Cond.methodLinkNest RX4 195 mX1_addTo.1 "MeshSums" ∈ lw_tbl ∧ Cond.instanceMethod mX1_addTo.1 ∈ gtbl ∧ Cond.selects mX1_addTo.1.cls mX1_addTo.1 mX1_addTo.1 ∈ gtbl := ⟨by decide +kernel, gt_of ⟨List.mem_of_getElem? (i := 612) (by decide +kernel), by decide +kernel⟩, gt_of ⟨List.mem_of_getElem? (i := 68) (by decide +kernel), by decide +kernel⟩, List.mem_of_getElem? (i := 609) (by decide +kernel), ⟨gt_of ⟨List.mem_of_getElem? (i := 611) (by decide +kernel), by decide +kernel⟩, gt_of ⟨List.mem_of_getElem? (i := 47) (by decide +kernel), by decide +kernel⟩⟩⟩
theorem oX4_199 : OkM mX3_addTo 1 ∧ Cond.code mX3_addTo.1 mX3_addTo.2.1 mX3_addTo.2.2.1 mX3_addTo.2.2.2 ∈ gtbl ∧ Cond.initialized mX3_addTo.1.cls ∈ gtbl ∧ Cond.methodLinkNest RX4 199 mX3_addTo.1 "MeshSums" ∈ lw_tbl ∧ Cond.instanceMethod mX3_addTo.1 ∈ gtbl ∧ Cond.selects mX3_addTo.1.cls mX3_addTo.1 mX3_addTo.1 ∈ gtbl := ⟨by decide +kernel, gt_of ⟨List.mem_of_getElem? (i := 618) (by decide +kernel), by decide +kernel⟩, gt_of ⟨List.mem_of_getElem? (i := 70) (by decide +kernel), by decide +kernel⟩, List.mem_of_getElem? (i := 615) (by decide +kernel), ⟨gt_of ⟨List.mem_of_getElem? (i := 617) (by decide +kernel), by decide +kernel⟩, gt_of ⟨List.mem_of_getElem? (i := 48) (by decide +kernel), by decide +kernel⟩⟩⟩
theorem oX4_200 : OkM mX2_addTo 1 ∧ Cond.code mX2_addTo.1 mX2_addTo.2.1 mX2_addTo.2.2.1 mX2_addTo.2.2.2 ∈ gtbl ∧ Cond.initialized mX2_addTo.1.cls ∈ gtbl ∧ Cond.methodLinkNest RX4 200 mX2_addTo.1 "MeshSums" ∈ lw_tbl ∧ Cond.instanceMethod mX2_addTo.1 ∈ gtbl ∧ Cond.selects mX2_addTo.1.cls mX2_addTo.1 mX2_addTo.1 ∈ gtbl := ⟨by decide +kernel, gt_of ⟨List.mem_of_getElem? (i := 623) (by decide +kernel), by decide +kernel⟩, gt_of ⟨List.mem_of_getElem? (i := 72) (by decide +kernel), by decide +kernel⟩, List.mem_of_getElem? (i := 620) (by decide +kernel), ⟨gt_of ⟨List.mem_of_getElem? (i := 622) (by decide +kernel), by decide +kernel⟩, gt_of ⟨List.mem_of_getElem? (i := 49) (by decide +kernel), by decide +kernel⟩⟩⟩
theorem oX0_3 : Cond.methodLink RX0 3 Lib.objectInit ∈ gtbl ∧ Cond.instanceMethod Lib.objectInit ∈ gtbl ∧ Cond.code Lib.objectInit ⟨#[0xb1]⟩ 1 none ∈ gtbl := ⟨gt_of ⟨List.mem_of_getElem? (i := 188) (by decide +kernel), by decide +kernel⟩, gt_of ⟨List.mem_of_getElem? (i := 82) (by decide +kernel), by decide +kernel⟩, gt_of ⟨List.mem_of_getElem? (i := 83) (by decide +kernel), by decide +kernel⟩⟩
theorem oX0_34 : OkM mX1_place 2 ∧ Cond.code mX1_place.1 mX1_place.2.1 mX1_place.2.2.1 mX1_place.2.2.2 ∈ gtbl ∧ Cond.initialized mX1_place.1.cls ∈ gtbl ∧ Cond.methodLinkNest RX0 34 mX1_place.1 "MeshSums" ∈ lw_tbl ∧ Cond.instanceMethod mX1_place.1 ∈ gtbl ∧ Cond.selects mX1_place.1.cls mX1_place.1 mX1_place.1 ∈ gtbl := ⟨by decide +kernel, gt_of ⟨List.mem_of_getElem? (i := 285) (by decide +kernel), by decide +kernel⟩, gt_of ⟨List.mem_of_getElem? (i := 68) (by decide +kernel), by decide +kernel⟩, List.mem_of_getElem? (i := 476) (by decide +kernel), ⟨gt_of ⟨List.mem_of_getElem? (i := 284) (by decide +kernel), by decide +kernel⟩, gt_of ⟨List.mem_of_getElem? (i := 3) (by decide +kernel), by decide +kernel⟩⟩⟩
theorem oX0_42 : OkM mX1_columnSum 1 ∧ Cond.code mX1_columnSum.1 mX1_columnSum.2.1 mX1_columnSum.2.2.1 mX1_columnSum.2.2.2 ∈ gtbl ∧ Cond.initialized mX1_columnSum.1.cls ∈ gtbl ∧ Cond.methodLinkNest RX0 42 mX1_columnSum.1 "MeshSums" ∈ lw_tbl ∧ Cond.instanceMethod mX1_columnSum.1 ∈ gtbl ∧ Cond.selects mX1_columnSum.1.cls mX1_columnSum.1 mX1_columnSum.1 ∈ gtbl := ⟨by decide +kernel, gt_of ⟨List.mem_of_getElem? (i := 329) (by decide +kernel), by decide +kernel⟩, gt_of ⟨List.mem_of_getElem? (i := 68) (by decide +kernel), by decide +kernel⟩, List.mem_of_getElem? (i := 485) (by decide +kernel), ⟨gt_of ⟨List.mem_of_getElem? (i := 328) (by decide +kernel), by decide +kernel⟩, gt_of ⟨List.mem_of_getElem? (i := 9) (by decide +kernel), by decide +kernel⟩⟩⟩
theorem oX0_49 : OkM mJ9_floorMod_7cf53 2 ∧ Cond.code mJ9_floorMod_7cf53.1 mJ9_floorMod_7cf53.2.1 mJ9_floorMod_7cf53.2.2.1 mJ9_floorMod_7cf53.2.2.2 ∈ gtbl ∧ Cond.initialized mJ9_floorMod_7cf53.1.cls ∈ gtbl ∧ Cond.methodLink RX0 49 mJ9_floorMod_7cf53.1 ∈ gtbl ∧ Cond.static mJ9_floorMod_7cf53.1 ∈ gtbl ∧ True := ⟨by decide +kernel, gt_of ⟨List.mem_of_getElem? (i := 488) (by decide +kernel), by decide +kernel⟩, gt_of ⟨List.mem_of_getElem? (i := 74) (by decide +kernel), by decide +kernel⟩, gt_of ⟨List.mem_of_getElem? (i := 486) (by decide +kernel), by decide +kernel⟩, ⟨gt_of ⟨List.mem_of_getElem? (i := 487) (by decide +kernel), by decide +kernel⟩, trivial⟩⟩
theorem oX0_54 : OkM mX0_columnBy 2 ∧ Cond.code mX0_columnBy.1 mX0_columnBy.2.1 mX0_columnBy.2.2.1 mX0_columnBy.2.2.2 ∈ gtbl ∧ Cond.initialized mX0_columnBy.1.cls ∈ gtbl ∧ Cond.methodLink RX0 54 mX0_columnBy.1 ∈ gtbl ∧ Cond.instanceMethod mX0_columnBy.1 ∈ gtbl ∧ Cond.selects mX0_columnBy.1.cls mX0_columnBy.1 mX0_columnBy.1 ∈ gtbl := ⟨by decide +kernel, gt_of ⟨List.mem_of_getElem? (i := 492) (by decide +kernel), by decide +kernel⟩, gt_of ⟨List.mem_of_getElem? (i := 71) (by decide +kernel), by decide +kernel⟩, gt_of ⟨List.mem_of_getElem? (i := 489) (by decide +kernel), by decide +kernel⟩, ⟨gt_of ⟨List.mem_of_getElem? (i := 491) (by decide +kernel), by decide +kernel⟩, gt_of ⟨List.mem_of_getElem? (i := 32) (by decide +kernel), by decide +kernel⟩⟩⟩
theorem oX1_3 : Cond.methodLink RX1 3 Lib.objectInit ∈ gtbl ∧ Cond.instanceMethod Lib.objectInit ∈ gtbl ∧ Cond.code Lib.objectInit ⟨#[0xb1]⟩ 1 none ∈ gtbl := ⟨gt_of ⟨List.mem_of_getElem? (i := 89) (by decide +kernel), by decide +kernel⟩, gt_of ⟨List.mem_of_getElem? (i := 82) (by decide +kernel), by decide +kernel⟩, gt_of ⟨List.mem_of_getElem? (i := 83) (by decide +kernel), by decide +kernel⟩⟩
theorem oX1_24 : OkM mX1_renew 3 ∧ Cond.code mX1_renew.1 mX1_renew.2.1 mX1_renew.2.2.1 mX1_renew.2.2.2 ∈ gtbl ∧ Cond.initialized mX1_renew.1.cls ∈ gtbl ∧ Cond.methodLink RX1 24 mX1_renew.1 ∈ gtbl ∧ Cond.instanceMethod mX1_renew.1 ∈ gtbl ∧ Cond.selects mX1_renew.1.cls mX1_renew.1 mX1_renew.1 ∈ gtbl := ⟨by decide +kernel, gt_of ⟨List.mem_of_getElem? (i := 93) (by decide +kernel), by decide +kernel⟩, gt_of ⟨List.mem_of_getElem? (i := 68) (by decide +kernel), by decide +kernel⟩, gt_of ⟨List.mem_of_getElem? (i := 90) (by decide +kernel), by decide +kernel⟩, ⟨gt_of ⟨List.mem_of_getElem? (i := 92) (by decide +kernel), by decide +kernel⟩, gt_of ⟨List.mem_of_getElem? (i := 0) (by decide +kernel), by decide +kernel⟩⟩⟩
theorem oX1_41 : OkM mJ7_fill_53178 2 ∧ Cond.code mJ7_fill_53178.1 mJ7_fill_53178.2.1 mJ7_fill_53178.2.2.1 mJ7_fill_53178.2.2.2 ∈ gtbl ∧ Cond.initialized mJ7_fill_53178.1.cls ∈ gtbl ∧ Cond.methodLink RX1 41 mJ7_fill_53178.1 ∈ gtbl ∧ Cond.static mJ7_fill_53178.1 ∈ gtbl ∧ True := ⟨by decide +kernel, gt_of ⟨List.mem_of_getElem? (i := 96) (by decide +kernel), by decide +kernel⟩, gt_of ⟨List.mem_of_getElem? (i := 69) (by decide +kernel), by decide +kernel⟩, gt_of ⟨List.mem_of_getElem? (i := 94) (by decide +kernel), by decide +kernel⟩, ⟨gt_of ⟨List.mem_of_getElem? (i := 95) (by decide +kernel), by decide +kernel⟩, trivial⟩⟩
theorem oX1_47 : OkM mX4_within 3 ∧ Cond.code mX4_within.1 mX4_within.2.1 mX4_within.2.2.1 mX4_within.2.2.2 ∈ gtbl ∧ Cond.initialized mX4_within.1.cls ∈ gtbl ∧ Cond.methodLinkNest RX1 47 mX4_within.1 "MeshSums" ∈ lw_tbl ∧ Cond.static mX4_within.1 ∈ gtbl ∧ True := ⟨by decide +kernel, gt_of ⟨List.mem_of_getElem? (i := 267) (by decide +kernel), by decide +kernel⟩, gt_of ⟨List.mem_of_getElem? (i := 67) (by decide +kernel), by decide +kernel⟩, List.mem_of_getElem? (i := 281) (by decide +kernel), ⟨gt_of ⟨List.mem_of_getElem? (i := 266) (by decide +kernel), by decide +kernel⟩, trivial⟩⟩
theorem oX1_51 : OkM mX1_sticks 1 ∧ Cond.code mX1_sticks.1 mX1_sticks.2.1 mX1_sticks.2.2.1 mX1_sticks.2.2.2 ∈ gtbl ∧ Cond.initialized mX1_sticks.1.cls ∈ gtbl ∧ Cond.methodLink RX1 51 mX1_sticks.1 ∈ gtbl ∧ Cond.instanceMethod mX1_sticks.1 ∈ gtbl ∧ Cond.selects mX1_sticks.1.cls mX1_sticks.1 mX1_sticks.1 ∈ gtbl := ⟨by decide +kernel, gt_of ⟨List.mem_of_getElem? (i := 293) (by decide +kernel), by decide +kernel⟩, gt_of ⟨List.mem_of_getElem? (i := 68) (by decide +kernel), by decide +kernel⟩, gt_of ⟨List.mem_of_getElem? (i := 290) (by decide +kernel), by decide +kernel⟩, ⟨gt_of ⟨List.mem_of_getElem? (i := 292) (by decide +kernel), by decide +kernel⟩, gt_of ⟨List.mem_of_getElem? (i := 5) (by decide +kernel), by decide +kernel⟩⟩⟩
theorem oX1_55 : OkM mX1_place 2 ∧ Cond.code mX1_place.1 mX1_place.2.1 mX1_place.2.2.1 mX1_place.2.2.2 ∈ gtbl ∧ Cond.initialized mX1_place.1.cls ∈ gtbl ∧ Cond.methodLink RX1 55 mX1_place.1 ∈ gtbl ∧ Cond.instanceMethod mX1_place.1 ∈ gtbl ∧ Cond.selects mX1_place.1.cls mX1_place.1 mX1_place.1 ∈ gtbl := ⟨by decide +kernel, gt_of ⟨List.mem_of_getElem? (i := 285) (by decide +kernel), by decide +kernel⟩, gt_of ⟨List.mem_of_getElem? (i := 68) (by decide +kernel), by decide +kernel⟩, gt_of ⟨List.mem_of_getElem? (i := 330) (by decide +kernel), by decide +kernel⟩, ⟨gt_of ⟨List.mem_of_getElem? (i := 284) (by decide +kernel), by decide +kernel⟩, gt_of ⟨List.mem_of_getElem? (i := 3) (by decide +kernel), by decide +kernel⟩⟩⟩
theorem oX1_59 : OkM mJ9_min_7cf53 2 ∧ Cond.code mJ9_min_7cf53.1 mJ9_min_7cf53.2.1 mJ9_min_7cf53.2.2.1 mJ9_min_7cf53.2.2.2 ∈ gtbl ∧ Cond.initialized mJ9_min_7cf53.1.cls ∈ gtbl ∧ Cond.methodLink RX1 59 mJ9_min_7cf53.1 ∈ gtbl ∧ Cond.static mJ9_min_7cf53.1 ∈ gtbl ∧ True := ⟨by decide +kernel, gt_of ⟨List.mem_of_getElem? (i := 337) (by decide +kernel), by decide +kernel⟩, gt_of ⟨List.mem_of_getElem? (i := 74) (by decide +kernel), by decide +kernel⟩, gt_of ⟨List.mem_of_getElem? (i := 335) (by decide +kernel), by decide +kernel⟩, ⟨gt_of ⟨List.mem_of_getElem? (i := 336) (by decide +kernel), by decide +kernel⟩, trivial⟩⟩
theorem oX1_64 : OkM mX1_ageOne 1 ∧ Cond.code mX1_ageOne.1 mX1_ageOne.2.1 mX1_ageOne.2.2.1 mX1_ageOne.2.2.2 ∈ gtbl ∧ Cond.initialized mX1_ageOne.1.cls ∈ gtbl ∧ Cond.methodLink RX1 64 mX1_ageOne.1 ∈ gtbl ∧ Cond.instanceMethod mX1_ageOne.1 ∈ gtbl ∧ Cond.selects mX1_ageOne.1.cls mX1_ageOne.1 mX1_ageOne.1 ∈ gtbl := ⟨by decide +kernel, gt_of ⟨List.mem_of_getElem? (i := 504) (by decide +kernel), by decide +kernel⟩, gt_of ⟨List.mem_of_getElem? (i := 68) (by decide +kernel), by decide +kernel⟩, gt_of ⟨List.mem_of_getElem? (i := 501) (by decide +kernel), by decide +kernel⟩, ⟨gt_of ⟨List.mem_of_getElem? (i := 503) (by decide +kernel), by decide +kernel⟩, gt_of ⟨List.mem_of_getElem? (i := 34) (by decide +kernel), by decide +kernel⟩⟩⟩
theorem oX1_69 : OkM mX1_tellCell 2 ∧ Cond.code mX1_tellCell.1 mX1_tellCell.2.1 mX1_tellCell.2.2.1 mX1_tellCell.2.2.2 ∈ gtbl ∧ Cond.initialized mX1_tellCell.1.cls ∈ gtbl ∧ Cond.methodLink RX1 69 mX1_tellCell.1 ∈ gtbl ∧ Cond.instanceMethod mX1_tellCell.1 ∈ gtbl ∧ Cond.selects mX1_tellCell.1.cls mX1_tellCell.1 mX1_tellCell.1 ∈ gtbl := ⟨by decide +kernel, gt_of ⟨List.mem_of_getElem? (i := 313) (by decide +kernel), by decide +kernel⟩, gt_of ⟨List.mem_of_getElem? (i := 68) (by decide +kernel), by decide +kernel⟩, gt_of ⟨List.mem_of_getElem? (i := 614) (by decide +kernel), by decide +kernel⟩, ⟨gt_of ⟨List.mem_of_getElem? (i := 312) (by decide +kernel), by decide +kernel⟩, gt_of ⟨List.mem_of_getElem? (i := 8) (by decide +kernel), by decide +kernel⟩⟩⟩
theorem oX2_3 : Cond.methodLink RX2 3 Lib.objectInit ∈ gtbl ∧ Cond.instanceMethod Lib.objectInit ∈ gtbl ∧ Cond.code Lib.objectInit ⟨#[0xb1]⟩ 1 none ∈ gtbl := ⟨gt_of ⟨List.mem_of_getElem? (i := 208) (by decide +kernel), by decide +kernel⟩, gt_of ⟨List.mem_of_getElem? (i := 82) (by decide +kernel), by decide +kernel⟩, gt_of ⟨List.mem_of_getElem? (i := 83) (by decide +kernel), by decide +kernel⟩⟩
theorem oX2_29 : OkM mX2_begin 2 ∧ Cond.code mX2_begin.1 mX2_begin.2.1 mX2_begin.2.2.1 mX2_begin.2.2.2 ∈ gtbl ∧ Cond.initialized mX2_begin.1.cls ∈ gtbl ∧ Cond.methodLink RX2 29 mX2_begin.1 ∈ gtbl ∧ Cond.instanceMethod mX2_begin.1 ∈ gtbl ∧ Cond.selects mX2_begin.1.cls mX2_begin.1 mX2_begin.1 ∈ gtbl := ⟨by decide +kernel, gt_of ⟨List.mem_of_getElem? (i := 528) (by decide +kernel), by decide +kernel⟩, gt_of ⟨List.mem_of_getElem? (i := 72) (by decide +kernel), by decide +kernel⟩, gt_of ⟨List.mem_of_getElem? (i := 525) (by decide +kernel), by decide +kernel⟩, ⟨gt_of ⟨List.mem_of_getElem? (i := 527) (by decide +kernel), by decide +kernel⟩, gt_of ⟨List.mem_of_getElem? (i := 37) (by decide +kernel), by decide +kernel⟩⟩⟩
theorem oX2_36 : OkM mX4_stateOf 1 ∧ Cond.code mX4_stateOf.1 mX4_stateOf.2.1 mX4_stateOf.2.2.1 mX4_stateOf.2.2.2 ∈ gtbl ∧ Cond.initialized mX4_stateOf.1.cls ∈ gtbl ∧ Cond.methodLinkNest RX2 36 mX4_stateOf.1 "MeshSums" ∈ lw_tbl ∧ Cond.static mX4_stateOf.1 ∈ gtbl ∧ True := ⟨by decide +kernel, gt_of ⟨List.mem_of_getElem? (i := 544) (by decide +kernel), by decide +kernel⟩, gt_of ⟨List.mem_of_getElem? (i := 67) (by decide +kernel), by decide +kernel⟩, List.mem_of_getElem? (i := 542) (by decide +kernel), ⟨gt_of ⟨List.mem_of_getElem? (i := 543) (by decide +kernel), by decide +kernel⟩, trivial⟩⟩
theorem oX2_40 : OkM mX2_openState 1 ∧ Cond.code mX2_openState.1 mX2_openState.2.1 mX2_openState.2.2.1 mX2_openState.2.2.2 ∈ gtbl ∧ Cond.initialized mX2_openState.1.cls ∈ gtbl ∧ Cond.methodLink RX2 40 mX2_openState.1 ∈ gtbl ∧ Cond.instanceMethod mX2_openState.1 ∈ gtbl ∧ Cond.selects mX2_openState.1.cls mX2_openState.1 mX2_openState.1 ∈ gtbl := ⟨by decide +kernel, gt_of ⟨List.mem_of_getElem? (i := 549) (by decide +kernel), by decide +kernel⟩, gt_of ⟨List.mem_of_getElem? (i := 72) (by decide +kernel), by decide +kernel⟩, gt_of ⟨List.mem_of_getElem? (i := 546) (by decide +kernel), by decide +kernel⟩, ⟨gt_of ⟨List.mem_of_getElem? (i := 548) (by decide +kernel), by decide +kernel⟩, gt_of ⟨List.mem_of_getElem? (i := 40) (by decide +kernel), by decide +kernel⟩⟩⟩
theorem oX2_44 : OkM mX2_cellWith 1 ∧ Cond.code mX2_cellWith.1 mX2_cellWith.2.1 mX2_cellWith.2.2.1 mX2_cellWith.2.2.2 ∈ gtbl ∧ Cond.initialized mX2_cellWith.1.cls ∈ gtbl ∧ Cond.methodLink RX2 44 mX2_cellWith.1 ∈ gtbl ∧ Cond.instanceMethod mX2_cellWith.1 ∈ gtbl ∧ Cond.selects mX2_cellWith.1.cls mX2_cellWith.1 mX2_cellWith.1 ∈ gtbl := ⟨by decide +kernel, gt_of ⟨List.mem_of_getElem? (i := 557) (by decide +kernel), by decide +kernel⟩, gt_of ⟨List.mem_of_getElem? (i := 72) (by decide +kernel), by decide +kernel⟩, gt_of ⟨List.mem_of_getElem? (i := 554) (by decide +kernel), by decide +kernel⟩, ⟨gt_of ⟨List.mem_of_getElem? (i := 556) (by decide +kernel), by decide +kernel⟩, gt_of ⟨List.mem_of_getElem? (i := 42) (by decide +kernel), by decide +kernel⟩⟩⟩
theorem oX2_48 : OkM mX2_keep 2 ∧ Cond.code mX2_keep.1 mX2_keep.2.1 mX2_keep.2.2.1 mX2_keep.2.2.2 ∈ gtbl ∧ Cond.initialized mX2_keep.1.cls ∈ gtbl ∧ Cond.methodLink RX2 48 mX2_keep.1 ∈ gtbl ∧ Cond.instanceMethod mX2_keep.1 ∈ gtbl ∧ Cond.selects mX2_keep.1.cls mX2_keep.1 mX2_keep.1 ∈ gtbl := ⟨by decide +kernel, gt_of ⟨List.mem_of_getElem? (i := 561) (by decide +kernel), by decide +kernel⟩, gt_of ⟨List.mem_of_getElem? (i := 72) (by decide +kernel), by decide +kernel⟩, gt_of ⟨List.mem_of_getElem? (i := 558) (by decide +kernel), by decide +kernel⟩, ⟨gt_of ⟨List.mem_of_getElem? (i := 560) (by decide +kernel), by decide +kernel⟩, gt_of ⟨List.mem_of_getElem? (i := 43) (by decide +kernel), by decide +kernel⟩⟩⟩
theorem oX2_54 : OkM mX2_meetAllFrom 1 ∧ Cond.code mX2_meetAllFrom.1 mX2_meetAllFrom.2.1 mX2_meetAllFrom.2.2.1 mX2_meetAllFrom.2.2.2 ∈ gtbl ∧ Cond.initialized mX2_meetAllFrom.1.cls ∈ gtbl ∧ Cond.methodLink RX2 54 mX2_meetAllFrom.1 ∈ gtbl ∧ Cond.instanceMethod mX2_meetAllFrom.1 ∈ gtbl ∧ Cond.selects mX2_meetAllFrom.1.cls mX2_meetAllFrom.1 mX2_meetAllFrom.1 ∈ gtbl := ⟨by decide +kernel, gt_of ⟨List.mem_of_getElem? (i := 571) (by decide +kernel), by decide +kernel⟩, gt_of ⟨List.mem_of_getElem? (i := 72) (by decide +kernel), by decide +kernel⟩, gt_of ⟨List.mem_of_getElem? (i := 568) (by decide +kernel), by decide +kernel⟩, ⟨gt_of ⟨List.mem_of_getElem? (i := 570) (by decide +kernel), by decide +kernel⟩, gt_of ⟨List.mem_of_getElem? (i := 44) (by decide +kernel), by decide +kernel⟩⟩⟩
theorem oX2_67 : OkM mX4_fullTable 1 ∧ Cond.code mX4_fullTable.1 mX4_fullTable.2.1 mX4_fullTable.2.2.1 mX4_fullTable.2.2.2 ∈ gtbl ∧ Cond.initialized mX4_fullTable.1.cls ∈ gtbl ∧ Cond.methodLinkNest RX2 67 mX4_fullTable.1 "MeshSums" ∈ lw_tbl ∧ Cond.static mX4_fullTable.1 ∈ gtbl ∧ True := ⟨by decide +kernel, gt_of ⟨List.mem_of_getElem? (i := 520) (by decide +kernel), by decide +kernel⟩, gt_of ⟨List.mem_of_getElem? (i := 67) (by decide +kernel), by decide +kernel⟩, List.mem_of_getElem? (i := 529) (by decide +kernel), ⟨gt_of ⟨List.mem_of_getElem? (i := 519) (by decide +kernel), by decide +kernel⟩, trivial⟩⟩
theorem oX2_73 : OkM mJ7_fill_53178 2 ∧ Cond.code mJ7_fill_53178.1 mJ7_fill_53178.2.1 mJ7_fill_53178.2.2.1 mJ7_fill_53178.2.2.2 ∈ gtbl ∧ Cond.initialized mJ7_fill_53178.1.cls ∈ gtbl ∧ Cond.methodLink RX2 73 mJ7_fill_53178.1 ∈ gtbl ∧ Cond.static mJ7_fill_53178.1 ∈ gtbl ∧ True := ⟨by decide +kernel, gt_of ⟨List.mem_of_getElem? (i := 96) (by decide +kernel), by decide +kernel⟩, gt_of ⟨List.mem_of_getElem? (i := 69) (by decide +kernel), by decide +kernel⟩, gt_of ⟨List.mem_of_getElem? (i := 530) (by decide +kernel), by decide +kernel⟩, ⟨gt_of ⟨List.mem_of_getElem? (i := 95) (by decide +kernel), by decide +kernel⟩, trivial⟩⟩
theorem oX2_79 : OkM mX2_inputTable 1 ∧ Cond.code mX2_inputTable.1 mX2_inputTable.2.1 mX2_inputTable.2.2.1 mX2_inputTable.2.2.2 ∈ gtbl ∧ Cond.initialized mX2_inputTable.1.cls ∈ gtbl ∧ Cond.methodLink RX2 79 mX2_inputTable.1 ∈ gtbl ∧ Cond.instanceMethod mX2_inputTable.1 ∈ gtbl ∧ Cond.selects mX2_inputTable.1.cls mX2_inputTable.1 mX2_inputTable.1 ∈ gtbl := ⟨by decide +kernel, gt_of ⟨List.mem_of_getElem? (i := 534) (by decide +kernel), by decide +kernel⟩, gt_of ⟨List.mem_of_getElem? (i := 72) (by decide +kernel), by decide +kernel⟩, gt_of ⟨List.mem_of_getElem? (i := 531) (by decide +kernel), by decide +kernel⟩, ⟨gt_of ⟨List.mem_of_getElem? (i := 533) (by decide +kernel), by decide +kernel⟩, gt_of ⟨List.mem_of_getElem? (i := 38) (by decide +kernel), by decide +kernel⟩⟩⟩
theorem oX2_82 : OkM mX2_meet 3 ∧ Cond.code mX2_meet.1 mX2_meet.2.1 mX2_meet.2.2.1 mX2_meet.2.2.2 ∈ gtbl ∧ Cond.initialized mX2_meet.1.cls ∈ gtbl ∧ Cond.methodLink RX2 82 mX2_meet.1 ∈ gtbl ∧ Cond.instanceMethod mX2_meet.1 ∈ gtbl ∧ Cond.selects mX2_meet.1.cls mX2_meet.1 mX2_meet.1 ∈ gtbl := ⟨by decide +kernel, gt_of ⟨List.mem_of_getElem? (i := 538) (by decide +kernel), by decide +kernel⟩, gt_of ⟨List.mem_of_getElem? (i := 72) (by decide +kernel), by decide +kernel⟩, gt_of ⟨List.mem_of_getElem? (i := 535) (by decide +kernel), by decide +kernel⟩, ⟨gt_of ⟨List.mem_of_getElem? (i := 537) (by decide +kernel), by decide +kernel⟩, gt_of ⟨List.mem_of_getElem? (i := 39) (by decide +kernel), by decide +kernel⟩⟩⟩
theorem oX2_86 : OkM mX2_shiftOf 1 ∧ Cond.code mX2_shiftOf.1 mX2_shiftOf.2.1 mX2_shiftOf.2.2.1 mX2_shiftOf.2.2.2 ∈ gtbl ∧ Cond.initialized mX2_shiftOf.1.cls ∈ gtbl ∧ Cond.methodLink RX2 86 mX2_shiftOf.1 ∈ gtbl ∧ Cond.instanceMethod mX2_shiftOf.1 ∈ gtbl ∧ Cond.selects mX2_shiftOf.1.cls mX2_shiftOf.1 mX2_shiftOf.1 ∈ gtbl := ⟨by decide +kernel, gt_of ⟨List.mem_of_getElem? (i := 553) (by decide +kernel), by decide +kernel⟩, gt_of ⟨List.mem_of_getElem? (i := 72) (by decide +kernel), by decide +kernel⟩, gt_of ⟨List.mem_of_getElem? (i := 550) (by decide +kernel), by decide +kernel⟩, ⟨gt_of ⟨List.mem_of_getElem? (i := 552) (by decide +kernel), by decide +kernel⟩, gt_of ⟨List.mem_of_getElem? (i := 41) (by decide +kernel), by decide +kernel⟩⟩⟩
theorem oX2_89 : OkM mX2_meetByActs 3 ∧ Cond.code mX2_meetByActs.1 mX2_meetByActs.2.1 mX2_meetByActs.2.2.1 mX2_meetByActs.2.2.2 ∈ gtbl ∧ Cond.initialized mX2_meetByActs.1.cls ∈ gtbl ∧ Cond.methodLink RX2 89 mX2_meetByActs.1 ∈ gtbl ∧ Cond.instanceMethod mX2_meetByActs.1 ∈ gtbl ∧ Cond.selects mX2_meetByActs.1.cls mX2_meetByActs.1 mX2_meetByActs.1 ∈ gtbl := ⟨by decide +kernel, gt_of ⟨List.mem_of_getElem? (i := 575) (by decide +kernel), by decide +kernel⟩, gt_of ⟨List.mem_of_getElem? (i := 72) (by decide +kernel), by decide +kernel⟩, gt_of ⟨List.mem_of_getElem? (i := 572) (by decide +kernel), by decide +kernel⟩, ⟨gt_of ⟨List.mem_of_getElem? (i := 574) (by decide +kernel), by decide +kernel⟩, gt_of ⟨List.mem_of_getElem? (i := 45) (by decide +kernel), by decide +kernel⟩⟩⟩
theorem oX2_92 : OkM mX4_packAct 3 ∧ Cond.code mX4_packAct.1 mX4_packAct.2.1 mX4_packAct.2.2.1 mX4_packAct.2.2.2 ∈ gtbl ∧ Cond.initialized mX4_packAct.1.cls ∈ gtbl ∧ Cond.methodLinkNest RX2 92 mX4_packAct.1 "MeshSums" ∈ lw_tbl ∧ Cond.static mX4_packAct.1 ∈ gtbl ∧ True := ⟨by decide +kernel, gt_of ⟨List.mem_of_getElem? (i := 578) (by decide +kernel), by decide +kernel⟩, gt_of ⟨List.mem_of_getElem? (i := 67) (by decide +kernel), by decide +kernel⟩, List.mem_of_getElem? (i := 576) (by decide +kernel), ⟨gt_of ⟨List.mem_of_getElem? (i := 577) (by decide +kernel), by decide +kernel⟩, trivial⟩⟩
theorem oX2_96 : OkM mX4_packVisit 3 ∧ Cond.code mX4_packVisit.1 mX4_packVisit.2.1 mX4_packVisit.2.2.1 mX4_packVisit.2.2.2 ∈ gtbl ∧ Cond.initialized mX4_packVisit.1.cls ∈ gtbl ∧ Cond.methodLinkNest RX2 96 mX4_packVisit.1 "MeshSums" ∈ lw_tbl ∧ Cond.static mX4_packVisit.1 ∈ gtbl ∧ True := ⟨by decide +kernel, gt_of ⟨List.mem_of_getElem? (i := 541) (by decide +kernel), by decide +kernel⟩, gt_of ⟨List.mem_of_getElem? (i := 67) (by decide +kernel), by decide +kernel⟩, List.mem_of_getElem? (i := 539) (by decide +kernel), ⟨gt_of ⟨List.mem_of_getElem? (i := 540) (by decide +kernel), by decide +kernel⟩, trivial⟩⟩
theorem oX2_100 : OkM mX4_cameFrom 1 ∧ Cond.code mX4_cameFrom.1 mX4_cameFrom.2.1 mX4_cameFrom.2.2.1 mX4_cameFrom.2.2.2 ∈ gtbl ∧ Cond.initialized mX4_cameFrom.1.cls ∈ gtbl ∧ Cond.methodLinkNest RX2 100 mX4_cameFrom.1 "MeshSums" ∈ lw_tbl ∧ Cond.static mX4_cameFrom.1 ∈ gtbl ∧ True := ⟨by decide +kernel, gt_of ⟨List.mem_of_getElem? (i := 564) (by decide +kernel), by decide +kernel⟩, gt_of ⟨List.mem_of_getElem? (i := 67) (by decide +kernel), by decide +kernel⟩, List.mem_of_getElem? (i := 562) (by decide +kernel), ⟨gt_of ⟨List.mem_of_getElem? (i := 563) (by decide +kernel), by decide +kernel⟩, trivial⟩⟩
theorem oX2_103 : OkM mX4_cameBy 1 ∧ Cond.code mX4_cameBy.1 mX4_cameBy.2.1 mX4_cameBy.2.2.1 mX4_cameBy.2.2.2 ∈ gtbl ∧ Cond.initialized mX4_cameBy.1.cls ∈ gtbl ∧ Cond.methodLinkNest RX2 103 mX4_cameBy.1 "MeshSums" ∈ lw_tbl ∧ Cond.static mX4_cameBy.1 ∈ gtbl ∧ True := ⟨by decide +kernel, gt_of ⟨List.mem_of_getElem? (i := 567) (by decide +kernel), by decide +kernel⟩, gt_of ⟨List.mem_of_getElem? (i := 67) (by decide +kernel), by decide +kernel⟩, List.mem_of_getElem? (i := 565) (by decide +kernel), ⟨gt_of ⟨List.mem_of_getElem? (i := 566) (by decide +kernel), by decide +kernel⟩, trivial⟩⟩
theorem oX2_108 : OkM mX4_actPart 2 ∧ Cond.code mX4_actPart.1 mX4_actPart.2.1 mX4_actPart.2.2.1 mX4_actPart.2.2.2 ∈ gtbl ∧ Cond.initialized mX4_actPart.1.cls ∈ gtbl ∧ Cond.methodLinkNest RX2 108 mX4_actPart.1 "MeshSums" ∈ lw_tbl ∧ Cond.static mX4_actPart.1 ∈ gtbl ∧ True := ⟨by decide +kernel, gt_of ⟨List.mem_of_getElem? (i := 585) (by decide +kernel), by decide +kernel⟩, gt_of ⟨List.mem_of_getElem? (i := 67) (by decide +kernel), by decide +kernel⟩, List.mem_of_getElem? (i := 625) (by decide +kernel), ⟨gt_of ⟨List.mem_of_getElem? (i := 584) (by decide +kernel), by decide +kernel⟩, trivial⟩⟩
theorem oX3_3 : Cond.methodLink RX3 3 Lib.objectInit ∈ gtbl ∧ Cond.instanceMethod Lib.objectInit ∈ gtbl ∧ Cond.code Lib.objectInit ⟨#[0xb1]⟩ 1 none ∈ gtbl := ⟨gt_of ⟨List.mem_of_getElem? (i := 142) (by decide +kernel), by decide +kernel⟩, gt_of ⟨List.mem_of_getElem? (i := 82) (by decide +kernel), by decide +kernel⟩, gt_of ⟨List.mem_of_getElem? (i := 83) (by decide +kernel), by decide +kernel⟩⟩
theorem oX3_45 : OkM mX3_base 0 ∧ Cond.code mX3_base.1 mX3_base.2.1 mX3_base.2.2.1 mX3_base.2.2.2 ∈ gtbl ∧ Cond.initialized mX3_base.1.cls ∈ gtbl ∧ Cond.methodLink RX3 45 mX3_base.1 ∈ gtbl ∧ Cond.instanceMethod mX3_base.1 ∈ gtbl ∧ Cond.selects mX3_base.1.cls mX3_base.1 mX3_base.1 ∈ gtbl := ⟨by decide +kernel, gt_of ⟨List.mem_of_getElem? (i := 349) (by decide +kernel), by decide +kernel⟩, gt_of ⟨List.mem_of_getElem? (i := 70) (by decide +kernel), by decide +kernel⟩, gt_of ⟨List.mem_of_getElem? (i := 346) (by decide +kernel), by decide +kernel⟩, ⟨gt_of ⟨List.mem_of_getElem? (i := 348) (by decide +kernel), by decide +kernel⟩, gt_of ⟨List.mem_of_getElem? (i := 12) (by decide +kernel), by decide +kernel⟩⟩⟩
theorem oX3_49 : OkM mX3_power 2 ∧ Cond.code mX3_power.1 mX3_power.2.1 mX3_power.2.2.1 mX3_power.2.2.2 ∈ gtbl ∧ Cond.initialized mX3_power.1.cls ∈ gtbl ∧ Cond.methodLink RX3 49 mX3_power.1 ∈ gtbl ∧ Cond.static mX3_power.1 ∈ gtbl ∧ True := ⟨by decide +kernel, gt_of ⟨List.mem_of_getElem? (i := 352) (by decide +kernel), by decide +kernel⟩, gt_of ⟨List.mem_of_getElem? (i := 70) (by decide +kernel), by decide +kernel⟩, gt_of ⟨List.mem_of_getElem? (i := 350) (by decide +kernel), by decide +kernel⟩, ⟨gt_of ⟨List.mem_of_getElem? (i := 351) (by decide +kernel), by decide +kernel⟩, trivial⟩⟩
theorem oX3_56 : OkM mJ7_fill_53178 2 ∧ Cond.code mJ7_fill_53178.1 mJ7_fill_53178.2.1 mJ7_fill_53178.2.2.1 mJ7_fill_53178.2.2.2 ∈ gtbl ∧ Cond.initialized mJ7_fill_53178.1.cls ∈ gtbl ∧ Cond.methodLink RX3 56 mJ7_fill_53178.1 ∈ gtbl ∧ Cond.static mJ7_fill_53178.1 ∈ gtbl ∧ True := ⟨by decide +kernel, gt_of ⟨List.mem_of_getElem? (i := 96) (by decide +kernel), by decide +kernel⟩, gt_of ⟨List.mem_of_getElem? (i := 69) (by decide +kernel), by decide +kernel⟩, gt_of ⟨List.mem_of_getElem? (i := 353) (by decide +kernel), by decide +kernel⟩, ⟨gt_of ⟨List.mem_of_getElem? (i := 95) (by decide +kernel), by decide +kernel⟩, trivial⟩⟩
theorem oX3_67 : OkM mX3_numberAt 2 ∧ Cond.code mX3_numberAt.1 mX3_numberAt.2.1 mX3_numberAt.2.2.1 mX3_numberAt.2.2.2 ∈ gtbl ∧ Cond.initialized mX3_numberAt.1.cls ∈ gtbl ∧ Cond.methodLink RX3 67 mX3_numberAt.1 ∈ gtbl ∧ Cond.instanceMethod mX3_numberAt.1 ∈ gtbl ∧ Cond.selects mX3_numberAt.1.cls mX3_numberAt.1 mX3_numberAt.1 ∈ gtbl := ⟨by decide +kernel, gt_of ⟨List.mem_of_getElem? (i := 366) (by decide +kernel), by decide +kernel⟩, gt_of ⟨List.mem_of_getElem? (i := 70) (by decide +kernel), by decide +kernel⟩, gt_of ⟨List.mem_of_getElem? (i := 363) (by decide +kernel), by decide +kernel⟩, ⟨gt_of ⟨List.mem_of_getElem? (i := 365) (by decide +kernel), by decide +kernel⟩, gt_of ⟨List.mem_of_getElem? (i := 14) (by decide +kernel), by decide +kernel⟩⟩⟩
theorem oX3_70 : OkM mJ9_abs_0f7a4 1 ∧ Cond.code mJ9_abs_0f7a4.1 mJ9_abs_0f7a4.2.1 mJ9_abs_0f7a4.2.2.1 mJ9_abs_0f7a4.2.2.2 ∈ gtbl ∧ Cond.initialized mJ9_abs_0f7a4.1.cls ∈ gtbl ∧ Cond.methodLink RX3 70 mJ9_abs_0f7a4.1 ∈ gtbl ∧ Cond.static mJ9_abs_0f7a4.1 ∈ gtbl ∧ True := ⟨by decide +kernel, gt_of ⟨List.mem_of_getElem? (i := 385) (by decide +kernel), by decide +kernel⟩, gt_of ⟨List.mem_of_getElem? (i := 74) (by decide +kernel), by decide +kernel⟩, gt_of ⟨List.mem_of_getElem? (i := 383) (by decide +kernel), by decide +kernel⟩, ⟨gt_of ⟨List.mem_of_getElem? (i := 384) (by decide +kernel), by decide +kernel⟩, trivial⟩⟩
theorem oX3_76 : OkM mX3_spellRow 1 ∧ Cond.code mX3_spellRow.1 mX3_spellRow.2.1 mX3_spellRow.2.2.1 mX3_spellRow.2.2.2 ∈ gtbl ∧ Cond.initialized mX3_spellRow.1.cls ∈ gtbl ∧ Cond.methodLink RX3 76 mX3_spellRow.1 ∈ gtbl ∧ Cond.instanceMethod mX3_spellRow.1 ∈ gtbl ∧ Cond.selects mX3_spellRow.1.cls mX3_spellRow.1 mX3_spellRow.1 ∈ gtbl := ⟨by decide +kernel, gt_of ⟨List.mem_of_getElem? (i := 382) (by decide +kernel), by decide +kernel⟩, gt_of ⟨List.mem_of_getElem? (i := 70) (by decide +kernel), by decide +kernel⟩, gt_of ⟨List.mem_of_getElem? (i := 379) (by decide +kernel), by decide +kernel⟩, ⟨gt_of ⟨List.mem_of_getElem? (i := 381) (by decide +kernel), by decide +kernel⟩, gt_of ⟨List.mem_of_getElem? (i := 17) (by decide +kernel), by decide +kernel⟩⟩⟩
theorem oX3_80 : OkM mX3_usedColumns 0 ∧ Cond.code mX3_usedColumns.1 mX3_usedColumns.2.1 mX3_usedColumns.2.2.1 mX3_usedColumns.2.2.2 ∈ gtbl ∧ Cond.initialized mX3_usedColumns.1.cls ∈ gtbl ∧ Cond.methodLink RX3 80 mX3_usedColumns.1 ∈ gtbl ∧ Cond.instanceMethod mX3_usedColumns.1 ∈ gtbl ∧ Cond.selects mX3_usedColumns.1.cls mX3_usedColumns.1 mX3_usedColumns.1 ∈ gtbl := ⟨by decide +kernel, gt_of ⟨List.mem_of_getElem? (i := 389) (by decide +kernel), by decide +kernel⟩, gt_of ⟨List.mem_of_getElem? (i := 70) (by decide +kernel), by decide +kernel⟩, gt_of ⟨List.mem_of_getElem? (i := 386) (by decide +kernel), by decide +kernel⟩, ⟨gt_of ⟨List.mem_of_getElem? (i := 388) (by decide +kernel), by decide +kernel⟩, gt_of ⟨List.mem_of_getElem? (i := 18) (by decide +kernel), by decide +kernel⟩⟩⟩
theorem oX3_83 : OkM mX1_place 2 ∧ Cond.code mX1_place.1 mX1_place.2.1 mX1_place.2.2.1 mX1_place.2.2.2 ∈ gtbl ∧ Cond.initialized mX1_place.1.cls ∈ gtbl ∧ Cond.methodLinkNest RX3 83 mX1_place.1 "MeshSums" ∈ lw_tbl ∧ Cond.instanceMethod mX1_place.1 ∈ gtbl ∧ Cond.selects mX1_place.1.cls mX1_place.1 mX1_place.1 ∈ gtbl := ⟨by decide +kernel, gt_of ⟨List.mem_of_getElem? (i := 285) (by decide +kernel), by decide +kernel⟩, gt_of ⟨List.mem_of_getElem? (i := 68) (by decide +kernel), by decide +kernel⟩, List.mem_of_getElem? (i := 390) (by decide +kernel), ⟨gt_of ⟨List.mem_of_getElem? (i := 284) (by decide +kernel), by decide +kernel⟩, gt_of ⟨List.mem_of_getElem? (i := 3) (by decide +kernel), by decide +kernel⟩⟩⟩
theorem oX3_86 : OkM mX1_put 2 ∧ Cond.code mX1_put.1 mX1_put.2.1 mX1_put.2.2.1 mX1_put.2.2.2 ∈ gtbl ∧ Cond.initialized mX1_put.1.cls ∈ gtbl ∧ Cond.methodLinkNest RX3 86 mX1_put.1 "MeshSums" ∈ lw_tbl ∧ Cond.instanceMethod mX1_put.1 ∈ gtbl ∧ Cond.selects mX1_put.1.cls mX1_put.1 mX1_put.1 ∈ gtbl := ⟨by decide +kernel, gt_of ⟨List.mem_of_getElem? (i := 297) (by decide +kernel), by decide +kernel⟩, gt_of ⟨List.mem_of_getElem? (i := 68) (by decide +kernel), by decide +kernel⟩, List.mem_of_getElem? (i := 391) (by decide +kernel), ⟨gt_of ⟨List.mem_of_getElem? (i := 296) (by decide +kernel), by decide +kernel⟩, gt_of ⟨List.mem_of_getElem? (i := 6) (by decide +kernel), by decide +kernel⟩⟩⟩
theorem oX3_90 : OkM mX1_sticksAtAnother 2 ∧ Cond.code mX1_sticksAtAnother.1 mX1_sticksAtAnother.2.1 mX1_sticksAtAnother.2.2.1 mX1_sticksAtAnother.2.2.2 ∈ gtbl ∧ Cond.initialized mX1_sticksAtAnother.1.cls ∈ gtbl ∧ Cond.methodLinkNest RX3 90 mX1_sticksAtAnother.1 "MeshSums" ∈ lw_tbl ∧ Cond.instanceMethod mX1_sticksAtAnother.1 ∈ gtbl ∧ Cond.selects mX1_sticksAtAnother.1.cls mX1_sticksAtAnother.1 mX1_sticksAtAnother.1 ∈ gtbl := ⟨by decide +kernel, gt_of ⟨List.mem_of_getElem? (i := 289) (by decide +kernel), by decide +kernel⟩, gt_of ⟨List.mem_of_getElem? (i := 68) (by decide +kernel), by decide +kernel⟩, List.mem_of_getElem? (i := 392) (by decide +kernel), ⟨gt_of ⟨List.mem_of_getElem? (i := 288) (by decide +kernel), by decide +kernel⟩, gt_of ⟨List.mem_of_getElem? (i := 4) (by decide +kernel), by decide +kernel⟩⟩⟩
theorem oX3_94 : OkM mX3_bitSum 2 ∧ Cond.code mX3_bitSum.1 mX3_bitSum.2.1 mX3_bitSum.2.2.1 mX3_bitSum.2.2.2 ∈ gtbl ∧ Cond.initialized mX3_bitSum.1.cls ∈ gtbl ∧ Cond.methodLink RX3 94 mX3_bitSum.1 ∈ gtbl ∧ Cond.instanceMethod mX3_bitSum.1 ∈ gtbl ∧ Cond.selects mX3_bitSum.1.cls mX3_bitSum.1 mX3_bitSum.1 ∈ gtbl := ⟨by decide +kernel, gt_of ⟨List.mem_of_getElem? (i := 405) (by decide +kernel), by decide +kernel⟩, gt_of ⟨List.mem_of_getElem? (i := 70) (by decide +kernel), by decide +kernel⟩, gt_of ⟨List.mem_of_getElem? (i := 402) (by decide +kernel), by decide +kernel⟩, ⟨gt_of ⟨List.mem_of_getElem? (i := 404) (by decide +kernel), by decide +kernel⟩, gt_of ⟨List.mem_of_getElem? (i := 20) (by decide +kernel), by decide +kernel⟩⟩⟩
theorem oX3_97 : OkM mX1_convert 1 ∧ Cond.code mX1_convert.1 mX1_convert.2.1 mX1_convert.2.2.1 mX1_convert.2.2.2 ∈ gtbl ∧ Cond.initialized mX1_convert.1.cls ∈ gtbl ∧ Cond.methodLinkNest RX3 97 mX1_convert.1 "MeshSums" ∈ lw_tbl ∧ Cond.instanceMethod mX1_convert.1 ∈ gtbl ∧ Cond.selects mX1_convert.1.cls mX1_convert.1 mX1_convert.1 ∈ gtbl := ⟨by decide +kernel, gt_of ⟨List.mem_of_getElem? (i := 334) (by decide +kernel), by decide +kernel⟩, gt_of ⟨List.mem_of_getElem? (i := 68) (by decide +kernel), by decide +kernel⟩, List.mem_of_getElem? (i := 406) (by decide +kernel), ⟨gt_of ⟨List.mem_of_getElem? (i := 333) (by decide +kernel), by decide +kernel⟩, gt_of ⟨List.mem_of_getElem? (i := 10) (by decide +kernel), by decide +kernel⟩⟩⟩
theorem oX3_106 : OkM mX3_fillCosts 0 ∧ Cond.code mX3_fillCosts.1 mX3_fillCosts.2.1 mX3_fillCosts.2.2.1 mX3_fillCosts.2.2.2 ∈ gtbl ∧ Cond.initialized mX3_fillCosts.1.cls ∈ gtbl ∧ Cond.methodLink RX3 106 mX3_fillCosts.1 ∈ gtbl ∧ Cond.instanceMethod mX3_fillCosts.1 ∈ gtbl ∧ Cond.selects mX3_fillCosts.1.cls mX3_fillCosts.1 mX3_fillCosts.1 ∈ gtbl := ⟨by decide +kernel, gt_of ⟨List.mem_of_getElem? (i := 434) (by decide +kernel), by decide +kernel⟩, gt_of ⟨List.mem_of_getElem? (i := 70) (by decide +kernel), by decide +kernel⟩, gt_of ⟨List.mem_of_getElem? (i := 431) (by decide +kernel), by decide +kernel⟩, ⟨gt_of ⟨List.mem_of_getElem? (i := 433) (by decide +kernel), by decide +kernel⟩, gt_of ⟨List.mem_of_getElem? (i := 24) (by decide +kernel), by decide +kernel⟩⟩⟩
theorem oX3_112 : OkM mJ6_bitCount_0f7a4 1 ∧ Cond.code mJ6_bitCount_0f7a4.1 mJ6_bitCount_0f7a4.2.1 mJ6_bitCount_0f7a4.2.2.1 mJ6_bitCount_0f7a4.2.2.2 ∈ gtbl ∧ Cond.initialized mJ6_bitCount_0f7a4.1.cls ∈ gtbl ∧ Cond.methodLink RX3 112 mJ6_bitCount_0f7a4.1 ∈ gtbl ∧ Cond.static mJ6_bitCount_0f7a4.1 ∈ gtbl ∧ True := ⟨by decide +kernel, gt_of ⟨List.mem_of_getElem? (i := 442) (by decide +kernel), by decide +kernel⟩, gt_of ⟨List.mem_of_getElem? (i := 75) (by decide +kernel), by decide +kernel⟩, gt_of ⟨List.mem_of_getElem? (i := 440) (by decide +kernel), by decide +kernel⟩, ⟨gt_of ⟨List.mem_of_getElem? (i := 441) (by decide +kernel), by decide +kernel⟩, trivial⟩⟩
theorem oX3_117 : OkM mX3_leastFrom 2 ∧ Cond.code mX3_leastFrom.1 mX3_leastFrom.2.1 mX3_leastFrom.2.2.1 mX3_leastFrom.2.2.2 ∈ gtbl ∧ Cond.initialized mX3_leastFrom.1.cls ∈ gtbl ∧ Cond.methodLink RX3 117 mX3_leastFrom.1 ∈ gtbl ∧ Cond.instanceMethod mX3_leastFrom.1 ∈ gtbl ∧ Cond.selects mX3_leastFrom.1.cls mX3_leastFrom.1 mX3_leastFrom.1 ∈ gtbl := ⟨by decide +kernel, gt_of ⟨List.mem_of_getElem? (i := 449) (by decide +kernel), by decide +kernel⟩, gt_of ⟨List.mem_of_getElem? (i := 70) (by decide +kernel), by decide +kernel⟩, gt_of ⟨List.mem_of_getElem? (i := 446) (by decide +kernel), by decide +kernel⟩, ⟨gt_of ⟨List.mem_of_getElem? (i := 448) (by decide +kernel), by decide +kernel⟩, gt_of ⟨List.mem_of_getElem? (i := 26) (by decide +kernel), by decide +kernel⟩⟩⟩
theorem oX3_120 : OkM mX3_chooseFirstLeast 0 ∧ Cond.code mX3_chooseFirstLeast.1 mX3_chooseFirstLeast.2.1 mX3_chooseFirstLeast.2.2.1 mX3_chooseFirstLeast.2.2.2 ∈ gtbl ∧ Cond.initialized mX3_chooseFirstLeast.1.cls ∈ gtbl ∧ Cond.methodLink RX3 120 mX3_chooseFirstLeast.1 ∈ gtbl ∧ Cond.instanceMethod mX3_chooseFirstLeast.1 ∈ gtbl ∧ Cond.selects mX3_chooseFirstLeast.1.cls mX3_chooseFirstLeast.1 mX3_chooseFirstLeast.1 ∈ gtbl := ⟨by decide +kernel, gt_of ⟨List.mem_of_getElem? (i := 459) (by decide +kernel), by decide +kernel⟩, gt_of ⟨List.mem_of_getElem? (i := 70) (by decide +kernel), by decide +kernel⟩, gt_of ⟨List.mem_of_getElem? (i := 456) (by decide +kernel), by decide +kernel⟩, ⟨gt_of ⟨List.mem_of_getElem? (i := 458) (by decide +kernel), by decide +kernel⟩, gt_of ⟨List.mem_of_getElem? (i := 28) (by decide +kernel), by decide +kernel⟩⟩⟩
theorem oX3_123 : OkM mX3_costOn 1 ∧ Cond.code mX3_costOn.1 mX3_costOn.2.1 mX3_costOn.2.2.1 mX3_costOn.2.2.2 ∈ gtbl ∧ Cond.initialized mX3_costOn.1.cls ∈ gtbl ∧ Cond.methodLink RX3 123 mX3_costOn.1 ∈ gtbl ∧ Cond.instanceMethod mX3_costOn.1 ∈ gtbl ∧ Cond.selects mX3_costOn.1.cls mX3_costOn.1 mX3_costOn.1 ∈ gtbl := ⟨by decide +kernel, gt_of ⟨List.mem_of_getElem? (i := 438) (by decide +kernel), by decide +kernel⟩, gt_of ⟨List.mem_of_getElem? (i := 70) (by decide +kernel), by decide +kernel⟩, gt_of ⟨List.mem_of_getElem? (i := 435) (by decide +kernel), by decide +kernel⟩, ⟨gt_of ⟨List.mem_of_getElem? (i := 437) (by decide +kernel), by decide +kernel⟩, gt_of ⟨List.mem_of_getElem? (i := 25) (by decide +kernel), by decide +kernel⟩⟩⟩
theorem oX3_126 : OkM mX1_sticks 1 ∧ Cond.code mX1_sticks.1 mX1_sticks.2.1 mX1_sticks.2.2.1 mX1_sticks.2.2.2 ∈ gtbl ∧ Cond.initialized mX1_sticks.1.cls ∈ gtbl ∧ Cond.methodLinkNest RX3 126 mX1_sticks.1 "MeshSums" ∈ lw_tbl ∧ Cond.instanceMethod mX1_sticks.1 ∈ gtbl ∧ Cond.selects mX1_sticks.1.cls mX1_sticks.1 mX1_sticks.1 ∈ gtbl := ⟨by decide +kernel, gt_of ⟨List.mem_of_getElem? (i := 293) (by decide +kernel), by decide +kernel⟩, gt_of ⟨List.mem_of_getElem? (i := 68) (by decide +kernel), by decide +kernel⟩, List.mem_of_getElem? (i := 439) (by decide +kernel), ⟨gt_of ⟨List.mem_of_getElem? (i := 292) (by decide +kernel), by decide +kernel⟩, gt_of ⟨List.mem_of_getElem? (i := 5) (by decide +kernel), by decide +kernel⟩⟩⟩
theorem oX3_134 : OkM mX3_costWith 3 ∧ Cond.code mX3_costWith.1 mX3_costWith.2.1 mX3_costWith.2.2.1 mX3_costWith.2.2.2 ∈ gtbl ∧ Cond.initialized mX3_costWith.1.cls ∈ gtbl ∧ Cond.methodLink RX3 134 mX3_costWith.1 ∈ gtbl ∧ Cond.instanceMethod mX3_costWith.1 ∈ gtbl ∧ Cond.selects mX3_costWith.1.cls mX3_costWith.1 mX3_costWith.1 ∈ gtbl := ⟨by decide +kernel, gt_of ⟨List.mem_of_getElem? (i := 454) (by decide +kernel), by decide +kernel⟩, gt_of ⟨List.mem_of_getElem? (i := 70) (by decide +kernel), by decide +kernel⟩, gt_of ⟨List.mem_of_getElem? (i := 451) (by decide +kernel), by decide +kernel⟩, ⟨gt_of ⟨List.mem_of_getElem? (i := 453) (by decide +kernel), by decide +kernel⟩, gt_of ⟨List.mem_of_getElem? (i := 27) (by decide +kernel), by decide +kernel⟩⟩⟩
theorem oX3_138 : OkM mJ9_min_7cf53 2 ∧ Cond.code mJ9_min_7cf53.1 mJ9_min_7cf53.2.1 mJ9_min_7cf53.2.2.1 mJ9_min_7cf53.2.2.2 ∈ gtbl ∧ Cond.initialized mJ9_min_7cf53.1.cls ∈ gtbl ∧ Cond.methodLink RX3 138 mJ9_min_7cf53.1 ∈ gtbl ∧ Cond.static mJ9_min_7cf53.1 ∈ gtbl ∧ True := ⟨by decide +kernel, gt_of ⟨List.mem_of_getElem? (i := 337) (by decide +kernel), by decide +kernel⟩, gt_of ⟨List.mem_of_getElem? (i := 74) (by decide +kernel), by decide +kernel⟩, gt_of ⟨List.mem_of_getElem? (i := 455) (by decide +kernel), by decide +kernel⟩, ⟨gt_of ⟨List.mem_of_getElem? (i := 336) (by decide +kernel), by decide +kernel⟩, trivial⟩⟩
theorem oX3_141 : OkM mX3_firstLeastRow 2 ∧ Cond.code mX3_firstLeastRow.1 mX3_firstLeastRow.2.1 mX3_firstLeastRow.2.2.1 mX3_firstLeastRow.2.2.2 ∈ gtbl ∧ Cond.initialized mX3_firstLeastRow.1.cls ∈ gtbl ∧ Cond.methodLink RX3 141 mX3_firstLeastRow.1 ∈ gtbl ∧ Cond.instanceMethod mX3_firstLeastRow.1 ∈ gtbl ∧ Cond.selects mX3_firstLeastRow.1.cls mX3_firstLeastRow.1 mX3_firstLeastRow.1 ∈ gtbl := ⟨by decide +kernel, gt_of ⟨List.mem_of_getElem? (i := 463) (by decide +kernel), by decide +kernel⟩, gt_of ⟨List.mem_of_getElem? (i := 70) (by decide +kernel), by decide +kernel⟩, gt_of ⟨List.mem_of_getElem? (i := 460) (by decide +kernel), by decide +kernel⟩, ⟨gt_of ⟨List.mem_of_getElem? (i := 462) (by decide +kernel), by decide +kernel⟩, gt_of ⟨List.mem_of_getElem? (i := 29) (by decide +kernel), by decide +kernel⟩⟩⟩
theorem oL_9 : OkM mX4_init 0 ∧ Cond.code mX4_init.1 mX4_init.2.1 mX4_init.2.2.1 mX4_init.2.2.2 ∈ gtbl ∧ Cond.initialized mX4_init.1.cls ∈ gtbl ∧ Cond.methodLink RL 9 mX4_init.1 ∈ gtbl ∧ Cond.instanceMethod mX4_init.1 ∈ gtbl ∧ mX4_init.1.name = "<init>" := ⟨by decide +kernel, gt_of ⟨List.mem_of_getElem? (i := 80) (by decide +kernel), by decide +kernel⟩, gt_of ⟨List.mem_of_getElem? (i := 67) (by decide +kernel), by decide +kernel⟩, gt_of ⟨List.mem_of_getElem? (i := 78) (by decide +kernel), by decide +kernel⟩, ⟨gt_of ⟨List.mem_of_getElem? (i := 79) (by decide +kernel), by decide +kernel⟩, by decide +kernel⟩⟩
theorem oL_12 : OkM mX5_init 0 ∧ Cond.code mX5_init.1 mX5_init.2.1 mX5_init.2.2.1 mX5_init.2.2.2 ∈ gtbl ∧ Cond.initialized mX5_init.1.cls ∈ gtbl ∧ Cond.methodLink RL 12 mX5_init.1 ∈ gtbl ∧ Cond.instanceMethod mX5_init.1 ∈ gtbl ∧ mX5_init.1.name = "<init>" := ⟨by decide +kernel, gt_of ⟨List.mem_of_getElem? (i := 630) (by decide +kernel), by decide +kernel⟩, gt_of ⟨List.mem_of_getElem? (i := 73) (by decide +kernel), by decide +kernel⟩, gt_of ⟨List.mem_of_getElem? (i := 628) (by decide +kernel), by decide +kernel⟩, ⟨gt_of ⟨List.mem_of_getElem? (i := 629) (by decide +kernel), by decide +kernel⟩, by decide +kernel⟩⟩
theorem oL_13 : OkM mX4_mesh 3 ∧ Cond.code mX4_mesh.1 mX4_mesh.2.1 mX4_mesh.2.2.1 mX4_mesh.2.2.2 ∈ gtbl ∧ Cond.initialized mX4_mesh.1.cls ∈ gtbl ∧ Cond.methodLink RL 13 mX4_mesh.1 ∈ gtbl ∧ Cond.instanceMethod mX4_mesh.1 ∈ gtbl ∧ Cond.selects mX4_mesh.1.cls mX4_mesh.1 mX4_mesh.1 ∈ gtbl := ⟨by decide +kernel, gt_of ⟨List.mem_of_getElem? (i := 264) (by decide +kernel), by decide +kernel⟩, gt_of ⟨List.mem_of_getElem? (i := 67) (by decide +kernel), by decide +kernel⟩, gt_of ⟨List.mem_of_getElem? (i := 261) (by decide +kernel), by decide +kernel⟩, ⟨gt_of ⟨List.mem_of_getElem? (i := 262) (by decide +kernel), by decide +kernel⟩, gt_of ⟨List.mem_of_getElem? (i := 263) (by decide +kernel), by decide +kernel⟩⟩⟩
theorem oL_17 : OkM mX5_mesh 3 ∧ Cond.code mX5_mesh.1 mX5_mesh.2.1 mX5_mesh.2.2.1 mX5_mesh.2.2.2 ∈ gtbl ∧ Cond.initialized mX5_mesh.1.cls ∈ gtbl ∧ Cond.methodLink RL 17 mX5_mesh.1 ∈ gtbl ∧ Cond.instanceMethod mX5_mesh.1 ∈ gtbl ∧ Cond.selects mX5_mesh.1.cls mX5_mesh.1 mX5_mesh.1 ∈ gtbl := ⟨by decide +kernel, gt_of ⟨List.mem_of_getElem? (i := 727) (by decide +kernel), by decide +kernel⟩, gt_of ⟨List.mem_of_getElem? (i := 73) (by decide +kernel), by decide +kernel⟩, gt_of ⟨List.mem_of_getElem? (i := 724) (by decide +kernel), by decide +kernel⟩, ⟨gt_of ⟨List.mem_of_getElem? (i := 725) (by decide +kernel), by decide +kernel⟩, gt_of ⟨List.mem_of_getElem? (i := 726) (by decide +kernel), by decide +kernel⟩⟩⟩
theorem oL_18 : OkM mX4_write 3 ∧ Cond.code mX4_write.1 mX4_write.2.1 mX4_write.2.2.1 mX4_write.2.2.2 ∈ gtbl ∧ Cond.initialized mX4_write.1.cls ∈ gtbl ∧ Cond.methodLink RL 18 mX4_write.1 ∈ gtbl ∧ Cond.instanceMethod mX4_write.1 ∈ gtbl ∧ Cond.selects mX4_write.1.cls mX4_write.1 mX4_write.1 ∈ gtbl := ⟨by decide +kernel, gt_of ⟨List.mem_of_getElem? (i := 276) (by decide +kernel), by decide +kernel⟩, gt_of ⟨List.mem_of_getElem? (i := 67) (by decide +kernel), by decide +kernel⟩, gt_of ⟨List.mem_of_getElem? (i := 273) (by decide +kernel), by decide +kernel⟩, ⟨gt_of ⟨List.mem_of_getElem? (i := 274) (by decide +kernel), by decide +kernel⟩, gt_of ⟨List.mem_of_getElem? (i := 275) (by decide +kernel), by decide +kernel⟩⟩⟩
theorem oL_21 : OkM mX5_write 3 ∧ Cond.code mX5_write.1 mX5_write.2.1 mX5_write.2.2.1 mX5_write.2.2.2 ∈ gtbl ∧ Cond.initialized mX5_write.1.cls ∈ gtbl ∧ Cond.methodLink RL 21 mX5_write.1 ∈ gtbl ∧ Cond.instanceMethod mX5_write.1 ∈ gtbl ∧ Cond.selects mX5_write.1.cls mX5_write.1 mX5_write.1 ∈ gtbl := ⟨by decide +kernel, gt_of ⟨List.mem_of_getElem? (i := 734) (by decide +kernel), by decide +kernel⟩, gt_of ⟨List.mem_of_getElem? (i := 73) (by decide +kernel), by decide +kernel⟩, gt_of ⟨List.mem_of_getElem? (i := 731) (by decide +kernel), by decide +kernel⟩, ⟨gt_of ⟨List.mem_of_getElem? (i := 732) (by decide +kernel), by decide +kernel⟩, gt_of ⟨List.mem_of_getElem? (i := 733) (by decide +kernel), by decide +kernel⟩⟩⟩
theorem oL_22 : OkM mX4_stick 3 ∧ Cond.code mX4_stick.1 mX4_stick.2.1 mX4_stick.2.2.1 mX4_stick.2.2.2 ∈ gtbl ∧ Cond.initialized mX4_stick.1.cls ∈ gtbl ∧ Cond.methodLink RL 22 mX4_stick.1 ∈ gtbl ∧ Cond.instanceMethod mX4_stick.1 ∈ gtbl ∧ Cond.selects mX4_stick.1.cls mX4_stick.1 mX4_stick.1 ∈ gtbl := ⟨by decide +kernel, gt_of ⟨List.mem_of_getElem? (i := 301) (by decide +kernel), by decide +kernel⟩, gt_of ⟨List.mem_of_getElem? (i := 67) (by decide +kernel), by decide +kernel⟩, gt_of ⟨List.mem_of_getElem? (i := 298) (by decide +kernel), by decide +kernel⟩, ⟨gt_of ⟨List.mem_of_getElem? (i := 299) (by decide +kernel), by decide +kernel⟩, gt_of ⟨List.mem_of_getElem? (i := 300) (by decide +kernel), by decide +kernel⟩⟩⟩
theorem oL_25 : OkM mX5_stick 3 ∧ Cond.code mX5_stick.1 mX5_stick.2.1 mX5_stick.2.2.1 mX5_stick.2.2.2 ∈ gtbl ∧ Cond.initialized mX5_stick.1.cls ∈ gtbl ∧ Cond.methodLink RL 25 mX5_stick.1 ∈ gtbl ∧ Cond.instanceMethod mX5_stick.1 ∈ gtbl ∧ Cond.selects mX5_stick.1.cls mX5_stick.1 mX5_stick.1 ∈ gtbl := ⟨by decide +kernel, gt_of ⟨List.mem_of_getElem? (i := 746) (by decide +kernel), by decide +kernel⟩, gt_of ⟨List.mem_of_getElem? (i := 73) (by decide +kernel), by decide +kernel⟩, gt_of ⟨List.mem_of_getElem? (i := 743) (by decide +kernel), by decide +kernel⟩, ⟨gt_of ⟨List.mem_of_getElem? (i := 744) (by decide +kernel), by decide +kernel⟩, gt_of ⟨List.mem_of_getElem? (i := 745) (by decide +kernel), by decide +kernel⟩⟩⟩
theorem oL_26 : OkM mX4_cell 3 ∧ Cond.code mX4_cell.1 mX4_cell.2.1 mX4_cell.2.2.1 mX4_cell.2.2.2 ∈ gtbl ∧ Cond.initialized mX4_cell.1.cls ∈ gtbl ∧ Cond.methodLink RL 26 mX4_cell.1 ∈ gtbl ∧ Cond.instanceMethod mX4_cell.1 ∈ gtbl ∧ Cond.selects mX4_cell.1.cls mX4_cell.1 mX4_cell.1 ∈ gtbl := ⟨by decide +kernel, gt_of ⟨List.mem_of_getElem? (i := 309) (by decide +kernel), by decide +kernel⟩, gt_of ⟨List.mem_of_getElem? (i := 67) (by decide +kernel), by decide +kernel⟩, gt_of ⟨List.mem_of_getElem? (i := 306) (by decide +kernel), by decide +kernel⟩, ⟨gt_of ⟨List.mem_of_getElem? (i := 307) (by decide +kernel), by decide +kernel⟩, gt_of ⟨List.mem_of_getElem? (i := 308) (by decide +kernel), by decide +kernel⟩⟩⟩
theorem oL_29 : OkM mX5_cell 3 ∧ Cond.code mX5_cell.1 mX5_cell.2.1 mX5_cell.2.2.1 mX5_cell.2.2.2 ∈ gtbl ∧ Cond.initialized mX5_cell.1.cls ∈ gtbl ∧ Cond.methodLink RL 29 mX5_cell.1 ∈ gtbl ∧ Cond.instanceMethod mX5_cell.1 ∈ gtbl ∧ Cond.selects mX5_cell.1.cls mX5_cell.1 mX5_cell.1 ∈ gtbl := ⟨by decide +kernel, gt_of ⟨List.mem_of_getElem? (i := 750) (by decide +kernel), by decide +kernel⟩, gt_of ⟨List.mem_of_getElem? (i := 73) (by decide +kernel), by decide +kernel⟩, gt_of ⟨List.mem_of_getElem? (i := 747) (by decide +kernel), by decide +kernel⟩, ⟨gt_of ⟨List.mem_of_getElem? (i := 748) (by decide +kernel), by decide +kernel⟩, gt_of ⟨List.mem_of_getElem? (i := 749) (by decide +kernel), by decide +kernel⟩⟩⟩
theorem oL_30 : OkM mX4_input 2 ∧ Cond.code mX4_input.1 mX4_input.2.1 mX4_input.2.2.1 mX4_input.2.2.2 ∈ gtbl ∧ Cond.initialized mX4_input.1.cls ∈ gtbl ∧ Cond.methodLink RL 30 mX4_input.1 ∈ gtbl ∧ Cond.instanceMethod mX4_input.1 ∈ gtbl ∧ Cond.selects mX4_input.1.cls mX4_input.1 mX4_input.1 ∈ gtbl := ⟨by decide +kernel, gt_of ⟨List.mem_of_getElem? (i := 317) (by decide +kernel), by decide +kernel⟩, gt_of ⟨List.mem_of_getElem? (i := 67) (by decide +kernel), by decide +kernel⟩, gt_of ⟨List.mem_of_getElem? (i := 314) (by decide +kernel), by decide +kernel⟩, ⟨gt_of ⟨List.mem_of_getElem? (i := 315) (by decide +kernel), by decide +kernel⟩, gt_of ⟨List.mem_of_getElem? (i := 316) (by decide +kernel), by decide +kernel⟩⟩⟩
theorem oL_34 : OkM mX5_input 2 ∧ Cond.code mX5_input.1 mX5_input.2.1 mX5_input.2.2.1 mX5_input.2.2.2 ∈ gtbl ∧ Cond.initialized mX5_input.1.cls ∈ gtbl ∧ Cond.methodLink RL 34 mX5_input.1 ∈ gtbl ∧ Cond.instanceMethod mX5_input.1 ∈ gtbl ∧ Cond.selects mX5_input.1.cls mX5_input.1 mX5_input.1 ∈ gtbl := ⟨by decide +kernel, gt_of ⟨List.mem_of_getElem? (i := 758) (by decide +kernel), by decide +kernel⟩, gt_of ⟨List.mem_of_getElem? (i := 73) (by decide +kernel), by decide +kernel⟩, gt_of ⟨List.mem_of_getElem? (i := 755) (by decide +kernel), by decide +kernel⟩, ⟨gt_of ⟨List.mem_of_getElem? (i := 756) (by decide +kernel), by decide +kernel⟩, gt_of ⟨List.mem_of_getElem? (i := 757) (by decide +kernel), by decide +kernel⟩⟩⟩
theorem oL_35 : OkM mX4_bits 1 ∧ Cond.code mX4_bits.1 mX4_bits.2.1 mX4_bits.2.2.1 mX4_bits.2.2.2 ∈ gtbl ∧ Cond.initialized mX4_bits.1.cls ∈ gtbl ∧ Cond.methodLink RL 35 mX4_bits.1 ∈ gtbl ∧ Cond.instanceMethod mX4_bits.1 ∈ gtbl ∧ Cond.selects mX4_bits.1.cls mX4_bits.1 mX4_bits.1 ∈ gtbl := ⟨by decide +kernel, gt_of ⟨List.mem_of_getElem? (i := 321) (by decide +kernel), by decide +kernel⟩, gt_of ⟨List.mem_of_getElem? (i := 67) (by decide +kernel), by decide +kernel⟩, gt_of ⟨List.mem_of_getElem? (i := 318) (by decide +kernel), by decide +kernel⟩, ⟨gt_of ⟨List.mem_of_getElem? (i := 319) (by decide +kernel), by decide +kernel⟩, gt_of ⟨List.mem_of_getElem? (i := 320) (by decide +kernel), by decide +kernel⟩⟩⟩
theorem oL_39 : OkM mX5_bits 1 ∧ Cond.code mX5_bits.1 mX5_bits.2.1 mX5_bits.2.2.1 mX5_bits.2.2.2 ∈ gtbl ∧ Cond.initialized mX5_bits.1.cls ∈ gtbl ∧ Cond.methodLink RL 39 mX5_bits.1 ∈ gtbl ∧ Cond.instanceMethod mX5_bits.1 ∈ gtbl ∧ Cond.selects mX5_bits.1.cls mX5_bits.1 mX5_bits.1 ∈ gtbl := ⟨by decide +kernel, gt_of ⟨List.mem_of_getElem? (i := 762) (by decide +kernel), by decide +kernel⟩, gt_of ⟨List.mem_of_getElem? (i := 73) (by decide +kernel), by decide +kernel⟩, gt_of ⟨List.mem_of_getElem? (i := 759) (by decide +kernel), by decide +kernel⟩, ⟨gt_of ⟨List.mem_of_getElem? (i := 760) (by decide +kernel), by decide +kernel⟩, gt_of ⟨List.mem_of_getElem? (i := 761) (by decide +kernel), by decide +kernel⟩⟩⟩
theorem oL_40 : OkM mX4_sum 1 ∧ Cond.code mX4_sum.1 mX4_sum.2.1 mX4_sum.2.2.1 mX4_sum.2.2.2 ∈ gtbl ∧ Cond.initialized mX4_sum.1.cls ∈ gtbl ∧ Cond.methodLink RL 40 mX4_sum.1 ∈ gtbl ∧ Cond.instanceMethod mX4_sum.1 ∈ gtbl ∧ Cond.selects mX4_sum.1.cls mX4_sum.1 mX4_sum.1 ∈ gtbl := ⟨by decide +kernel, gt_of ⟨List.mem_of_getElem? (i := 325) (by decide +kernel), by decide +kernel⟩, gt_of ⟨List.mem_of_getElem? (i := 67) (by decide +kernel), by decide +kernel⟩, gt_of ⟨List.mem_of_getElem? (i := 322) (by decide +kernel), by decide +kernel⟩, ⟨gt_of ⟨List.mem_of_getElem? (i := 323) (by decide +kernel), by decide +kernel⟩, gt_of ⟨List.mem_of_getElem? (i := 324) (by decide +kernel), by decide +kernel⟩⟩⟩
theorem oL_43 : OkM mX5_sum 1 ∧ Cond.code mX5_sum.1 mX5_sum.2.1 mX5_sum.2.2.1 mX5_sum.2.2.2 ∈ gtbl ∧ Cond.initialized mX5_sum.1.cls ∈ gtbl ∧ Cond.methodLink RL 43 mX5_sum.1 ∈ gtbl ∧ Cond.instanceMethod mX5_sum.1 ∈ gtbl ∧ Cond.selects mX5_sum.1.cls mX5_sum.1 mX5_sum.1 ∈ gtbl := ⟨by decide +kernel, gt_of ⟨List.mem_of_getElem? (i := 766) (by decide +kernel), by decide +kernel⟩, gt_of ⟨List.mem_of_getElem? (i := 73) (by decide +kernel), by decide +kernel⟩, gt_of ⟨List.mem_of_getElem? (i := 763) (by decide +kernel), by decide +kernel⟩, ⟨gt_of ⟨List.mem_of_getElem? (i := 764) (by decide +kernel), by decide +kernel⟩, gt_of ⟨List.mem_of_getElem? (i := 765) (by decide +kernel), by decide +kernel⟩⟩⟩
theorem oL_44 : OkM mX4_table 3 ∧ Cond.code mX4_table.1 mX4_table.2.1 mX4_table.2.2.1 mX4_table.2.2.2 ∈ gtbl ∧ Cond.initialized mX4_table.1.cls ∈ gtbl ∧ Cond.methodLink RL 44 mX4_table.1 ∈ gtbl ∧ Cond.instanceMethod mX4_table.1 ∈ gtbl ∧ Cond.selects mX4_table.1.cls mX4_table.1 mX4_table.1 ∈ gtbl := ⟨by decide +kernel, gt_of ⟨List.mem_of_getElem? (i := 341) (by decide +kernel), by decide +kernel⟩, gt_of ⟨List.mem_of_getElem? (i := 67) (by decide +kernel), by decide +kernel⟩, gt_of ⟨List.mem_of_getElem? (i := 338) (by decide +kernel), by decide +kernel⟩, ⟨gt_of ⟨List.mem_of_getElem? (i := 339) (by decide +kernel), by decide +kernel⟩, gt_of ⟨List.mem_of_getElem? (i := 340) (by decide +kernel), by decide +kernel⟩⟩⟩
theorem oL_47 : OkM mX5_table 3 ∧ Cond.code mX5_table.1 mX5_table.2.1 mX5_table.2.2.1 mX5_table.2.2.2 ∈ gtbl ∧ Cond.initialized mX5_table.1.cls ∈ gtbl ∧ Cond.methodLink RL 47 mX5_table.1 ∈ gtbl ∧ Cond.instanceMethod mX5_table.1 ∈ gtbl ∧ Cond.selects mX5_table.1.cls mX5_table.1 mX5_table.1 ∈ gtbl := ⟨by decide +kernel, gt_of ⟨List.mem_of_getElem? (i := 778) (by decide +kernel), by decide +kernel⟩, gt_of ⟨List.mem_of_getElem? (i := 73) (by decide +kernel), by decide +kernel⟩, gt_of ⟨List.mem_of_getElem? (i := 775) (by decide +kernel), by decide +kernel⟩, ⟨gt_of ⟨List.mem_of_getElem? (i := 776) (by decide +kernel), by decide +kernel⟩, gt_of ⟨List.mem_of_getElem? (i := 777) (by decide +kernel), by decide +kernel⟩⟩⟩
theorem oL_48 : OkM mX4_number 3 ∧ Cond.code mX4_number.1 mX4_number.2.1 mX4_number.2.2.1 mX4_number.2.2.2 ∈ gtbl ∧ Cond.initialized mX4_number.1.cls ∈ gtbl ∧ Cond.methodLink RL 48 mX4_number.1 ∈ gtbl ∧ Cond.instanceMethod mX4_number.1 ∈ gtbl ∧ Cond.selects mX4_number.1.cls mX4_number.1 mX4_number.1 ∈ gtbl := ⟨by decide +kernel, gt_of ⟨List.mem_of_getElem? (i := 357) (by decide +kernel), by decide +kernel⟩, gt_of ⟨List.mem_of_getElem? (i := 67) (by decide +kernel), by decide +kernel⟩, gt_of ⟨List.mem_of_getElem? (i := 354) (by decide +kernel), by decide +kernel⟩, ⟨gt_of ⟨List.mem_of_getElem? (i := 355) (by decide +kernel), by decide +kernel⟩, gt_of ⟨List.mem_of_getElem? (i := 356) (by decide +kernel), by decide +kernel⟩⟩⟩
theorem oL_51 : OkM mX5_number 3 ∧ Cond.code mX5_number.1 mX5_number.2.1 mX5_number.2.2.1 mX5_number.2.2.2 ∈ gtbl ∧ Cond.initialized mX5_number.1.cls ∈ gtbl ∧ Cond.methodLink RL 51 mX5_number.1 ∈ gtbl ∧ Cond.instanceMethod mX5_number.1 ∈ gtbl ∧ Cond.selects mX5_number.1.cls mX5_number.1 mX5_number.1 ∈ gtbl := ⟨by decide +kernel, gt_of ⟨List.mem_of_getElem? (i := 782) (by decide +kernel), by decide +kernel⟩, gt_of ⟨List.mem_of_getElem? (i := 73) (by decide +kernel), by decide +kernel⟩, gt_of ⟨List.mem_of_getElem? (i := 779) (by decide +kernel), by decide +kernel⟩, ⟨gt_of ⟨List.mem_of_getElem? (i := 780) (by decide +kernel), by decide +kernel⟩, gt_of ⟨List.mem_of_getElem? (i := 781) (by decide +kernel), by decide +kernel⟩⟩⟩
theorem oL_52 : OkM mX4_lay 0 ∧ Cond.code mX4_lay.1 mX4_lay.2.1 mX4_lay.2.2.1 mX4_lay.2.2.2 ∈ gtbl ∧ Cond.initialized mX4_lay.1.cls ∈ gtbl ∧ Cond.methodLink RL 52 mX4_lay.1 ∈ gtbl ∧ Cond.instanceMethod mX4_lay.1 ∈ gtbl ∧ Cond.selects mX4_lay.1.cls mX4_lay.1 mX4_lay.1 ∈ gtbl := ⟨by decide +kernel, gt_of ⟨List.mem_of_getElem? (i := 370) (by decide +kernel), by decide +kernel⟩, gt_of ⟨List.mem_of_getElem? (i := 67) (by decide +kernel), by decide +kernel⟩, gt_of ⟨List.mem_of_getElem? (i := 367) (by decide +kernel), by decide +kernel⟩, ⟨gt_of ⟨List.mem_of_getElem? (i := 368) (by decide +kernel), by decide +kernel⟩, gt_of ⟨List.mem_of_getElem? (i := 369) (by decide +kernel), by decide +kernel⟩⟩⟩
theorem oL_56 : OkM mX5_lay 0 ∧ Cond.code mX5_lay.1 mX5_lay.2.1 mX5_lay.2.2.1 mX5_lay.2.2.2 ∈ gtbl ∧ Cond.initialized mX5_lay.1.cls ∈ gtbl ∧ Cond.methodLink RL 56 mX5_lay.1 ∈ gtbl ∧ Cond.instanceMethod mX5_lay.1 ∈ gtbl ∧ Cond.selects mX5_lay.1.cls mX5_lay.1 mX5_lay.1 ∈ gtbl := ⟨by decide +kernel, gt_of ⟨List.mem_of_getElem? (i := 791) (by decide +kernel), by decide +kernel⟩, gt_of ⟨List.mem_of_getElem? (i := 73) (by decide +kernel), by decide +kernel⟩, gt_of ⟨List.mem_of_getElem? (i := 788) (by decide +kernel), by decide +kernel⟩, ⟨gt_of ⟨List.mem_of_getElem? (i := 789) (by decide +kernel), by decide +kernel⟩, gt_of ⟨List.mem_of_getElem? (i := 790) (by decide +kernel), by decide +kernel⟩⟩⟩
theorem oL_57 : OkM mX4_product 1 ∧ Cond.code mX4_product.1 mX4_product.2.1 mX4_product.2.2.1 mX4_product.2.2.2 ∈ gtbl ∧ Cond.initialized mX4_product.1.cls ∈ gtbl ∧ Cond.methodLink RL 57 mX4_product.1 ∈ gtbl ∧ Cond.instanceMethod mX4_product.1 ∈ gtbl ∧ Cond.selects mX4_product.1.cls mX4_product.1 mX4_product.1 ∈ gtbl := ⟨by decide +kernel, gt_of ⟨List.mem_of_getElem? (i := 396) (by decide +kernel), by decide +kernel⟩, gt_of ⟨List.mem_of_getElem? (i := 67) (by decide +kernel), by decide +kernel⟩, gt_of ⟨List.mem_of_getElem? (i := 393) (by decide +kernel), by decide +kernel⟩, ⟨gt_of ⟨List.mem_of_getElem? (i := 394) (by decide +kernel), by decide +kernel⟩, gt_of ⟨List.mem_of_getElem? (i := 395) (by decide +kernel), by decide +kernel⟩⟩⟩
theorem oL_61 : OkM mX5_product 1 ∧ Cond.code mX5_product.1 mX5_product.2.1 mX5_product.2.2.1 mX5_product.2.2.2 ∈ gtbl ∧ Cond.initialized mX5_product.1.cls ∈ gtbl ∧ Cond.methodLink RL 61 mX5_product.1 ∈ gtbl ∧ Cond.instanceMethod mX5_product.1 ∈ gtbl ∧ Cond.selects mX5_product.1.cls mX5_product.1 mX5_product.1 ∈ gtbl := ⟨by decide +kernel, gt_of ⟨List.mem_of_getElem? (i := 803) (by decide +kernel), by decide +kernel⟩, gt_of ⟨List.mem_of_getElem? (i := 73) (by decide +kernel), by decide +kernel⟩, gt_of ⟨List.mem_of_getElem? (i := 800) (by decide +kernel), by decide +kernel⟩, ⟨gt_of ⟨List.mem_of_getElem? (i := 801) (by decide +kernel), by decide +kernel⟩, gt_of ⟨List.mem_of_getElem? (i := 802) (by decide +kernel), by decide +kernel⟩⟩⟩
theorem oL_62 : OkM mX4_due 1 ∧ Cond.code mX4_due.1 mX4_due.2.1 mX4_due.2.2.1 mX4_due.2.2.2 ∈ gtbl ∧ Cond.initialized mX4_due.1.cls ∈ gtbl ∧ Cond.methodLink RL 62 mX4_due.1 ∈ gtbl ∧ Cond.instanceMethod mX4_due.1 ∈ gtbl ∧ Cond.selects mX4_due.1.cls mX4_due.1 mX4_due.1 ∈ gtbl := ⟨by decide +kernel, gt_of ⟨List.mem_of_getElem? (i := 410) (by decide +kernel), by decide +kernel⟩, gt_of ⟨List.mem_of_getElem? (i := 67) (by decide +kernel), by decide +kernel⟩, gt_of ⟨List.mem_of_getElem? (i := 407) (by decide +kernel), by decide +kernel⟩, ⟨gt_of ⟨List.mem_of_getElem? (i := 408) (by decide +kernel), by decide +kernel⟩, gt_of ⟨List.mem_of_getElem? (i := 409) (by decide +kernel), by decide +kernel⟩⟩⟩
theorem oL_65 : OkM mX5_due 1 ∧ Cond.code mX5_due.1 mX5_due.2.1 mX5_due.2.2.1 mX5_due.2.2.2 ∈ gtbl ∧ Cond.initialized mX5_due.1.cls ∈ gtbl ∧ Cond.methodLink RL 65 mX5_due.1 ∈ gtbl ∧ Cond.instanceMethod mX5_due.1 ∈ gtbl ∧ Cond.selects mX5_due.1.cls mX5_due.1 mX5_due.1 ∈ gtbl := ⟨by decide +kernel, gt_of ⟨List.mem_of_getElem? (i := 812) (by decide +kernel), by decide +kernel⟩, gt_of ⟨List.mem_of_getElem? (i := 73) (by decide +kernel), by decide +kernel⟩, gt_of ⟨List.mem_of_getElem? (i := 809) (by decide +kernel), by decide +kernel⟩, ⟨gt_of ⟨List.mem_of_getElem? (i := 810) (by decide +kernel), by decide +kernel⟩, gt_of ⟨List.mem_of_getElem? (i := 811) (by decide +kernel), by decide +kernel⟩⟩⟩
theorem oL_66 : OkM mX4_enough 0 ∧ Cond.code mX4_enough.1 mX4_enough.2.1 mX4_enough.2.2.1 mX4_enough.2.2.2 ∈ gtbl ∧ Cond.initialized mX4_enough.1.cls ∈ gtbl ∧ Cond.methodLink RL 66 mX4_enough.1 ∈ gtbl ∧ Cond.instanceMethod mX4_enough.1 ∈ gtbl ∧ Cond.selects mX4_enough.1.cls mX4_enough.1 mX4_enough.1 ∈ gtbl := ⟨by decide +kernel, gt_of ⟨List.mem_of_getElem? (i := 418) (by decide +kernel), by decide +kernel⟩, gt_of ⟨List.mem_of_getElem? (i := 67) (by decide +kernel), by decide +kernel⟩, gt_of ⟨List.mem_of_getElem? (i := 415) (by decide +kernel), by decide +kernel⟩, ⟨gt_of ⟨List.mem_of_getElem? (i := 416) (by decide +kernel), by decide +kernel⟩, gt_of ⟨List.mem_of_getElem? (i := 417) (by decide +kernel), by decide +kernel⟩⟩⟩
theorem oL_69 : OkM mX5_enough 0 ∧ Cond.code mX5_enough.1 mX5_enough.2.1 mX5_enough.2.2.1 mX5_enough.2.2.2 ∈ gtbl ∧ Cond.initialized mX5_enough.1.cls ∈ gtbl ∧ Cond.methodLink RL 69 mX5_enough.1 ∈ gtbl ∧ Cond.instanceMethod mX5_enough.1 ∈ gtbl ∧ Cond.selects mX5_enough.1.cls mX5_enough.1 mX5_enough.1 ∈ gtbl := ⟨by decide +kernel, gt_of ⟨List.mem_of_getElem? (i := 816) (by decide +kernel), by decide +kernel⟩, gt_of ⟨List.mem_of_getElem? (i := 73) (by decide +kernel), by decide +kernel⟩, gt_of ⟨List.mem_of_getElem? (i := 813) (by decide +kernel), by decide +kernel⟩, ⟨gt_of ⟨List.mem_of_getElem? (i := 814) (by decide +kernel), by decide +kernel⟩, gt_of ⟨List.mem_of_getElem? (i := 815) (by decide +kernel), by decide +kernel⟩⟩⟩
theorem oL_70 : OkM mX4_map 0 ∧ Cond.code mX4_map.1 mX4_map.2.1 mX4_map.2.2.1 mX4_map.2.2.2 ∈ gtbl ∧ Cond.initialized mX4_map.1.cls ∈ gtbl ∧ Cond.methodLink RL 70 mX4_map.1 ∈ gtbl ∧ Cond.instanceMethod mX4_map.1 ∈ gtbl ∧ Cond.selects mX4_map.1.cls mX4_map.1 mX4_map.1 ∈ gtbl := ⟨by decide +kernel, gt_of ⟨List.mem_of_getElem? (i := 426) (by decide +kernel), by decide +kernel⟩, gt_of ⟨List.mem_of_getElem? (i := 67) (by decide +kernel), by decide +kernel⟩, gt_of ⟨List.mem_of_getElem? (i := 423) (by decide +kernel), by decide +kernel⟩, ⟨gt_of ⟨List.mem_of_getElem? (i := 424) (by decide +kernel), by decide +kernel⟩, gt_of ⟨List.mem_of_getElem? (i := 425) (by decide +kernel), by decide +kernel⟩⟩⟩
theorem oL_73 : OkM mX5_map 0 ∧ Cond.code mX5_map.1 mX5_map.2.1 mX5_map.2.2.1 mX5_map.2.2.2 ∈ gtbl ∧ Cond.initialized mX5_map.1.cls ∈ gtbl ∧ Cond.methodLink RL 73 mX5_map.1 ∈ gtbl ∧ Cond.instanceMethod mX5_map.1 ∈ gtbl ∧ Cond.selects mX5_map.1.cls mX5_map.1 mX5_map.1 ∈ gtbl := ⟨by decide +kernel, gt_of ⟨List.mem_of_getElem? (i := 820) (by decide +kernel), by decide +kernel⟩, gt_of ⟨List.mem_of_getElem? (i := 73) (by decide +kernel), by decide +kernel⟩, gt_of ⟨List.mem_of_getElem? (i := 817) (by decide +kernel), by decide +kernel⟩, ⟨gt_of ⟨List.mem_of_getElem? (i := 818) (by decide +kernel), by decide +kernel⟩, gt_of ⟨List.mem_of_getElem? (i := 819) (by decide +kernel), by decide +kernel⟩⟩⟩
theorem oL_74 : OkM mX4_mapped 1 ∧ Cond.code mX4_mapped.1 mX4_mapped.2.1 mX4_mapped.2.2.1 mX4_mapped.2.2.2 ∈ gtbl ∧ Cond.initialized mX4_mapped.1.cls ∈ gtbl ∧ Cond.methodLink RL 74 mX4_mapped.1 ∈ gtbl ∧ Cond.instanceMethod mX4_mapped.1 ∈ gtbl ∧ Cond.selects mX4_mapped.1.cls mX4_mapped.1 mX4_mapped.1 ∈ gtbl := ⟨by decide +kernel, gt_of ⟨List.mem_of_getElem? (i := 467) (by decide +kernel), by decide +kernel⟩, gt_of ⟨List.mem_of_getElem? (i := 67) (by decide +kernel), by decide +kernel⟩, gt_of ⟨List.mem_of_getElem? (i := 464) (by decide +kernel), by decide +kernel⟩, ⟨gt_of ⟨List.mem_of_getElem? (i := 465) (by decide +kernel), by decide +kernel⟩, gt_of ⟨List.mem_of_getElem? (i := 466) (by decide +kernel), by decide +kernel⟩⟩⟩
theorem oL_77 : OkM mX5_mapped 1 ∧ Cond.code mX5_mapped.1 mX5_mapped.2.1 mX5_mapped.2.2.1 mX5_mapped.2.2.2 ∈ gtbl ∧ Cond.initialized mX5_mapped.1.cls ∈ gtbl ∧ Cond.methodLink RL 77 mX5_mapped.1 ∈ gtbl ∧ Cond.instanceMethod mX5_mapped.1 ∈ gtbl ∧ Cond.selects mX5_mapped.1.cls mX5_mapped.1 mX5_mapped.1 ∈ gtbl := ⟨by decide +kernel, gt_of ⟨List.mem_of_getElem? (i := 832) (by decide +kernel), by decide +kernel⟩, gt_of ⟨List.mem_of_getElem? (i := 73) (by decide +kernel), by decide +kernel⟩, gt_of ⟨List.mem_of_getElem? (i := 829) (by decide +kernel), by decide +kernel⟩, ⟨gt_of ⟨List.mem_of_getElem? (i := 830) (by decide +kernel), by decide +kernel⟩, gt_of ⟨List.mem_of_getElem? (i := 831) (by decide +kernel), by decide +kernel⟩⟩⟩
theorem oL_78 : OkM mX4_seal 0 ∧ Cond.code mX4_seal.1 mX4_seal.2.1 mX4_seal.2.2.1 mX4_seal.2.2.2 ∈ gtbl ∧ Cond.initialized mX4_seal.1.cls ∈ gtbl ∧ Cond.methodLink RL 78 mX4_seal.1 ∈ gtbl ∧ Cond.instanceMethod mX4_seal.1 ∈ gtbl ∧ Cond.selects mX4_seal.1.cls mX4_seal.1 mX4_seal.1 ∈ gtbl := ⟨by decide +kernel, gt_of ⟨List.mem_of_getElem? (i := 471) (by decide +kernel), by decide +kernel⟩, gt_of ⟨List.mem_of_getElem? (i := 67) (by decide +kernel), by decide +kernel⟩, gt_of ⟨List.mem_of_getElem? (i := 468) (by decide +kernel), by decide +kernel⟩, ⟨gt_of ⟨List.mem_of_getElem? (i := 469) (by decide +kernel), by decide +kernel⟩, gt_of ⟨List.mem_of_getElem? (i := 470) (by decide +kernel), by decide +kernel⟩⟩⟩
theorem oL_81 : OkM mX5_seal 0 ∧ Cond.code mX5_seal.1 mX5_seal.2.1 mX5_seal.2.2.1 mX5_seal.2.2.2 ∈ gtbl ∧ Cond.initialized mX5_seal.1.cls ∈ gtbl ∧ Cond.methodLink RL 81 mX5_seal.1 ∈ gtbl ∧ Cond.instanceMethod mX5_seal.1 ∈ gtbl ∧ Cond.selects mX5_seal.1.cls mX5_seal.1 mX5_seal.1 ∈ gtbl := ⟨by decide +kernel, gt_of ⟨List.mem_of_getElem? (i := 836) (by decide +kernel), by decide +kernel⟩, gt_of ⟨List.mem_of_getElem? (i := 73) (by decide +kernel), by decide +kernel⟩, gt_of ⟨List.mem_of_getElem? (i := 833) (by decide +kernel), by decide +kernel⟩, ⟨gt_of ⟨List.mem_of_getElem? (i := 834) (by decide +kernel), by decide +kernel⟩, gt_of ⟨List.mem_of_getElem? (i := 835) (by decide +kernel), by decide +kernel⟩⟩⟩
theorem oL_82 : OkM mX4_look 0 ∧ Cond.code mX4_look.1 mX4_look.2.1 mX4_look.2.2.1 mX4_look.2.2.2 ∈ gtbl ∧ Cond.initialized mX4_look.1.cls ∈ gtbl ∧ Cond.methodLink RL 82 mX4_look.1 ∈ gtbl ∧ Cond.instanceMethod mX4_look.1 ∈ gtbl ∧ Cond.selects mX4_look.1.cls mX4_look.1 mX4_look.1 ∈ gtbl := ⟨by decide +kernel, gt_of ⟨List.mem_of_getElem? (i := 480) (by decide +kernel), by decide +kernel⟩, gt_of ⟨List.mem_of_getElem? (i := 67) (by decide +kernel), by decide +kernel⟩, gt_of ⟨List.mem_of_getElem? (i := 477) (by decide +kernel), by decide +kernel⟩, ⟨gt_of ⟨List.mem_of_getElem? (i := 478) (by decide +kernel), by decide +kernel⟩, gt_of ⟨List.mem_of_getElem? (i := 479) (by decide +kernel), by decide +kernel⟩⟩⟩
theorem oL_85 : OkM mX5_look 0 ∧ Cond.code mX5_look.1 mX5_look.2.1 mX5_look.2.2.1 mX5_look.2.2.2 ∈ gtbl ∧ Cond.initialized mX5_look.1.cls ∈ gtbl ∧ Cond.methodLink RL 85 mX5_look.1 ∈ gtbl ∧ Cond.instanceMethod mX5_look.1 ∈ gtbl ∧ Cond.selects mX5_look.1.cls mX5_look.1 mX5_look.1 ∈ gtbl := ⟨by decide +kernel, gt_of ⟨List.mem_of_getElem? (i := 840) (by decide +kernel), by decide +kernel⟩, gt_of ⟨List.mem_of_getElem? (i := 73) (by decide +kernel), by decide +kernel⟩, gt_of ⟨List.mem_of_getElem? (i := 837) (by decide +kernel), by decide +kernel⟩, ⟨gt_of ⟨List.mem_of_getElem? (i := 838) (by decide +kernel), by decide +kernel⟩, gt_of ⟨List.mem_of_getElem? (i := 839) (by decide +kernel), by decide +kernel⟩⟩⟩
theorem oL_86 : OkM mX4_fade 1 ∧ Cond.code mX4_fade.1 mX4_fade.2.1 mX4_fade.2.2.1 mX4_fade.2.2.2 ∈ gtbl ∧ Cond.initialized mX4_fade.1.cls ∈ gtbl ∧ Cond.methodLink RL 86 mX4_fade.1 ∈ gtbl ∧ Cond.instanceMethod mX4_fade.1 ∈ gtbl ∧ Cond.selects mX4_fade.1.cls mX4_fade.1 mX4_fade.1 ∈ gtbl := ⟨by decide +kernel, gt_of ⟨List.mem_of_getElem? (i := 496) (by decide +kernel), by decide +kernel⟩, gt_of ⟨List.mem_of_getElem? (i := 67) (by decide +kernel), by decide +kernel⟩, gt_of ⟨List.mem_of_getElem? (i := 493) (by decide +kernel), by decide +kernel⟩, ⟨gt_of ⟨List.mem_of_getElem? (i := 494) (by decide +kernel), by decide +kernel⟩, gt_of ⟨List.mem_of_getElem? (i := 495) (by decide +kernel), by decide +kernel⟩⟩⟩
theorem oL_89 : OkM mX5_fade 1 ∧ Cond.code mX5_fade.1 mX5_fade.2.1 mX5_fade.2.2.1 mX5_fade.2.2.2 ∈ gtbl ∧ Cond.initialized mX5_fade.1.cls ∈ gtbl ∧ Cond.methodLink RL 89 mX5_fade.1 ∈ gtbl ∧ Cond.instanceMethod mX5_fade.1 ∈ gtbl ∧ Cond.selects mX5_fade.1.cls mX5_fade.1 mX5_fade.1 ∈ gtbl := ⟨by decide +kernel, gt_of ⟨List.mem_of_getElem? (i := 847) (by decide +kernel), by decide +kernel⟩, gt_of ⟨List.mem_of_getElem? (i := 73) (by decide +kernel), by decide +kernel⟩, gt_of ⟨List.mem_of_getElem? (i := 844) (by decide +kernel), by decide +kernel⟩, ⟨gt_of ⟨List.mem_of_getElem? (i := 845) (by decide +kernel), by decide +kernel⟩, gt_of ⟨List.mem_of_getElem? (i := 846) (by decide +kernel), by decide +kernel⟩⟩⟩
theorem oL_90 : OkM mX4_pulse 3 ∧ Cond.code mX4_pulse.1 mX4_pulse.2.1 mX4_pulse.2.2.1 mX4_pulse.2.2.2 ∈ gtbl ∧ Cond.initialized mX4_pulse.1.cls ∈ gtbl ∧ Cond.methodLink RL 90 mX4_pulse.1 ∈ gtbl ∧ Cond.instanceMethod mX4_pulse.1 ∈ gtbl ∧ Cond.selects mX4_pulse.1.cls mX4_pulse.1 mX4_pulse.1 ∈ gtbl := ⟨by decide +kernel, gt_of ⟨List.mem_of_getElem? (i := 508) (by decide +kernel), by decide +kernel⟩, gt_of ⟨List.mem_of_getElem? (i := 67) (by decide +kernel), by decide +kernel⟩, gt_of ⟨List.mem_of_getElem? (i := 505) (by decide +kernel), by decide +kernel⟩, ⟨gt_of ⟨List.mem_of_getElem? (i := 506) (by decide +kernel), by decide +kernel⟩, gt_of ⟨List.mem_of_getElem? (i := 507) (by decide +kernel), by decide +kernel⟩⟩⟩
theorem oL_93 : OkM mX5_pulse 3 ∧ Cond.code mX5_pulse.1 mX5_pulse.2.1 mX5_pulse.2.2.1 mX5_pulse.2.2.2 ∈ gtbl ∧ Cond.initialized mX5_pulse.1.cls ∈ gtbl ∧ Cond.methodLink RL 93 mX5_pulse.1 ∈ gtbl ∧ Cond.instanceMethod mX5_pulse.1 ∈ gtbl ∧ Cond.selects mX5_pulse.1.cls mX5_pulse.1 mX5_pulse.1 ∈ gtbl := ⟨by decide +kernel, gt_of ⟨List.mem_of_getElem? (i := 851) (by decide +kernel), by decide +kernel⟩, gt_of ⟨List.mem_of_getElem? (i := 73) (by decide +kernel), by decide +kernel⟩, gt_of ⟨List.mem_of_getElem? (i := 848) (by decide +kernel), by decide +kernel⟩, ⟨gt_of ⟨List.mem_of_getElem? (i := 849) (by decide +kernel), by decide +kernel⟩, gt_of ⟨List.mem_of_getElem? (i := 850) (by decide +kernel), by decide +kernel⟩⟩⟩
theorem oL_94 : OkM mX4_find 3 ∧ Cond.code mX4_find.1 mX4_find.2.1 mX4_find.2.2.1 mX4_find.2.2.2 ∈ gtbl ∧ Cond.initialized mX4_find.1.cls ∈ gtbl ∧ Cond.methodLink RL 94 mX4_find.1 ∈ gtbl ∧ Cond.instanceMethod mX4_find.1 ∈ gtbl ∧ Cond.selects mX4_find.1.cls mX4_find.1 mX4_find.1 ∈ gtbl := ⟨by decide +kernel, gt_of ⟨List.mem_of_getElem? (i := 517) (by decide +kernel), by decide +kernel⟩, gt_of ⟨List.mem_of_getElem? (i := 67) (by decide +kernel), by decide +kernel⟩, gt_of ⟨List.mem_of_getElem? (i := 514) (by decide +kernel), by decide +kernel⟩, ⟨gt_of ⟨List.mem_of_getElem? (i := 515) (by decide +kernel), by decide +kernel⟩, gt_of ⟨List.mem_of_getElem? (i := 516) (by decide +kernel), by decide +kernel⟩⟩⟩
theorem oL_97 : OkM mX5_find 3 ∧ Cond.code mX5_find.1 mX5_find.2.1 mX5_find.2.2.1 mX5_find.2.2.2 ∈ gtbl ∧ Cond.initialized mX5_find.1.cls ∈ gtbl ∧ Cond.methodLink RL 97 mX5_find.1 ∈ gtbl ∧ Cond.instanceMethod mX5_find.1 ∈ gtbl ∧ Cond.selects mX5_find.1.cls mX5_find.1 mX5_find.1 ∈ gtbl := ⟨by decide +kernel, gt_of ⟨List.mem_of_getElem? (i := 855) (by decide +kernel), by decide +kernel⟩, gt_of ⟨List.mem_of_getElem? (i := 73) (by decide +kernel), by decide +kernel⟩, gt_of ⟨List.mem_of_getElem? (i := 852) (by decide +kernel), by decide +kernel⟩, ⟨gt_of ⟨List.mem_of_getElem? (i := 853) (by decide +kernel), by decide +kernel⟩, gt_of ⟨List.mem_of_getElem? (i := 854) (by decide +kernel), by decide +kernel⟩⟩⟩
theorem oL_98 : OkM mX4_actAt 2 ∧ Cond.code mX4_actAt.1 mX4_actAt.2.1 mX4_actAt.2.2.1 mX4_actAt.2.2.2 ∈ gtbl ∧ Cond.initialized mX4_actAt.1.cls ∈ gtbl ∧ Cond.methodLink RL 98 mX4_actAt.1 ∈ gtbl ∧ Cond.instanceMethod mX4_actAt.1 ∈ gtbl ∧ Cond.selects mX4_actAt.1.cls mX4_actAt.1 mX4_actAt.1 ∈ gtbl := ⟨by decide +kernel, gt_of ⟨List.mem_of_getElem? (i := 582) (by decide +kernel), by decide +kernel⟩, gt_of ⟨List.mem_of_getElem? (i := 67) (by decide +kernel), by decide +kernel⟩, gt_of ⟨List.mem_of_getElem? (i := 579) (by decide +kernel), by decide +kernel⟩, ⟨gt_of ⟨List.mem_of_getElem? (i := 580) (by decide +kernel), by decide +kernel⟩, gt_of ⟨List.mem_of_getElem? (i := 581) (by decide +kernel), by decide +kernel⟩⟩⟩
theorem oL_101 : OkM mX5_actAt 2 ∧ Cond.code mX5_actAt.1 mX5_actAt.2.1 mX5_actAt.2.2.1 mX5_actAt.2.2.2 ∈ gtbl ∧ Cond.initialized mX5_actAt.1.cls ∈ gtbl ∧ Cond.methodLink RL 101 mX5_actAt.1 ∈ gtbl ∧ Cond.instanceMethod mX5_actAt.1 ∈ gtbl ∧ Cond.selects mX5_actAt.1.cls mX5_actAt.1 mX5_actAt.1 ∈ gtbl := ⟨by decide +kernel, gt_of ⟨List.mem_of_getElem? (i := 884) (by decide +kernel), by decide +kernel⟩, gt_of ⟨List.mem_of_getElem? (i := 73) (by decide +kernel), by decide +kernel⟩, gt_of ⟨List.mem_of_getElem? (i := 881) (by decide +kernel), by decide +kernel⟩, ⟨gt_of ⟨List.mem_of_getElem? (i := 882) (by decide +kernel), by decide +kernel⟩, gt_of ⟨List.mem_of_getElem? (i := 883) (by decide +kernel), by decide +kernel⟩⟩⟩
theorem oL_102 : OkM mX4_where 0 ∧ Cond.code mX4_where.1 mX4_where.2.1 mX4_where.2.2.1 mX4_where.2.2.2 ∈ gtbl ∧ Cond.initialized mX4_where.1.cls ∈ gtbl ∧ Cond.methodLink RL 102 mX4_where.1 ∈ gtbl ∧ Cond.instanceMethod mX4_where.1 ∈ gtbl ∧ Cond.selects mX4_where.1.cls mX4_where.1 mX4_where.1 ∈ gtbl := ⟨by decide +kernel, gt_of ⟨List.mem_of_getElem? (i := 589) (by decide +kernel), by decide +kernel⟩, gt_of ⟨List.mem_of_getElem? (i := 67) (by decide +kernel), by decide +kernel⟩, gt_of ⟨List.mem_of_getElem? (i := 586) (by decide +kernel), by decide +kernel⟩, ⟨gt_of ⟨List.mem_of_getElem? (i := 587) (by decide +kernel), by decide +kernel⟩, gt_of ⟨List.mem_of_getElem? (i := 588) (by decide +kernel), by decide +kernel⟩⟩⟩
theorem oL_105 : OkM mX5_where 0 ∧ Cond.code mX5_where.1 mX5_where.2.1 mX5_where.2.2.1 mX5_where.2.2.2 ∈ gtbl ∧ Cond.initialized mX5_where.1.cls ∈ gtbl ∧ Cond.methodLink RL 105 mX5_where.1 ∈ gtbl ∧ Cond.instanceMethod mX5_where.1 ∈ gtbl ∧ Cond.selects mX5_where.1.cls mX5_where.1 mX5_where.1 ∈ gtbl := ⟨by decide +kernel, gt_of ⟨List.mem_of_getElem? (i := 888) (by decide +kernel), by decide +kernel⟩, gt_of ⟨List.mem_of_getElem? (i := 73) (by decide +kernel), by decide +kernel⟩, gt_of ⟨List.mem_of_getElem? (i := 885) (by decide +kernel), by decide +kernel⟩, ⟨gt_of ⟨List.mem_of_getElem? (i := 886) (by decide +kernel), by decide +kernel⟩, gt_of ⟨List.mem_of_getElem? (i := 887) (by decide +kernel), by decide +kernel⟩⟩⟩
theorem oL_106 : OkM mX4_met 0 ∧ Cond.code mX4_met.1 mX4_met.2.1 mX4_met.2.2.1 mX4_met.2.2.2 ∈ gtbl ∧ Cond.initialized mX4_met.1.cls ∈ gtbl ∧ Cond.methodLink RL 106 mX4_met.1 ∈ gtbl ∧ Cond.instanceMethod mX4_met.1 ∈ gtbl ∧ Cond.selects mX4_met.1.cls mX4_met.1 mX4_met.1 ∈ gtbl := ⟨by decide +kernel, gt_of ⟨List.mem_of_getElem? (i := 593) (by decide +kernel), by decide +kernel⟩, gt_of ⟨List.mem_of_getElem? (i := 67) (by decide +kernel), by decide +kernel⟩, gt_of ⟨List.mem_of_getElem? (i := 590) (by decide +kernel), by decide +kernel⟩, ⟨gt_of ⟨List.mem_of_getElem? (i := 591) (by decide +kernel), by decide +kernel⟩, gt_of ⟨List.mem_of_getElem? (i := 592) (by decide +kernel), by decide +kernel⟩⟩⟩
theorem oL_109 : OkM mX5_met 0 ∧ Cond.code mX5_met.1 mX5_met.2.1 mX5_met.2.2.1 mX5_met.2.2.2 ∈ gtbl ∧ Cond.initialized mX5_met.1.cls ∈ gtbl ∧ Cond.methodLink RL 109 mX5_met.1 ∈ gtbl ∧ Cond.instanceMethod mX5_met.1 ∈ gtbl ∧ Cond.selects mX5_met.1.cls mX5_met.1 mX5_met.1 ∈ gtbl := ⟨by decide +kernel, gt_of ⟨List.mem_of_getElem? (i := 892) (by decide +kernel), by decide +kernel⟩, gt_of ⟨List.mem_of_getElem? (i := 73) (by decide +kernel), by decide +kernel⟩, gt_of ⟨List.mem_of_getElem? (i := 889) (by decide +kernel), by decide +kernel⟩, ⟨gt_of ⟨List.mem_of_getElem? (i := 890) (by decide +kernel), by decide +kernel⟩, gt_of ⟨List.mem_of_getElem? (i := 891) (by decide +kernel), by decide +kernel⟩⟩⟩
theorem oL_110 : OkM mX4_count 1 ∧ Cond.code mX4_count.1 mX4_count.2.1 mX4_count.2.2.1 mX4_count.2.2.2 ∈ gtbl ∧ Cond.initialized mX4_count.1.cls ∈ gtbl ∧ Cond.methodLink RL 110 mX4_count.1 ∈ gtbl ∧ Cond.instanceMethod mX4_count.1 ∈ gtbl ∧ Cond.selects mX4_count.1.cls mX4_count.1 mX4_count.1 ∈ gtbl := ⟨by decide +kernel, gt_of ⟨List.mem_of_getElem? (i := 597) (by decide +kernel), by decide +kernel⟩, gt_of ⟨List.mem_of_getElem? (i := 67) (by decide +kernel), by decide +kernel⟩, gt_of ⟨List.mem_of_getElem? (i := 594) (by decide +kernel), by decide +kernel⟩, ⟨gt_of ⟨List.mem_of_getElem? (i := 595) (by decide +kernel), by decide +kernel⟩, gt_of ⟨List.mem_of_getElem? (i := 596) (by decide +kernel), by decide +kernel⟩⟩⟩
theorem oL_113 : OkM mX5_count 1 ∧ Cond.code mX5_count.1 mX5_count.2.1 mX5_count.2.2.1 mX5_count.2.2.2 ∈ gtbl ∧ Cond.initialized mX5_count.1.cls ∈ gtbl ∧ Cond.methodLink RL 113 mX5_count.1 ∈ gtbl ∧ Cond.instanceMethod mX5_count.1 ∈ gtbl ∧ Cond.selects mX5_count.1.cls mX5_count.1 mX5_count.1 ∈ gtbl := ⟨by decide +kernel, gt_of ⟨List.mem_of_getElem? (i := 896) (by decide +kernel), by decide +kernel⟩, gt_of ⟨List.mem_of_getElem? (i := 73) (by decide +kernel), by decide +kernel⟩, gt_of ⟨List.mem_of_getElem? (i := 893) (by decide +kernel), by decide +kernel⟩, ⟨gt_of ⟨List.mem_of_getElem? (i := 894) (by decide +kernel), by decide +kernel⟩, gt_of ⟨List.mem_of_getElem? (i := 895) (by decide +kernel), by decide +kernel⟩⟩⟩
theorem oL_114 : OkM mX4_digest 0 ∧ Cond.code mX4_digest.1 mX4_digest.2.1 mX4_digest.2.2.1 mX4_digest.2.2.2 ∈ gtbl ∧ Cond.initialized mX4_digest.1.cls ∈ gtbl ∧ Cond.methodLink RL 114 mX4_digest.1 ∈ gtbl ∧ Cond.instanceMethod mX4_digest.1 ∈ gtbl ∧ Cond.selects mX4_digest.1.cls mX4_digest.1 mX4_digest.1 ∈ gtbl := ⟨by decide +kernel, gt_of ⟨List.mem_of_getElem? (i := 605) (by decide +kernel), by decide +kernel⟩, gt_of ⟨List.mem_of_getElem? (i := 67) (by decide +kernel), by decide +kernel⟩, gt_of ⟨List.mem_of_getElem? (i := 602) (by decide +kernel), by decide +kernel⟩, ⟨gt_of ⟨List.mem_of_getElem? (i := 603) (by decide +kernel), by decide +kernel⟩, gt_of ⟨List.mem_of_getElem? (i := 604) (by decide +kernel), by decide +kernel⟩⟩⟩
theorem oL_118 : OkM mX5_digest 0 ∧ Cond.code mX5_digest.1 mX5_digest.2.1 mX5_digest.2.2.1 mX5_digest.2.2.2 ∈ gtbl ∧ Cond.initialized mX5_digest.1.cls ∈ gtbl ∧ Cond.methodLink RL 118 mX5_digest.1 ∈ gtbl ∧ Cond.instanceMethod mX5_digest.1 ∈ gtbl ∧ Cond.selects mX5_digest.1.cls mX5_digest.1 mX5_digest.1 ∈ gtbl := ⟨by decide +kernel, gt_of ⟨List.mem_of_getElem? (i := 900) (by decide +kernel), by decide +kernel⟩, gt_of ⟨List.mem_of_getElem? (i := 73) (by decide +kernel), by decide +kernel⟩, gt_of ⟨List.mem_of_getElem? (i := 897) (by decide +kernel), by decide +kernel⟩, ⟨gt_of ⟨List.mem_of_getElem? (i := 898) (by decide +kernel), by decide +kernel⟩, gt_of ⟨List.mem_of_getElem? (i := 899) (by decide +kernel), by decide +kernel⟩⟩⟩
theorem oX5_1 : Cond.methodLink RX5 1 Lib.objectInit ∈ gtbl ∧ Cond.instanceMethod Lib.objectInit ∈ gtbl ∧ Cond.code Lib.objectInit ⟨#[0xb1]⟩ 1 none ∈ gtbl := ⟨gt_of ⟨List.mem_of_getElem? (i := 631) (by decide +kernel), by decide +kernel⟩, gt_of ⟨List.mem_of_getElem? (i := 82) (by decide +kernel), by decide +kernel⟩, gt_of ⟨List.mem_of_getElem? (i := 83) (by decide +kernel), by decide +kernel⟩⟩
theorem oX5_78 : OkM mX5_begins 3 ∧ Cond.code mX5_begins.1 mX5_begins.2.1 mX5_begins.2.2.1 mX5_begins.2.2.2 ∈ gtbl ∧ Cond.initialized mX5_begins.1.cls ∈ gtbl ∧ Cond.methodLink RX5 78 mX5_begins.1 ∈ gtbl ∧ Cond.instanceMethod mX5_begins.1 ∈ gtbl ∧ Cond.selects mX5_begins.1.cls mX5_begins.1 mX5_begins.1 ∈ gtbl := ⟨by decide +kernel, gt_of ⟨List.mem_of_getElem? (i := 635) (by decide +kernel), by decide +kernel⟩, gt_of ⟨List.mem_of_getElem? (i := 73) (by decide +kernel), by decide +kernel⟩, gt_of ⟨List.mem_of_getElem? (i := 632) (by decide +kernel), by decide +kernel⟩, ⟨gt_of ⟨List.mem_of_getElem? (i := 634) (by decide +kernel), by decide +kernel⟩, gt_of ⟨List.mem_of_getElem? (i := 50) (by decide +kernel), by decide +kernel⟩⟩⟩
theorem oX5_98 : OkM mX5_in 3 ∧ Cond.code mX5_in.1 mX5_in.2.1 mX5_in.2.2.1 mX5_in.2.2.2 ∈ gtbl ∧ Cond.initialized mX5_in.1.cls ∈ gtbl ∧ Cond.methodLink RX5 98 mX5_in.1 ∈ gtbl ∧ Cond.static mX5_in.1 ∈ gtbl ∧ True := ⟨by decide +kernel, gt_of ⟨List.mem_of_getElem? (i := 730) (by decide +kernel), by decide +kernel⟩, gt_of ⟨List.mem_of_getElem? (i := 73) (by decide +kernel), by decide +kernel⟩, gt_of ⟨List.mem_of_getElem? (i := 728) (by decide +kernel), by decide +kernel⟩, ⟨gt_of ⟨List.mem_of_getElem? (i := 729) (by decide +kernel), by decide +kernel⟩, trivial⟩⟩
theorem oX5_102 : OkM mX5_isCell 2 ∧ Cond.code mX5_isCell.1 mX5_isCell.2.1 mX5_isCell.2.2.1 mX5_isCell.2.2.2 ∈ gtbl ∧ Cond.initialized mX5_isCell.1.cls ∈ gtbl ∧ Cond.methodLink RX5 102 mX5_isCell.1 ∈ gtbl ∧ Cond.instanceMethod mX5_isCell.1 ∈ gtbl ∧ Cond.selects mX5_isCell.1.cls mX5_isCell.1 mX5_isCell.1 ∈ gtbl := ⟨by decide +kernel, gt_of ⟨List.mem_of_getElem? (i := 738) (by decide +kernel), by decide +kernel⟩, gt_of ⟨List.mem_of_getElem? (i := 73) (by decide +kernel), by decide +kernel⟩, gt_of ⟨List.mem_of_getElem? (i := 735) (by decide +kernel), by decide +kernel⟩, ⟨gt_of ⟨List.mem_of_getElem? (i := 737) (by decide +kernel), by decide +kernel⟩, gt_of ⟨List.mem_of_getElem? (i := 51) (by decide +kernel), by decide +kernel⟩⟩⟩
theorem oX5_106 : OkM mX5_writes 2 ∧ Cond.code mX5_writes.1 mX5_writes.2.1 mX5_writes.2.2.1 mX5_writes.2.2.2 ∈ gtbl ∧ Cond.initialized mX5_writes.1.cls ∈ gtbl ∧ Cond.methodLink RX5 106 mX5_writes.1 ∈ gtbl ∧ Cond.instanceMethod mX5_writes.1 ∈ gtbl ∧ Cond.selects mX5_writes.1.cls mX5_writes.1 mX5_writes.1 ∈ gtbl := ⟨by decide +kernel, gt_of ⟨List.mem_of_getElem? (i := 742) (by decide +kernel), by decide +kernel⟩, gt_of ⟨List.mem_of_getElem? (i := 73) (by decide +kernel), by decide +kernel⟩, gt_of ⟨List.mem_of_getElem? (i := 739) (by decide +kernel), by decide +kernel⟩, ⟨gt_of ⟨List.mem_of_getElem? (i := 741) (by decide +kernel), by decide +kernel⟩, gt_of ⟨List.mem_of_getElem? (i := 52) (by decide +kernel), by decide +kernel⟩⟩⟩
theorem oX5_109 : OkM mX5_cellAt 2 ∧ Cond.code mX5_cellAt.1 mX5_cellAt.2.1 mX5_cellAt.2.2.1 mX5_cellAt.2.2.2 ∈ gtbl ∧ Cond.initialized mX5_cellAt.1.cls ∈ gtbl ∧ Cond.methodLink RX5 109 mX5_cellAt.1 ∈ gtbl ∧ Cond.instanceMethod mX5_cellAt.1 ∈ gtbl ∧ Cond.selects mX5_cellAt.1.cls mX5_cellAt.1 mX5_cellAt.1 ∈ gtbl := ⟨by decide +kernel, gt_of ⟨List.mem_of_getElem? (i := 754) (by decide +kernel), by decide +kernel⟩, gt_of ⟨List.mem_of_getElem? (i := 73) (by decide +kernel), by decide +kernel⟩, gt_of ⟨List.mem_of_getElem? (i := 751) (by decide +kernel), by decide +kernel⟩, ⟨gt_of ⟨List.mem_of_getElem? (i := 753) (by decide +kernel), by decide +kernel⟩, gt_of ⟨List.mem_of_getElem? (i := 53) (by decide +kernel), by decide +kernel⟩⟩⟩
theorem oX5_113 : OkM mX5_sumOf 1 ∧ Cond.code mX5_sumOf.1 mX5_sumOf.2.1 mX5_sumOf.2.2.1 mX5_sumOf.2.2.2 ∈ gtbl ∧ Cond.initialized mX5_sumOf.1.cls ∈ gtbl ∧ Cond.methodLink RX5 113 mX5_sumOf.1 ∈ gtbl ∧ Cond.instanceMethod mX5_sumOf.1 ∈ gtbl ∧ Cond.selects mX5_sumOf.1.cls mX5_sumOf.1 mX5_sumOf.1 ∈ gtbl := ⟨by decide +kernel, gt_of ⟨List.mem_of_getElem? (i := 770) (by decide +kernel), by decide +kernel⟩, gt_of ⟨List.mem_of_getElem? (i := 73) (by decide +kernel), by decide +kernel⟩, gt_of ⟨List.mem_of_getElem? (i := 767) (by decide +kernel), by decide +kernel⟩, ⟨gt_of ⟨List.mem_of_getElem? (i := 769) (by decide +kernel), by decide +kernel⟩, gt_of ⟨List.mem_of_getElem? (i := 54) (by decide +kernel), by decide +kernel⟩⟩⟩
theorem oX5_117 : OkM mX5_converted 1 ∧ Cond.code mX5_converted.1 mX5_converted.2.1 mX5_converted.2.2.1 mX5_converted.2.2.2 ∈ gtbl ∧ Cond.initialized mX5_converted.1.cls ∈ gtbl ∧ Cond.methodLink RX5 117 mX5_converted.1 ∈ gtbl ∧ Cond.instanceMethod mX5_converted.1 ∈ gtbl ∧ Cond.selects mX5_converted.1.cls mX5_converted.1 mX5_converted.1 ∈ gtbl := ⟨by decide +kernel, gt_of ⟨List.mem_of_getElem? (i := 774) (by decide +kernel), by decide +kernel⟩, gt_of ⟨List.mem_of_getElem? (i := 73) (by decide +kernel), by decide +kernel⟩, gt_of ⟨List.mem_of_getElem? (i := 771) (by decide +kernel), by decide +kernel⟩, ⟨gt_of ⟨List.mem_of_getElem? (i := 773) (by decide +kernel), by decide +kernel⟩, gt_of ⟨List.mem_of_getElem? (i := 55) (by decide +kernel), by decide +kernel⟩⟩⟩
theorem oX5_120 : OkM mX5_greatest 0 ∧ Cond.code mX5_greatest.1 mX5_greatest.2.1 mX5_greatest.2.2.1 mX5_greatest.2.2.2 ∈ gtbl ∧ Cond.initialized mX5_greatest.1.cls ∈ gtbl ∧ Cond.methodLink RX5 120 mX5_greatest.1 ∈ gtbl ∧ Cond.instanceMethod mX5_greatest.1 ∈ gtbl ∧ Cond.selects mX5_greatest.1.cls mX5_greatest.1 mX5_greatest.1 ∈ gtbl := ⟨by decide +kernel, gt_of ⟨List.mem_of_getElem? (i := 786) (by decide +kernel), by decide +kernel⟩, gt_of ⟨List.mem_of_getElem? (i := 73) (by decide +kernel), by decide +kernel⟩, gt_of ⟨List.mem_of_getElem? (i := 783) (by decide +kernel), by decide +kernel⟩, ⟨gt_of ⟨List.mem_of_getElem? (i := 785) (by decide +kernel), by decide +kernel⟩, gt_of ⟨List.mem_of_getElem? (i := 56) (by decide +kernel), by decide +kernel⟩⟩⟩
theorem oX5_125 : OkM mX5_hasTable 0 ∧ Cond.code mX5_hasTable.1 mX5_hasTable.2.1 mX5_hasTable.2.2.1 mX5_hasTable.2.2.2 ∈ gtbl ∧ Cond.initialized mX5_hasTable.1.cls ∈ gtbl ∧ Cond.methodLink RX5 125 mX5_hasTable.1 ∈ gtbl ∧ Cond.instanceMethod mX5_hasTable.1 ∈ gtbl ∧ Cond.selects mX5_hasTable.1.cls mX5_hasTable.1 mX5_hasTable.1 ∈ gtbl := ⟨by decide +kernel, gt_of ⟨List.mem_of_getElem? (i := 795) (by decide +kernel), by decide +kernel⟩, gt_of ⟨List.mem_of_getElem? (i := 73) (by decide +kernel), by decide +kernel⟩, gt_of ⟨List.mem_of_getElem? (i := 792) (by decide +kernel), by decide +kernel⟩, ⟨gt_of ⟨List.mem_of_getElem? (i := 794) (by decide +kernel), by decide +kernel⟩, gt_of ⟨List.mem_of_getElem? (i := 57) (by decide +kernel), by decide +kernel⟩⟩⟩
theorem oX5_129 : OkM mX5_wanted 2 ∧ Cond.code mX5_wanted.1 mX5_wanted.2.1 mX5_wanted.2.2.1 mX5_wanted.2.2.2 ∈ gtbl ∧ Cond.initialized mX5_wanted.1.cls ∈ gtbl ∧ Cond.methodLink RX5 129 mX5_wanted.1 ∈ gtbl ∧ Cond.instanceMethod mX5_wanted.1 ∈ gtbl ∧ Cond.selects mX5_wanted.1.cls mX5_wanted.1 mX5_wanted.1 ∈ gtbl := ⟨by decide +kernel, gt_of ⟨List.mem_of_getElem? (i := 799) (by decide +kernel), by decide +kernel⟩, gt_of ⟨List.mem_of_getElem? (i := 73) (by decide +kernel), by decide +kernel⟩, gt_of ⟨List.mem_of_getElem? (i := 796) (by decide +kernel), by decide +kernel⟩, ⟨gt_of ⟨List.mem_of_getElem? (i := 798) (by decide +kernel), by decide +kernel⟩, gt_of ⟨List.mem_of_getElem? (i := 58) (by decide +kernel), by decide +kernel⟩⟩⟩
theorem oX5_134 : OkM mX5_bitSum 2 ∧ Cond.code mX5_bitSum.1 mX5_bitSum.2.1 mX5_bitSum.2.2.1 mX5_bitSum.2.2.2 ∈ gtbl ∧ Cond.initialized mX5_bitSum.1.cls ∈ gtbl ∧ Cond.methodLink RX5 134 mX5_bitSum.1 ∈ gtbl ∧ Cond.instanceMethod mX5_bitSum.1 ∈ gtbl ∧ Cond.selects mX5_bitSum.1.cls mX5_bitSum.1 mX5_bitSum.1 ∈ gtbl := ⟨by decide +kernel, gt_of ⟨List.mem_of_getElem? (i := 808) (by decide +kernel), by decide +kernel⟩, gt_of ⟨List.mem_of_getElem? (i := 73) (by decide +kernel), by decide +kernel⟩, gt_of ⟨List.mem_of_getElem? (i := 805) (by decide +kernel), by decide +kernel⟩, ⟨gt_of ⟨List.mem_of_getElem? (i := 807) (by decide +kernel), by decide +kernel⟩, gt_of ⟨List.mem_of_getElem? (i := 59) (by decide +kernel), by decide +kernel⟩⟩⟩
theorem oX5_138 : OkM mX5_findCosts 0 ∧ Cond.code mX5_findCosts.1 mX5_findCosts.2.1 mX5_findCosts.2.2.1 mX5_findCosts.2.2.2 ∈ gtbl ∧ Cond.initialized mX5_findCosts.1.cls ∈ gtbl ∧ Cond.methodLink RX5 138 mX5_findCosts.1 ∈ gtbl ∧ Cond.instanceMethod mX5_findCosts.1 ∈ gtbl ∧ Cond.selects mX5_findCosts.1.cls mX5_findCosts.1 mX5_findCosts.1 ∈ gtbl := ⟨by decide +kernel, gt_of ⟨List.mem_of_getElem? (i := 824) (by decide +kernel), by decide +kernel⟩, gt_of ⟨List.mem_of_getElem? (i := 73) (by decide +kernel), by decide +kernel⟩, gt_of ⟨List.mem_of_getElem? (i := 821) (by decide +kernel), by decide +kernel⟩, ⟨gt_of ⟨List.mem_of_getElem? (i := 823) (by decide +kernel), by decide +kernel⟩, gt_of ⟨List.mem_of_getElem? (i := 60) (by decide +kernel), by decide +kernel⟩⟩⟩
theorem oX5_141 : OkM mX5_isUsed 2 ∧ Cond.code mX5_isUsed.1 mX5_isUsed.2.1 mX5_isUsed.2.2.1 mX5_isUsed.2.2.2 ∈ gtbl ∧ Cond.initialized mX5_isUsed.1.cls ∈ gtbl ∧ Cond.methodLink RX5 141 mX5_isUsed.1 ∈ gtbl ∧ Cond.instanceMethod mX5_isUsed.1 ∈ gtbl ∧ Cond.selects mX5_isUsed.1.cls mX5_isUsed.1 mX5_isUsed.1 ∈ gtbl := ⟨by decide +kernel, gt_of ⟨List.mem_of_getElem? (i := 828) (by decide +kernel), by decide +kernel⟩, gt_of ⟨List.mem_of_getElem? (i := 73) (by decide +kernel), by decide +kernel⟩, gt_of ⟨List.mem_of_getElem? (i := 825) (by decide +kernel), by decide +kernel⟩, ⟨gt_of ⟨List.mem_of_getElem? (i := 827) (by decide +kernel), by decide +kernel⟩, gt_of ⟨List.mem_of_getElem? (i := 61) (by decide +kernel), by decide +kernel⟩⟩⟩
theorem oX5_144 : OkM mX5_rest 1 ∧ Cond.code mX5_rest.1 mX5_rest.2.1 mX5_rest.2.2.1 mX5_rest.2.2.2 ∈ gtbl ∧ Cond.initialized mX5_rest.1.cls ∈ gtbl ∧ Cond.methodLink RX5 144 mX5_rest.1 ∈ gtbl ∧ Cond.static mX5_rest.1 ∈ gtbl ∧ True := ⟨by decide +kernel, gt_of ⟨List.mem_of_getElem? (i := 843) (by decide +kernel), by decide +kernel⟩, gt_of ⟨List.mem_of_getElem? (i := 73) (by decide +kernel), by decide +kernel⟩, gt_of ⟨List.mem_of_getElem? (i := 841) (by decide +kernel), by decide +kernel⟩, ⟨gt_of ⟨List.mem_of_getElem? (i := 842) (by decide +kernel), by decide +kernel⟩, trivial⟩⟩
theorem oX5_152 : OkM mX5_isNew 1 ∧ Cond.code mX5_isNew.1 mX5_isNew.2.1 mX5_isNew.2.2.1 mX5_isNew.2.2.2 ∈ gtbl ∧ Cond.initialized mX5_isNew.1.cls ∈ gtbl ∧ Cond.methodLink RX5 152 mX5_isNew.1 ∈ gtbl ∧ Cond.instanceMethod mX5_isNew.1 ∈ gtbl ∧ Cond.selects mX5_isNew.1.cls mX5_isNew.1 mX5_isNew.1 ∈ gtbl := ⟨by decide +kernel, gt_of ⟨List.mem_of_getElem? (i := 863) (by decide +kernel), by decide +kernel⟩, gt_of ⟨List.mem_of_getElem? (i := 73) (by decide +kernel), by decide +kernel⟩, gt_of ⟨List.mem_of_getElem? (i := 860) (by decide +kernel), by decide +kernel⟩, ⟨gt_of ⟨List.mem_of_getElem? (i := 862) (by decide +kernel), by decide +kernel⟩, gt_of ⟨List.mem_of_getElem? (i := 63) (by decide +kernel), by decide +kernel⟩⟩⟩
theorem oX5_156 : OkM mX5_tableOf 2 ∧ Cond.code mX5_tableOf.1 mX5_tableOf.2.1 mX5_tableOf.2.2.1 mX5_tableOf.2.2.2 ∈ gtbl ∧ Cond.initialized mX5_tableOf.1.cls ∈ gtbl ∧ Cond.methodLink RX5 156 mX5_tableOf.1 ∈ gtbl ∧ Cond.static mX5_tableOf.1 ∈ gtbl ∧ True := ⟨by decide +kernel, gt_of ⟨List.mem_of_getElem? (i := 870) (by decide +kernel), by decide +kernel⟩, gt_of ⟨List.mem_of_getElem? (i := 73) (by decide +kernel), by decide +kernel⟩, gt_of ⟨List.mem_of_getElem? (i := 868) (by decide +kernel), by decide +kernel⟩, ⟨gt_of ⟨List.mem_of_getElem? (i := 869) (by decide +kernel), by decide +kernel⟩, trivial⟩⟩
theorem oX5_167 : OkM mX5_meets 3 ∧ Cond.code mX5_meets.1 mX5_meets.2.1 mX5_meets.2.2.1 mX5_meets.2.2.2 ∈ gtbl ∧ Cond.initialized mX5_meets.1.cls ∈ gtbl ∧ Cond.methodLink RX5 167 mX5_meets.1 ∈ gtbl ∧ Cond.instanceMethod mX5_meets.1 ∈ gtbl ∧ Cond.selects mX5_meets.1.cls mX5_meets.1 mX5_meets.1 ∈ gtbl := ⟨by decide +kernel, gt_of ⟨List.mem_of_getElem? (i := 859) (by decide +kernel), by decide +kernel⟩, gt_of ⟨List.mem_of_getElem? (i := 73) (by decide +kernel), by decide +kernel⟩, gt_of ⟨List.mem_of_getElem? (i := 856) (by decide +kernel), by decide +kernel⟩, ⟨gt_of ⟨List.mem_of_getElem? (i := 858) (by decide +kernel), by decide +kernel⟩, gt_of ⟨List.mem_of_getElem? (i := 62) (by decide +kernel), by decide +kernel⟩⟩⟩
theorem oX5_171 : OkM mX5_whereIs 3 ∧ Cond.code mX5_whereIs.1 mX5_whereIs.2.1 mX5_whereIs.2.2.1 mX5_whereIs.2.2.2 ∈ gtbl ∧ Cond.initialized mX5_whereIs.1.cls ∈ gtbl ∧ Cond.methodLink RX5 171 mX5_whereIs.1 ∈ gtbl ∧ Cond.static mX5_whereIs.1 ∈ gtbl ∧ True := ⟨by decide +kernel, gt_of ⟨List.mem_of_getElem? (i := 867) (by decide +kernel), by decide +kernel⟩, gt_of ⟨List.mem_of_getElem? (i := 73) (by decide +kernel), by decide +kernel⟩, gt_of ⟨List.mem_of_getElem? (i := 865) (by decide +kernel), by decide +kernel⟩, ⟨gt_of ⟨List.mem_of_getElem? (i := 866) (by decide +kernel), by decide +kernel⟩, trivial⟩⟩
theorem oX5_175 : OkM mX5_becomesFound 2 ∧ Cond.code mX5_becomesFound.1 mX5_becomesFound.2.1 mX5_becomesFound.2.2.1 mX5_becomesFound.2.2.2 ∈ gtbl ∧ Cond.initialized mX5_becomesFound.1.cls ∈ gtbl ∧ Cond.methodLink RX5 175 mX5_becomesFound.1 ∈ gtbl ∧ Cond.instanceMethod mX5_becomesFound.1 ∈ gtbl ∧ Cond.selects mX5_becomesFound.1.cls mX5_becomesFound.1 mX5_becomesFound.1 ∈ gtbl := ⟨by decide +kernel, gt_of ⟨List.mem_of_getElem? (i := 874) (by decide +kernel), by decide +kernel⟩, gt_of ⟨List.mem_of_getElem? (i := 73) (by decide +kernel), by decide +kernel⟩, gt_of ⟨List.mem_of_getElem? (i := 871) (by decide +kernel), by decide +kernel⟩, ⟨gt_of ⟨List.mem_of_getElem? (i := 873) (by decide +kernel), by decide +kernel⟩, gt_of ⟨List.mem_of_getElem? (i := 64) (by decide +kernel), by decide +kernel⟩⟩⟩
theorem oX5_179 : OkM mX5_goesOn 4 ∧ Cond.code mX5_goesOn.1 mX5_goesOn.2.1 mX5_goesOn.2.2.1 mX5_goesOn.2.2.2 ∈ gtbl ∧ Cond.initialized mX5_goesOn.1.cls ∈ gtbl ∧ Cond.methodLink RX5 179 mX5_goesOn.1 ∈ gtbl ∧ Cond.instanceMethod mX5_goesOn.1 ∈ gtbl ∧ Cond.selects mX5_goesOn.1.cls mX5_goesOn.1 mX5_goesOn.1 ∈ gtbl := ⟨by decide +kernel, gt_of ⟨List.mem_of_getElem? (i := 878) (by decide +kernel), by decide +kernel⟩, gt_of ⟨List.mem_of_getElem? (i := 73) (by decide +kernel), by decide +kernel⟩, gt_of ⟨List.mem_of_getElem? (i := 875) (by decide +kernel), by decide +kernel⟩, ⟨gt_of ⟨List.mem_of_getElem? (i := 877) (by decide +kernel), by decide +kernel⟩, gt_of ⟨List.mem_of_getElem? (i := 65) (by decide +kernel), by decide +kernel⟩⟩⟩
theorem oX5_187 : OkM mX5_count 1 ∧ Cond.code mX5_count.1 mX5_count.2.1 mX5_count.2.2.1 mX5_count.2.2.2 ∈ gtbl ∧ Cond.initialized mX5_count.1.cls ∈ gtbl ∧ Cond.methodLink RX5 187 mX5_count.1 ∈ gtbl ∧ Cond.instanceMethod mX5_count.1 ∈ gtbl ∧ Cond.selects mX5_count.1.cls mX5_count.1 mX5_count.1 ∈ gtbl := ⟨by decide +kernel, gt_of ⟨List.mem_of_getElem? (i := 896) (by decide +kernel), by decide +kernel⟩, gt_of ⟨List.mem_of_getElem? (i := 73) (by decide +kernel), by decide +kernel⟩, gt_of ⟨List.mem_of_getElem? (i := 903) (by decide +kernel), by decide +kernel⟩, ⟨gt_of ⟨List.mem_of_getElem? (i := 894) (by decide +kernel), by decide +kernel⟩, gt_of ⟨List.mem_of_getElem? (i := 895) (by decide +kernel), by decide +kernel⟩⟩⟩
theorem kX4_111 : Cond.constant RX4 111 (-2000000000) ∈ gtbl := gt_of ⟨List.mem_of_getElem? (i := 358) (by decide +kernel), by decide +kernel⟩
theorem kX4_127 : Cond.constantLong RX4 127 (-2000000000000000000) ∈ gtbl := gt_of ⟨List.mem_of_getElem? (i := 397) (by decide +kernel), by decide +kernel⟩
theorem kX4_188 : Cond.constantLong RX4 188 (167) ∈ gtbl := gt_of ⟨List.mem_of_getElem? (i := 606) (by decide +kernel), by decide +kernel⟩
theorem kX4_190 : Cond.constantLong RX4 190 (31) ∈ gtbl := gt_of ⟨List.mem_of_getElem? (i := 607) (by decide +kernel), by decide +kernel⟩
theorem kX4_201 : Cond.constant RX4 201 (65535) ∈ gtbl := gt_of ⟨List.mem_of_getElem? (i := 545) (by decide +kernel), by decide +kernel⟩
theorem kX1_67 : Cond.constantLong RX1 67 (31) ∈ gtbl := gt_of ⟨List.mem_of_getElem? (i := 613) (by decide +kernel), by decide +kernel⟩
theorem kX2_106 : Cond.constantLong RX2 106 (31) ∈ gtbl := gt_of ⟨List.mem_of_getElem? (i := 624) (by decide +kernel), by decide +kernel⟩
theorem kX3_133 : Cond.constant RX3 133 (2147483647) ∈ gtbl := gt_of ⟨List.mem_of_getElem? (i := 450) (by decide +kernel), by decide +kernel⟩
theorem kX3_144 : Cond.constantLong RX3 144 (31) ∈ gtbl := gt_of ⟨List.mem_of_getElem? (i := 619) (by decide +kernel), by decide +kernel⟩
theorem kX5_124 : Cond.constant RX5 124 (-2000000000) ∈ gtbl := gt_of ⟨List.mem_of_getElem? (i := 787) (by decide +kernel), by decide +kernel⟩
theorem kX5_132 : Cond.constantLong RX5 132 (-2000000000000000000) ∈ gtbl := gt_of ⟨List.mem_of_getElem? (i := 804) (by decide +kernel), by decide +kernel⟩
theorem kX5_147 : Cond.constantLong RX5 147 (-7046029254386353131) ∈ gtbl := gt_of ⟨List.mem_of_getElem? (i := 864) (by decide +kernel), by decide +kernel⟩
theorem kX5_163 : Cond.constantLong RX5 163 (255) ∈ gtbl := gt_of ⟨List.mem_of_getElem? (i := 879) (by decide +kernel), by decide +kernel⟩
theorem kX5_165 : Cond.constantLong RX5 165 (-1) ∈ gtbl := gt_of ⟨List.mem_of_getElem? (i := 880) (by decide +kernel), by decide +kernel⟩
theorem kX5_183 : Cond.constantLong RX5 183 (167) ∈ gtbl := gt_of ⟨List.mem_of_getElem? (i := 901) (by decide +kernel), by decide +kernel⟩
theorem kX5_185 : Cond.constantLong RX5 185 (31) ∈ gtbl := gt_of ⟨List.mem_of_getElem? (i := 902) (by decide +kernel), by decide +kernel⟩
theorem kJ6_265 : Cond.constant RJ6 265 (1431655765) ∈ gtbl := gt_of ⟨List.mem_of_getElem? (i := 443) (by decide +kernel), by decide +kernel⟩
theorem kJ6_266 : Cond.constant RJ6 266 (858993459) ∈ gtbl := gt_of ⟨List.mem_of_getElem? (i := 444) (by decide +kernel), by decide +kernel⟩
theorem kJ6_267 : Cond.constant RJ6 267 (252645135) ∈ gtbl := gt_of ⟨List.mem_of_getElem? (i := 445) (by decide +kernel), by decide +kernel⟩
theorem nX4_7 : Cond.classLink RX4 7 RX1 ∈ gtbl ∧ Cond.instantiable RX1 8 ∈ gtbl ∧ Cond.initialized RX1 ∈ gtbl := ⟨gt_of ⟨List.mem_of_getElem? (i := 84) (by decide +kernel), by decide +kernel⟩, gt_of ⟨List.mem_of_getElem? (i := 85) (by decide +kernel), by decide +kernel⟩, gt_of ⟨List.mem_of_getElem? (i := 68) (by decide +kernel), by decide +kernel⟩⟩
theorem nX4_16 : Cond.classLink RX4 16 RX3 ∈ gtbl ∧ Cond.instantiable RX3 11 ∈ gtbl ∧ Cond.initialized RX3 ∈ gtbl := ⟨gt_of ⟨List.mem_of_getElem? (i := 137) (by decide +kernel), by decide +kernel⟩, gt_of ⟨List.mem_of_getElem? (i := 138) (by decide +kernel), by decide +kernel⟩, gt_of ⟨List.mem_of_getElem? (i := 70) (by decide +kernel), by decide +kernel⟩⟩
theorem nX4_25 : Cond.classLink RX4 25 RX0 ∈ gtbl ∧ Cond.instantiable RX0 4 ∈ gtbl ∧ Cond.initialized RX0 ∈ gtbl := ⟨gt_of ⟨List.mem_of_getElem? (i := 183) (by decide +kernel), by decide +kernel⟩, gt_of ⟨List.mem_of_getElem? (i := 184) (by decide +kernel), by decide +kernel⟩, gt_of ⟨List.mem_of_getElem? (i := 71) (by decide +kernel), by decide +kernel⟩⟩
theorem nX4_32 : Cond.classLink RX4 32 RX2 ∈ gtbl ∧ Cond.instantiable RX2 11 ∈ gtbl ∧ Cond.initialized RX2 ∈ gtbl := ⟨gt_of ⟨List.mem_of_getElem? (i := 203) (by decide +kernel), by decide +kernel⟩, gt_of ⟨List.mem_of_getElem? (i := 204) (by decide +kernel), by decide +kernel⟩, gt_of ⟨List.mem_of_getElem? (i := 72) (by decide +kernel), by decide +kernel⟩⟩
theorem nL_7 : Cond.classLink RL 7 RX4 ∈ gtbl ∧ Cond.instantiable RX4 4 ∈ gtbl ∧ Cond.initialized RX4 ∈ gtbl := ⟨gt_of ⟨List.mem_of_getElem? (i := 76) (by decide +kernel), by decide +kernel⟩, gt_of ⟨List.mem_of_getElem? (i := 77) (by decide +kernel), by decide +kernel⟩, gt_of ⟨List.mem_of_getElem? (i := 67) (by decide +kernel), by decide +kernel⟩⟩
theorem nL_10 : Cond.classLink RL 10 RX5 ∈ gtbl ∧ Cond.instantiable RX5 29 ∈ gtbl ∧ Cond.initialized RX5 ∈ gtbl := ⟨gt_of ⟨List.mem_of_getElem? (i := 626) (by decide +kernel), by decide +kernel⟩, gt_of ⟨List.mem_of_getElem? (i := 627) (by decide +kernel), by decide +kernel⟩, gt_of ⟨List.mem_of_getElem? (i := 73) (by decide +kernel), by decide +kernel⟩⟩
theorem aI_ok : Cond.arrayClass .int ∈ gtbl := gt_of ⟨List.mem_of_getElem? (i := 136) (by decide +kernel), by decide +kernel⟩
theorem aJ_ok : Cond.arrayClass .long ∈ gtbl := gt_of ⟨List.mem_of_getElem? (i := 247) (by decide +kernel), by decide +kernel⟩
end
