section
-- ===== PART A: goes FIRST, ahead of the names: the tables' words, and 'selects' of the private methods out of them =====
/-- a private method of a class that the tables say can be made, by its rows of tables_1 -/
def lw_okq (q : MethodName × Nat) : Prop := (q.1.cls ≠ "java/lang/invoke/MethodHandle" ∧ q.1.cls ≠ "java/lang/invoke/VarHandle") ∧ Cond.instantiable q.1.cls q.2 ∈ tables_1 ∧ Cond.privateMethod q.1 ∈ tables_1 ∧ Cond.instanceMethod q.1 ∈ tables_1
theorem lw_p0 : lw_okq (⟨"MeshSums$Grid", "renew", "(III)V"⟩, 8) := ⟨⟨by decide +kernel, by decide +kernel⟩, List.mem_of_getElem? (i := 19) (by decide +kernel), List.mem_of_getElem? (i := 25) (by decide +kernel), List.mem_of_getElem? (i := 26) (by decide +kernel)⟩
theorem lw_p1 : lw_okq (⟨"MeshSums$Sheet", "drop", "()V"⟩, 11) := ⟨⟨by decide +kernel, by decide +kernel⟩, List.mem_of_getElem? (i := 72) (by decide +kernel), List.mem_of_getElem? (i := 204) (by decide +kernel), List.mem_of_getElem? (i := 205) (by decide +kernel)⟩
theorem lw_p2 : lw_okq (⟨"MeshSums$Grid", "hasCell", "(II)Z"⟩, 8) := ⟨⟨by decide +kernel, by decide +kernel⟩, List.mem_of_getElem? (i := 19) (by decide +kernel), List.mem_of_getElem? (i := 212) (by decide +kernel), List.mem_of_getElem? (i := 213) (by decide +kernel)⟩
theorem lw_p3 : lw_okq (⟨"MeshSums$Grid", "place", "(II)I"⟩, 8) := ⟨⟨by decide +kernel, by decide +kernel⟩, List.mem_of_getElem? (i := 19) (by decide +kernel), List.mem_of_getElem? (i := 217) (by decide +kernel), List.mem_of_getElem? (i := 218) (by decide +kernel)⟩
theorem lw_p4 : lw_okq (⟨"MeshSums$Grid", "sticksAtAnother", "(II)Z"⟩, 8) := ⟨⟨by decide +kernel, by decide +kernel⟩, List.mem_of_getElem? (i := 19) (by decide +kernel), List.mem_of_getElem? (i := 221) (by decide +kernel), List.mem_of_getElem? (i := 222) (by decide +kernel)⟩
theorem lw_p5 : lw_okq (⟨"MeshSums$Grid", "sticks", "(I)Z"⟩, 8) := ⟨⟨by decide +kernel, by decide +kernel⟩, List.mem_of_getElem? (i := 19) (by decide +kernel), List.mem_of_getElem? (i := 225) (by decide +kernel), List.mem_of_getElem? (i := 226) (by decide +kernel)⟩
theorem lw_p6 : lw_okq (⟨"MeshSums$Grid", "put", "(II)V"⟩, 8) := ⟨⟨by decide +kernel, by decide +kernel⟩, List.mem_of_getElem? (i := 19) (by decide +kernel), List.mem_of_getElem? (i := 229) (by decide +kernel), List.mem_of_getElem? (i := 230) (by decide +kernel)⟩
theorem lw_p7 : lw_okq (⟨"MeshSums$Grid", "hold", "(II)V"⟩, 8) := ⟨⟨by decide +kernel, by decide +kernel⟩, List.mem_of_getElem? (i := 19) (by decide +kernel), List.mem_of_getElem? (i := 237) (by decide +kernel), List.mem_of_getElem? (i := 238) (by decide +kernel)⟩
theorem lw_p8 : lw_okq (⟨"MeshSums$Grid", "tellCell", "(II)I"⟩, 8) := ⟨⟨by decide +kernel, by decide +kernel⟩, List.mem_of_getElem? (i := 19) (by decide +kernel), List.mem_of_getElem? (i := 245) (by decide +kernel), List.mem_of_getElem? (i := 246) (by decide +kernel)⟩
theorem lw_p9 : lw_okq (⟨"MeshSums$Grid", "columnSum", "(I)I"⟩, 8) := ⟨⟨by decide +kernel, by decide +kernel⟩, List.mem_of_getElem? (i := 19) (by decide +kernel), List.mem_of_getElem? (i := 261) (by decide +kernel), List.mem_of_getElem? (i := 262) (by decide +kernel)⟩
theorem lw_p10 : lw_okq (⟨"MeshSums$Grid", "convert", "(I)I"⟩, 8) := ⟨⟨by decide +kernel, by decide +kernel⟩, List.mem_of_getElem? (i := 19) (by decide +kernel), List.mem_of_getElem? (i := 266) (by decide +kernel), List.mem_of_getElem? (i := 267) (by decide +kernel)⟩
theorem lw_p11 : lw_okq (⟨"MeshSums$Sheet", "begin", "(III)V"⟩, 11) := ⟨⟨by decide +kernel, by decide +kernel⟩, List.mem_of_getElem? (i := 72) (by decide +kernel), List.mem_of_getElem? (i := 277) (by decide +kernel), List.mem_of_getElem? (i := 278) (by decide +kernel)⟩
theorem lw_p12 : lw_okq (⟨"MeshSums$Sheet", "base", "()I"⟩, 11) := ⟨⟨by decide +kernel, by decide +kernel⟩, List.mem_of_getElem? (i := 72) (by decide +kernel), List.mem_of_getElem? (i := 281) (by decide +kernel), List.mem_of_getElem? (i := 282) (by decide +kernel)⟩
theorem lw_p13 : lw_okq (⟨"MeshSums$Sheet", "exchange", "(III)I"⟩, 11) := ⟨⟨by decide +kernel, by decide +kernel⟩, List.mem_of_getElem? (i := 72) (by decide +kernel), List.mem_of_getElem? (i := 294) (by decide +kernel), List.mem_of_getElem? (i := 295) (by decide +kernel)⟩
theorem lw_p14 : lw_okq (⟨"MeshSums$Sheet", "numberAt", "(II)I"⟩, 11) := ⟨⟨by decide +kernel, by decide +kernel⟩, List.mem_of_getElem? (i := 72) (by decide +kernel), List.mem_of_getElem? (i := 298) (by decide +kernel), List.mem_of_getElem? (i := 299) (by decide +kernel)⟩
theorem lw_p15 : lw_okq (⟨"MeshSums$Sheet", "exists", "()Z"⟩, 11) := ⟨⟨by decide +kernel, by decide +kernel⟩, List.mem_of_getElem? (i := 72) (by decide +kernel), List.mem_of_getElem? (i := 306) (by decide +kernel), List.mem_of_getElem? (i := 307) (by decide +kernel)⟩
def lw_privs_1 : List (MethodName × Nat) := [(⟨"MeshSums$Grid", "renew", "(III)V"⟩, 8), (⟨"MeshSums$Sheet", "drop", "()V"⟩, 11), (⟨"MeshSums$Grid", "hasCell", "(II)Z"⟩, 8), (⟨"MeshSums$Grid", "place", "(II)I"⟩, 8), (⟨"MeshSums$Grid", "sticksAtAnother", "(II)Z"⟩, 8), (⟨"MeshSums$Grid", "sticks", "(I)Z"⟩, 8), (⟨"MeshSums$Grid", "put", "(II)V"⟩, 8), (⟨"MeshSums$Grid", "hold", "(II)V"⟩, 8), (⟨"MeshSums$Grid", "tellCell", "(II)I"⟩, 8), (⟨"MeshSums$Grid", "columnSum", "(I)I"⟩, 8), (⟨"MeshSums$Grid", "convert", "(I)I"⟩, 8), (⟨"MeshSums$Sheet", "begin", "(III)V"⟩, 11), (⟨"MeshSums$Sheet", "base", "()I"⟩, 11), (⟨"MeshSums$Sheet", "exchange", "(III)I"⟩, 11), (⟨"MeshSums$Sheet", "numberAt", "(II)I"⟩, 11), (⟨"MeshSums$Sheet", "exists", "()Z"⟩, 11)]
theorem lw_r1 : ∀ q ∈ lw_privs_1, lw_okq q := List.forall_mem_cons.mpr ⟨lw_p0, List.forall_mem_cons.mpr ⟨lw_p1, List.forall_mem_cons.mpr ⟨lw_p2, List.forall_mem_cons.mpr ⟨lw_p3, List.forall_mem_cons.mpr ⟨lw_p4, List.forall_mem_cons.mpr ⟨lw_p5, List.forall_mem_cons.mpr ⟨lw_p6, List.forall_mem_cons.mpr ⟨lw_p7, List.forall_mem_cons.mpr ⟨lw_p8, List.forall_mem_cons.mpr ⟨lw_p9, List.forall_mem_cons.mpr ⟨lw_p10, List.forall_mem_cons.mpr ⟨lw_p11, List.forall_mem_cons.mpr ⟨lw_p12, List.forall_mem_cons.mpr ⟨lw_p13, List.forall_mem_cons.mpr ⟨lw_p14, List.forall_mem_cons.mpr ⟨lw_p15, fun _ h => absurd h List.not_mem_nil⟩⟩⟩⟩⟩⟩⟩⟩⟩⟩⟩⟩⟩⟩⟩⟩
theorem lw_p16 : lw_okq (⟨"MeshSums$Sheet", "layAll", "()I"⟩, 11) := ⟨⟨by decide +kernel, by decide +kernel⟩, List.mem_of_getElem? (i := 72) (by decide +kernel), List.mem_of_getElem? (i := 310) (by decide +kernel), List.mem_of_getElem? (i := 311) (by decide +kernel)⟩
theorem lw_p17 : lw_okq (⟨"MeshSums$Sheet", "spellRow", "(I)V"⟩, 11) := ⟨⟨by decide +kernel, by decide +kernel⟩, List.mem_of_getElem? (i := 72) (by decide +kernel), List.mem_of_getElem? (i := 314) (by decide +kernel), List.mem_of_getElem? (i := 315) (by decide +kernel)⟩
theorem lw_p18 : lw_okq (⟨"MeshSums$Sheet", "usedColumns", "()I"⟩, 11) := ⟨⟨by decide +kernel, by decide +kernel⟩, List.mem_of_getElem? (i := 72) (by decide +kernel), List.mem_of_getElem? (i := 321) (by decide +kernel), List.mem_of_getElem? (i := 322) (by decide +kernel)⟩
theorem lw_p19 : lw_okq (⟨"MeshSums$Sheet", "meshProduct", "(I)J"⟩, 11) := ⟨⟨by decide +kernel, by decide +kernel⟩, List.mem_of_getElem? (i := 72) (by decide +kernel), List.mem_of_getElem? (i := 333) (by decide +kernel), List.mem_of_getElem? (i := 334) (by decide +kernel)⟩
theorem lw_p20 : lw_okq (⟨"MeshSums$Sheet", "bitSum", "(II)I"⟩, 11) := ⟨⟨by decide +kernel, by decide +kernel⟩, List.mem_of_getElem? (i := 72) (by decide +kernel), List.mem_of_getElem? (i := 337) (by decide +kernel), List.mem_of_getElem? (i := 338) (by decide +kernel)⟩
theorem lw_p21 : lw_okq (⟨"MeshSums$Sheet", "trueProduct", "(I)J"⟩, 11) := ⟨⟨by decide +kernel, by decide +kernel⟩, List.mem_of_getElem? (i := 72) (by decide +kernel), List.mem_of_getElem? (i := 346) (by decide +kernel), List.mem_of_getElem? (i := 347) (by decide +kernel)⟩
theorem lw_p22 : lw_okq (⟨"MeshSums$Sheet", "bitsEnough", "()I"⟩, 11) := ⟨⟨by decide +kernel, by decide +kernel⟩, List.mem_of_getElem? (i := 72) (by decide +kernel), List.mem_of_getElem? (i := 354) (by decide +kernel), List.mem_of_getElem? (i := 355) (by decide +kernel)⟩
theorem lw_p23 : lw_okq (⟨"MeshSums$Sheet", "mapAnew", "()I"⟩, 11) := ⟨⟨by decide +kernel, by decide +kernel⟩, List.mem_of_getElem? (i := 72) (by decide +kernel), List.mem_of_getElem? (i := 362) (by decide +kernel), List.mem_of_getElem? (i := 363) (by decide +kernel)⟩
theorem lw_p24 : lw_okq (⟨"MeshSums$Sheet", "fillCosts", "()V"⟩, 11) := ⟨⟨by decide +kernel, by decide +kernel⟩, List.mem_of_getElem? (i := 72) (by decide +kernel), List.mem_of_getElem? (i := 366) (by decide +kernel), List.mem_of_getElem? (i := 367) (by decide +kernel)⟩
theorem lw_p25 : lw_okq (⟨"MeshSums$Sheet", "costOn", "(I)I"⟩, 11) := ⟨⟨by decide +kernel, by decide +kernel⟩, List.mem_of_getElem? (i := 72) (by decide +kernel), List.mem_of_getElem? (i := 370) (by decide +kernel), List.mem_of_getElem? (i := 371) (by decide +kernel)⟩
theorem lw_p26 : lw_okq (⟨"MeshSums$Sheet", "leastFrom", "(II)I"⟩, 11) := ⟨⟨by decide +kernel, by decide +kernel⟩, List.mem_of_getElem? (i := 72) (by decide +kernel), List.mem_of_getElem? (i := 381) (by decide +kernel), List.mem_of_getElem? (i := 382) (by decide +kernel)⟩
theorem lw_p27 : lw_okq (⟨"MeshSums$Sheet", "costWith", "(III)I"⟩, 11) := ⟨⟨by decide +kernel, by decide +kernel⟩, List.mem_of_getElem? (i := 72) (by decide +kernel), List.mem_of_getElem? (i := 386) (by decide +kernel), List.mem_of_getElem? (i := 387) (by decide +kernel)⟩
theorem lw_p28 : lw_okq (⟨"MeshSums$Sheet", "chooseFirstLeast", "()V"⟩, 11) := ⟨⟨by decide +kernel, by decide +kernel⟩, List.mem_of_getElem? (i := 72) (by decide +kernel), List.mem_of_getElem? (i := 391) (by decide +kernel), List.mem_of_getElem? (i := 392) (by decide +kernel)⟩
theorem lw_p29 : lw_okq (⟨"MeshSums$Sheet", "firstLeastRow", "(II)I"⟩, 11) := ⟨⟨by decide +kernel, by decide +kernel⟩, List.mem_of_getElem? (i := 72) (by decide +kernel), List.mem_of_getElem? (i := 395) (by decide +kernel), List.mem_of_getElem? (i := 396) (by decide +kernel)⟩
theorem lw_p30 : lw_okq (⟨"MeshSums$Checks", "takeAnew", "()V"⟩, 4) := ⟨⟨by decide +kernel, by decide +kernel⟩, List.mem_of_getElem? (i := 118) (by decide +kernel), List.mem_of_getElem? (i := 407) (by decide +kernel), List.mem_of_getElem? (i := 408) (by decide +kernel)⟩
theorem lw_p31 : lw_okq (⟨"MeshSums$Checks", "wrongColumn", "()I"⟩, 4) := ⟨⟨by decide +kernel, by decide +kernel⟩, List.mem_of_getElem? (i := 118) (by decide +kernel), List.mem_of_getElem? (i := 416) (by decide +kernel), List.mem_of_getElem? (i := 417) (by decide +kernel)⟩
def lw_privs_2 : List (MethodName × Nat) := [(⟨"MeshSums$Sheet", "layAll", "()I"⟩, 11), (⟨"MeshSums$Sheet", "spellRow", "(I)V"⟩, 11), (⟨"MeshSums$Sheet", "usedColumns", "()I"⟩, 11), (⟨"MeshSums$Sheet", "meshProduct", "(I)J"⟩, 11), (⟨"MeshSums$Sheet", "bitSum", "(II)I"⟩, 11), (⟨"MeshSums$Sheet", "trueProduct", "(I)J"⟩, 11), (⟨"MeshSums$Sheet", "bitsEnough", "()I"⟩, 11), (⟨"MeshSums$Sheet", "mapAnew", "()I"⟩, 11), (⟨"MeshSums$Sheet", "fillCosts", "()V"⟩, 11), (⟨"MeshSums$Sheet", "costOn", "(I)I"⟩, 11), (⟨"MeshSums$Sheet", "leastFrom", "(II)I"⟩, 11), (⟨"MeshSums$Sheet", "costWith", "(III)I"⟩, 11), (⟨"MeshSums$Sheet", "chooseFirstLeast", "()V"⟩, 11), (⟨"MeshSums$Sheet", "firstLeastRow", "(II)I"⟩, 11), (⟨"MeshSums$Checks", "takeAnew", "()V"⟩, 4), (⟨"MeshSums$Checks", "wrongColumn", "()I"⟩, 4)]
theorem lw_r2 : ∀ q ∈ lw_privs_2, lw_okq q := List.forall_mem_cons.mpr ⟨lw_p16, List.forall_mem_cons.mpr ⟨lw_p17, List.forall_mem_cons.mpr ⟨lw_p18, List.forall_mem_cons.mpr ⟨lw_p19, List.forall_mem_cons.mpr ⟨lw_p20, List.forall_mem_cons.mpr ⟨lw_p21, List.forall_mem_cons.mpr ⟨lw_p22, List.forall_mem_cons.mpr ⟨lw_p23, List.forall_mem_cons.mpr ⟨lw_p24, List.forall_mem_cons.mpr ⟨lw_p25, List.forall_mem_cons.mpr ⟨lw_p26, List.forall_mem_cons.mpr ⟨lw_p27, List.forall_mem_cons.mpr ⟨lw_p28, List.forall_mem_cons.mpr ⟨lw_p29, List.forall_mem_cons.mpr ⟨lw_p30, List.forall_mem_cons.mpr ⟨lw_p31, fun _ h => absurd h List.not_mem_nil⟩⟩⟩⟩⟩⟩⟩⟩⟩⟩⟩⟩⟩⟩⟩⟩
theorem lw_p32 : lw_okq (⟨"MeshSums$Checks", "columnBy", "(II)I"⟩, 4) := ⟨⟨by decide +kernel, by decide +kernel⟩, List.mem_of_getElem? (i := 118) (by decide +kernel), List.mem_of_getElem? (i := 424) (by decide +kernel), List.mem_of_getElem? (i := 425) (by decide +kernel)⟩
theorem lw_p33 : lw_okq (⟨"MeshSums$Grid", "ageAll", "()I"⟩, 8) := ⟨⟨by decide +kernel, by decide +kernel⟩, List.mem_of_getElem? (i := 19) (by decide +kernel), List.mem_of_getElem? (i := 432) (by decide +kernel), List.mem_of_getElem? (i := 433) (by decide +kernel)⟩
theorem lw_p34 : lw_okq (⟨"MeshSums$Grid", "ageOne", "(I)Z"⟩, 8) := ⟨⟨by decide +kernel, by decide +kernel⟩, List.mem_of_getElem? (i := 19) (by decide +kernel), List.mem_of_getElem? (i := 436) (by decide +kernel), List.mem_of_getElem? (i := 437) (by decide +kernel)⟩
theorem lw_p35 : lw_okq (⟨"MeshSums$Grid", "pulseTo", "(II)I"⟩, 8) := ⟨⟨by decide +kernel, by decide +kernel⟩, List.mem_of_getElem? (i := 19) (by decide +kernel), List.mem_of_getElem? (i := 445) (by decide +kernel), List.mem_of_getElem? (i := 446) (by decide +kernel)⟩
theorem lw_p36 : lw_okq (⟨"MeshSums$Search", "seek", "(III)I"⟩, 11) := ⟨⟨by decide +kernel, by decide +kernel⟩, List.mem_of_getElem? (i := 138) (by decide +kernel), List.mem_of_getElem? (i := 456) (by decide +kernel), List.mem_of_getElem? (i := 457) (by decide +kernel)⟩
theorem lw_p37 : lw_okq (⟨"MeshSums$Search", "begin", "(II)V"⟩, 11) := ⟨⟨by decide +kernel, by decide +kernel⟩, List.mem_of_getElem? (i := 138) (by decide +kernel), List.mem_of_getElem? (i := 460) (by decide +kernel), List.mem_of_getElem? (i := 461) (by decide +kernel)⟩
theorem lw_p38 : lw_okq (⟨"MeshSums$Search", "inputTable", "(I)I"⟩, 11) := ⟨⟨by decide +kernel, by decide +kernel⟩, List.mem_of_getElem? (i := 138) (by decide +kernel), List.mem_of_getElem? (i := 466) (by decide +kernel), List.mem_of_getElem? (i := 467) (by decide +kernel)⟩
theorem lw_p39 : lw_okq (⟨"MeshSums$Search", "meet", "(III)Z"⟩, 11) := ⟨⟨by decide +kernel, by decide +kernel⟩, List.mem_of_getElem? (i := 138) (by decide +kernel), List.mem_of_getElem? (i := 470) (by decide +kernel), List.mem_of_getElem? (i := 471) (by decide +kernel)⟩
theorem lw_p40 : lw_okq (⟨"MeshSums$Search", "openState", "(I)V"⟩, 11) := ⟨⟨by decide +kernel, by decide +kernel⟩, List.mem_of_getElem? (i := 138) (by decide +kernel), List.mem_of_getElem? (i := 481) (by decide +kernel), List.mem_of_getElem? (i := 482) (by decide +kernel)⟩
theorem lw_p41 : lw_okq (⟨"MeshSums$Search", "shiftOf", "(I)I"⟩, 11) := ⟨⟨by decide +kernel, by decide +kernel⟩, List.mem_of_getElem? (i := 138) (by decide +kernel), List.mem_of_getElem? (i := 485) (by decide +kernel), List.mem_of_getElem? (i := 486) (by decide +kernel)⟩
theorem lw_p42 : lw_okq (⟨"MeshSums$Search", "cellWith", "(I)I"⟩, 11) := ⟨⟨by decide +kernel, by decide +kernel⟩, List.mem_of_getElem? (i := 138) (by decide +kernel), List.mem_of_getElem? (i := 489) (by decide +kernel), List.mem_of_getElem? (i := 490) (by decide +kernel)⟩
theorem lw_p43 : lw_okq (⟨"MeshSums$Search", "keep", "(II)V"⟩, 11) := ⟨⟨by decide +kernel, by decide +kernel⟩, List.mem_of_getElem? (i := 138) (by decide +kernel), List.mem_of_getElem? (i := 493) (by decide +kernel), List.mem_of_getElem? (i := 494) (by decide +kernel)⟩
theorem lw_p44 : lw_okq (⟨"MeshSums$Search", "meetAllFrom", "(I)Z"⟩, 11) := ⟨⟨by decide +kernel, by decide +kernel⟩, List.mem_of_getElem? (i := 138) (by decide +kernel), List.mem_of_getElem? (i := 503) (by decide +kernel), List.mem_of_getElem? (i := 504) (by decide +kernel)⟩
theorem lw_p45 : lw_okq (⟨"MeshSums$Search", "meetByActs", "(III)Z"⟩, 11) := ⟨⟨by decide +kernel, by decide +kernel⟩, List.mem_of_getElem? (i := 138) (by decide +kernel), List.mem_of_getElem? (i := 507) (by decide +kernel), List.mem_of_getElem? (i := 508) (by decide +kernel)⟩
theorem lw_p46 : lw_okq (⟨"MeshSums$Grid", "stickingCells", "()I"⟩, 8) := ⟨⟨by decide +kernel, by decide +kernel⟩, List.mem_of_getElem? (i := 19) (by decide +kernel), List.mem_of_getElem? (i := 533) (by decide +kernel), List.mem_of_getElem? (i := 534) (by decide +kernel)⟩
theorem lw_p47 : lw_okq (⟨"MeshSums$Grid", "addTo", "(J)J"⟩, 8) := ⟨⟨by decide +kernel, by decide +kernel⟩, List.mem_of_getElem? (i := 19) (by decide +kernel), List.mem_of_getElem? (i := 544) (by decide +kernel), List.mem_of_getElem? (i := 545) (by decide +kernel)⟩
def lw_privs_3 : List (MethodName × Nat) := [(⟨"MeshSums$Checks", "columnBy", "(II)I"⟩, 4), (⟨"MeshSums$Grid", "ageAll", "()I"⟩, 8), (⟨"MeshSums$Grid", "ageOne", "(I)Z"⟩, 8), (⟨"MeshSums$Grid", "pulseTo", "(II)I"⟩, 8), (⟨"MeshSums$Search", "seek", "(III)I"⟩, 11), (⟨"MeshSums$Search", "begin", "(II)V"⟩, 11), (⟨"MeshSums$Search", "inputTable", "(I)I"⟩, 11), (⟨"MeshSums$Search", "meet", "(III)Z"⟩, 11), (⟨"MeshSums$Search", "openState", "(I)V"⟩, 11), (⟨"MeshSums$Search", "shiftOf", "(I)I"⟩, 11), (⟨"MeshSums$Search", "cellWith", "(I)I"⟩, 11), (⟨"MeshSums$Search", "keep", "(II)V"⟩, 11), (⟨"MeshSums$Search", "meetAllFrom", "(I)Z"⟩, 11), (⟨"MeshSums$Search", "meetByActs", "(III)Z"⟩, 11), (⟨"MeshSums$Grid", "stickingCells", "()I"⟩, 8), (⟨"MeshSums$Grid", "addTo", "(J)J"⟩, 8)]
theorem lw_r3 : ∀ q ∈ lw_privs_3, lw_okq q := List.forall_mem_cons.mpr ⟨lw_p32, List.forall_mem_cons.mpr ⟨lw_p33, List.forall_mem_cons.mpr ⟨lw_p34, List.forall_mem_cons.mpr ⟨lw_p35, List.forall_mem_cons.mpr ⟨lw_p36, List.forall_mem_cons.mpr ⟨lw_p37, List.forall_mem_cons.mpr ⟨lw_p38, List.forall_mem_cons.mpr ⟨lw_p39, List.forall_mem_cons.mpr ⟨lw_p40, List.forall_mem_cons.mpr ⟨lw_p41, List.forall_mem_cons.mpr ⟨lw_p42, List.forall_mem_cons.mpr ⟨lw_p43, List.forall_mem_cons.mpr ⟨lw_p44, List.forall_mem_cons.mpr ⟨lw_p45, List.forall_mem_cons.mpr ⟨lw_p46, List.forall_mem_cons.mpr ⟨lw_p47, fun _ h => absurd h List.not_mem_nil⟩⟩⟩⟩⟩⟩⟩⟩⟩⟩⟩⟩⟩⟩⟩⟩
theorem lw_p48 : lw_okq (⟨"MeshSums$Sheet", "addTo", "(J)J"⟩, 11) := ⟨⟨by decide +kernel, by decide +kernel⟩, List.mem_of_getElem? (i := 72) (by decide +kernel), List.mem_of_getElem? (i := 550) (by decide +kernel), List.mem_of_getElem? (i := 551) (by decide +kernel)⟩
theorem lw_p49 : lw_okq (⟨"MeshSums$Search", "addTo", "(J)J"⟩, 11) := ⟨⟨by decide +kernel, by decide +kernel⟩, List.mem_of_getElem? (i := 138) (by decide +kernel), List.mem_of_getElem? (i := 555) (by decide +kernel), List.mem_of_getElem? (i := 556) (by decide +kernel)⟩
theorem lw_p50 : lw_okq (⟨"MeshSumsModel", "begins", "(III)V"⟩, 29) := ⟨⟨by decide +kernel, by decide +kernel⟩, List.mem_of_getElem? (i := 561) (by decide +kernel), List.mem_of_getElem? (i := 567) (by decide +kernel), List.mem_of_getElem? (i := 568) (by decide +kernel)⟩
theorem lw_p51 : lw_okq (⟨"MeshSumsModel", "isCell", "(II)Z"⟩, 29) := ⟨⟨by decide +kernel, by decide +kernel⟩, List.mem_of_getElem? (i := 561) (by decide +kernel), List.mem_of_getElem? (i := 670) (by decide +kernel), List.mem_of_getElem? (i := 671) (by decide +kernel)⟩
theorem lw_p52 : lw_okq (⟨"MeshSumsModel", "writes", "(II)Z"⟩, 29) := ⟨⟨by decide +kernel, by decide +kernel⟩, List.mem_of_getElem? (i := 561) (by decide +kernel), List.mem_of_getElem? (i := 674) (by decide +kernel), List.mem_of_getElem? (i := 675) (by decide +kernel)⟩
theorem lw_p53 : lw_okq (⟨"MeshSumsModel", "cellAt", "(II)I"⟩, 29) := ⟨⟨by decide +kernel, by decide +kernel⟩, List.mem_of_getElem? (i := 561) (by decide +kernel), List.mem_of_getElem? (i := 686) (by decide +kernel), List.mem_of_getElem? (i := 687) (by decide +kernel)⟩
theorem lw_p54 : lw_okq (⟨"MeshSumsModel", "sumOf", "(I)I"⟩, 29) := ⟨⟨by decide +kernel, by decide +kernel⟩, List.mem_of_getElem? (i := 561) (by decide +kernel), List.mem_of_getElem? (i := 702) (by decide +kernel), List.mem_of_getElem? (i := 703) (by decide +kernel)⟩
theorem lw_p55 : lw_okq (⟨"MeshSumsModel", "converted", "(I)I"⟩, 29) := ⟨⟨by decide +kernel, by decide +kernel⟩, List.mem_of_getElem? (i := 561) (by decide +kernel), List.mem_of_getElem? (i := 706) (by decide +kernel), List.mem_of_getElem? (i := 707) (by decide +kernel)⟩
theorem lw_p56 : lw_okq (⟨"MeshSumsModel", "greatest", "()I"⟩, 29) := ⟨⟨by decide +kernel, by decide +kernel⟩, List.mem_of_getElem? (i := 561) (by decide +kernel), List.mem_of_getElem? (i := 718) (by decide +kernel), List.mem_of_getElem? (i := 719) (by decide +kernel)⟩
theorem lw_p57 : lw_okq (⟨"MeshSumsModel", "hasTable", "()Z"⟩, 29) := ⟨⟨by decide +kernel, by decide +kernel⟩, List.mem_of_getElem? (i := 561) (by decide +kernel), List.mem_of_getElem? (i := 727) (by decide +kernel), List.mem_of_getElem? (i := 728) (by decide +kernel)⟩
theorem lw_p58 : lw_okq (⟨"MeshSumsModel", "wanted", "(II)I"⟩, 29) := ⟨⟨by decide +kernel, by decide +kernel⟩, List.mem_of_getElem? (i := 561) (by decide +kernel), List.mem_of_getElem? (i := 731) (by decide +kernel), List.mem_of_getElem? (i := 732) (by decide +kernel)⟩
theorem lw_p59 : lw_okq (⟨"MeshSumsModel", "bitSum", "(II)J"⟩, 29) := ⟨⟨by decide +kernel, by decide +kernel⟩, List.mem_of_getElem? (i := 561) (by decide +kernel), List.mem_of_getElem? (i := 740) (by decide +kernel), List.mem_of_getElem? (i := 741) (by decide +kernel)⟩
theorem lw_p60 : lw_okq (⟨"MeshSumsModel", "findCosts", "()V"⟩, 29) := ⟨⟨by decide +kernel, by decide +kernel⟩, List.mem_of_getElem? (i := 561) (by decide +kernel), List.mem_of_getElem? (i := 756) (by decide +kernel), List.mem_of_getElem? (i := 757) (by decide +kernel)⟩
theorem lw_p61 : lw_okq (⟨"MeshSumsModel", "isUsed", "(II)Z"⟩, 29) := ⟨⟨by decide +kernel, by decide +kernel⟩, List.mem_of_getElem? (i := 561) (by decide +kernel), List.mem_of_getElem? (i := 760) (by decide +kernel), List.mem_of_getElem? (i := 761) (by decide +kernel)⟩
theorem lw_p62 : lw_okq (⟨"MeshSumsModel", "meets", "(JII)Z"⟩, 29) := ⟨⟨by decide +kernel, by decide +kernel⟩, List.mem_of_getElem? (i := 561) (by decide +kernel), List.mem_of_getElem? (i := 791) (by decide +kernel), List.mem_of_getElem? (i := 792) (by decide +kernel)⟩
theorem lw_p63 : lw_okq (⟨"MeshSumsModel", "isNew", "(J)Z"⟩, 29) := ⟨⟨by decide +kernel, by decide +kernel⟩, List.mem_of_getElem? (i := 561) (by decide +kernel), List.mem_of_getElem? (i := 795) (by decide +kernel), List.mem_of_getElem? (i := 796) (by decide +kernel)⟩
def lw_privs_4 : List (MethodName × Nat) := [(⟨"MeshSums$Sheet", "addTo", "(J)J"⟩, 11), (⟨"MeshSums$Search", "addTo", "(J)J"⟩, 11), (⟨"MeshSumsModel", "begins", "(III)V"⟩, 29), (⟨"MeshSumsModel", "isCell", "(II)Z"⟩, 29), (⟨"MeshSumsModel", "writes", "(II)Z"⟩, 29), (⟨"MeshSumsModel", "cellAt", "(II)I"⟩, 29), (⟨"MeshSumsModel", "sumOf", "(I)I"⟩, 29), (⟨"MeshSumsModel", "converted", "(I)I"⟩, 29), (⟨"MeshSumsModel", "greatest", "()I"⟩, 29), (⟨"MeshSumsModel", "hasTable", "()Z"⟩, 29), (⟨"MeshSumsModel", "wanted", "(II)I"⟩, 29), (⟨"MeshSumsModel", "bitSum", "(II)J"⟩, 29), (⟨"MeshSumsModel", "findCosts", "()V"⟩, 29), (⟨"MeshSumsModel", "isUsed", "(II)Z"⟩, 29), (⟨"MeshSumsModel", "meets", "(JII)Z"⟩, 29), (⟨"MeshSumsModel", "isNew", "(J)Z"⟩, 29)]
theorem lw_r4 : ∀ q ∈ lw_privs_4, lw_okq q := List.forall_mem_cons.mpr ⟨lw_p48, List.forall_mem_cons.mpr ⟨lw_p49, List.forall_mem_cons.mpr ⟨lw_p50, List.forall_mem_cons.mpr ⟨lw_p51, List.forall_mem_cons.mpr ⟨lw_p52, List.forall_mem_cons.mpr ⟨lw_p53, List.forall_mem_cons.mpr ⟨lw_p54, List.forall_mem_cons.mpr ⟨lw_p55, List.forall_mem_cons.mpr ⟨lw_p56, List.forall_mem_cons.mpr ⟨lw_p57, List.forall_mem_cons.mpr ⟨lw_p58, List.forall_mem_cons.mpr ⟨lw_p59, List.forall_mem_cons.mpr ⟨lw_p60, List.forall_mem_cons.mpr ⟨lw_p61, List.forall_mem_cons.mpr ⟨lw_p62, List.forall_mem_cons.mpr ⟨lw_p63, fun _ h => absurd h List.not_mem_nil⟩⟩⟩⟩⟩⟩⟩⟩⟩⟩⟩⟩⟩⟩⟩⟩
theorem lw_p64 : lw_okq (⟨"MeshSumsModel", "becomesFound", "(II)V"⟩, 29) := ⟨⟨by decide +kernel, by decide +kernel⟩, List.mem_of_getElem? (i := 561) (by decide +kernel), List.mem_of_getElem? (i := 806) (by decide +kernel), List.mem_of_getElem? (i := 807) (by decide +kernel)⟩
theorem lw_p65 : lw_okq (⟨"MeshSumsModel", "goesOn", "(IIII)Z"⟩, 29) := ⟨⟨by decide +kernel, by decide +kernel⟩, List.mem_of_getElem? (i := 561) (by decide +kernel), List.mem_of_getElem? (i := 810) (by decide +kernel), List.mem_of_getElem? (i := 811) (by decide +kernel)⟩
def lw_privs_5 : List (MethodName × Nat) := [(⟨"MeshSumsModel", "becomesFound", "(II)V"⟩, 29), (⟨"MeshSumsModel", "goesOn", "(IIII)Z"⟩, 29)]
theorem lw_r5 : ∀ q ∈ lw_privs_5, lw_okq q := List.forall_mem_cons.mpr ⟨lw_p64, List.forall_mem_cons.mpr ⟨lw_p65, fun _ h => absurd h List.not_mem_nil⟩⟩
def lw_privs : List (MethodName × Nat) := lw_privs_1 ++ (lw_privs_2 ++ (lw_privs_3 ++ (lw_privs_4 ++ (lw_privs_5))))
def lw_tbl : List Cond := k2_sels lw_privs ++ tables_1
theorem lw_privs_ok : ∀ q ∈ lw_privs, lw_okq q := by
  show ∀ q ∈ lw_privs_1 ++ (lw_privs_2 ++ (lw_privs_3 ++ (lw_privs_4 ++ (lw_privs_5)))), lw_okq q
  exact List.forall_mem_append.mpr ⟨lw_r1, List.forall_mem_append.mpr ⟨lw_r2, List.forall_mem_append.mpr ⟨lw_r3, List.forall_mem_append.mpr ⟨lw_r4, lw_r5⟩⟩⟩⟩
end
section
def RX0 : String := "MeshSums$Checks"
def TX0 : u_T := fun k => match k with
  | 0 => ("MeshSums$Checks", "grid", "LMeshSums$Grid;", true)
  | 1 => ("MeshSums$Checks", "sealed", "Z", false)
  | 2 => ("MeshSums$Checks", "plain", "[I", true)
  | _ => ("MeshSums$Checks", "weighted", "[I", true)
def tyX0 : Nat → FieldType := fun k => match k with
  | 0 => .object "MeshSums$Grid"
  | 1 => .boolean
  | 2 => .array .int
  | _ => .array .int
abbrev wsX00 : List Cond := u_ws RX0 TX0 4
theorem nmX0 : ∀ a, a < 4 → ∀ b, b < 4 → a ≠ b → (TX0 a).2.1 ≠ (TX0 b).2.1 := by decide +kernel
theorem tyX0_ok : ∀ k, k < 4 → parseFieldDescriptor (TX0 k).2.2.1 = some (tyX0 k) := by decide +kernel
abbrev cX0_init : ByteArray := prog_2_method_1_code
def yX0_init : MethodName := ⟨RX0, "<init>", "(LMeshSums$Grid;)V"⟩
abbrev cX0_takeAnew : ByteArray := prog_2_method_2_code
def yX0_takeAnew : MethodName := ⟨RX0, "takeAnew", "()V"⟩
abbrev cX0_wrongColumn : ByteArray := prog_2_method_3_code
def yX0_wrongColumn : MethodName := ⟨RX0, "wrongColumn", "()I"⟩
abbrev cX0_columnBy : ByteArray := prog_2_method_4_code
def yX0_columnBy : MethodName := ⟨RX0, "columnBy", "(II)I"⟩
def RX1 : String := "MeshSums$Grid"
def TX1 : u_T := fun k => match k with
  | 0 => ("MeshSums$Grid", "rows", "I", false)
  | 1 => ("MeshSums$Grid", "columns", "I", false)
  | 2 => ("MeshSums$Grid", "top", "I", false)
  | 3 => ("MeshSums$Grid", "converterBits", "I", false)
  | 4 => ("MeshSums$Grid", "levels", "[I", true)
  | 5 => ("MeshSums$Grid", "stuckAt", "[I", true)
  | 6 => ("MeshSums$Grid", "ages", "[I", true)
  | _ => ("MeshSums$Grid", "inputs", "[I", true)
def tyX1 : Nat → FieldType := fun k => match k with
  | 0 => .int
  | 1 => .int
  | 2 => .int
  | 3 => .int
  | 4 => .array .int
  | 5 => .array .int
  | 6 => .array .int
  | _ => .array .int
abbrev wsX10 : List Cond := u_ws RX1 TX1 8
theorem nmX1 : ∀ a, a < 8 → ∀ b, b < 8 → a ≠ b → (TX1 a).2.1 ≠ (TX1 b).2.1 := by decide +kernel
theorem tyX1_ok : ∀ k, k < 8 → parseFieldDescriptor (TX1 k).2.2.1 = some (tyX1 k) := by decide +kernel
abbrev cX1_init : ByteArray := prog_3_method_1_code
def yX1_init : MethodName := ⟨RX1, "<init>", "()V"⟩
abbrev cX1_renew : ByteArray := prog_3_method_2_code
def yX1_renew : MethodName := ⟨RX1, "renew", "(III)V"⟩
abbrev cX1_hasCell : ByteArray := prog_3_method_3_code
def yX1_hasCell : MethodName := ⟨RX1, "hasCell", "(II)Z"⟩
abbrev cX1_place : ByteArray := prog_3_method_4_code
def yX1_place : MethodName := ⟨RX1, "place", "(II)I"⟩
abbrev cX1_sticks : ByteArray := prog_3_method_5_code
def yX1_sticks : MethodName := ⟨RX1, "sticks", "(I)Z"⟩
abbrev cX1_sticksAtAnother : ByteArray := prog_3_method_6_code
def yX1_sticksAtAnother : MethodName := ⟨RX1, "sticksAtAnother", "(II)Z"⟩
abbrev cX1_put : ByteArray := prog_3_method_7_code
def yX1_put : MethodName := ⟨RX1, "put", "(II)V"⟩
abbrev cX1_hold : ByteArray := prog_3_method_8_code
def yX1_hold : MethodName := ⟨RX1, "hold", "(II)V"⟩
abbrev cX1_tellCell : ByteArray := prog_3_method_9_code
def yX1_tellCell : MethodName := ⟨RX1, "tellCell", "(II)I"⟩
abbrev cX1_columnSum : ByteArray := prog_3_method_10_code
def yX1_columnSum : MethodName := ⟨RX1, "columnSum", "(I)I"⟩
abbrev cX1_convert : ByteArray := prog_3_method_11_code
def yX1_convert : MethodName := ⟨RX1, "convert", "(I)I"⟩
abbrev cX1_stickingCells : ByteArray := prog_3_method_12_code
def yX1_stickingCells : MethodName := ⟨RX1, "stickingCells", "()I"⟩
abbrev cX1_ageAll : ByteArray := prog_3_method_13_code
def yX1_ageAll : MethodName := ⟨RX1, "ageAll", "()I"⟩
abbrev cX1_ageOne : ByteArray := prog_3_method_14_code
def yX1_ageOne : MethodName := ⟨RX1, "ageOne", "(I)Z"⟩
abbrev cX1_pulseTo : ByteArray := prog_3_method_15_code
def yX1_pulseTo : MethodName := ⟨RX1, "pulseTo", "(II)I"⟩
abbrev cX1_addTo : ByteArray := prog_3_method_16_code
def yX1_addTo : MethodName := ⟨RX1, "addTo", "(J)J"⟩
def RX2 : String := "MeshSums$Search"
def TX2 : u_T := fun k => match k with
  | 0 => ("MeshSums$Search", "visits", "[J", true)
  | 1 => ("MeshSums$Search", "seen", "[I", true)
  | 2 => ("MeshSums$Search", "tables", "[I", true)
  | 3 => ("MeshSums$Search", "inputs", "I", false)
  | 4 => ("MeshSums$Search", "cells", "I", false)
  | 5 => ("MeshSums$Search", "tableBits", "I", false)
  | 6 => ("MeshSums$Search", "fullMask", "I", false)
  | 7 => ("MeshSums$Search", "metStates", "I", false)
  | 8 => ("MeshSums$Search", "found", "[I", false)
  | 9 => ("MeshSums$Search", "foundActs", "I", false)
  | _ => ("MeshSums$Search", "foundCell", "I", false)
def tyX2 : Nat → FieldType := fun k => match k with
  | 0 => .array .long
  | 1 => .array .int
  | 2 => .array .int
  | 3 => .int
  | 4 => .int
  | 5 => .int
  | 6 => .int
  | 7 => .int
  | 8 => .array .int
  | 9 => .int
  | _ => .int
abbrev wsX20 : List Cond := u_ws RX2 TX2 11
theorem nmX2 : ∀ a, a < 11 → ∀ b, b < 11 → a ≠ b → (TX2 a).2.1 ≠ (TX2 b).2.1 := by decide +kernel
theorem tyX2_ok : ∀ k, k < 11 → parseFieldDescriptor (TX2 k).2.2.1 = some (tyX2 k) := by decide +kernel
abbrev cX2_init : ByteArray := prog_4_method_1_code
def yX2_init : MethodName := ⟨RX2, "<init>", "()V"⟩
abbrev cX2_seek : ByteArray := prog_4_method_2_code
def yX2_seek : MethodName := ⟨RX2, "seek", "(III)I"⟩
abbrev cX2_begin : ByteArray := prog_4_method_3_code
def yX2_begin : MethodName := ⟨RX2, "begin", "(II)V"⟩
abbrev cX2_inputTable : ByteArray := prog_4_method_4_code
def yX2_inputTable : MethodName := ⟨RX2, "inputTable", "(I)I"⟩
abbrev cX2_shiftOf : ByteArray := prog_4_method_5_code
def yX2_shiftOf : MethodName := ⟨RX2, "shiftOf", "(I)I"⟩
abbrev cX2_openState : ByteArray := prog_4_method_6_code
def yX2_openState : MethodName := ⟨RX2, "openState", "(I)V"⟩
abbrev cX2_cellWith : ByteArray := prog_4_method_7_code
def yX2_cellWith : MethodName := ⟨RX2, "cellWith", "(I)I"⟩
abbrev cX2_meetAllFrom : ByteArray := prog_4_method_8_code
def yX2_meetAllFrom : MethodName := ⟨RX2, "meetAllFrom", "(I)Z"⟩
abbrev cX2_meetByActs : ByteArray := prog_4_method_9_code
def yX2_meetByActs : MethodName := ⟨RX2, "meetByActs", "(III)Z"⟩
abbrev cX2_meet : ByteArray := prog_4_method_10_code
def yX2_meet : MethodName := ⟨RX2, "meet", "(III)Z"⟩
abbrev cX2_keep : ByteArray := prog_4_method_11_code
def yX2_keep : MethodName := ⟨RX2, "keep", "(II)V"⟩
abbrev cX2_addTo : ByteArray := prog_4_method_12_code
def yX2_addTo : MethodName := ⟨RX2, "addTo", "(J)J"⟩
def RX3 : String := "MeshSums$Sheet"
def TX3 : u_T := fun k => match k with
  | 0 => ("MeshSums$Sheet", "grid", "LMeshSums$Grid;", true)
  | 1 => ("MeshSums$Sheet", "height", "I", false)
  | 2 => ("MeshSums$Sheet", "width", "I", false)
  | 3 => ("MeshSums$Sheet", "digits", "I", false)
  | 4 => ("MeshSums$Sheet", "greatest", "I", false)
  | 5 => ("MeshSums$Sheet", "laid", "Z", false)
  | 6 => ("MeshSums$Sheet", "numbers", "[I", true)
  | 7 => ("MeshSums$Sheet", "rowOf", "[I", true)
  | 8 => ("MeshSums$Sheet", "wanted", "[I", true)
  | 9 => ("MeshSums$Sheet", "costs", "[I", true)
  | _ => ("MeshSums$Sheet", "leastRest", "[I", true)
def tyX3 : Nat → FieldType := fun k => match k with
  | 0 => .object "MeshSums$Grid"
  | 1 => .int
  | 2 => .int
  | 3 => .int
  | 4 => .int
  | 5 => .boolean
  | 6 => .array .int
  | 7 => .array .int
  | 8 => .array .int
  | 9 => .array .int
  | _ => .array .int
abbrev wsX30 : List Cond := u_ws RX3 TX3 11
theorem nmX3 : ∀ a, a < 11 → ∀ b, b < 11 → a ≠ b → (TX3 a).2.1 ≠ (TX3 b).2.1 := by decide +kernel
theorem tyX3_ok : ∀ k, k < 11 → parseFieldDescriptor (TX3 k).2.2.1 = some (tyX3 k) := by decide +kernel
abbrev cX3_init : ByteArray := prog_5_method_1_code
def yX3_init : MethodName := ⟨RX3, "<init>", "(LMeshSums$Grid;)V"⟩
abbrev cX3_exists : ByteArray := prog_5_method_2_code
def yX3_exists : MethodName := ⟨RX3, "exists", "()Z"⟩
abbrev cX3_drop : ByteArray := prog_5_method_3_code
def yX3_drop : MethodName := ⟨RX3, "drop", "()V"⟩
abbrev cX3_begin : ByteArray := prog_5_method_4_code
def yX3_begin : MethodName := ⟨RX3, "begin", "(III)V"⟩
abbrev cX3_base : ByteArray := prog_5_method_5_code
def yX3_base : MethodName := ⟨RX3, "base", "()I"⟩
abbrev cX3_power : ByteArray := prog_5_method_6_code
def yX3_power : MethodName := ⟨RX3, "power", "(II)I"⟩
abbrev cX3_numberAt : ByteArray := prog_5_method_7_code
def yX3_numberAt : MethodName := ⟨RX3, "numberAt", "(II)I"⟩
abbrev cX3_exchange : ByteArray := prog_5_method_8_code
def yX3_exchange : MethodName := ⟨RX3, "exchange", "(III)I"⟩
abbrev cX3_usedColumns : ByteArray := prog_5_method_9_code
def yX3_usedColumns : MethodName := ⟨RX3, "usedColumns", "()I"⟩
abbrev cX3_spellRow : ByteArray := prog_5_method_10_code
def yX3_spellRow : MethodName := ⟨RX3, "spellRow", "(I)V"⟩
abbrev cX3_layAll : ByteArray := prog_5_method_11_code
def yX3_layAll : MethodName := ⟨RX3, "layAll", "()I"⟩
abbrev cX3_meshProduct : ByteArray := prog_5_method_12_code
def yX3_meshProduct : MethodName := ⟨RX3, "meshProduct", "(I)J"⟩
abbrev cX3_bitSum : ByteArray := prog_5_method_13_code
def yX3_bitSum : MethodName := ⟨RX3, "bitSum", "(II)I"⟩
abbrev cX3_trueProduct : ByteArray := prog_5_method_14_code
def yX3_trueProduct : MethodName := ⟨RX3, "trueProduct", "(I)J"⟩
abbrev cX3_bitsEnough : ByteArray := prog_5_method_15_code
def yX3_bitsEnough : MethodName := ⟨RX3, "bitsEnough", "()I"⟩
abbrev cX3_mapAnew : ByteArray := prog_5_method_16_code
def yX3_mapAnew : MethodName := ⟨RX3, "mapAnew", "()I"⟩
abbrev cX3_fillCosts : ByteArray := prog_5_method_17_code
def yX3_fillCosts : MethodName := ⟨RX3, "fillCosts", "()V"⟩
abbrev cX3_costOn : ByteArray := prog_5_method_18_code
def yX3_costOn : MethodName := ⟨RX3, "costOn", "(I)I"⟩
abbrev cX3_costWith : ByteArray := prog_5_method_19_code
def yX3_costWith : MethodName := ⟨RX3, "costWith", "(III)I"⟩
abbrev cX3_leastFrom : ByteArray := prog_5_method_20_code
def yX3_leastFrom : MethodName := ⟨RX3, "leastFrom", "(II)I"⟩
abbrev cX3_chooseFirstLeast : ByteArray := prog_5_method_21_code
def yX3_chooseFirstLeast : MethodName := ⟨RX3, "chooseFirstLeast", "()V"⟩
abbrev cX3_firstLeastRow : ByteArray := prog_5_method_22_code
def yX3_firstLeastRow : MethodName := ⟨RX3, "firstLeastRow", "(II)I"⟩
abbrev cX3_addTo : ByteArray := prog_5_method_23_code
def yX3_addTo : MethodName := ⟨RX3, "addTo", "(J)J"⟩
def RX4 : String := "MeshSums"
def TX4 : u_T := fun k => match k with
  | 0 => ("MeshSums", "grid", "LMeshSums$Grid;", true)
  | 1 => ("MeshSums", "sheet", "LMeshSums$Sheet;", true)
  | 2 => ("MeshSums", "checks", "LMeshSums$Checks;", true)
  | _ => ("MeshSums", "search", "LMeshSums$Search;", true)
def tyX4 : Nat → FieldType := fun k => match k with
  | 0 => .object "MeshSums$Grid"
  | 1 => .object "MeshSums$Sheet"
  | 2 => .object "MeshSums$Checks"
  | _ => .object "MeshSums$Search"
abbrev wsX40 : List Cond := u_ws RX4 TX4 4
theorem nmX4 : ∀ a, a < 4 → ∀ b, b < 4 → a ≠ b → (TX4 a).2.1 ≠ (TX4 b).2.1 := by decide +kernel
theorem tyX4_ok : ∀ k, k < 4 → parseFieldDescriptor (TX4 k).2.2.1 = some (tyX4 k) := by decide +kernel
abbrev cX4_init : ByteArray := prog_1_method_1_code
def yX4_init : MethodName := ⟨RX4, "<init>", "()V"⟩
abbrev cX4_mesh : ByteArray := prog_1_method_2_code
def yX4_mesh : MethodName := ⟨RX4, "mesh", "(III)I"⟩
abbrev cX4_write : ByteArray := prog_1_method_3_code
def yX4_write : MethodName := ⟨RX4, "write", "(III)I"⟩
abbrev cX4_stick : ByteArray := prog_1_method_4_code
def yX4_stick : MethodName := ⟨RX4, "stick", "(III)I"⟩
abbrev cX4_cell : ByteArray := prog_1_method_5_code
def yX4_cell : MethodName := ⟨RX4, "cell", "(III)I"⟩
abbrev cX4_input : ByteArray := prog_1_method_6_code
def yX4_input : MethodName := ⟨RX4, "input", "(II)I"⟩
abbrev cX4_bits : ByteArray := prog_1_method_7_code
def yX4_bits : MethodName := ⟨RX4, "bits", "(I)I"⟩
abbrev cX4_sum : ByteArray := prog_1_method_8_code
def yX4_sum : MethodName := ⟨RX4, "sum", "(I)I"⟩
abbrev cX4_table : ByteArray := prog_1_method_9_code
def yX4_table : MethodName := ⟨RX4, "table", "(III)I"⟩
abbrev cX4_number : ByteArray := prog_1_method_10_code
def yX4_number : MethodName := ⟨RX4, "number", "(III)I"⟩
abbrev cX4_lay : ByteArray := prog_1_method_11_code
def yX4_lay : MethodName := ⟨RX4, "lay", "()I"⟩
abbrev cX4_product : ByteArray := prog_1_method_12_code
def yX4_product : MethodName := ⟨RX4, "product", "(I)J"⟩
abbrev cX4_due : ByteArray := prog_1_method_13_code
def yX4_due : MethodName := ⟨RX4, "due", "(I)J"⟩
abbrev cX4_enough : ByteArray := prog_1_method_14_code
def yX4_enough : MethodName := ⟨RX4, "enough", "()I"⟩
abbrev cX4_map : ByteArray := prog_1_method_15_code
def yX4_map : MethodName := ⟨RX4, "map", "()I"⟩
abbrev cX4_mapped : ByteArray := prog_1_method_16_code
def yX4_mapped : MethodName := ⟨RX4, "mapped", "(I)I"⟩
abbrev cX4_seal : ByteArray := prog_1_method_17_code
def yX4_seal : MethodName := ⟨RX4, "seal", "()I"⟩
abbrev cX4_look : ByteArray := prog_1_method_18_code
def yX4_look : MethodName := ⟨RX4, "look", "()I"⟩
abbrev cX4_fade : ByteArray := prog_1_method_19_code
def yX4_fade : MethodName := ⟨RX4, "fade", "(I)I"⟩
abbrev cX4_pulse : ByteArray := prog_1_method_20_code
def yX4_pulse : MethodName := ⟨RX4, "pulse", "(III)I"⟩
abbrev cX4_find : ByteArray := prog_1_method_21_code
def yX4_find : MethodName := ⟨RX4, "find", "(III)I"⟩
abbrev cX4_actAt : ByteArray := prog_1_method_22_code
def yX4_actAt : MethodName := ⟨RX4, "actAt", "(II)I"⟩
abbrev cX4_where : ByteArray := prog_1_method_23_code
def yX4_where : MethodName := ⟨RX4, "where", "()I"⟩
abbrev cX4_met : ByteArray := prog_1_method_24_code
def yX4_met : MethodName := ⟨RX4, "met", "()I"⟩
abbrev cX4_count : ByteArray := prog_1_method_25_code
def yX4_count : MethodName := ⟨RX4, "count", "(I)I"⟩
abbrev cX4_digest : ByteArray := prog_1_method_26_code
def yX4_digest : MethodName := ⟨RX4, "digest", "()J"⟩
abbrev cX4_within : ByteArray := prog_1_method_27_code
def yX4_within : MethodName := ⟨RX4, "within", "(III)Z"⟩
abbrev cX4_fullTable : ByteArray := prog_1_method_28_code
def yX4_fullTable : MethodName := ⟨RX4, "fullTable", "(I)I"⟩
abbrev cX4_packAct : ByteArray := prog_1_method_29_code
def yX4_packAct : MethodName := ⟨RX4, "packAct", "(III)I"⟩
abbrev cX4_actPart : ByteArray := prog_1_method_30_code
def yX4_actPart : MethodName := ⟨RX4, "actPart", "(II)I"⟩
abbrev cX4_packVisit : ByteArray := prog_1_method_31_code
def yX4_packVisit : MethodName := ⟨RX4, "packVisit", "(III)J"⟩
abbrev cX4_stateOf : ByteArray := prog_1_method_32_code
def yX4_stateOf : MethodName := ⟨RX4, "stateOf", "(J)I"⟩
abbrev cX4_cameBy : ByteArray := prog_1_method_33_code
def yX4_cameBy : MethodName := ⟨RX4, "cameBy", "(J)I"⟩
abbrev cX4_cameFrom : ByteArray := prog_1_method_34_code
def yX4_cameFrom : MethodName := ⟨RX4, "cameFrom", "(J)I"⟩
def RX5 : String := "MeshSumsModel"
def TX5 : u_T := fun k => match k with
  | 0 => ("MeshSumsModel", "rows", "I", false)
  | 1 => ("MeshSumsModel", "columns", "I", false)
  | 2 => ("MeshSumsModel", "top", "I", false)
  | 3 => ("MeshSumsModel", "level", "[I", true)
  | 4 => ("MeshSumsModel", "stuck", "[I", true)
  | 5 => ("MeshSumsModel", "age", "[I", true)
  | 6 => ("MeshSumsModel", "inputs", "[I", true)
  | 7 => ("MeshSumsModel", "bits", "I", false)
  | 8 => ("MeshSumsModel", "high", "I", false)
  | 9 => ("MeshSumsModel", "wide", "I", false)
  | 10 => ("MeshSumsModel", "digits", "I", false)
  | 11 => ("MeshSumsModel", "isLaid", "Z", false)
  | 12 => ("MeshSumsModel", "isSealed", "Z", false)
  | 13 => ("MeshSumsModel", "number", "[I", true)
  | 14 => ("MeshSumsModel", "mapped", "[I", true)
  | 15 => ("MeshSumsModel", "checkOne", "[I", true)
  | 16 => ("MeshSumsModel", "checkTwo", "[I", true)
  | 17 => ("MeshSumsModel", "costs", "[I", true)
  | 18 => ("MeshSumsModel", "now", "[I", true)
  | 19 => ("MeshSumsModel", "best", "[I", true)
  | 20 => ("MeshSumsModel", "paid", "[I", true)
  | 21 => ("MeshSumsModel", "state", "[J", true)
  | 22 => ("MeshSumsModel", "from", "[I", true)
  | 23 => ("MeshSumsModel", "by", "[I", true)
  | 24 => ("MeshSumsModel", "place", "[I", true)
  | 25 => ("MeshSumsModel", "many", "I", false)
  | 26 => ("MeshSumsModel", "foundLong", "I", false)
  | 27 => ("MeshSumsModel", "found", "[I", true)
  | _ => ("MeshSumsModel", "foundWhere", "I", false)
def tyX5 : Nat → FieldType := fun k => match k with
  | 0 => .int
  | 1 => .int
  | 2 => .int
  | 3 => .array .int
  | 4 => .array .int
  | 5 => .array .int
  | 6 => .array .int
  | 7 => .int
  | 8 => .int
  | 9 => .int
  | 10 => .int
  | 11 => .boolean
  | 12 => .boolean
  | 13 => .array .int
  | 14 => .array .int
  | 15 => .array .int
  | 16 => .array .int
  | 17 => .array .int
  | 18 => .array .int
  | 19 => .array .int
  | 20 => .array .int
  | 21 => .array .long
  | 22 => .array .int
  | 23 => .array .int
  | 24 => .array .int
  | 25 => .int
  | 26 => .int
  | 27 => .array .int
  | _ => .int
abbrev wsX50 : List Cond := u_ws RX5 TX5 29
theorem nmX5 : ∀ a, a < 29 → ∀ b, b < 29 → a ≠ b → (TX5 a).2.1 ≠ (TX5 b).2.1 := by decide +kernel
theorem tyX5_ok : ∀ k, k < 29 → parseFieldDescriptor (TX5 k).2.2.1 = some (tyX5 k) := by decide +kernel
abbrev cX5_in : ByteArray := prog_7_method_2_code
def yX5_in : MethodName := ⟨RX5, "in", "(III)Z"⟩
abbrev cX5_init : ByteArray := prog_7_method_3_code
def yX5_init : MethodName := ⟨RX5, "<init>", "()V"⟩
abbrev cX5_begins : ByteArray := prog_7_method_4_code
def yX5_begins : MethodName := ⟨RX5, "begins", "(III)V"⟩
abbrev cX5_mesh : ByteArray := prog_7_method_5_code
def yX5_mesh : MethodName := ⟨RX5, "mesh", "(III)I"⟩
abbrev cX5_isCell : ByteArray := prog_7_method_6_code
def yX5_isCell : MethodName := ⟨RX5, "isCell", "(II)Z"⟩
abbrev cX5_writes : ByteArray := prog_7_method_7_code
def yX5_writes : MethodName := ⟨RX5, "writes", "(II)Z"⟩
abbrev cX5_write : ByteArray := prog_7_method_8_code
def yX5_write : MethodName := ⟨RX5, "write", "(III)I"⟩
abbrev cX5_stick : ByteArray := prog_7_method_9_code
def yX5_stick : MethodName := ⟨RX5, "stick", "(III)I"⟩
abbrev cX5_cellAt : ByteArray := prog_7_method_10_code
def yX5_cellAt : MethodName := ⟨RX5, "cellAt", "(II)I"⟩
abbrev cX5_cell : ByteArray := prog_7_method_11_code
def yX5_cell : MethodName := ⟨RX5, "cell", "(III)I"⟩
abbrev cX5_input : ByteArray := prog_7_method_12_code
def yX5_input : MethodName := ⟨RX5, "input", "(II)I"⟩
abbrev cX5_bits : ByteArray := prog_7_method_13_code
def yX5_bits : MethodName := ⟨RX5, "bits", "(I)I"⟩
abbrev cX5_converted : ByteArray := prog_7_method_14_code
def yX5_converted : MethodName := ⟨RX5, "converted", "(I)I"⟩
abbrev cX5_sumOf : ByteArray := prog_7_method_15_code
def yX5_sumOf : MethodName := ⟨RX5, "sumOf", "(I)I"⟩
abbrev cX5_sum : ByteArray := prog_7_method_16_code
def yX5_sum : MethodName := ⟨RX5, "sum", "(I)I"⟩
abbrev cX5_hasTable : ByteArray := prog_7_method_17_code
def yX5_hasTable : MethodName := ⟨RX5, "hasTable", "()Z"⟩
abbrev cX5_table : ByteArray := prog_7_method_18_code
def yX5_table : MethodName := ⟨RX5, "table", "(III)I"⟩
abbrev cX5_greatest : ByteArray := prog_7_method_19_code
def yX5_greatest : MethodName := ⟨RX5, "greatest", "()I"⟩
abbrev cX5_number : ByteArray := prog_7_method_20_code
def yX5_number : MethodName := ⟨RX5, "number", "(III)I"⟩
abbrev cX5_wanted : ByteArray := prog_7_method_21_code
def yX5_wanted : MethodName := ⟨RX5, "wanted", "(II)I"⟩
abbrev cX5_lay : ByteArray := prog_7_method_22_code
def yX5_lay : MethodName := ⟨RX5, "lay", "()I"⟩
abbrev cX5_bitSum : ByteArray := prog_7_method_23_code
def yX5_bitSum : MethodName := ⟨RX5, "bitSum", "(II)J"⟩
abbrev cX5_product : ByteArray := prog_7_method_24_code
def yX5_product : MethodName := ⟨RX5, "product", "(I)J"⟩
abbrev cX5_due : ByteArray := prog_7_method_25_code
def yX5_due : MethodName := ⟨RX5, "due", "(I)J"⟩
abbrev cX5_enough : ByteArray := prog_7_method_26_code
def yX5_enough : MethodName := ⟨RX5, "enough", "()I"⟩
abbrev cX5_findCosts : ByteArray := prog_7_method_27_code
def yX5_findCosts : MethodName := ⟨RX5, "findCosts", "()V"⟩
abbrev cX5_isUsed : ByteArray := prog_7_method_28_code
def yX5_isUsed : MethodName := ⟨RX5, "isUsed", "(II)Z"⟩
abbrev cX5_map : ByteArray := prog_7_method_29_code
def yX5_map : MethodName := ⟨RX5, "map", "()I"⟩
abbrev cX5_mapped : ByteArray := prog_7_method_30_code
def yX5_mapped : MethodName := ⟨RX5, "mapped", "(I)I"⟩
abbrev cX5_seal : ByteArray := prog_7_method_31_code
def yX5_seal : MethodName := ⟨RX5, "seal", "()I"⟩
abbrev cX5_rest : ByteArray := prog_7_method_32_code
def yX5_rest : MethodName := ⟨RX5, "rest", "(I)I"⟩
abbrev cX5_look : ByteArray := prog_7_method_33_code
def yX5_look : MethodName := ⟨RX5, "look", "()I"⟩
abbrev cX5_fade : ByteArray := prog_7_method_34_code
def yX5_fade : MethodName := ⟨RX5, "fade", "(I)I"⟩
abbrev cX5_pulse : ByteArray := prog_7_method_35_code
def yX5_pulse : MethodName := ⟨RX5, "pulse", "(III)I"⟩
abbrev cX5_isNew : ByteArray := prog_7_method_36_code
def yX5_isNew : MethodName := ⟨RX5, "isNew", "(J)Z"⟩
abbrev cX5_meets : ByteArray := prog_7_method_37_code
def yX5_meets : MethodName := ⟨RX5, "meets", "(JII)Z"⟩
abbrev cX5_tableOf : ByteArray := prog_7_method_38_code
def yX5_tableOf : MethodName := ⟨RX5, "tableOf", "(JI)I"⟩
abbrev cX5_whereIs : ByteArray := prog_7_method_39_code
def yX5_whereIs : MethodName := ⟨RX5, "whereIs", "(JII)I"⟩
abbrev cX5_becomesFound : ByteArray := prog_7_method_40_code
def yX5_becomesFound : MethodName := ⟨RX5, "becomesFound", "(II)V"⟩
abbrev cX5_goesOn : ByteArray := prog_7_method_41_code
def yX5_goesOn : MethodName := ⟨RX5, "goesOn", "(IIII)Z"⟩
abbrev cX5_find : ByteArray := prog_7_method_42_code
def yX5_find : MethodName := ⟨RX5, "find", "(III)I"⟩
abbrev cX5_actAt : ByteArray := prog_7_method_43_code
def yX5_actAt : MethodName := ⟨RX5, "actAt", "(II)I"⟩
abbrev cX5_where : ByteArray := prog_7_method_44_code
def yX5_where : MethodName := ⟨RX5, "where", "()I"⟩
abbrev cX5_met : ByteArray := prog_7_method_45_code
def yX5_met : MethodName := ⟨RX5, "met", "()I"⟩
abbrev cX5_count : ByteArray := prog_7_method_46_code
def yX5_count : MethodName := ⟨RX5, "count", "(I)I"⟩
abbrev cX5_digest : ByteArray := prog_7_method_47_code
def yX5_digest : MethodName := ⟨RX5, "digest", "()J"⟩
def RJ6 : String := "java/lang/Integer"
def TJ6 : u_T := fun k => match k with
  | _ => ("", "", "", false)
def tyJ6 : Nat → FieldType := fun k => match k with
  | _ => .int
abbrev wsJ60 : List Cond := u_ws RJ6 TJ6 0
theorem nmJ6 : ∀ a, a < 0 → ∀ b, b < 0 → a ≠ b → (TJ6 a).2.1 ≠ (TJ6 b).2.1 := by decide +kernel
theorem tyJ6_ok : ∀ k, k < 0 → parseFieldDescriptor (TJ6 k).2.2.1 = some (tyJ6 k) := by decide +kernel
abbrev cJ6_bitCount_0f7a4 : ByteArray := prog_8_method_49_code
def yJ6_bitCount_0f7a4 : MethodName := ⟨RJ6, "bitCount", "(I)I"⟩
def RJ9 : String := "java/lang/Math"
def TJ9 : u_T := fun k => match k with
  | _ => ("", "", "", false)
def tyJ9 : Nat → FieldType := fun k => match k with
  | _ => .int
abbrev wsJ90 : List Cond := u_ws RJ9 TJ9 0
theorem nmJ9 : ∀ a, a < 0 → ∀ b, b < 0 → a ≠ b → (TJ9 a).2.1 ≠ (TJ9 b).2.1 := by decide +kernel
theorem tyJ9_ok : ∀ k, k < 0 → parseFieldDescriptor (TJ9 k).2.2.1 = some (tyJ9 k) := by decide +kernel
abbrev cJ9_floorMod_7cf53 : ByteArray := prog_9_method_50_code
def yJ9_floorMod_7cf53 : MethodName := ⟨RJ9, "floorMod", "(II)I"⟩
abbrev cJ9_abs_0f7a4 : ByteArray := prog_9_method_59_code
def yJ9_abs_0f7a4 : MethodName := ⟨RJ9, "abs", "(I)I"⟩
abbrev cJ9_min_7cf53 : ByteArray := prog_9_method_69_code
def yJ9_min_7cf53 : MethodName := ⟨RJ9, "min", "(II)I"⟩
def RJ7 : String := "java/util/Arrays"
def TJ7 : u_T := fun k => match k with
  | _ => ("", "", "", false)
def tyJ7 : Nat → FieldType := fun k => match k with
  | _ => .int
abbrev wsJ70 : List Cond := u_ws RJ7 TJ7 0
theorem nmJ7 : ∀ a, a < 0 → ∀ b, b < 0 → a ≠ b → (TJ7 a).2.1 ≠ (TJ7 b).2.1 := by decide +kernel
theorem tyJ7_ok : ∀ k, k < 0 → parseFieldDescriptor (TJ7 k).2.2.1 = some (tyJ7 k) := by decide +kernel
abbrev cJ7_fill_53178 : ByteArray := prog_10_method_103_code
def yJ7_fill_53178 : MethodName := ⟨RJ7, "fill", "([II)V"⟩
def RL : String := "MeshSumsLaw"
abbrev cL_law : ByteArray := code
def yL_law : MethodName := ⟨RL, "law", "([I)Z"⟩
abbrev vwCl : List vw_C := [(RX0, TX0, 4), (RX1, TX1, 8), (RX2, TX2, 11), (RX3, TX3, 11), (RX4, TX4, 4), (RX5, TX5, 29)]
end
section
/-! The layer: a goal GG that hides heap, frame and locals array; one rule an instruction. -/
def gtbl : List Cond := lw_tbl.filter goodWord
theorem gt_of {w : Cond} (h : w ∈ lw_tbl ∧ goodWord w = true) : w ∈ gtbl := List.mem_filter.mpr h
abbrev Mth : Type := MethodName × ByteArray × Nat × Option FieldType
abbrev gws (M : Mth) : List Cond := Cond.code M.1 M.2.1 M.2.2.1 M.2.2.2 :: gtbl
theorem gws_in {M : Mth} (h : Cond.code M.1 M.2.1 M.2.2.1 M.2.2.2 ∈ gtbl) : GoodIn gtbl (gws M) := by
  intro w hw
  have hg : w ∈ gtbl := by
    rcases List.mem_cons.mp hw with h2 | h2
    · rw [h2]; exact h
    · exact h2
  exact ⟨hg, good_of_word (List.mem_filter.mp hg).2⟩
def isNest : Cond → Bool
  | .fieldLinkNest .. => true
  | .methodLinkNest .. => true
  | _ => false
def NW (U : State) : Prop := ∀ w ∈ lw_tbl, isNest w = true → va_Nw w U
theorem NW.warm {s U : State} (hW : s.WarmedH U.vm) (h : NW s) : NW U := by
  intro w hw hn
  have h0 := h w hw hn
  cases w with
  | fieldLinkNest => exact va_Nw.warmF hW h0
  | methodLinkNest => exact va_Nw.warmM hW h0
  | _ => exact absurd hn (by simp [isNest])
theorem NW.same {s U : State} (hv : s.vm = U.vm) (h : NW s) : NW U := by
  intro w hw hn
  have h0 := h w hw hn
  cases w with
  | fieldLinkNest => exact va_Nw.same rfl hv h0
  | methodLinkNest => exact va_Nw.same rfl hv h0
  | _ => exact absurd hn (by simp [isNest])
abbrev En : Type := Launch × va_G × ClassId × ClassId
abbrev Fx : Type := Program × Env × Room × State × MethodId × Array Value × List Frame × Method × Code × (Nat → Prop) × (State → Prop)
abbrev tyE (E : En) : List (ClassId × FieldType) := [(E.2.2.1, .int), (E.2.2.2, .long)]
def Cx (E : En) (X : Fx) (cc : ByteArray) (nL : Nat) (own : String) (ret : Option FieldType) (fr lo rc rs : Nat) : Prop :=
  match X with
  | (p, _, R, s, m, args, _, meth, c, A, _) => p.tables.exec = Jvm.exec ∧ c.code = cc ∧ c.maxLocals = nL ∧ s.vm.findClass own = some m.cls ∧ (∀ w ∈ gtbl, w.before args s = true) ∧ meth.locks = false ∧ meth.sig.returnType = ret ∧ va_K E.2.1 vwCl (tyE E) s ∧ NW s ∧ (∀ q, s.heap.size ≤ q → A q) ∧ R = { frames := fr, cells := rc, slots := rs, locals := lo }
def GG (E : En) (X : Fx) (ws : va_W) (k n pc : Nat) (lv : List (Nat × Value)) (st : List Value) : Prop :=
  match X with
  | (p, e, R, s, m, args, below, meth, c, A, Q) => ∀ (H : Heap) (locs : List Loc) (ls : Array Slot), va_P E.2.1 vwCl ws H → va_D A ws → va_S A s.heap H locs → lv_has ls c.maxLocals lv → W p E.1 e R s m args below meth c H locs k n Q (F0 m pc ls st)
def QQ (E : En) (Z : Option Value → va_W → Prop) (A : Nat → Prop) : Array Value → State → Outcome → State → Prop := fun _ st oc t => (∃ (v : Option Value) (w : va_W), oc = .returned v ∧ Z v w ∧ va_P E.2.1 vwCl w t.heap ∧ va_K E.2.1 vwCl (tyE E) t ∧ va_D A w) ∧ va_F A st t
/-- a method's contract: called with 'av' over the world 'ws' it returns, and Z holds of its answer and the world behind it -/
def Ct (E : En) (M : Mth) (d mc ms : Nat) (av : List Value) (ws : va_W) (Z : Option Value → va_W → Prop) : Prop :=
  ∀ sz : Nat, Met E.1 M.1 (gws M) { frames := d, cells := mc, slots := ms, locals := 40 * d } (va_Pc av (fun U => U.heap.size = sz ∧ va_P E.2.1 vwCl ws U.heap ∧ va_K E.2.1 vwCl (tyE E) U ∧ va_D (fun _ => True) ws ∧ NW U)) (QQ E Z (va_A ws sz)) mc ms (va_A ws sz)
def Rt (E : En) (X : Fx) (Z : Option Value → va_W → Prop) (mc ms : Nat) : Prop :=
  match X with
  | (_, _, _, s, _, args, below, _, _, A, Q) => Q = MQ below (QQ E Z A) args s mc ms A
def lvg (i : Nat) : List (Nat × Value) → Option Value
  | [] => none
  | q :: r => bif Nat.beq q.1 i then some q.2 else lvg i r
theorem lvg_mem {i : Nat} {v : Value} : ∀ {lv : List (Nat × Value)}, lvg i lv = some v → (i, v) ∈ lv
  | [], h => by simp [lvg] at h
  | q :: r, h => by
    simp only [lvg] at h
    cases hb : Nat.beq q.1 i with
    | true =>
      rw [hb] at h
      have h2 : q.1 = i := Nat.eq_of_beq_eq_true hb
      have h3 : q.2 = v := Option.some.inj h
      exact List.mem_cons.mpr (Or.inl (by rw [← h2, ← h3]))
    | false =>
      rw [hb] at h
      exact List.mem_cons_of_mem _ (lvg_mem h)
theorem nbq (a b : Nat) : Nat.beq a b = (a == b) := by
  cases h : Nat.beq a b with
  | true => rw [Nat.eq_of_beq_eq_true h]; simp
  | false => have h2 := Nat.ne_of_beq_eq_false h; simp [h2]
def lvi (q : Nat × Value) : List (Nat × Value) → List (Nat × Value)
  | [] => [q]
  | r :: t => bif Nat.ble q.1 r.1 then q :: r :: t else r :: lvi q t
theorem lvi_mem {q x : Nat × Value} : ∀ {t : List (Nat × Value)}, x ∈ lvi q t → x = q ∨ x ∈ t
  | [], h => by simp [lvi] at h; exact Or.inl h
  | r :: t, h => by
    simp only [lvi] at h
    cases hb : Nat.ble q.1 r.1 with
    | true =>
      rw [hb] at h
      exact List.mem_cons.mp h
    | false =>
      rw [hb] at h
      rcases List.mem_cons.mp h with h2 | h2
      · exact Or.inr (List.mem_cons.mpr (Or.inl h2))
      · rcases lvi_mem h2 with h3 | h3
        · exact Or.inl h3
        · exact Or.inr (List.mem_cons_of_mem _ h3)
/-- the locals' list behind a store of one word: what stood at i goes -/
def lvd1 (i : Nat) : List (Nat × Value) → List (Nat × Value)
  | [] => []
  | q :: r => bif (Nat.beq q.1 i || (Nat.beq (q.1 + 1) i && Nat.beq q.2.category 2)) then lvd1 i r else q :: lvd1 i r
def lvd2 (i : Nat) : List (Nat × Value) → List (Nat × Value)
  | [] => []
  | q :: r => bif (Nat.beq q.1 i || (Nat.beq q.1 (i + 1) || (Nat.beq (q.1 + 1) i && Nat.beq q.2.category 2))) then lvd2 i r else q :: lvd2 i r
theorem lvd1_eq (i : Nat) : ∀ lv : List (Nat × Value), lvd1 i lv = lv.filter (fun q => !(q.1 == i) && !(q.1 + 1 == i && q.2.category == 2))
  | [] => rfl
  | q :: r => by
    simp only [lvd1, List.filter_cons, lvd1_eq i r]
    simp only [nbq]
    cases (q.1 == i) <;> cases (q.1 + 1 == i) <;> cases (q.2.category == 2) <;> rfl
theorem lvd2_eq (i : Nat) : ∀ lv : List (Nat × Value), lvd2 i lv = lv.filter (fun q => !(q.1 == i) && (!(q.1 == i + 1) && !(q.1 + 1 == i && q.2.category == 2)))
  | [] => rfl
  | q :: r => by
    simp only [lvd2, List.filter_cons, lvd2_eq i r]
    simp only [nbq]
    cases (q.1 == i) <;> cases (q.1 == i + 1) <;> cases (q.1 + 1 == i) <;> cases (q.2.category == 2) <;> rfl
abbrev lvs1 (i : Nat) (v : Value) (lv : List (Nat × Value)) : List (Nat × Value) := lvi (i, v) (lvd1 i lv)
abbrev lvs2 (i : Nat) (v : Value) (lv : List (Nat × Value)) : List (Nat × Value) := lvi (i, v) (lvd2 i lv)
theorem lvs1_has {ls : Array Slot} {nL i : Nat} {v : Value} {lv : List (Nat × Value)} (h : lv_has ls nL ((i, v) :: lv.filter (fun q => !(q.1 == i) && !(q.1 + 1 == i && q.2.category == 2)))) : lv_has ls nL (lvs1 i v lv) := by
  refine ⟨h.1, h.2.1, fun q hq => h.2.2 q ?_⟩
  rcases lvi_mem hq with h1 | h1
  · exact List.mem_cons.mpr (Or.inl h1)
  · exact List.mem_cons_of_mem _ (by rw [← lvd1_eq]; exact h1)
theorem lvs2_has {ls : Array Slot} {nL i : Nat} {v : Value} {lv : List (Nat × Value)} (h : lv_has ls nL ((i, v) :: lv.filter (fun q => !(q.1 == i) && (!(q.1 == i + 1) && !(q.1 + 1 == i && q.2.category == 2))))) : lv_has ls nL (lvs2 i v lv) := by
  refine ⟨h.1, h.2.1, fun q hq => h.2.2 q ?_⟩
  rcases lvi_mem hq with h1 | h1
  · exact List.mem_cons.mpr (Or.inl h1)
  · exact List.mem_cons_of_mem _ (by rw [← lvd2_eq]; exact h1)
theorem lvg_has {ls : Array Slot} {nL i : Nat} {v : Value} {lv : List (Nat × Value)} (h : lv_has ls nL lv) (hg : lvg i lv = some v) : ls[i]? = some (.val v) := h.2.2 (i, v) (lvg_mem hg)
section MG
variable {E : En} {X : Fx} {cc : ByteArray} {nL : Nat} {own : String} {ret : Option FieldType} {fr lo rc rs : Nat} {ws : va_W} {k n pc : Nat} {lv : List (Nat × Value)} {st rest : List Value}
theorem mg_iconst (C : Cx E X cc nL own ret fr lo rc rs) {i : Int} {v : Int32}  (hdg : decode cc pc = .ok (.iconst i, 1)) (hv : Int32.ofInt i = v) (kk : GG E X ws k n (pc + 1) lv (.int v :: rest)) : GG E X ws k n pc lv (rest) := by
  obtain ⟨p, e, R, s, m, args, below, meth, c, A, Q⟩ := X
  obtain ⟨hx, hb, hml, hown, hts, hlk, hrt, hK, hnw, hA, hR⟩ := C
  intro H locs ls hP hD hS hl
  exact lv_iconst hx hb hdg hv (kk H locs ls hP hD hS hl)
theorem mg_bipush (C : Cx E X cc nL own ret fr lo rc rs) {i : Int} {v : Int32}  (hdg : decode cc pc = .ok (.bipush i, 2)) (hv : (Int8.ofInt i).toInt32 = v) (kk : GG E X ws k n (pc + 2) lv (.int v :: rest)) : GG E X ws k n pc lv (rest) := by
  obtain ⟨p, e, R, s, m, args, below, meth, c, A, Q⟩ := X
  obtain ⟨hx, hb, hml, hown, hts, hlk, hrt, hK, hnw, hA, hR⟩ := C
  intro H locs ls hP hD hS hl
  exact lv_bipush hx hb hdg hv (kk H locs ls hP hD hS hl)
theorem mg_sipush (C : Cx E X cc nL own ret fr lo rc rs) {i : Int} {v : Int32}  (hdg : decode cc pc = .ok (.sipush i, 3)) (hv : (Int16.ofInt i).toInt32 = v) (kk : GG E X ws k n (pc + 3) lv (.int v :: rest)) : GG E X ws k n pc lv (rest) := by
  obtain ⟨p, e, R, s, m, args, below, meth, c, A, Q⟩ := X
  obtain ⟨hx, hb, hml, hown, hts, hlk, hrt, hK, hnw, hA, hR⟩ := C
  intro H locs ls hP hD hS hl
  exact lv_sipush hx hb hdg hv (kk H locs ls hP hD hS hl)
theorem mg_lconst (C : Cx E X cc nL own ret fr lo rc rs) {i : Fin 2} {v : Int64}  (hdg : decode cc pc = .ok (.lconst i, 1)) (hv : Int64.ofNat (i : Nat) = v) (kk : GG E X ws k n (pc + 1) lv (.long v :: rest)) : GG E X ws k n pc lv (rest) := by
  obtain ⟨p, e, R, s, m, args, below, meth, c, A, Q⟩ := X
  obtain ⟨hx, hb, hml, hown, hts, hlk, hrt, hK, hnw, hA, hR⟩ := C
  intro H locs ls hP hD hS hl
  exact lv_lconst hx hb hdg hv (kk H locs ls hP hD hS hl)
theorem mg_ldc (C : Cx E X cc nL own ret fr lo rc rs) {i : Nat} {v : Int32}  (hdg : decode cc pc = .ok (.ldc i, 2)) (hv : Cond.constant own i v ∈ gtbl) (kk : GG E X ws k n (pc + 2) lv (.int v :: rest)) : GG E X ws k n pc lv (rest) := by
  obtain ⟨p, e, R, s, m, args, below, meth, c, A, Q⟩ := X
  obtain ⟨hx, hb, hml, hown, hts, hlk, hrt, hK, hnw, hA, hR⟩ := C
  intro H locs ls hP hD hS hl
  exact lv_ldc hx hb hown (hts _ hv) hdg (kk H locs ls hP hD hS hl)
theorem mg_ldcw (C : Cx E X cc nL own ret fr lo rc rs) {i : Nat} {v : Int32}  (hdg : decode cc pc = .ok (.ldc_w i, 3)) (hv : Cond.constant own i v ∈ gtbl) (kk : GG E X ws k n (pc + 3) lv (.int v :: rest)) : GG E X ws k n pc lv (rest) := by
  obtain ⟨p, e, R, s, m, args, below, meth, c, A, Q⟩ := X
  obtain ⟨hx, hb, hml, hown, hts, hlk, hrt, hK, hnw, hA, hR⟩ := C
  intro H locs ls hP hD hS hl
  exact lv_ldcw hx hb hown (hts _ hv) hdg (kk H locs ls hP hD hS hl)
theorem mg_ldc2 (C : Cx E X cc nL own ret fr lo rc rs) {i : Nat} {v : Int64}  (hdg : decode cc pc = .ok (.ldc2_w i, 3)) (hv : Cond.constantLong own i v ∈ gtbl) (kk : GG E X ws k n (pc + 3) lv (.long v :: rest)) : GG E X ws k n pc lv (rest) := by
  obtain ⟨p, e, R, s, m, args, below, meth, c, A, Q⟩ := X
  obtain ⟨hx, hb, hml, hown, hts, hlk, hrt, hK, hnw, hA, hR⟩ := C
  intro H locs ls hP hD hS hl
  exact lv_ldc2 hx hb hown (hts _ hv) hdg (kk H locs ls hP hD hS hl)
theorem mg_iload_n (C : Cx E X cc nL own ret fr lo rc rs) {i : Fin 4} {x : Int32}  (hdg : decode cc pc = .ok (.iload_n i, 1)) (hg : lvg (i : Nat) lv = some (.int x)) (kk : GG E X ws k n (pc + 1) lv (.int x :: rest)) : GG E X ws k n pc lv (rest) := by
  obtain ⟨p, e, R, s, m, args, below, meth, c, A, Q⟩ := X
  obtain ⟨hx, hb, hml, hown, hts, hlk, hrt, hK, hnw, hA, hR⟩ := C
  intro H locs ls hP hD hS hl
  exact lv_iload_n hx hb hdg rfl (lvg_has hl hg) (kk H locs ls hP hD hS hl)
theorem mg_iload (C : Cx E X cc nL own ret fr lo rc rs) {i : Nat} {x : Int32}  (hdg : decode cc pc = .ok (.iload i, 2)) (hg : lvg i lv = some (.int x)) (kk : GG E X ws k n (pc + 2) lv (.int x :: rest)) : GG E X ws k n pc lv (rest) := by
  obtain ⟨p, e, R, s, m, args, below, meth, c, A, Q⟩ := X
  obtain ⟨hx, hb, hml, hown, hts, hlk, hrt, hK, hnw, hA, hR⟩ := C
  intro H locs ls hP hD hS hl
  exact lv_iload hx hb hdg (lvg_has hl hg) (kk H locs ls hP hD hS hl)
theorem mg_lload_n (C : Cx E X cc nL own ret fr lo rc rs) {i : Fin 4} {x : Int64}  (hdg : decode cc pc = .ok (.lload_n i, 1)) (hg : lvg (i : Nat) lv = some (.long x)) (kk : GG E X ws k n (pc + 1) lv (.long x :: rest)) : GG E X ws k n pc lv (rest) := by
  obtain ⟨p, e, R, s, m, args, below, meth, c, A, Q⟩ := X
  obtain ⟨hx, hb, hml, hown, hts, hlk, hrt, hK, hnw, hA, hR⟩ := C
  intro H locs ls hP hD hS hl
  exact lv_lload_n hx hb hdg rfl (lvg_has hl hg) (kk H locs ls hP hD hS hl)
theorem mg_lload (C : Cx E X cc nL own ret fr lo rc rs) {i : Nat} {x : Int64}  (hdg : decode cc pc = .ok (.lload i, 2)) (hg : lvg i lv = some (.long x)) (kk : GG E X ws k n (pc + 2) lv (.long x :: rest)) : GG E X ws k n pc lv (rest) := by
  obtain ⟨p, e, R, s, m, args, below, meth, c, A, Q⟩ := X
  obtain ⟨hx, hb, hml, hown, hts, hlk, hrt, hK, hnw, hA, hR⟩ := C
  intro H locs ls hP hD hS hl
  exact lv_lload hx hb hdg (lvg_has hl hg) (kk H locs ls hP hD hS hl)
theorem mg_aload_n (C : Cx E X cc nL own ret fr lo rc rs) {i : Fin 4} {x : Nat}  (hdg : decode cc pc = .ok (.aload_n i, 1)) (hg : lvg (i : Nat) lv = some (.ref x)) (kk : GG E X ws k n (pc + 1) lv (.ref x :: rest)) : GG E X ws k n pc lv (rest) := by
  obtain ⟨p, e, R, s, m, args, below, meth, c, A, Q⟩ := X
  obtain ⟨hx, hb, hml, hown, hts, hlk, hrt, hK, hnw, hA, hR⟩ := C
  intro H locs ls hP hD hS hl
  exact lv_aload_n hx hb hdg rfl (lvg_has hl hg) (kk H locs ls hP hD hS hl)
theorem mg_aload (C : Cx E X cc nL own ret fr lo rc rs) {i : Nat} {x : Nat}  (hdg : decode cc pc = .ok (.aload i, 2)) (hg : lvg i lv = some (.ref x)) (kk : GG E X ws k n (pc + 2) lv (.ref x :: rest)) : GG E X ws k n pc lv (rest) := by
  obtain ⟨p, e, R, s, m, args, below, meth, c, A, Q⟩ := X
  obtain ⟨hx, hb, hml, hown, hts, hlk, hrt, hK, hnw, hA, hR⟩ := C
  intro H locs ls hP hD hS hl
  exact lv_aload hx hb hdg (lvg_has hl hg) (kk H locs ls hP hD hS hl)
theorem mg_istore_n (C : Cx E X cc nL own ret fr lo rc rs) {i : Fin 4} {x : Int32} (hdg : decode cc pc = .ok (.istore_n i, 1)) (hn : Nat.blt ((i : Nat)) nL = true) (kk : GG E X ws k n (pc + 1) (lvs1 (i : Nat) (.int x) lv) rest) : GG E X ws k n pc lv (.int x :: rest) := by
  obtain ⟨p, e, R, s, m, args, below, meth, c, A, Q⟩ := X
  obtain ⟨hx, hb, hml, hown, hts, hlk, hrt, hK, hnw, hA, hR⟩ := C
  intro H locs ls hP hD hS hl
  have hn2 : (i : Nat) < c.maxLocals := by
    rw [hml]; exact Nat.le_of_ble_eq_true hn
  exact lv_istore_n hx hb hdg rfl hl hn2 rfl (fun ls' h' => kk H locs ls' hP hD hS (lvs1_has h'))
theorem mg_istore (C : Cx E X cc nL own ret fr lo rc rs) {i : Nat} {x : Int32} (hdg : decode cc pc = .ok (.istore i, 2)) (hn : Nat.blt (i) nL = true) (kk : GG E X ws k n (pc + 2) (lvs1 i (.int x) lv) rest) : GG E X ws k n pc lv (.int x :: rest) := by
  obtain ⟨p, e, R, s, m, args, below, meth, c, A, Q⟩ := X
  obtain ⟨hx, hb, hml, hown, hts, hlk, hrt, hK, hnw, hA, hR⟩ := C
  intro H locs ls hP hD hS hl
  have hn2 : i < c.maxLocals := by
    rw [hml]; exact Nat.le_of_ble_eq_true hn
  exact lv_istore hx hb hdg hl hn2 rfl (fun ls' h' => kk H locs ls' hP hD hS (lvs1_has h'))
theorem mg_lstore_n (C : Cx E X cc nL own ret fr lo rc rs) {i : Fin 4} {x : Int64} (hdg : decode cc pc = .ok (.lstore_n i, 1)) (hn : Nat.blt ((i : Nat) + 1) nL = true) (kk : GG E X ws k n (pc + 1) (lvs2 (i : Nat) (.long x) lv) rest) : GG E X ws k n pc lv (.long x :: rest) := by
  obtain ⟨p, e, R, s, m, args, below, meth, c, A, Q⟩ := X
  obtain ⟨hx, hb, hml, hown, hts, hlk, hrt, hK, hnw, hA, hR⟩ := C
  intro H locs ls hP hD hS hl
  have hn2 : (i : Nat) + 1 < c.maxLocals := by
    rw [hml]; exact Nat.le_of_ble_eq_true hn
  exact lv_lstore_n hx hb hdg rfl hl hn2 rfl (fun ls' h' => kk H locs ls' hP hD hS (lvs2_has h'))
theorem mg_lstore (C : Cx E X cc nL own ret fr lo rc rs) {i : Nat} {x : Int64} (hdg : decode cc pc = .ok (.lstore i, 2)) (hn : Nat.blt (i + 1) nL = true) (kk : GG E X ws k n (pc + 2) (lvs2 i (.long x) lv) rest) : GG E X ws k n pc lv (.long x :: rest) := by
  obtain ⟨p, e, R, s, m, args, below, meth, c, A, Q⟩ := X
  obtain ⟨hx, hb, hml, hown, hts, hlk, hrt, hK, hnw, hA, hR⟩ := C
  intro H locs ls hP hD hS hl
  have hn2 : i + 1 < c.maxLocals := by
    rw [hml]; exact Nat.le_of_ble_eq_true hn
  exact lv_lstore hx hb hdg hl hn2 rfl (fun ls' h' => kk H locs ls' hP hD hS (lvs2_has h'))
theorem mg_astore_n (C : Cx E X cc nL own ret fr lo rc rs) {i : Fin 4} {x : Nat} (hdg : decode cc pc = .ok (.astore_n i, 1)) (hn : Nat.blt ((i : Nat)) nL = true) (kk : GG E X ws k n (pc + 1) (lvs1 (i : Nat) (.ref x) lv) rest) : GG E X ws k n pc lv (.ref x :: rest) := by
  obtain ⟨p, e, R, s, m, args, below, meth, c, A, Q⟩ := X
  obtain ⟨hx, hb, hml, hown, hts, hlk, hrt, hK, hnw, hA, hR⟩ := C
  intro H locs ls hP hD hS hl
  have hn2 : (i : Nat) < c.maxLocals := by
    rw [hml]; exact Nat.le_of_ble_eq_true hn
  exact lv_astore_n hx hb hdg rfl hl hn2 rfl (fun ls' h' => kk H locs ls' hP hD hS (lvs1_has h'))
theorem mg_astore (C : Cx E X cc nL own ret fr lo rc rs) {i : Nat} {x : Nat} (hdg : decode cc pc = .ok (.astore i, 2)) (hn : Nat.blt (i) nL = true) (kk : GG E X ws k n (pc + 2) (lvs1 i (.ref x) lv) rest) : GG E X ws k n pc lv (.ref x :: rest) := by
  obtain ⟨p, e, R, s, m, args, below, meth, c, A, Q⟩ := X
  obtain ⟨hx, hb, hml, hown, hts, hlk, hrt, hK, hnw, hA, hR⟩ := C
  intro H locs ls hP hD hS hl
  have hn2 : i < c.maxLocals := by
    rw [hml]; exact Nat.le_of_ble_eq_true hn
  exact lv_astore hx hb hdg hl hn2 rfl (fun ls' h' => kk H locs ls' hP hD hS (lvs1_has h'))
theorem mg_iinc (C : Cx E X cc nL own ret fr lo rc rs) {i : Nat} {j : Int} {x : Int32} (hdg : decode cc pc = .ok (.iinc i j, 3)) (hg : lvg i lv = some (.int x)) (hn : Nat.blt i nL = true) (kk : GG E X ws k n (pc + 3) (lvs1 i (.int (x + Int32.ofInt j)) lv) rest) : GG E X ws k n pc lv rest := by
  obtain ⟨p, e, R, s, m, args, below, meth, c, A, Q⟩ := X
  obtain ⟨hx, hb, hml, hown, hts, hlk, hrt, hK, hnw, hA, hR⟩ := C
  intro H locs ls hP hD hS hl
  have hn2 : i < c.maxLocals := by
    rw [hml]; exact Nat.le_of_ble_eq_true hn
  obtain ⟨j0, hj⟩ := List.getElem?_of_mem (lvg_mem hg)
  exact lv_iinc hx hb hdg hl hj rfl hn2 rfl (fun ls' h' => kk H locs ls' hP hD hS (lvs1_has h'))
theorem mg_iadd (C : Cx E X cc nL own ret fr lo rc rs) {x y : Int32} (hdg : decode cc pc = .ok (.iadd, 1))  (kk : GG E X ws k n (pc + 1) lv (.int (x + y) :: rest)) : GG E X ws k n pc lv (.int y :: .int x :: rest) := by
  obtain ⟨p, e, R, s, m, args, below, meth, c, A, Q⟩ := X
  obtain ⟨hx, hb, hml, hown, hts, hlk, hrt, hK, hnw, hA, hR⟩ := C
  intro H locs ls hP hD hS hl
  exact lv_iadd hx hb hdg (kk H locs ls hP hD hS hl)
theorem mg_isub (C : Cx E X cc nL own ret fr lo rc rs) {x y : Int32} (hdg : decode cc pc = .ok (.isub, 1))  (kk : GG E X ws k n (pc + 1) lv (.int (x - y) :: rest)) : GG E X ws k n pc lv (.int y :: .int x :: rest) := by
  obtain ⟨p, e, R, s, m, args, below, meth, c, A, Q⟩ := X
  obtain ⟨hx, hb, hml, hown, hts, hlk, hrt, hK, hnw, hA, hR⟩ := C
  intro H locs ls hP hD hS hl
  exact lv_isub hx hb hdg (kk H locs ls hP hD hS hl)
theorem mg_imul (C : Cx E X cc nL own ret fr lo rc rs) {x y : Int32} (hdg : decode cc pc = .ok (.imul, 1))  (kk : GG E X ws k n (pc + 1) lv (.int (x * y) :: rest)) : GG E X ws k n pc lv (.int y :: .int x :: rest) := by
  obtain ⟨p, e, R, s, m, args, below, meth, c, A, Q⟩ := X
  obtain ⟨hx, hb, hml, hown, hts, hlk, hrt, hK, hnw, hA, hR⟩ := C
  intro H locs ls hP hD hS hl
  exact lv_imul hx hb hdg (kk H locs ls hP hD hS hl)
theorem mg_iand (C : Cx E X cc nL own ret fr lo rc rs) {x y : Int32} (hdg : decode cc pc = .ok (.iand, 1))  (kk : GG E X ws k n (pc + 1) lv (.int (x &&& y) :: rest)) : GG E X ws k n pc lv (.int y :: .int x :: rest) := by
  obtain ⟨p, e, R, s, m, args, below, meth, c, A, Q⟩ := X
  obtain ⟨hx, hb, hml, hown, hts, hlk, hrt, hK, hnw, hA, hR⟩ := C
  intro H locs ls hP hD hS hl
  exact lv_iand hx hb hdg (kk H locs ls hP hD hS hl)
theorem mg_ior (C : Cx E X cc nL own ret fr lo rc rs) {x y : Int32} (hdg : decode cc pc = .ok (.ior, 1))  (kk : GG E X ws k n (pc + 1) lv (.int (x ||| y) :: rest)) : GG E X ws k n pc lv (.int y :: .int x :: rest) := by
  obtain ⟨p, e, R, s, m, args, below, meth, c, A, Q⟩ := X
  obtain ⟨hx, hb, hml, hown, hts, hlk, hrt, hK, hnw, hA, hR⟩ := C
  intro H locs ls hP hD hS hl
  exact lv_ior hx hb hdg (kk H locs ls hP hD hS hl)
theorem mg_ixor (C : Cx E X cc nL own ret fr lo rc rs) {x y : Int32} (hdg : decode cc pc = .ok (.ixor, 1))  (kk : GG E X ws k n (pc + 1) lv (.int (x ^^^ y) :: rest)) : GG E X ws k n pc lv (.int y :: .int x :: rest) := by
  obtain ⟨p, e, R, s, m, args, below, meth, c, A, Q⟩ := X
  obtain ⟨hx, hb, hml, hown, hts, hlk, hrt, hK, hnw, hA, hR⟩ := C
  intro H locs ls hP hD hS hl
  exact lv_ixor hx hb hdg (kk H locs ls hP hD hS hl)
theorem mg_ishl (C : Cx E X cc nL own ret fr lo rc rs) {x y : Int32} (hdg : decode cc pc = .ok (.ishl, 1))  (kk : GG E X ws k n (pc + 1) lv (.int (x <<< (y &&& 31)) :: rest)) : GG E X ws k n pc lv (.int y :: .int x :: rest) := by
  obtain ⟨p, e, R, s, m, args, below, meth, c, A, Q⟩ := X
  obtain ⟨hx, hb, hml, hown, hts, hlk, hrt, hK, hnw, hA, hR⟩ := C
  intro H locs ls hP hD hS hl
  exact lv_ishl hx hb hdg (kk H locs ls hP hD hS hl)
theorem mg_ishr (C : Cx E X cc nL own ret fr lo rc rs) {x y : Int32} (hdg : decode cc pc = .ok (.ishr, 1))  (kk : GG E X ws k n (pc + 1) lv (.int (x >>> (y &&& 31)) :: rest)) : GG E X ws k n pc lv (.int y :: .int x :: rest) := by
  obtain ⟨p, e, R, s, m, args, below, meth, c, A, Q⟩ := X
  obtain ⟨hx, hb, hml, hown, hts, hlk, hrt, hK, hnw, hA, hR⟩ := C
  intro H locs ls hP hD hS hl
  exact lv_ishr hx hb hdg (kk H locs ls hP hD hS hl)
theorem mg_iushr (C : Cx E X cc nL own ret fr lo rc rs) {x y : Int32} (hdg : decode cc pc = .ok (.iushr, 1))  (kk : GG E X ws k n (pc + 1) lv (.int ((x.toUInt32 >>> (y.toUInt32 &&& Int32.toUInt32 31)).toInt32) :: rest)) : GG E X ws k n pc lv (.int y :: .int x :: rest) := by
  obtain ⟨p, e, R, s, m, args, below, meth, c, A, Q⟩ := X
  obtain ⟨hx, hb, hml, hown, hts, hlk, hrt, hK, hnw, hA, hR⟩ := C
  intro H locs ls hP hD hS hl
  exact lv_iushr hx hb hdg rfl (kk H locs ls hP hD hS hl)
theorem mg_idiv (C : Cx E X cc nL own ret fr lo rc rs) {x y : Int32}  (hdg : decode cc pc = .ok (.idiv, 1)) (hne : ¬ y = 0) (kk : GG E X ws k n (pc + 1) lv (.int (x / y) :: rest)) : GG E X ws k n pc lv (.int y :: .int x :: rest) := by
  obtain ⟨p, e, R, s, m, args, below, meth, c, A, Q⟩ := X
  obtain ⟨hx, hb, hml, hown, hts, hlk, hrt, hK, hnw, hA, hR⟩ := C
  intro H locs ls hP hD hS hl
  exact lv_idiv hx hb hdg hne (kk H locs ls hP hD hS hl)
theorem mg_irem (C : Cx E X cc nL own ret fr lo rc rs) {x y : Int32}  (hdg : decode cc pc = .ok (.irem, 1)) (hne : ¬ y = 0) (kk : GG E X ws k n (pc + 1) lv (.int (x - x / y * y) :: rest)) : GG E X ws k n pc lv (.int y :: .int x :: rest) := by
  obtain ⟨p, e, R, s, m, args, below, meth, c, A, Q⟩ := X
  obtain ⟨hx, hb, hml, hown, hts, hlk, hrt, hK, hnw, hA, hR⟩ := C
  intro H locs ls hP hD hS hl
  exact lv_irem hx hb hdg hne (kk H locs ls hP hD hS hl)
theorem mg_ineg (C : Cx E X cc nL own ret fr lo rc rs) {x : Int32} (hdg : decode cc pc = .ok (.ineg, 1))  (kk : GG E X ws k n (pc + 1) lv (.int (-x) :: rest)) : GG E X ws k n pc lv (.int x :: rest) := by
  obtain ⟨p, e, R, s, m, args, below, meth, c, A, Q⟩ := X
  obtain ⟨hx, hb, hml, hown, hts, hlk, hrt, hK, hnw, hA, hR⟩ := C
  intro H locs ls hP hD hS hl
  exact lv_ineg hx hb hdg (kk H locs ls hP hD hS hl)
theorem mg_ladd (C : Cx E X cc nL own ret fr lo rc rs) {x y : Int64} (hdg : decode cc pc = .ok (.ladd, 1))  (kk : GG E X ws k n (pc + 1) lv (.long (x + y) :: rest)) : GG E X ws k n pc lv (.long y :: .long x :: rest) := by
  obtain ⟨p, e, R, s, m, args, below, meth, c, A, Q⟩ := X
  obtain ⟨hx, hb, hml, hown, hts, hlk, hrt, hK, hnw, hA, hR⟩ := C
  intro H locs ls hP hD hS hl
  exact lv_ladd hx hb hdg (kk H locs ls hP hD hS hl)
theorem mg_lsub (C : Cx E X cc nL own ret fr lo rc rs) {x y : Int64} (hdg : decode cc pc = .ok (.lsub, 1))  (kk : GG E X ws k n (pc + 1) lv (.long (x - y) :: rest)) : GG E X ws k n pc lv (.long y :: .long x :: rest) := by
  obtain ⟨p, e, R, s, m, args, below, meth, c, A, Q⟩ := X
  obtain ⟨hx, hb, hml, hown, hts, hlk, hrt, hK, hnw, hA, hR⟩ := C
  intro H locs ls hP hD hS hl
  exact lv_lsub hx hb hdg (kk H locs ls hP hD hS hl)
theorem mg_lmul (C : Cx E X cc nL own ret fr lo rc rs) {x y : Int64} (hdg : decode cc pc = .ok (.lmul, 1))  (kk : GG E X ws k n (pc + 1) lv (.long (x * y) :: rest)) : GG E X ws k n pc lv (.long y :: .long x :: rest) := by
  obtain ⟨p, e, R, s, m, args, below, meth, c, A, Q⟩ := X
  obtain ⟨hx, hb, hml, hown, hts, hlk, hrt, hK, hnw, hA, hR⟩ := C
  intro H locs ls hP hD hS hl
  exact lv_lmul hx hb hdg (kk H locs ls hP hD hS hl)
theorem mg_land (C : Cx E X cc nL own ret fr lo rc rs) {x y : Int64} (hdg : decode cc pc = .ok (.land, 1))  (kk : GG E X ws k n (pc + 1) lv (.long (x &&& y) :: rest)) : GG E X ws k n pc lv (.long y :: .long x :: rest) := by
  obtain ⟨p, e, R, s, m, args, below, meth, c, A, Q⟩ := X
  obtain ⟨hx, hb, hml, hown, hts, hlk, hrt, hK, hnw, hA, hR⟩ := C
  intro H locs ls hP hD hS hl
  exact lv_land hx hb hdg (kk H locs ls hP hD hS hl)
theorem mg_lor (C : Cx E X cc nL own ret fr lo rc rs) {x y : Int64} (hdg : decode cc pc = .ok (.lor, 1))  (kk : GG E X ws k n (pc + 1) lv (.long (x ||| y) :: rest)) : GG E X ws k n pc lv (.long y :: .long x :: rest) := by
  obtain ⟨p, e, R, s, m, args, below, meth, c, A, Q⟩ := X
  obtain ⟨hx, hb, hml, hown, hts, hlk, hrt, hK, hnw, hA, hR⟩ := C
  intro H locs ls hP hD hS hl
  exact lv_lor hx hb hdg (kk H locs ls hP hD hS hl)
theorem mg_lshl (C : Cx E X cc nL own ret fr lo rc rs) {x : Int64} {y : Int32} (hdg : decode cc pc = .ok (.lshl, 1))  (kk : GG E X ws k n (pc + 1) lv (.long (x <<< (y.toInt64 &&& 63)) :: rest)) : GG E X ws k n pc lv (.int y :: .long x :: rest) := by
  obtain ⟨p, e, R, s, m, args, below, meth, c, A, Q⟩ := X
  obtain ⟨hx, hb, hml, hown, hts, hlk, hrt, hK, hnw, hA, hR⟩ := C
  intro H locs ls hP hD hS hl
  exact lv_lshl hx hb hdg rfl (kk H locs ls hP hD hS hl)
theorem mg_lshr (C : Cx E X cc nL own ret fr lo rc rs) {x : Int64} {y : Int32} (hdg : decode cc pc = .ok (.lshr, 1))  (kk : GG E X ws k n (pc + 1) lv (.long (x >>> (y.toInt64 &&& 63)) :: rest)) : GG E X ws k n pc lv (.int y :: .long x :: rest) := by
  obtain ⟨p, e, R, s, m, args, below, meth, c, A, Q⟩ := X
  obtain ⟨hx, hb, hml, hown, hts, hlk, hrt, hK, hnw, hA, hR⟩ := C
  intro H locs ls hP hD hS hl
  exact lv_lshr hx hb hdg rfl (kk H locs ls hP hD hS hl)
theorem mg_i2l (C : Cx E X cc nL own ret fr lo rc rs) {x : Int32} (hdg : decode cc pc = .ok (.i2l, 1))  (kk : GG E X ws k n (pc + 1) lv (.long x.toInt64 :: rest)) : GG E X ws k n pc lv (.int x :: rest) := by
  obtain ⟨p, e, R, s, m, args, below, meth, c, A, Q⟩ := X
  obtain ⟨hx, hb, hml, hown, hts, hlk, hrt, hK, hnw, hA, hR⟩ := C
  intro H locs ls hP hD hS hl
  exact lv_i2l hx hb hdg rfl (kk H locs ls hP hD hS hl)
theorem mg_l2i (C : Cx E X cc nL own ret fr lo rc rs) {x : Int64} (hdg : decode cc pc = .ok (.l2i, 1))  (kk : GG E X ws k n (pc + 1) lv (.int x.toInt32 :: rest)) : GG E X ws k n pc lv (.long x :: rest) := by
  obtain ⟨p, e, R, s, m, args, below, meth, c, A, Q⟩ := X
  obtain ⟨hx, hb, hml, hown, hts, hlk, hrt, hK, hnw, hA, hR⟩ := C
  intro H locs ls hP hD hS hl
  exact lv_l2i hx hb hdg rfl (kk H locs ls hP hD hS hl)
theorem mg_lcmp (C : Cx E X cc nL own ret fr lo rc rs) {x y : Int64} (hdg : decode cc pc = .ok (.lcmp, 1))  (kk : GG E X ws k n (pc + 1) lv (.int (lg_cmp x y) :: rest)) : GG E X ws k n pc lv (.long y :: .long x :: rest) := by
  obtain ⟨p, e, R, s, m, args, below, meth, c, A, Q⟩ := X
  obtain ⟨hx, hb, hml, hown, hts, hlk, hrt, hK, hnw, hA, hR⟩ := C
  intro H locs ls hP hD hS hl
  exact W.lcmp hx hb hdg (kk H locs ls hP hD hS hl)
theorem mg_dup (C : Cx E X cc nL own ret fr lo rc rs) {va : Value}  (hdg : decode cc pc = .ok (.dup, 1)) (h1 : va.category = 1) (kk : GG E X ws k n (pc + 1) lv (va :: va :: rest)) : GG E X ws k n pc lv (va :: rest) := by
  obtain ⟨p, e, R, s, m, args, below, meth, c, A, Q⟩ := X
  obtain ⟨hx, hb, hml, hown, hts, hlk, hrt, hK, hnw, hA, hR⟩ := C
  intro H locs ls hP hD hS hl
  exact lv_dup hx hb hdg h1 (kk H locs ls hP hD hS hl)
theorem mg_pop (C : Cx E X cc nL own ret fr lo rc rs) {va : Value}  (hdg : decode cc pc = .ok (.pop, 1)) (h1 : va.category = 1) (kk : GG E X ws k n (pc + 1) lv (rest)) : GG E X ws k n pc lv (va :: rest) := by
  obtain ⟨p, e, R, s, m, args, below, meth, c, A, Q⟩ := X
  obtain ⟨hx, hb, hml, hown, hts, hlk, hrt, hK, hnw, hA, hR⟩ := C
  intro H locs ls hP hD hS hl
  exact lv_pop hx hb hdg h1 (kk H locs ls hP hD hS hl)
theorem mg_pop2 (C : Cx E X cc nL own ret fr lo rc rs) {va : Value}  (hdg : decode cc pc = .ok (.pop2, 1)) (h1 : va.category = 2) (kk : GG E X ws k n (pc + 1) lv (rest)) : GG E X ws k n pc lv (va :: rest) := by
  obtain ⟨p, e, R, s, m, args, below, meth, c, A, Q⟩ := X
  obtain ⟨hx, hb, hml, hown, hts, hlk, hrt, hK, hnw, hA, hR⟩ := C
  intro H locs ls hP hD hS hl
  exact lv_pop2_2 hx hb hdg h1 (kk H locs ls hP hD hS hl)
theorem mg_dup_x1 (C : Cx E X cc nL own ret fr lo rc rs) {va vb : Value}  (hdg : decode cc pc = .ok (.dup_x1, 1)) (h1 : va.category = 1) (h2 : vb.category = 1) (kk : GG E X ws k n (pc + 1) lv (va :: vb :: va :: rest)) : GG E X ws k n pc lv (va :: vb :: rest) := by
  obtain ⟨p, e, R, s, m, args, below, meth, c, A, Q⟩ := X
  obtain ⟨hx, hb, hml, hown, hts, hlk, hrt, hK, hnw, hA, hR⟩ := C
  intro H locs ls hP hD hS hl
  exact lv_dup_x1 hx hb hdg h1 h2 (kk H locs ls hP hD hS hl)
theorem mg_dup2_11 (C : Cx E X cc nL own ret fr lo rc rs) {va vb : Value}  (hdg : decode cc pc = .ok (.dup2, 1)) (h1 : va.category = 1) (h2 : vb.category = 1) (kk : GG E X ws k n (pc + 1) lv (va :: vb :: va :: vb :: rest)) : GG E X ws k n pc lv (va :: vb :: rest) := by
  obtain ⟨p, e, R, s, m, args, below, meth, c, A, Q⟩ := X
  obtain ⟨hx, hb, hml, hown, hts, hlk, hrt, hK, hnw, hA, hR⟩ := C
  intro H locs ls hP hD hS hl
  exact lv_dup2_11 hx hb hdg h1 h2 (kk H locs ls hP hD hS hl)
theorem mg_dup_x2 (C : Cx E X cc nL own ret fr lo rc rs) {va vb vd : Value}  (hdg : decode cc pc = .ok (.dup_x2, 1)) (h1 : va.category = 1) (h2 : vb.category = 1) (h3 : vd.category = 1) (kk : GG E X ws k n (pc + 1) lv (va :: vb :: vd :: va :: rest)) : GG E X ws k n pc lv (va :: vb :: vd :: rest) := by
  obtain ⟨p, e, R, s, m, args, below, meth, c, A, Q⟩ := X
  obtain ⟨hx, hb, hml, hown, hts, hlk, hrt, hK, hnw, hA, hR⟩ := C
  intro H locs ls hP hD hS hl
  exact lv_dup_x2 hx hb hdg h1 h2 h3 (kk H locs ls hP hD hS hl)
theorem mg_if_eq (C : Cx E X cc nL own ret fr lo rc rs) {x : Int32} {off : Int} (tgt : Nat) (hdg : decode cc pc = .ok (.ifCond .eq off, 3)) (ht : (pc : Int) + off = (tgt : Int)) (kt : x = 0 → GG E X ws k n tgt lv rest) (kf : ¬ x = 0 → GG E X ws k n (pc + 3) lv rest) : GG E X ws k n pc lv (.int x :: rest) := by
  obtain ⟨p, e, R, s, m, args, below, meth, c, A, Q⟩ := X
  obtain ⟨hx, hb, hml, hown, hts, hlk, hrt, hK, hnw, hA, hR⟩ := C
  intro H locs ls hP hD hS hl
  exact lv_if_eq hx hb hdg ht (fun h => kt h H locs ls hP hD hS hl) (fun h => kf h H locs ls hP hD hS hl)
theorem mg_icmp_eq (C : Cx E X cc nL own ret fr lo rc rs) {x y : Int32} {off : Int} (tgt : Nat) (hdg : decode cc pc = .ok (.if_icmp .eq off, 3)) (ht : (pc : Int) + off = (tgt : Int)) (kt : x = y → GG E X ws k n tgt lv rest) (kf : ¬ x = y → GG E X ws k n (pc + 3) lv rest) : GG E X ws k n pc lv (.int y :: .int x :: rest) := by
  obtain ⟨p, e, R, s, m, args, below, meth, c, A, Q⟩ := X
  obtain ⟨hx, hb, hml, hown, hts, hlk, hrt, hK, hnw, hA, hR⟩ := C
  intro H locs ls hP hD hS hl
  exact lv_icmp_eq hx hb hdg ht (fun h => kt h H locs ls hP hD hS hl) (fun h => kf h H locs ls hP hD hS hl)
theorem mg_if_ne (C : Cx E X cc nL own ret fr lo rc rs) {x : Int32} {off : Int} (tgt : Nat) (hdg : decode cc pc = .ok (.ifCond .ne off, 3)) (ht : (pc : Int) + off = (tgt : Int)) (kt : ¬ x = 0 → GG E X ws k n tgt lv rest) (kf : x = 0 → GG E X ws k n (pc + 3) lv rest) : GG E X ws k n pc lv (.int x :: rest) := by
  obtain ⟨p, e, R, s, m, args, below, meth, c, A, Q⟩ := X
  obtain ⟨hx, hb, hml, hown, hts, hlk, hrt, hK, hnw, hA, hR⟩ := C
  intro H locs ls hP hD hS hl
  exact lv_if_ne hx hb hdg ht (fun h => kt h H locs ls hP hD hS hl) (fun h => kf h H locs ls hP hD hS hl)
theorem mg_icmp_ne (C : Cx E X cc nL own ret fr lo rc rs) {x y : Int32} {off : Int} (tgt : Nat) (hdg : decode cc pc = .ok (.if_icmp .ne off, 3)) (ht : (pc : Int) + off = (tgt : Int)) (kt : ¬ x = y → GG E X ws k n tgt lv rest) (kf : x = y → GG E X ws k n (pc + 3) lv rest) : GG E X ws k n pc lv (.int y :: .int x :: rest) := by
  obtain ⟨p, e, R, s, m, args, below, meth, c, A, Q⟩ := X
  obtain ⟨hx, hb, hml, hown, hts, hlk, hrt, hK, hnw, hA, hR⟩ := C
  intro H locs ls hP hD hS hl
  exact lv_icmp_ne hx hb hdg ht (fun h => kt h H locs ls hP hD hS hl) (fun h => kf h H locs ls hP hD hS hl)
theorem mg_if_lt (C : Cx E X cc nL own ret fr lo rc rs) {x : Int32} {off : Int} (tgt : Nat) (hdg : decode cc pc = .ok (.ifCond .lt off, 3)) (ht : (pc : Int) + off = (tgt : Int)) (kt : x < 0 → GG E X ws k n tgt lv rest) (kf : ¬ x < 0 → GG E X ws k n (pc + 3) lv rest) : GG E X ws k n pc lv (.int x :: rest) := by
  obtain ⟨p, e, R, s, m, args, below, meth, c, A, Q⟩ := X
  obtain ⟨hx, hb, hml, hown, hts, hlk, hrt, hK, hnw, hA, hR⟩ := C
  intro H locs ls hP hD hS hl
  exact lv_if_lt hx hb hdg ht (fun h => kt h H locs ls hP hD hS hl) (fun h => kf h H locs ls hP hD hS hl)
theorem mg_icmp_lt (C : Cx E X cc nL own ret fr lo rc rs) {x y : Int32} {off : Int} (tgt : Nat) (hdg : decode cc pc = .ok (.if_icmp .lt off, 3)) (ht : (pc : Int) + off = (tgt : Int)) (kt : x < y → GG E X ws k n tgt lv rest) (kf : ¬ x < y → GG E X ws k n (pc + 3) lv rest) : GG E X ws k n pc lv (.int y :: .int x :: rest) := by
  obtain ⟨p, e, R, s, m, args, below, meth, c, A, Q⟩ := X
  obtain ⟨hx, hb, hml, hown, hts, hlk, hrt, hK, hnw, hA, hR⟩ := C
  intro H locs ls hP hD hS hl
  exact lv_icmp_lt hx hb hdg ht (fun h => kt h H locs ls hP hD hS hl) (fun h => kf h H locs ls hP hD hS hl)
theorem mg_if_ge (C : Cx E X cc nL own ret fr lo rc rs) {x : Int32} {off : Int} (tgt : Nat) (hdg : decode cc pc = .ok (.ifCond .ge off, 3)) (ht : (pc : Int) + off = (tgt : Int)) (kt : 0 ≤ x → GG E X ws k n tgt lv rest) (kf : ¬ 0 ≤ x → GG E X ws k n (pc + 3) lv rest) : GG E X ws k n pc lv (.int x :: rest) := by
  obtain ⟨p, e, R, s, m, args, below, meth, c, A, Q⟩ := X
  obtain ⟨hx, hb, hml, hown, hts, hlk, hrt, hK, hnw, hA, hR⟩ := C
  intro H locs ls hP hD hS hl
  exact lv_if_ge hx hb hdg ht (fun h => kt h H locs ls hP hD hS hl) (fun h => kf h H locs ls hP hD hS hl)
theorem mg_icmp_ge (C : Cx E X cc nL own ret fr lo rc rs) {x y : Int32} {off : Int} (tgt : Nat) (hdg : decode cc pc = .ok (.if_icmp .ge off, 3)) (ht : (pc : Int) + off = (tgt : Int)) (kt : y ≤ x → GG E X ws k n tgt lv rest) (kf : ¬ y ≤ x → GG E X ws k n (pc + 3) lv rest) : GG E X ws k n pc lv (.int y :: .int x :: rest) := by
  obtain ⟨p, e, R, s, m, args, below, meth, c, A, Q⟩ := X
  obtain ⟨hx, hb, hml, hown, hts, hlk, hrt, hK, hnw, hA, hR⟩ := C
  intro H locs ls hP hD hS hl
  exact lv_icmp_ge hx hb hdg ht (fun h => kt h H locs ls hP hD hS hl) (fun h => kf h H locs ls hP hD hS hl)
theorem mg_if_gt (C : Cx E X cc nL own ret fr lo rc rs) {x : Int32} {off : Int} (tgt : Nat) (hdg : decode cc pc = .ok (.ifCond .gt off, 3)) (ht : (pc : Int) + off = (tgt : Int)) (kt : 0 < x → GG E X ws k n tgt lv rest) (kf : ¬ 0 < x → GG E X ws k n (pc + 3) lv rest) : GG E X ws k n pc lv (.int x :: rest) := by
  obtain ⟨p, e, R, s, m, args, below, meth, c, A, Q⟩ := X
  obtain ⟨hx, hb, hml, hown, hts, hlk, hrt, hK, hnw, hA, hR⟩ := C
  intro H locs ls hP hD hS hl
  exact lv_if_gt hx hb hdg ht (fun h => kt h H locs ls hP hD hS hl) (fun h => kf h H locs ls hP hD hS hl)
theorem mg_icmp_gt (C : Cx E X cc nL own ret fr lo rc rs) {x y : Int32} {off : Int} (tgt : Nat) (hdg : decode cc pc = .ok (.if_icmp .gt off, 3)) (ht : (pc : Int) + off = (tgt : Int)) (kt : y < x → GG E X ws k n tgt lv rest) (kf : ¬ y < x → GG E X ws k n (pc + 3) lv rest) : GG E X ws k n pc lv (.int y :: .int x :: rest) := by
  obtain ⟨p, e, R, s, m, args, below, meth, c, A, Q⟩ := X
  obtain ⟨hx, hb, hml, hown, hts, hlk, hrt, hK, hnw, hA, hR⟩ := C
  intro H locs ls hP hD hS hl
  exact lv_icmp_gt hx hb hdg ht (fun h => kt h H locs ls hP hD hS hl) (fun h => kf h H locs ls hP hD hS hl)
theorem mg_if_le (C : Cx E X cc nL own ret fr lo rc rs) {x : Int32} {off : Int} (tgt : Nat) (hdg : decode cc pc = .ok (.ifCond .le off, 3)) (ht : (pc : Int) + off = (tgt : Int)) (kt : x ≤ 0 → GG E X ws k n tgt lv rest) (kf : ¬ x ≤ 0 → GG E X ws k n (pc + 3) lv rest) : GG E X ws k n pc lv (.int x :: rest) := by
  obtain ⟨p, e, R, s, m, args, below, meth, c, A, Q⟩ := X
  obtain ⟨hx, hb, hml, hown, hts, hlk, hrt, hK, hnw, hA, hR⟩ := C
  intro H locs ls hP hD hS hl
  exact lv_if_le hx hb hdg ht (fun h => kt h H locs ls hP hD hS hl) (fun h => kf h H locs ls hP hD hS hl)
theorem mg_icmp_le (C : Cx E X cc nL own ret fr lo rc rs) {x y : Int32} {off : Int} (tgt : Nat) (hdg : decode cc pc = .ok (.if_icmp .le off, 3)) (ht : (pc : Int) + off = (tgt : Int)) (kt : x ≤ y → GG E X ws k n tgt lv rest) (kf : ¬ x ≤ y → GG E X ws k n (pc + 3) lv rest) : GG E X ws k n pc lv (.int y :: .int x :: rest) := by
  obtain ⟨p, e, R, s, m, args, below, meth, c, A, Q⟩ := X
  obtain ⟨hx, hb, hml, hown, hts, hlk, hrt, hK, hnw, hA, hR⟩ := C
  intro H locs ls hP hD hS hl
  exact lv_icmp_le hx hb hdg ht (fun h => kt h H locs ls hP hD hS hl) (fun h => kf h H locs ls hP hD hS hl)
theorem mg_goto (C : Cx E X cc nL own ret fr lo rc rs) {off : Int} (tgt : Nat) (hdg : decode cc pc = .ok (.goto off, 3)) (ht : (pc : Int) + off = (tgt : Int)) (kk : GG E X ws k n tgt lv rest) : GG E X ws k n pc lv rest := by
  obtain ⟨p, e, R, s, m, args, below, meth, c, A, Q⟩ := X
  obtain ⟨hx, hb, hml, hown, hts, hlk, hrt, hK, hnw, hA, hR⟩ := C
  intro H locs ls hP hD hS hl
  exact lv_goto hx hb hdg ht (kk H locs ls hP hD hS hl)
theorem mg_tabOut (C : Cx E X cc nL own ret fr lo rc rs) {x : Int32} {dflt a b : Int} {offs : Array Int} {len : Nat} (tgt : Nat) (hdg : decode cc pc = .ok (.tableswitch dflt a b offs, len)) (h : x.toInt < a ∨ b < x.toInt) (ht : (pc : Int) + dflt = (tgt : Int)) (kk : GG E X ws k n tgt lv rest) : GG E X ws k n pc lv (.int x :: rest) := by
  obtain ⟨p, e, R, s, m, args, below, meth, c, A, Q⟩ := X
  obtain ⟨hx, hb, hml, hown, hts, hlk, hrt, hK, hnw, hA, hR⟩ := C
  intro H locs ls hP hD hS hl
  exact lv_tableOut hx hb hdg h ht (kk H locs ls hP hD hS hl)
theorem mg_tabIn (C : Cx E X cc nL own ret fr lo rc rs) {x : Int32} {dflt a b off : Int} {offs : Array Int} {len : Nat} (tgt : Nat) (hdg : decode cc pc = .ok (.tableswitch dflt a b offs, len)) (h1 : ¬ x.toInt < a) (h2 : ¬ b < x.toInt) (ho : offs[(x.toInt - a).toNat]? = some off) (ht : (pc : Int) + off = (tgt : Int)) (kk : GG E X ws k n tgt lv rest) : GG E X ws k n pc lv (.int x :: rest) := by
  obtain ⟨p, e, R, s, m, args, below, meth, c, A, Q⟩ := X
  obtain ⟨hx, hb, hml, hown, hts, hlk, hrt, hK, hnw, hA, hR⟩ := C
  intro H locs ls hP hD hS hl
  exact lv_tableIn hx hb hdg h1 h2 ho ht (kk H locs ls hP hD hS hl)
theorem mg_topi {x : Int32} (kk : ∀ y : Int32, y = x → GG E X ws k n pc lv (.int y :: rest)) : GG E X ws k n pc lv (.int x :: rest) := kk x rfl
theorem mg_topl {x : Int64} (kk : ∀ y : Int64, y = x → GG E X ws k n pc lv (.long y :: rest)) : GG E X ws k n pc lv (.long x :: rest) := kk x rfl
theorem mg_v {r : Value} (kk : GG E X ws k n pc lv (r :: rest)) : GG E X ws k n pc lv ((some r).toList ++ rest) := kk
theorem mg_v0 (kk : GG E X ws k n pc lv rest) : GG E X ws k n pc lv ((none : Option Value).toList ++ rest) := kk
theorem mg_as {ws' : va_W} {lv' : List (Nat × Value)} {st' : List Value} (kk : GG E X ws' k n pc lv' st') (h1 : ws = ws') (h2 : lv = lv') (h3 : st = st') : GG E X ws k n pc lv st := by rw [h1, h2, h3]; exact kk
theorem mg_lv {lv' : List (Nat × Value)} (h : ∀ q ∈ lv', q ∈ lv) (kk : GG E X ws k n pc lv' st) : GG E X ws k n pc lv st := by
  obtain ⟨p, e, R, s, m, args, below, meth, c, A, Q⟩ := X
  intro H locs ls hP hD hS hl
  exact kk H locs ls hP hD hS ⟨hl.1, hl.2.1, fun q hq => hl.2.2 q (h q hq)⟩
theorem mg_widen {k' n' : Nat} (h1 : Nat.ble k k' = true) (h2 : Nat.ble n n' = true) (kk : GG E X ws k' n' pc lv st) : GG E X ws k n pc lv st := by
  obtain ⟨p, e, R, s, m, args, below, meth, c, A, Q⟩ := X
  intro H locs ls hP hD hS hl
  exact W.widen (Nat.le_of_ble_eq_true h1) (Nat.le_of_ble_eq_true h2) (kk H locs ls hP hD hS hl)
theorem mg_widen' {k' n' : Nat} (h1 : k ≤ k') (h2 : n ≤ n') (kk : GG E X ws k' n' pc lv st) : GG E X ws k n pc lv st := by
  obtain ⟨p, e, R, s, m, args, below, meth, c, A, Q⟩ := X
  intro H locs ls hP hD hS hl
  exact W.widen h1 h2 (kk H locs ls hP hD hS hl)
/-- another order of the cells, or fewer -/
theorem mg_by {ws' : va_W} (g : Nat → Nat) (hg : ∀ (i : Nat) (q : Nat × va_E), ws'[i]? = some q → ws[g i]? = some q) (hi : ∀ i j : Nat, i < ws'.length → j < ws'.length → g i = g j → i = j) (kk : GG E X ws' k n pc lv st) : GG E X ws k n pc lv st := by
  obtain ⟨p, e, R, s, m, args, below, meth, c, A, Q⟩ := X
  intro H locs ls hP hD hS hl
  exact kk H locs ls (hP.by g hg) (hD.by g hg hi) hS hl
theorem mg_drop2 {x y : Nat × va_E} (kk : GG E X (x :: ws) k n pc lv st) : GG E X (x :: y :: ws) k n pc lv st := by
  refine mg_by (fun i => if i = 0 then 0 else i + 1) ?_ ?_ kk
  · intro i q hq
    cases i with
    | zero => simpa using hq
    | succ i => simpa using hq
  · intro i j _ _ h
    by_cases hi : i = 0 <;> by_cases hj : j = 0 <;> simp [hi, hj] at h ⊢
    · exact h
variable {j : Nat}
theorem mg_get (C : Cx E X cc nL own ret fr lo rc rs) {Cn : String} {T : u_T} {N ci idx : Nat} (hin : ∀ w ∈ u_ws Cn T N, w ∈ gtbl) (hlk2 : Cond.fieldLink own idx (T j).1 (T j).2.1 (T j).2.2.1 ∈ gtbl) (hc : vwCl[ci]? = some (Cn, T, N)) (hj : Nat.blt j N = true) (q0 : Nat) {a : Nat} {fs : List Value} (he : ws[q0]? = some (a, .inr (ci, fs))) {v : Value} (hv : fs[j]? = some v) (hdg : decode cc pc = .ok (.getfield idx, 3)) (kk : GG E X ws k n (pc + 3) lv (v :: rest)) : GG E X ws k n pc lv (.ref a :: rest) := by
  obtain ⟨p, e, R, s, m, args, below, meth, c, A, Q⟩ := X
  obtain ⟨hx, hb, hml, hown, hts, hlk, hrt, hK, hnw, hA, hR⟩ := C
  intro H locs ls hP hD hS hl
  exact va_get hx hb hts hin hown hK hP q0 he hc j (Nat.le_of_ble_eq_true hj) (hts _ hlk2) (fun _ h9 => h9) hv hdg (kk H locs ls hP hD hS hl)
theorem mg_getN (C : Cx E X cc nL own ret fr lo rc rs) {Cn : String} {T : u_T} {N ci idx : Nat} {host : String} (hin : ∀ w ∈ u_ws Cn T N, w ∈ gtbl) (hlk2 : Cond.fieldLinkNest own idx (T j).1 (T j).2.1 (T j).2.2.1 host ∈ lw_tbl) (hc : vwCl[ci]? = some (Cn, T, N)) (hj : Nat.blt j N = true) (q0 : Nat) {a : Nat} {fs : List Value} (he : ws[q0]? = some (a, .inr (ci, fs))) {v : Value} (hv : fs[j]? = some v) (hdg : decode cc pc = .ok (.getfield idx, 3)) (kk : GG E X ws k n (pc + 3) lv (v :: rest)) : GG E X ws k n pc lv (.ref a :: rest) := by
  obtain ⟨p, e, R, s, m, args, below, meth, c, A, Q⟩ := X
  obtain ⟨hx, hb, hml, hown, hts, hlk, hrt, hK, hnw, hA, hR⟩ := C
  intro H locs ls hP hD hS hl
  exact va_getN hx hb hts hin hown hK hP q0 he hc j (Nat.le_of_ble_eq_true hj) (va_Nw.use rfl (hnw _ hlk2 rfl)) (fun _ h9 => h9) hv hdg (kk H locs ls hP hD hS hl)
theorem mg_put (C : Cx E X cc nL own ret fr lo rc rs) {Cn : String} {T : u_T} {N ci idx : Nat} (hin : ∀ w ∈ u_ws Cn T N, w ∈ gtbl) (hlk2 : Cond.fieldLink own idx (T j).1 (T j).2.1 (T j).2.2.1 ∈ gtbl) (hc : vwCl[ci]? = some (Cn, T, N)) (hj : Nat.blt j N = true) (ty0 : Nat → FieldType) (hty : ∀ k, k < N → parseFieldDescriptor (T k).2.2.1 = some (ty0 k)) (hnm : ∀ a, a < N → ∀ b, b < N → a ≠ b → (T a).2.1 ≠ (T b).2.1) (hfin : (T j).2.2.2 = false) (q0 : Nat) {a : Nat} {fs : List Value} (he : ws[q0]? = some (a, .inr (ci, fs))) {v : Value} (hn : narrow (ty0 j) v = v) (hfit : fits (ty0 j) v = true) (hll : Nat.blt j fs.length = true) (hdg : decode cc pc = .ok (.putfield idx, 3)) {ws' : va_W} (hws : ws.set q0 (a, .inr (ci, fs.set j v)) = ws') (kk : GG E X ws' k n (pc + 3) lv rest) : GG E X ws k n pc lv (v :: .ref a :: rest) := by
  obtain ⟨p, e, R, s, m, args, below, meth, c, A, Q⟩ := X
  obtain ⟨hx, hb, hml, hown, hts, hlk, hrt, hK, hnw, hA, hR⟩ := C
  intro H locs ls hP hD hS hl
  subst hws
  exact va_put hx hb hts hin ty0 hty hnm hown hK hP hD hS q0 he hc j (Nat.le_of_ble_eq_true hj) (hts _ hlk2) (fun _ h9 => h9) hfin (hty j (Nat.le_of_ble_eq_true hj)) hn hfit (Nat.le_of_ble_eq_true hll) hdg (fun H1 locs1 hP1 hD1 hS1 => kk H1 locs1 ls hP1 hD1 hS1 hl)
theorem mg_putN (C : Cx E X cc nL own ret fr lo rc rs) {Cn : String} {T : u_T} {N ci idx : Nat} {host : String} (hin : ∀ w ∈ u_ws Cn T N, w ∈ gtbl) (hlk2 : Cond.fieldLinkNest own idx (T j).1 (T j).2.1 (T j).2.2.1 host ∈ lw_tbl) (hc : vwCl[ci]? = some (Cn, T, N)) (hj : Nat.blt j N = true) (ty0 : Nat → FieldType) (hty : ∀ k, k < N → parseFieldDescriptor (T k).2.2.1 = some (ty0 k)) (hnm : ∀ a, a < N → ∀ b, b < N → a ≠ b → (T a).2.1 ≠ (T b).2.1) (hfin : (T j).2.2.2 = false) (q0 : Nat) {a : Nat} {fs : List Value} (he : ws[q0]? = some (a, .inr (ci, fs))) {v : Value} (hn : narrow (ty0 j) v = v) (hfit : fits (ty0 j) v = true) (hll : Nat.blt j fs.length = true) (hdg : decode cc pc = .ok (.putfield idx, 3)) {ws' : va_W} (hws : ws.set q0 (a, .inr (ci, fs.set j v)) = ws') (kk : GG E X ws' k n (pc + 3) lv rest) : GG E X ws k n pc lv (v :: .ref a :: rest) := by
  obtain ⟨p, e, R, s, m, args, below, meth, c, A, Q⟩ := X
  obtain ⟨hx, hb, hml, hown, hts, hlk, hrt, hK, hnw, hA, hR⟩ := C
  intro H locs ls hP hD hS hl
  subst hws
  exact va_putN hx hb hts hin ty0 hty hnm hown hK hP hD hS q0 he hc j (Nat.le_of_ble_eq_true hj) (va_Nw.use rfl (hnw _ hlk2 rfl)) (fun _ h9 => h9) hfin (hty j (Nat.le_of_ble_eq_true hj)) hn hfit (Nat.le_of_ble_eq_true hll) hdg (fun H1 locs1 hP1 hD1 hS1 => kk H1 locs1 ls hP1 hD1 hS1 hl)
theorem mg_putF (C : Cx E X cc nL own ret fr lo rc rs) {Cn : String} {T : u_T} {N ci idx : Nat} (hin : ∀ w ∈ u_ws Cn T N, w ∈ gtbl) (hlk2 : Cond.fieldLink own idx (T j).1 (T j).2.1 (T j).2.2.1 ∈ gtbl) (hc : vwCl[ci]? = some (Cn, T, N)) (hj : Nat.blt j N = true) (ty0 : Nat → FieldType) (hty : ∀ k, k < N → parseFieldDescriptor (T k).2.2.1 = some (ty0 k)) (hnm : ∀ a, a < N → ∀ b, b < N → a ≠ b → (T a).2.1 ≠ (T b).2.1) (hfin : (T j).2.2.2 = true) (hini : X.2.2.2.2.2.2.2.1.name = "<init>") (hdecl : (T j).1 = own) (q0 : Nat) {a : Nat} {fs : List Value} (he : ws[q0]? = some (a, .inr (ci, fs))) {v : Value} (hn : narrow (ty0 j) v = v) (hfit : fits (ty0 j) v = true) (hll : Nat.blt j fs.length = true) (hdg : decode cc pc = .ok (.putfield idx, 3)) {ws' : va_W} (hws : ws.set q0 (a, .inr (ci, fs.set j v)) = ws') (kk : GG E X ws' k n (pc + 3) lv rest) : GG E X ws k n pc lv (v :: .ref a :: rest) := by
  obtain ⟨p, e, R, s, m, args, below, meth, c, A, Q⟩ := X
  obtain ⟨hx, hb, hml, hown, hts, hlk, hrt, hK, hnw, hA, hR⟩ := C
  intro H locs ls hP hD hS hl
  subst hws
  exact va_putF hx hb hts hin ty0 hty hnm hown hK hP hD hS q0 he hc j (Nat.le_of_ble_eq_true hj) (hts _ hlk2) (fun _ h9 => h9) hfin hini hdecl (hty j (Nat.le_of_ble_eq_true hj)) hn hfit (Nat.le_of_ble_eq_true hll) hdg (fun H1 locs1 hP1 hD1 hS1 => kk H1 locs1 ls hP1 hD1 hS1 hl)
theorem mg_iald (C : Cx E X cc nL own ret fr lo rc rs) (q0 : Nat) {a N : Nat} {f : Nat → Int32} (ha : ws[q0]? = some (a, .inl (E.2.2.1, N, .inl f))) {i : Int32} (hin : vp_in i N) (hdg : decode cc pc = .ok (.iaload, 1)) (kk : GG E X ws k n (pc + 1) lv (.int (f i.toNatClampNeg) :: rest)) : GG E X ws k n pc lv (.int i :: .ref a :: rest) := by
  obtain ⟨p, e, R, s, m, args, below, meth, c, A, Q⟩ := X
  obtain ⟨hx, hb, hml, hown, hts, hlk, hrt, hK, hnw, hA, hR⟩ := C
  intro H locs ls hP hD hS hl
  exact va_iald hx hb hK hP q0 0 ha rfl hin hdg (kk H locs ls hP hD hS hl)
theorem mg_lald (C : Cx E X cc nL own ret fr lo rc rs) (q0 : Nat) {a N : Nat} {f : Nat → Int64} (ha : ws[q0]? = some (a, .inl (E.2.2.2, N, .inr (.inl f)))) {i : Int32} (hin : vp_in i N) (hdg : decode cc pc = .ok (.laload, 1)) (kk : GG E X ws k n (pc + 1) lv (.long (f i.toNatClampNeg) :: rest)) : GG E X ws k n pc lv (.int i :: .ref a :: rest) := by
  obtain ⟨p, e, R, s, m, args, below, meth, c, A, Q⟩ := X
  obtain ⟨hx, hb, hml, hown, hts, hlk, hrt, hK, hnw, hA, hR⟩ := C
  intro H locs ls hP hD hS hl
  exact va_lald hx hb hK hP q0 1 ha rfl hin hdg (kk H locs ls hP hD hS hl)
theorem mg_iast (C : Cx E X cc nL own ret fr lo rc rs) (q0 : Nat) {a N : Nat} {f : Nat → Int32} (ha : ws[q0]? = some (a, .inl (E.2.2.1, N, .inl f))) {i : Int32} {x : Int32} (hin : vp_in i N) (hdg : decode cc pc = .ok (.iastore, 1)) {ws' : va_W} (hws : ws.set q0 (a, .inl (E.2.2.1, N, .inl (upd f i.toNatClampNeg x))) = ws') (kk : GG E X ws' k n (pc + 1) lv rest) : GG E X ws k n pc lv (.int x :: .int i :: .ref a :: rest) := by
  obtain ⟨p, e, R, s, m, args, below, meth, c, A, Q⟩ := X
  obtain ⟨hx, hb, hml, hown, hts, hlk, hrt, hK, hnw, hA, hR⟩ := C
  intro H locs ls hP hD hS hl
  subst hws
  exact va_iast hx hb hK hP hD hS q0 0 ha rfl hin hdg (fun H1 locs1 hP1 hD1 hS1 => kk H1 locs1 ls hP1 hD1 hS1 hl)
theorem mg_last (C : Cx E X cc nL own ret fr lo rc rs) (q0 : Nat) {a N : Nat} {f : Nat → Int64} (ha : ws[q0]? = some (a, .inl (E.2.2.2, N, .inr (.inl f)))) {i : Int32} {x : Int64} (hin : vp_in i N) (hdg : decode cc pc = .ok (.lastore, 1)) {ws' : va_W} (hws : ws.set q0 (a, .inl (E.2.2.2, N, .inr (.inl (vp_updL f i.toNatClampNeg x)))) = ws') (kk : GG E X ws' k n (pc + 1) lv rest) : GG E X ws k n pc lv (.long x :: .int i :: .ref a :: rest) := by
  obtain ⟨p, e, R, s, m, args, below, meth, c, A, Q⟩ := X
  obtain ⟨hx, hb, hml, hown, hts, hlk, hrt, hK, hnw, hA, hR⟩ := C
  intro H locs ls hP hD hS hl
  subst hws
  exact va_last hx hb hK hP hD hS q0 1 ha rfl hin hdg (fun H1 locs1 hP1 hD1 hS1 => kk H1 locs1 ls hP1 hD1 hS1 hl)
theorem mg_alen (C : Cx E X cc nL own ret fr lo rc rs) (q0 : Nat) {a : Nat} {x : vp_A} (ha : ws[q0]? = some (a, .inl (E.2.2.1, x))) {v : Int32} (hv : Int32.ofNat x.1 = v) (hdg : decode cc pc = .ok (.arraylength, 1)) (kk : GG E X ws k n (pc + 1) lv (.int v :: rest)) : GG E X ws k n pc lv (.ref a :: rest) := by
  obtain ⟨p, e, R, s, m, args, below, meth, c, A, Q⟩ := X
  obtain ⟨hx, hb, hml, hown, hts, hlk, hrt, hK, hnw, hA, hR⟩ := C
  intro H locs ls hP hD hS hl
  exact va_alen hx hb hK hP q0 0 ha (ty := .int) rfl hv hdg (kk H locs ls hP hD hS hl)
theorem rot_P {D : va_G} {cl : List vw_C} {ws : va_W} {x : Nat × va_E} {H : Heap} (h : va_P D cl (ws ++ [x]) H) : va_P D cl (x :: ws) H := by
  intro i q hq
  cases i with
  | zero => exact h ws.length q (by simpa using hq)
  | succ i =>
    have hq2 : ws[i]? = some q := by simpa using hq
    have hlt : i < ws.length := (List.getElem?_eq_some_iff.mp hq2).1
    exact h i q (by rw [List.getElem?_append_left hlt]; exact hq2)
theorem rot_D {A : Nat → Prop} {ws : va_W} {x : Nat × va_E} (h : va_D A (ws ++ [x])) : va_D A (x :: ws) := by
  refine h.by (fun i => if i = 0 then ws.length else i - 1) ?_ ?_
  · intro i q hq
    cases i with
    | zero => simpa using hq
    | succ i =>
      have hq2 : ws[i]? = some q := by simpa using hq
      have hlt : i < ws.length := (List.getElem?_eq_some_iff.mp hq2).1
      simp only [Nat.succ_ne_zero, if_false, Nat.add_sub_cancel, Nat.add_one_ne_zero]
      rw [List.getElem?_append_left hlt]; exact hq2
  · intro i j hi hj hij
    simp only [List.length_cons] at hi hj
    by_cases h1 : i = 0 <;> by_cases h2 : j = 0 <;> simp only [h1, h2, if_true, if_false] at hij ⊢ <;> omega
theorem mg_newi (C : Cx E X cc nL own ret fr lo rc rs) {x : Int32} {N : Nat} (harr : Cond.arrayClass .int ∈ gtbl) (hn : ¬ x < 0) (hN : x.toNatClampNeg = N) (hby : N * componentBytes .int ≤ 536870912) (hce : k + 1 ≤ rc) (hsl : n + N ≤ rs) (hdg : decode cc pc = .ok (.newarray .int, 2)) (kk : ∀ q : Nat, GG E X ((q, .inl (E.2.2.1, N, .inl (fun _ => 0))) :: ws) (k + 1) (n + N) (pc + 2) lv (.ref q :: rest)) : GG E X ws k n pc lv (.int x :: rest) := by
  obtain ⟨p, e, R, s, m, args, below, meth, c, A, Q⟩ := X
  obtain ⟨hx, hb, hml, hown, hts, hlk, hrt, hK, hnw, hA, hR⟩ := C
  intro H locs ls hP hD hS hl
  refine va_newa (atype := .int) (ty := .int) (a0 := (N, .inl (fun _ => 0))) hx hb (hts _ harr) rfl hK hP hD hS hA (fun _ => rfl) hn hN hby (by rw [hR]; exact hce) (by rw [hR]; exact hsl) hdg (fun q cA H1 hK1 hP1 hD1 hS1 => ?_)
  have e1 : va_RA s cA .int := (hK1.2 2 (cA, .int) rfl).2
  have e2 : va_RA s E.2.2.1 .int := (hK.2 0 (E.2.2.1, .int) rfl).2
  have e3 : cA = E.2.2.1 := Option.some.inj ((show s.vm.findClass _ = some cA from e1).symm.trans e2)
  subst e3
  exact kk q H1 locs ls (rot_P hP1) (rot_D hD1) hS1 hl
theorem mg_newl (C : Cx E X cc nL own ret fr lo rc rs) {x : Int32} {N : Nat} (harr : Cond.arrayClass .long ∈ gtbl) (hn : ¬ x < 0) (hN : x.toNatClampNeg = N) (hby : N * componentBytes .long ≤ 536870912) (hce : k + 1 ≤ rc) (hsl : n + N ≤ rs) (hdg : decode cc pc = .ok (.newarray .long, 2)) (kk : ∀ q : Nat, GG E X ((q, .inl (E.2.2.2, N, .inr (.inl (fun _ => 0)))) :: ws) (k + 1) (n + N) (pc + 2) lv (.ref q :: rest)) : GG E X ws k n pc lv (.int x :: rest) := by
  obtain ⟨p, e, R, s, m, args, below, meth, c, A, Q⟩ := X
  obtain ⟨hx, hb, hml, hown, hts, hlk, hrt, hK, hnw, hA, hR⟩ := C
  intro H locs ls hP hD hS hl
  refine va_newa (atype := .long) (ty := .long) (a0 := (N, .inr (.inl (fun _ => 0)))) hx hb (hts _ harr) rfl hK hP hD hS hA (fun _ => rfl) hn hN hby (by rw [hR]; exact hce) (by rw [hR]; exact hsl) hdg (fun q cA H1 hK1 hP1 hD1 hS1 => ?_)
  have e1 : va_RA s cA .long := (hK1.2 2 (cA, .long) rfl).2
  have e2 : va_RA s E.2.2.2 .long := (hK.2 1 (E.2.2.2, .long) rfl).2
  have e3 : cA = E.2.2.2 := Option.some.inj ((show s.vm.findClass _ = some cA from e1).symm.trans e2)
  subst e3
  exact kk q H1 locs ls (rot_P hP1) (rot_D hD1) hS1 hl
theorem mg_new (C : Cx E X cc nL own ret fr lo rc rs) {Cn : String} {T : u_T} {N ci idx : Nat} (hin : ∀ w ∈ u_ws Cn T N, w ∈ gtbl) (ty : Nat → FieldType) (hty : ∀ k, k < N → parseFieldDescriptor (T k).2.2.1 = some (ty k)) (hw : Cond.classLink own idx Cn ∈ gtbl ∧ Cond.instantiable Cn N ∈ gtbl ∧ Cond.initialized Cn ∈ gtbl) (hc : vwCl[ci]? = some (Cn, T, N)) {fs : List Value} (hfs : (List.range N).map (fun j => defaultValue (ty j)) = fs) (hce : k + 1 ≤ rc) (hsl : n + N ≤ rs) (hdg : decode cc pc = .ok (.new idx, 3)) (kk : ∀ q : Nat, GG E X ((q, .inr (ci, fs)) :: ws) (k + 1) (n + N) (pc + 3) lv (.ref q :: rest)) : GG E X ws k n pc lv rest := by
  obtain ⟨p, e, R, s, m, args, below, meth, c, A, Q⟩ := X
  obtain ⟨hx, hb, hml, hown, hts, hlk, hrt, hK, hnw, hA, hR⟩ := C
  intro H locs ls hP hD hS hl
  have hfs2 : ∀ j, j < N → defaultValue (ty j) = vp_V fs j := by
    intro j hj
    rw [← hfs]
    simp [vp_V, List.getD_eq_getElem?_getD, hj]
  exact va_new hx hb hts hin ty hty hown (hts _ hw.1) (hts _ hw.2.1) (hts _ hw.2.2) hK hP hD hS hA hc hfs2 (by rw [hR]; exact hce) (by rw [hR]; exact hsl) hdg (fun q H1 hP1 hD1 hS1 => kk q H1 locs ls (rot_P hP1) (rot_D hD1) hS1 hl)
theorem mg_objInit (C : Cx E X cc nL own ret fr lo rc rs) {idx a : Nat} (hw : Cond.methodLink own idx Lib.objectInit ∈ gtbl ∧ Cond.instanceMethod Lib.objectInit ∈ gtbl ∧ Cond.code Lib.objectInit ⟨#[0xb1]⟩ 1 none ∈ gtbl) (hfr : 1 ≤ fr) (hlo : (rest.map fun v => v.category).sum + 12 ≤ lo) (hdg : decode cc pc = .ok (.invokespecial idx, 3)) (kk : GG E X ws k n (pc + 3) lv rest) : GG E X ws k n pc lv (.ref a :: rest) := by
  obtain ⟨p, e, R, s, m, args, below, meth, c, A, Q⟩ := X
  obtain ⟨hx, hb, hml, hown, hts, hlk, hrt, hK, hnw, hA, hR⟩ := C
  intro H locs ls hP hD hS hl
  refine W.objInit hx hb hown (hts _ hw.1) (hts _ hw.2.1) (hts _ hw.2.2) rfl hl.1 rfl hdg (by rw [hR]; exact hfr) (by rw [hR]; show 2 * 0 + _ + 12 ≤ lo; omega) ?_
  exact kk H locs ls hP hD hS hl
theorem mg_iret (C : Cx E X cc nL own (some .int) fr lo rc rs) {Z : Option Value → va_W → Prop} (hQ : Rt E X Z k n) {v : Int32} (hdg : decode cc pc = .ok (.ireturn, 1)) (hz : Z (some (.int v)) ws) : GG E X ws k n pc lv [.int v] := by
  obtain ⟨p, e, R, s, m, args, below, meth, c, A, Q⟩ := X
  obtain ⟨hx, hb, hml, hown, hts, hlk, hrt, hK, hnw, hA, hR⟩ := C
  intro H locs ls hP hD hS hl
  have hQ2 : Q = MQ below (QQ E Z A) args s k n A := hQ
  rw [hQ2]
  exact W.iret hx hb hrt (fun t ht hW => ⟨⟨_, ws, rfl, hz, by rw [ht]; exact hP, va_K.moved hW.alike hK, hD⟩, hS.F ht⟩) hS.2.2 hdg
theorem mg_lret (C : Cx E X cc nL own (some .long) fr lo rc rs) {Z : Option Value → va_W → Prop} (hQ : Rt E X Z k n) {v : Int64} (hdg : decode cc pc = .ok (.lreturn, 1)) (hz : Z (some (.long v)) ws) : GG E X ws k n pc lv [.long v] := by
  obtain ⟨p, e, R, s, m, args, below, meth, c, A, Q⟩ := X
  obtain ⟨hx, hb, hml, hown, hts, hlk, hrt, hK, hnw, hA, hR⟩ := C
  intro H locs ls hP hD hS hl
  have hQ2 : Q = MQ below (QQ E Z A) args s k n A := hQ
  rw [hQ2]
  exact W.lret hx hb hrt (fun t ht hW => ⟨⟨_, ws, rfl, hz, by rw [ht]; exact hP, va_K.moved hW.alike hK, hD⟩, hS.F ht⟩) hS.2.2 hdg
theorem mg_zret (C : Cx E X cc nL own (some .boolean) fr lo rc rs) {Z : Option Value → va_W → Prop} (hQ : Rt E X Z k n) {v : Int32} (hnr : narrow .boolean (.int v) = .int v) (hdg : decode cc pc = .ok (.ireturn, 1)) (hz : Z (some (.int v)) ws) : GG E X ws k n pc lv [.int v] := by
  obtain ⟨p, e, R, s, m, args, below, meth, c, A, Q⟩ := X
  obtain ⟨hx, hb, hml, hown, hts, hlk, hrt, hK, hnw, hA, hR⟩ := C
  intro H locs ls hP hD hS hl
  have hQ2 : Q = MQ below (QQ E Z A) args s k n A := hQ
  rw [hQ2]
  exact W.zret hx hb hrt hnr (fun t ht hW => ⟨⟨_, ws, rfl, hz, by rw [ht]; exact hP, va_K.moved hW.alike hK, hD⟩, hS.F ht⟩) hS.2.2 hdg
theorem mg_vret (C : Cx E X cc nL own none fr lo rc rs) {Z : Option Value → va_W → Prop} (hQ : Rt E X Z k n) (hdg : decode cc pc = .ok (.return_, 1)) (hz : Z none ws) : GG E X ws k n pc lv [] := by
  obtain ⟨p, e, R, s, m, args, below, meth, c, A, Q⟩ := X
  obtain ⟨hx, hb, hml, hown, hts, hlk, hrt, hK, hnw, hA, hR⟩ := C
  intro H locs ls hP hD hS hl
  have hQ2 : Q = MQ below (QQ E Z A) args s k n A := hQ
  rw [hQ2]
  exact W.vret hx hb hrt (fun t ht hW => ⟨⟨_, ws, rfl, hz, by rw [ht]; exact hP, va_K.moved hW.alike hK, hD⟩, hS.F ht⟩) hS.2.2 hdg
end MG
theorem Ct.of {E : En} {M : Mth} {d mc ms : Nat} {av : List Value} {ws : va_W} {Z : Option Value → va_W → Prop} (hpl : plainName M.1.cls = true) (hlen : (lg_sl av).length ≤ M.2.2.1)
    (body : ∀ X : Fx, Cx E X M.2.1 M.2.2.1 M.1.cls M.2.2.2 d (40 * d) mc ms → Rt E X Z mc ms → X.2.2.2.2.2.2.2.1.name = M.1.name → GG E X ws 0 0 0 (lv_args 0 av) []) : Ct E M d mc ms av ws Z := by
  intro sz
  refine Met.ofW (cc := M.2.1) (maxL := M.2.2.1) (ret := M.2.2.2) hpl rfl ?_
  intro p e s m args below meth c s₁ B hml hv
  obtain ⟨rfl, hsz, hP, hK, hD0, hnw⟩ := hv
  have hts := atoms_spec (ws := gws M) B.pre
  have hown : s.vm.findClass M.1.cls = some m.cls := findClass_of_methodNamed B.named
  subst hsz
  have hl := lv_entry av (n := M.2.2.1) hlen
  rw [lg_entry_eq]
  have hD := hD0.self (sz := s.heap.size)
  exact body (p, e, { frames := d, cells := mc, slots := ms, locals := 40 * d }, s, m, av.toArray, below, meth, c, va_A ws s.heap.size, MQ below (QQ E Z (va_A ws s.heap.size)) av.toArray s mc ms (va_A ws s.heap.size))
    ⟨B.exec, B.bytes, hml, hown, fun w hw => hts w (List.mem_cons_of_mem _ hw), B.notSynchronized, B.returns, hK, hnw, fun q h => Or.inr h, rfl⟩ rfl (name_of_methodNamed B.named B.method).1
    s.heap [] _ hP hD va_S.rf (by rw [hml]; exact hl)
/-- weaker ends -/
theorem Ct.mono {E : En} {M : Mth} {d mc ms : Nat} {av : List Value} {ws : va_W} {Z Z' : Option Value → va_W → Prop} (h : Ct E M d mc ms av ws Z) (hz : ∀ v w, Z v w → Z' v w) : Ct E M d mc ms av ws Z' := by
  intro sz p e ha hc hk s m args below hf happ hP hKk
  obtain ⟨kk, o, h1, h2, h3, ⟨⟨v, w, e1, e2, e3⟩, e4⟩, L, hF⟩ := h sz p e ha hc hk s m args below hf happ hP hKk
  exact ⟨kk, o, h1, h2, h3, ⟨⟨v, w, e1, hz v w e2, e3⟩, e4⟩, L, hF⟩
section MC
variable {E : En} {X : Fx} {cc : ByteArray} {nL : Nat} {own : String} {ret : Option FieldType} {fr lo rc rs : Nat} {ws : va_W} {k n pc : Nat} {lv : List (Nat × Value)} {st rest : List Value} {M : Mth} {d mc ms idx : Nat} {As : List Value} {Z : Option Value → va_W → Prop}
theorem ct_blind {E : En} {av : List Value} {sz : Nat} {ws : va_W} : FrameBlind (va_Pc av (fun U => U.heap.size = sz ∧ va_P E.2.1 vwCl ws U.heap ∧ va_K E.2.1 vwCl (tyE E) U ∧ va_D (fun _ => True) ws ∧ NW U)) := by
  intro a U g mk q
  obtain ⟨q0, q1, qP, qK, qD, qN⟩ := q
  exact ⟨q0, q1, qP, va_K.moved (u := U) (U := U.calling g mk a) (Vm.Alike.refl U.vm) qK, qD, NW.same (s := U) (U := U.calling g mk a) rfl qN⟩
theorem va_callg {p : Program} {l : Launch} {e : Env} {R : Room} {s : State} {m : MethodId} {args : Array Value} {below : List Frame} {meth : Method} {c : Code} {H : Heap} {locs : List Loc} {cells slots : Nat} {Q : State → Prop}
    {pc : Nat} {ls : Array Slot} {rest st0 : List Value} {a : Array Value} {A0 A1 : Nat → Prop} {H0 : Heap} {mc ms : Nat} {free : Addr → Prop} {E : En} {Z : Option Value → va_W → Prop}
    (hr : va_Run p l e R s m args below meth c H locs cells slots mc ms (F0 m pc ls st0) rest (QQ E Z A1 a) free) (hS : va_S A0 H0 H locs) (hA : ∀ q, q < H.size → A1 q → A0 q) (hf : ∀ q, free q → A0 q)
    (kk : ∀ (v : Option Value) (w : va_W) (H1 : Heap) (locs1 : List Loc), Z v w → va_P E.2.1 vwCl w H1 → va_D A1 w → va_S A0 H0 H1 locs1 → W p l e R s m args below meth c H1 locs1 (cells + mc) (slots + ms) Q (F0 m (pc + 3) ls (v.toList ++ rest))) : W p l e R s m args below meth c H locs cells slots Q (F0 m pc ls st0) := by
  intro T hT X
  obtain ⟨v, st₀, t, T', L, h0, X', hL, e1, e2, ⟨⟨v', w, hv, hz, hP, hK, hD⟩, hz2, hk⟩, st⟩ := hr T hT X
  cases hv
  rw [h0] at hz2 hk
  obtain ⟨t2, a1, b1⟩ := kk v w T'.heap (locs ++ L) hz (by rw [e1]; exact hP) hD
    ⟨Nat.le_trans hS.1 (by rw [e1]; exact hz2), fun q h1 h2 => by rw [e1, hk q (Nat.lt_of_lt_of_le h1 hS.1) (fun z => h2 (hA q (Nat.lt_of_lt_of_le h1 hS.1) z))]; exact hS.2.1 q h1 h2, fun q hq => by
      rcases List.mem_append.mp hq with h | h
      · exact hS.2.2 q h
      · exact hf _ (hL q h)⟩ T' rfl X'
  exact ⟨t2, st t2 a1, b1⟩
theorem free_self {A0 : Nat → Prop} {ws : va_W} {H0 H : Heap} {locs : List Loc} (hD : va_D A0 ws) (hS : va_S A0 H0 H locs) (hA : ∀ q, H0.size ≤ q → A0 q) : ∀ q, va_A ws H.size q → A0 q := by
  intro q h
  rcases h with ⟨i, x, h⟩ | h
  · exact hD.2 i (q, x) h
  · exact hA q (Nat.le_trans hS.1 h)
abbrev OkM (M : Mth) (np : Nat) : Prop := M.1.cls ≠ "java/lang/invoke/MethodHandle" ∧ M.1.cls ≠ "java/lang/invoke/VarHandle" ∧ (parseMethodDescriptor M.1.desc).map (fun d => d.parameters.length) = some np
abbrev RoomOk (d mc ms nl fr lo rc rs k n : Nat) : Prop := (Nat.ble (d + 1) fr && Nat.ble (8 + (nl + 11) + 40 * d) lo && Nat.ble (k + mc) rc && Nat.ble (n + ms) rs) = true
theorem RoomOk.get {d mc ms nl fr lo rc rs k n : Nat} (h : RoomOk d mc ms nl fr lo rc rs k n) : (d + 1 ≤ fr ∧ 8 + (nl + 11) + 40 * d ≤ lo) ∧ k + mc ≤ rc ∧ n + ms ≤ rs := by
  simp only [RoomOk, Bool.and_eq_true] at h
  exact ⟨⟨Nat.le_of_ble_eq_true h.1.1.1, Nat.le_of_ble_eq_true h.1.1.2⟩, Nat.le_of_ble_eq_true h.1.2, Nat.le_of_ble_eq_true h.2⟩
theorem mg_callV (C : Cx E X cc nL own ret fr lo rc rs) {h : Nat} (K : Ct E M d mc ms (.ref h :: As) ws Z) (O : OkM M As.length ∧ Cond.code M.1 M.2.1 M.2.2.1 M.2.2.2 ∈ gtbl ∧ Cond.initialized M.1.cls ∈ gtbl ∧ Cond.methodLink own idx M.1 ∈ gtbl ∧ Cond.instanceMethod M.1 ∈ gtbl ∧ Cond.selects M.1.cls M.1 M.1 ∈ gtbl) (q0 : Nat) {ci : Nat} {fs : List Value} (hq : ws[q0]? = some (h, .inr (ci, fs))) {T : u_T} {N : Nat} (hc : vwCl[ci]? = some (M.1.cls, T, N)) (hrm : RoomOk d mc ms M.2.2.1 fr lo rc rs k n) (hst : st = As.reverse ++ .ref h :: rest) (hrest : Nat.ble (rest.map fun v => v.category).sum 8 = true) (hdg : decode cc pc = .ok (.invokevirtual idx, 3)) (kk : ∀ v w, Z v w → GG E X w (k + mc) (n + ms) (pc + 3) lv (v.toList ++ rest)) : GG E X ws k n pc lv st := by
  obtain ⟨p, e, R, s, m, args, below, meth, c, A, Q⟩ := X
  obtain ⟨hx, hb, hml, hown, hts, hlk, hrt, hK, hnw, hA, hR⟩ := C
  intro H locs ls hP hD hS hl
  subst hst
  have hrm := hrm.get
  obtain ⟨hO1, hO2, hO3, hO4, hO5⟩ := O
  have hFc := free_self hD hS hA
  subst hR
  refine va_callg (va_runV (As := As) (rest := rest) ⟨hx, hb, hml, hown, hts⟩ (K H.size) ⟨callB_of As.length hts (gws_in hO2) rfl rfl rfl (hts _ hO3) (hts _ hO4) hO1 hrm.1, hts _ hO5.1, hts _ hO5.2⟩ ⟨ct_blind, va_recv hK hP (ci := ci) (q0 := q0) hc hq, fun U hU hW => ⟨rfl, by rw [hU], by rw [hU]; exact hP, va_K.moved hW.alike hK, hD.weaken (fun _ _ _ _ => trivial), NW.warm hW hnw⟩⟩ rfl rfl (hl.1.trans hml) rfl (lv_room (Nat.le_of_ble_eq_true hrest)) hdg hrm.2) hS (fun q _ h => hFc q h) hFc (fun v w H1 locs1 hz hP1 hD1 hS1 => ?_)
  exact kk v w hz H1 locs1 ls hP1 (hD1.weaken (fun _ _ _ h => hFc _ h)) hS1 hl
theorem mg_callS (C : Cx E X cc nL own ret fr lo rc rs) (K : Ct E M d mc ms As ws Z) (O : OkM M As.length ∧ Cond.code M.1 M.2.1 M.2.2.1 M.2.2.2 ∈ gtbl ∧ Cond.initialized M.1.cls ∈ gtbl ∧ Cond.methodLink own idx M.1 ∈ gtbl ∧ Cond.static M.1 ∈ gtbl ∧ True) (hrm : RoomOk d mc ms M.2.2.1 fr lo rc rs k n) (hst : st = As.reverse ++ rest) (hrest : Nat.ble (rest.map fun v => v.category).sum 8 = true) (hdg : decode cc pc = .ok (.invokestatic idx, 3)) (kk : ∀ v w, Z v w → GG E X w (k + mc) (n + ms) (pc + 3) lv (v.toList ++ rest)) : GG E X ws k n pc lv st := by
  obtain ⟨p, e, R, s, m, args, below, meth, c, A, Q⟩ := X
  obtain ⟨hx, hb, hml, hown, hts, hlk, hrt, hK, hnw, hA, hR⟩ := C
  intro H locs ls hP hD hS hl
  subst hst
  have hrm := hrm.get
  obtain ⟨hO1, hO2, hO3, hO4, hO5⟩ := O
  have hFc := free_self hD hS hA
  subst hR
  refine va_callg (va_runS (As := As) (rest := rest) ⟨hx, hb, hml, hown, hts⟩ (K H.size) ⟨callB_of As.length hts (gws_in hO2) rfl rfl rfl (hts _ hO3) (hts _ hO4) hO1 hrm.1, hts _ hO5.1⟩ ⟨ct_blind, fun U hU hW => ⟨rfl, by rw [hU], by rw [hU]; exact hP, va_K.moved hW.alike hK, hD.weaken (fun _ _ _ _ => trivial), NW.warm hW hnw⟩⟩ rfl rfl (hl.1.trans hml) rfl (lv_room (Nat.le_of_ble_eq_true hrest)) hdg hrm.2) hS (fun q _ h => hFc q h) hFc (fun v w H1 locs1 hz hP1 hD1 hS1 => ?_)
  exact kk v w hz H1 locs1 ls hP1 (hD1.weaken (fun _ _ _ h => hFc _ h)) hS1 hl
theorem mg_callI (C : Cx E X cc nL own ret fr lo rc rs) {h : Nat} (K : Ct E M d mc ms (.ref h :: As) ws Z) (O : OkM M As.length ∧ Cond.code M.1 M.2.1 M.2.2.1 M.2.2.2 ∈ gtbl ∧ Cond.initialized M.1.cls ∈ gtbl ∧ Cond.methodLink own idx M.1 ∈ gtbl ∧ Cond.instanceMethod M.1 ∈ gtbl ∧ M.1.name = "<init>") (hrn : M.2.2.2 = none) (hrm : RoomOk d mc ms M.2.2.1 fr lo rc rs k n) (hst : st = As.reverse ++ .ref h :: rest) (hrest : Nat.ble (rest.map fun v => v.category).sum 8 = true) (hdg : decode cc pc = .ok (.invokespecial idx, 3)) (kk : ∀ v w, Z v w → GG E X w (k + mc) (n + ms) (pc + 3) lv (v.toList ++ rest)) : GG E X ws k n pc lv st := by
  obtain ⟨p, e, R, s, m, args, below, meth, c, A, Q⟩ := X
  obtain ⟨hx, hb, hml, hown, hts, hlk, hrt, hK, hnw, hA, hR⟩ := C
  intro H locs ls hP hD hS hl
  obtain ⟨y, bb, nl2, rt⟩ := M
  have hrn2 : rt = none := hrn
  subst hrn2
  subst hst
  have hrm := hrm.get
  obtain ⟨hO1, hO2, hO3, hO4, hO5⟩ := O
  have hFc := free_self hD hS hA
  subst hR
  refine va_callg (va_runI (As := As) (rest := rest) ⟨hx, hb, hml, hown, hts⟩ (K H.size) ⟨callB_of As.length hts (gws_in hO2) rfl rfl rfl (hts _ hO3) (hts _ hO4) hO1 hrm.1, hO5.2, hts _ hO5.1⟩ ⟨ct_blind, fun U hU hW => ⟨rfl, by rw [hU], by rw [hU]; exact hP, va_K.moved hW.alike hK, hD.weaken (fun _ _ _ _ => trivial), NW.warm hW hnw⟩⟩ rfl rfl (hl.1.trans hml) rfl (lv_room (Nat.le_of_ble_eq_true hrest)) hdg hrm.2) hS (fun q _ h => hFc q h) hFc (fun v w H1 locs1 hz hP1 hD1 hS1 => ?_)
  exact kk v w hz H1 locs1 ls hP1 (hD1.weaken (fun _ _ _ h => hFc _ h)) hS1 hl
theorem mg_callVN (C : Cx E X cc nL own ret fr lo rc rs) {h : Nat} {host : String} (K : Ct E M d mc ms (.ref h :: As) ws Z) (O : OkM M As.length ∧ Cond.code M.1 M.2.1 M.2.2.1 M.2.2.2 ∈ gtbl ∧ Cond.initialized M.1.cls ∈ gtbl ∧ Cond.methodLinkNest own idx M.1 host ∈ lw_tbl ∧ Cond.instanceMethod M.1 ∈ gtbl ∧ Cond.selects M.1.cls M.1 M.1 ∈ gtbl) (q0 : Nat) {ci : Nat} {fs : List Value} (hq : ws[q0]? = some (h, .inr (ci, fs))) {T : u_T} {N : Nat} (hc : vwCl[ci]? = some (M.1.cls, T, N)) (hrm : RoomOk d mc ms M.2.2.1 fr lo rc rs k n) (hst : st = As.reverse ++ .ref h :: rest) (hrest : Nat.ble (rest.map fun v => v.category).sum 8 = true) (hdg : decode cc pc = .ok (.invokevirtual idx, 3)) (kk : ∀ v w, Z v w → GG E X w (k + mc) (n + ms) (pc + 3) lv (v.toList ++ rest)) : GG E X ws k n pc lv st := by
  obtain ⟨p, e, R, s, m, args, below, meth, c, A, Q⟩ := X
  obtain ⟨hx, hb, hml, hown, hts, hlk, hrt, hK, hnw, hA, hR⟩ := C
  intro H locs ls hP hD hS hl
  subst hst
  have hrm := hrm.get
  obtain ⟨hO1, hO2, hO3, hO4, hO5⟩ := O
  have hFc := free_self hD hS hA
  subst hR
  refine va_callg (va_runVN (As := As) (rest := rest) ⟨hx, hb, hml, hown, hts⟩ (K H.size) ⟨va_cnB As.length hts (gws_in hO2) rfl rfl rfl (hnw _ hO4 rfl) (hts _ hO3) hO1 hrm.1, hts _ hO5.1, hts _ hO5.2⟩ ⟨ct_blind, va_recv hK hP (ci := ci) (q0 := q0) hc hq, fun U hU hW => ⟨rfl, by rw [hU], by rw [hU]; exact hP, va_K.moved hW.alike hK, hD.weaken (fun _ _ _ _ => trivial), NW.warm hW hnw⟩⟩ rfl rfl (hl.1.trans hml) rfl (lv_room (Nat.le_of_ble_eq_true hrest)) hdg hrm.2) hS (fun q _ h => hFc q h) hFc (fun v w H1 locs1 hz hP1 hD1 hS1 => ?_)
  exact kk v w hz H1 locs1 ls hP1 (hD1.weaken (fun _ _ _ h => hFc _ h)) hS1 hl
theorem mg_callSN (C : Cx E X cc nL own ret fr lo rc rs) {host : String} (K : Ct E M d mc ms As ws Z) (O : OkM M As.length ∧ Cond.code M.1 M.2.1 M.2.2.1 M.2.2.2 ∈ gtbl ∧ Cond.initialized M.1.cls ∈ gtbl ∧ Cond.methodLinkNest own idx M.1 host ∈ lw_tbl ∧ Cond.static M.1 ∈ gtbl ∧ True) (hrm : RoomOk d mc ms M.2.2.1 fr lo rc rs k n) (hst : st = As.reverse ++ rest) (hrest : Nat.ble (rest.map fun v => v.category).sum 8 = true) (hdg : decode cc pc = .ok (.invokestatic idx, 3)) (kk : ∀ v w, Z v w → GG E X w (k + mc) (n + ms) (pc + 3) lv (v.toList ++ rest)) : GG E X ws k n pc lv st := by
  obtain ⟨p, e, R, s, m, args, below, meth, c, A, Q⟩ := X
  obtain ⟨hx, hb, hml, hown, hts, hlk, hrt, hK, hnw, hA, hR⟩ := C
  intro H locs ls hP hD hS hl
  subst hst
  have hrm := hrm.get
  obtain ⟨hO1, hO2, hO3, hO4, hO5⟩ := O
  have hFc := free_self hD hS hA
  subst hR
  refine va_callg (va_runSN (As := As) (rest := rest) ⟨hx, hb, hml, hown, hts⟩ (K H.size) ⟨va_cnB As.length hts (gws_in hO2) rfl rfl rfl (hnw _ hO4 rfl) (hts _ hO3) hO1 hrm.1, hts _ hO5.1, trivial⟩ ⟨ct_blind, fun U hU hW => ⟨rfl, by rw [hU], by rw [hU]; exact hP, va_K.moved hW.alike hK, hD.weaken (fun _ _ _ _ => trivial), NW.warm hW hnw⟩⟩ rfl rfl (hl.1.trans hml) rfl (lv_room (Nat.le_of_ble_eq_true hrest)) hdg hrm.2) hS (fun q _ h => hFc q h) hFc (fun v w H1 locs1 hz hP1 hD1 hS1 => ?_)
  exact kk v w hz H1 locs1 ls hP1 (hD1.weaken (fun _ _ _ h => hFc _ h)) hS1 hl
theorem mg_callIN (C : Cx E X cc nL own ret fr lo rc rs) {h : Nat} {host : String} (K : Ct E M d mc ms (.ref h :: As) ws Z) (O : OkM M As.length ∧ Cond.code M.1 M.2.1 M.2.2.1 M.2.2.2 ∈ gtbl ∧ Cond.initialized M.1.cls ∈ gtbl ∧ Cond.methodLinkNest own idx M.1 host ∈ lw_tbl ∧ Cond.instanceMethod M.1 ∈ gtbl ∧ M.1.name = "<init>") (hrn : M.2.2.2 = none) (hrm : RoomOk d mc ms M.2.2.1 fr lo rc rs k n) (hst : st = As.reverse ++ .ref h :: rest) (hrest : Nat.ble (rest.map fun v => v.category).sum 8 = true) (hdg : decode cc pc = .ok (.invokespecial idx, 3)) (kk : ∀ v w, Z v w → GG E X w (k + mc) (n + ms) (pc + 3) lv (v.toList ++ rest)) : GG E X ws k n pc lv st := by
  obtain ⟨p, e, R, s, m, args, below, meth, c, A, Q⟩ := X
  obtain ⟨hx, hb, hml, hown, hts, hlk, hrt, hK, hnw, hA, hR⟩ := C
  intro H locs ls hP hD hS hl
  obtain ⟨y, bb, nl2, rt⟩ := M
  have hrn2 : rt = none := hrn
  subst hrn2
  subst hst
  have hrm := hrm.get
  obtain ⟨hO1, hO2, hO3, hO4, hO5⟩ := O
  have hFc := free_self hD hS hA
  subst hR
  refine va_callg (va_runIN (As := As) (rest := rest) ⟨hx, hb, hml, hown, hts⟩ (K H.size) ⟨va_cnB As.length hts (gws_in hO2) rfl rfl rfl (hnw _ hO4 rfl) (hts _ hO3) hO1 hrm.1, hO5.2, hts _ hO5.1⟩ ⟨ct_blind, fun U hU hW => ⟨rfl, by rw [hU], by rw [hU]; exact hP, va_K.moved hW.alike hK, hD.weaken (fun _ _ _ _ => trivial), NW.warm hW hnw⟩⟩ rfl rfl (hl.1.trans hml) rfl (lv_room (Nat.le_of_ble_eq_true hrest)) hdg hrm.2) hS (fun q _ h => hFc q h) hFc (fun v w H1 locs1 hz hP1 hD1 hS1 => ?_)
  exact kk v w hz H1 locs1 ls hP1 (hD1.weaken (fun _ _ _ h => hFc _ h)) hS1 hl
end MC
end
section
abbrev mX0_init : Mth := (yX0_init, cX0_init, 2, none)
abbrev mX0_takeAnew : Mth := (yX0_takeAnew, cX0_takeAnew, 6, none)
abbrev mX0_wrongColumn : Mth := (yX0_wrongColumn, cX0_wrongColumn, 4, (some .int))
abbrev mX0_columnBy : Mth := (yX0_columnBy, cX0_columnBy, 4, (some .int))
abbrev mX1_init : Mth := (yX1_init, cX1_init, 1, none)
abbrev mX1_renew : Mth := (yX1_renew, cX1_renew, 4, none)
abbrev mX1_hasCell : Mth := (yX1_hasCell, cX1_hasCell, 3, (some .boolean))
abbrev mX1_place : Mth := (yX1_place, cX1_place, 3, (some .int))
abbrev mX1_sticks : Mth := (yX1_sticks, cX1_sticks, 2, (some .boolean))
abbrev mX1_sticksAtAnother : Mth := (yX1_sticksAtAnother, cX1_sticksAtAnother, 3, (some .boolean))
abbrev mX1_put : Mth := (yX1_put, cX1_put, 3, none)
abbrev mX1_hold : Mth := (yX1_hold, cX1_hold, 3, none)
abbrev mX1_tellCell : Mth := (yX1_tellCell, cX1_tellCell, 3, (some .int))
abbrev mX1_columnSum : Mth := (yX1_columnSum, cX1_columnSum, 4, (some .int))
abbrev mX1_convert : Mth := (yX1_convert, cX1_convert, 2, (some .int))
abbrev mX1_stickingCells : Mth := (yX1_stickingCells, cX1_stickingCells, 4, (some .int))
abbrev mX1_ageAll : Mth := (yX1_ageAll, cX1_ageAll, 4, (some .int))
abbrev mX1_ageOne : Mth := (yX1_ageOne, cX1_ageOne, 2, (some .boolean))
abbrev mX1_pulseTo : Mth := (yX1_pulseTo, cX1_pulseTo, 4, (some .int))
abbrev mX1_addTo : Mth := (yX1_addTo, cX1_addTo, 8, (some .long))
abbrev mX2_init : Mth := (yX2_init, cX2_init, 1, none)
abbrev mX2_seek : Mth := (yX2_seek, cX2_seek, 6, (some .int))
abbrev mX2_begin : Mth := (yX2_begin, cX2_begin, 4, none)
abbrev mX2_inputTable : Mth := (yX2_inputTable, cX2_inputTable, 4, (some .int))
abbrev mX2_shiftOf : Mth := (yX2_shiftOf, cX2_shiftOf, 2, (some .int))
abbrev mX2_openState : Mth := (yX2_openState, cX2_openState, 3, none)
abbrev mX2_cellWith : Mth := (yX2_cellWith, cX2_cellWith, 3, (some .int))
abbrev mX2_meetAllFrom : Mth := (yX2_meetAllFrom, cX2_meetAllFrom, 4, (some .boolean))
abbrev mX2_meetByActs : Mth := (yX2_meetByActs, cX2_meetByActs, 7, (some .boolean))
abbrev mX2_meet : Mth := (yX2_meet, cX2_meet, 6, (some .boolean))
abbrev mX2_keep : Mth := (yX2_keep, cX2_keep, 5, none)
abbrev mX2_addTo : Mth := (yX2_addTo, cX2_addTo, 7, (some .long))
abbrev mX3_init : Mth := (yX3_init, cX3_init, 2, none)
abbrev mX3_exists : Mth := (yX3_exists, cX3_exists, 1, (some .boolean))
abbrev mX3_drop : Mth := (yX3_drop, cX3_drop, 1, none)
abbrev mX3_begin : Mth := (yX3_begin, cX3_begin, 5, none)
abbrev mX3_base : Mth := (yX3_base, cX3_base, 1, (some .int))
abbrev mX3_power : Mth := (yX3_power, cX3_power, 4, (some .int))
abbrev mX3_numberAt : Mth := (yX3_numberAt, cX3_numberAt, 3, (some .int))
abbrev mX3_exchange : Mth := (yX3_exchange, cX3_exchange, 5, (some .int))
abbrev mX3_usedColumns : Mth := (yX3_usedColumns, cX3_usedColumns, 1, (some .int))
abbrev mX3_spellRow : Mth := (yX3_spellRow, cX3_spellRow, 8, none)
abbrev mX3_layAll : Mth := (yX3_layAll, cX3_layAll, 5, (some .int))
abbrev mX3_meshProduct : Mth := (yX3_meshProduct, cX3_meshProduct, 11, (some .long))
abbrev mX3_bitSum : Mth := (yX3_bitSum, cX3_bitSum, 5, (some .int))
abbrev mX3_trueProduct : Mth := (yX3_trueProduct, cX3_trueProduct, 5, (some .long))
abbrev mX3_bitsEnough : Mth := (yX3_bitsEnough, cX3_bitsEnough, 3, (some .int))
abbrev mX3_mapAnew : Mth := (yX3_mapAnew, cX3_mapAnew, 3, (some .int))
abbrev mX3_fillCosts : Mth := (yX3_fillCosts, cX3_fillCosts, 3, none)
abbrev mX3_costOn : Mth := (yX3_costOn, cX3_costOn, 5, (some .int))
abbrev mX3_costWith : Mth := (yX3_costWith, cX3_costWith, 4, (some .int))
abbrev mX3_leastFrom : Mth := (yX3_leastFrom, cX3_leastFrom, 5, (some .int))
abbrev mX3_chooseFirstLeast : Mth := (yX3_chooseFirstLeast, cX3_chooseFirstLeast, 3, none)
abbrev mX3_firstLeastRow : Mth := (yX3_firstLeastRow, cX3_firstLeastRow, 4, (some .int))
abbrev mX3_addTo : Mth := (yX3_addTo, cX3_addTo, 7, (some .long))
abbrev mX4_init : Mth := (yX4_init, cX4_init, 1, none)
abbrev mX4_mesh : Mth := (yX4_mesh, cX4_mesh, 4, (some .int))
abbrev mX4_write : Mth := (yX4_write, cX4_write, 5, (some .int))
abbrev mX4_stick : Mth := (yX4_stick, cX4_stick, 4, (some .int))
abbrev mX4_cell : Mth := (yX4_cell, cX4_cell, 4, (some .int))
abbrev mX4_input : Mth := (yX4_input, cX4_input, 4, (some .int))
abbrev mX4_bits : Mth := (yX4_bits, cX4_bits, 3, (some .int))
abbrev mX4_sum : Mth := (yX4_sum, cX4_sum, 2, (some .int))
abbrev mX4_table : Mth := (yX4_table, cX4_table, 4, (some .int))
abbrev mX4_number : Mth := (yX4_number, cX4_number, 4, (some .int))
abbrev mX4_lay : Mth := (yX4_lay, cX4_lay, 1, (some .int))
abbrev mX4_product : Mth := (yX4_product, cX4_product, 2, (some .long))
abbrev mX4_due : Mth := (yX4_due, cX4_due, 2, (some .long))
abbrev mX4_enough : Mth := (yX4_enough, cX4_enough, 1, (some .int))
abbrev mX4_map : Mth := (yX4_map, cX4_map, 1, (some .int))
abbrev mX4_mapped : Mth := (yX4_mapped, cX4_mapped, 2, (some .int))
abbrev mX4_seal : Mth := (yX4_seal, cX4_seal, 1, (some .int))
abbrev mX4_look : Mth := (yX4_look, cX4_look, 1, (some .int))
abbrev mX4_fade : Mth := (yX4_fade, cX4_fade, 4, (some .int))
abbrev mX4_pulse : Mth := (yX4_pulse, cX4_pulse, 5, (some .int))
abbrev mX4_find : Mth := (yX4_find, cX4_find, 4, (some .int))
abbrev mX4_actAt : Mth := (yX4_actAt, cX4_actAt, 3, (some .int))
abbrev mX4_where : Mth := (yX4_where, cX4_where, 1, (some .int))
abbrev mX4_met : Mth := (yX4_met, cX4_met, 1, (some .int))
abbrev mX4_count : Mth := (yX4_count, cX4_count, 2, (some .int))
abbrev mX4_digest : Mth := (yX4_digest, cX4_digest, 4, (some .long))
abbrev mX4_within : Mth := (yX4_within, cX4_within, 3, (some .boolean))
abbrev mX4_fullTable : Mth := (yX4_fullTable, cX4_fullTable, 1, (some .int))
abbrev mX4_packAct : Mth := (yX4_packAct, cX4_packAct, 3, (some .int))
abbrev mX4_actPart : Mth := (yX4_actPart, cX4_actPart, 2, (some .int))
abbrev mX4_packVisit : Mth := (yX4_packVisit, cX4_packVisit, 3, (some .long))
abbrev mX4_stateOf : Mth := (yX4_stateOf, cX4_stateOf, 2, (some .int))
abbrev mX4_cameBy : Mth := (yX4_cameBy, cX4_cameBy, 2, (some .int))
abbrev mX4_cameFrom : Mth := (yX4_cameFrom, cX4_cameFrom, 2, (some .int))
abbrev mX5_in : Mth := (yX5_in, cX5_in, 3, (some .boolean))
abbrev mX5_init : Mth := (yX5_init, cX5_init, 1, none)
abbrev mX5_begins : Mth := (yX5_begins, cX5_begins, 5, none)
abbrev mX5_mesh : Mth := (yX5_mesh, cX5_mesh, 4, (some .int))
abbrev mX5_isCell : Mth := (yX5_isCell, cX5_isCell, 3, (some .boolean))
abbrev mX5_writes : Mth := (yX5_writes, cX5_writes, 3, (some .boolean))
abbrev mX5_write : Mth := (yX5_write, cX5_write, 4, (some .int))
abbrev mX5_stick : Mth := (yX5_stick, cX5_stick, 5, (some .int))
abbrev mX5_cellAt : Mth := (yX5_cellAt, cX5_cellAt, 3, (some .int))
abbrev mX5_cell : Mth := (yX5_cell, cX5_cell, 4, (some .int))
abbrev mX5_input : Mth := (yX5_input, cX5_input, 4, (some .int))
abbrev mX5_bits : Mth := (yX5_bits, cX5_bits, 3, (some .int))
abbrev mX5_converted : Mth := (yX5_converted, cX5_converted, 3, (some .int))
abbrev mX5_sumOf : Mth := (yX5_sumOf, cX5_sumOf, 4, (some .int))
abbrev mX5_sum : Mth := (yX5_sum, cX5_sum, 2, (some .int))
abbrev mX5_hasTable : Mth := (yX5_hasTable, cX5_hasTable, 1, (some .boolean))
abbrev mX5_table : Mth := (yX5_table, cX5_table, 5, (some .int))
abbrev mX5_greatest : Mth := (yX5_greatest, cX5_greatest, 3, (some .int))
abbrev mX5_number : Mth := (yX5_number, cX5_number, 5, (some .int))
abbrev mX5_wanted : Mth := (yX5_wanted, cX5_wanted, 8, (some .int))
abbrev mX5_lay : Mth := (yX5_lay, cX5_lay, 4, (some .int))
abbrev mX5_bitSum : Mth := (yX5_bitSum, cX5_bitSum, 5, (some .long))
abbrev mX5_product : Mth := (yX5_product, cX5_product, 9, (some .long))
abbrev mX5_due : Mth := (yX5_due, cX5_due, 5, (some .long))
abbrev mX5_enough : Mth := (yX5_enough, cX5_enough, 2, (some .int))
abbrev mX5_findCosts : Mth := (yX5_findCosts, cX5_findCosts, 7, none)
abbrev mX5_isUsed : Mth := (yX5_isUsed, cX5_isUsed, 4, (some .boolean))
abbrev mX5_map : Mth := (yX5_map, cX5_map, 4, (some .int))
abbrev mX5_mapped : Mth := (yX5_mapped, cX5_mapped, 2, (some .int))
abbrev mX5_seal : Mth := (yX5_seal, cX5_seal, 5, (some .int))
abbrev mX5_rest : Mth := (yX5_rest, cX5_rest, 1, (some .int))
abbrev mX5_look : Mth := (yX5_look, cX5_look, 6, (some .int))
abbrev mX5_fade : Mth := (yX5_fade, cX5_fade, 5, (some .int))
abbrev mX5_pulse : Mth := (yX5_pulse, cX5_pulse, 7, (some .int))
abbrev mX5_isNew : Mth := (yX5_isNew, cX5_isNew, 6, (some .boolean))
abbrev mX5_meets : Mth := (yX5_meets, cX5_meets, 5, (some .boolean))
abbrev mX5_tableOf : Mth := (yX5_tableOf, cX5_tableOf, 3, (some .int))
abbrev mX5_whereIs : Mth := (yX5_whereIs, cX5_whereIs, 5, (some .int))
abbrev mX5_becomesFound : Mth := (yX5_becomesFound, cX5_becomesFound, 5, none)
abbrev mX5_goesOn : Mth := (yX5_goesOn, cX5_goesOn, 12, (some .boolean))
abbrev mX5_find : Mth := (yX5_find, cX5_find, 9, (some .int))
abbrev mX5_actAt : Mth := (yX5_actAt, cX5_actAt, 3, (some .int))
abbrev mX5_where : Mth := (yX5_where, cX5_where, 1, (some .int))
abbrev mX5_met : Mth := (yX5_met, cX5_met, 1, (some .int))
abbrev mX5_count : Mth := (yX5_count, cX5_count, 4, (some .int))
abbrev mX5_digest : Mth := (yX5_digest, cX5_digest, 6, (some .long))
abbrev mJ6_bitCount_0f7a4 : Mth := (yJ6_bitCount_0f7a4, cJ6_bitCount_0f7a4, 1, (some .int))
abbrev mJ9_floorMod_7cf53 : Mth := (yJ9_floorMod_7cf53, cJ9_floorMod_7cf53, 3, (some .int))
abbrev mJ9_abs_0f7a4 : Mth := (yJ9_abs_0f7a4, cJ9_abs_0f7a4, 1, (some .int))
abbrev mJ9_min_7cf53 : Mth := (yJ9_min_7cf53, cJ9_min_7cf53, 2, (some .int))
abbrev mJ7_fill_53178 : Mth := (yJ7_fill_53178, cJ7_fill_53178, 4, none)
theorem inG_X0 : ∀ w ∈ u_ws RX0 TX0 4, w ∈ gtbl := fun w h => gt_of ((by decide +kernel : ∀ w ∈ u_ws RX0 TX0 4, w ∈ lw_tbl ∧ goodWord w = true) w h)
theorem inG_X1 : ∀ w ∈ u_ws RX1 TX1 8, w ∈ gtbl := fun w h => gt_of ((by decide +kernel : ∀ w ∈ u_ws RX1 TX1 8, w ∈ lw_tbl ∧ goodWord w = true) w h)
theorem inG_X2 : ∀ w ∈ u_ws RX2 TX2 11, w ∈ gtbl := fun w h => gt_of ((by decide +kernel : ∀ w ∈ u_ws RX2 TX2 11, w ∈ lw_tbl ∧ goodWord w = true) w h)
theorem inG_X3 : ∀ w ∈ u_ws RX3 TX3 11, w ∈ gtbl := fun w h => gt_of ((by decide +kernel : ∀ w ∈ u_ws RX3 TX3 11, w ∈ lw_tbl ∧ goodWord w = true) w h)
theorem inG_X4 : ∀ w ∈ u_ws RX4 TX4 4, w ∈ gtbl := fun w h => gt_of ((by decide +kernel : ∀ w ∈ u_ws RX4 TX4 4, w ∈ lw_tbl ∧ goodWord w = true) w h)
theorem inG_X5 : ∀ w ∈ u_ws RX5 TX5 29, w ∈ gtbl := fun w h => gt_of ((by decide +kernel : ∀ w ∈ u_ws RX5 TX5 29, w ∈ lw_tbl ∧ goodWord w = true) w h)
theorem fX4_10 : Cond.fieldLink RX4 10 (TX4 0).1 (TX4 0).2.1 (TX4 0).2.2.1 ∈ gtbl := gt_of ⟨List.mem_of_getElem? (i := 248) (by decide +kernel), by decide +kernel⟩
theorem fX4_21 : Cond.fieldLink RX4 21 (TX4 1).1 (TX4 1).2.1 (TX4 1).2.2.1 ∈ gtbl := gt_of ⟨List.mem_of_getElem? (i := 249) (by decide +kernel), by decide +kernel⟩
theorem fX4_28 : Cond.fieldLink RX4 28 (TX4 2).1 (TX4 2).2.1 (TX4 2).2.2.1 ∈ gtbl := gt_of ⟨List.mem_of_getElem? (i := 250) (by decide +kernel), by decide +kernel⟩
theorem fX4_35 : Cond.fieldLink RX4 35 (TX4 3).1 (TX4 3).2.1 (TX4 3).2.2.1 ∈ gtbl := gt_of ⟨List.mem_of_getElem? (i := 251) (by decide +kernel), by decide +kernel⟩
theorem fX4_50 : Cond.fieldLinkNest RX4 50 (TX0 1).1 (TX0 1).2.1 (TX0 1).2.2.1 "MeshSums" ∈ lw_tbl := List.mem_of_getElem? (i := 190) (by decide +kernel)
theorem fX4_58 : Cond.fieldLinkNest RX4 58 (TX1 2).1 (TX1 2).2.1 (TX1 2).2.2.1 "MeshSums" ∈ lw_tbl := List.mem_of_getElem? (i := 105) (by decide +kernel)
theorem fX4_79 : Cond.fieldLinkNest RX4 79 (TX1 0).1 (TX1 0).2.1 (TX1 0).2.2.1 "MeshSums" ∈ lw_tbl := List.mem_of_getElem? (i := 99) (by decide +kernel)
theorem fX4_82 : Cond.fieldLinkNest RX4 82 (TX1 7).1 (TX1 7).2.1 (TX1 7).2.2.1 "MeshSums" ∈ lw_tbl := List.mem_of_getElem? (i := 117) (by decide +kernel)
theorem fX4_86 : Cond.fieldLinkNest RX4 86 (TX1 3).1 (TX1 3).2.1 (TX1 3).2.2.1 "MeshSums" ∈ lw_tbl := List.mem_of_getElem? (i := 108) (by decide +kernel)
theorem fX4_89 : Cond.fieldLinkNest RX4 89 (TX1 1).1 (TX1 1).2.1 (TX1 1).2.2.1 "MeshSums" ∈ lw_tbl := List.mem_of_getElem? (i := 103) (by decide +kernel)
theorem fX4_102 : Cond.fieldLinkNest RX4 102 (TX3 1).1 (TX3 1).2.1 (TX3 1).2.2.1 "MeshSums" ∈ lw_tbl := List.mem_of_getElem? (i := 145) (by decide +kernel)
theorem fX4_105 : Cond.fieldLinkNest RX4 105 (TX3 2).1 (TX3 2).2.1 (TX3 2).2.2.1 "MeshSums" ∈ lw_tbl := List.mem_of_getElem? (i := 147) (by decide +kernel)
theorem fX4_108 : Cond.fieldLinkNest RX4 108 (TX3 4).1 (TX3 4).2.1 (TX3 4).2.2.1 "MeshSums" ∈ lw_tbl := List.mem_of_getElem? (i := 151) (by decide +kernel)
theorem fX4_124 : Cond.fieldLinkNest RX4 124 (TX3 5).1 (TX3 5).2.1 (TX3 5).2.2.1 "MeshSums" ∈ lw_tbl := List.mem_of_getElem? (i := 153) (by decide +kernel)
theorem fX4_142 : Cond.fieldLinkNest RX4 142 (TX3 7).1 (TX3 7).2.1 (TX3 7).2.2.1 "MeshSums" ∈ lw_tbl := List.mem_of_getElem? (i := 156) (by decide +kernel)
theorem fX4_167 : Cond.fieldLinkNest RX4 167 (TX2 9).1 (TX2 9).2.1 (TX2 9).2.2.1 "MeshSums" ∈ lw_tbl := List.mem_of_getElem? (i := 221) (by decide +kernel)
theorem fX4_170 : Cond.fieldLinkNest RX4 170 (TX2 8).1 (TX2 8).2.1 (TX2 8).2.2.1 "MeshSums" ∈ lw_tbl := List.mem_of_getElem? (i := 219) (by decide +kernel)
theorem fX4_176 : Cond.fieldLinkNest RX4 176 (TX2 10).1 (TX2 10).2.1 (TX2 10).2.2.1 "MeshSums" ∈ lw_tbl := List.mem_of_getElem? (i := 223) (by decide +kernel)
theorem fX4_179 : Cond.fieldLinkNest RX4 179 (TX2 7).1 (TX2 7).2.1 (TX2 7).2.2.1 "MeshSums" ∈ lw_tbl := List.mem_of_getElem? (i := 217) (by decide +kernel)
theorem fX4_185 : Cond.fieldLinkNest RX4 185 (TX3 3).1 (TX3 3).2.1 (TX3 3).2.2.1 "MeshSums" ∈ lw_tbl := List.mem_of_getElem? (i := 149) (by decide +kernel)
theorem fX0_9 : Cond.fieldLink RX0 9 (TX0 2).1 (TX0 2).2.1 (TX0 2).2.2.1 ∈ gtbl := gt_of ⟨List.mem_of_getElem? (i := 192) (by decide +kernel), by decide +kernel⟩
theorem fX0_15 : Cond.fieldLink RX0 15 (TX0 3).1 (TX0 3).2.1 (TX0 3).2.2.1 ∈ gtbl := gt_of ⟨List.mem_of_getElem? (i := 193) (by decide +kernel), by decide +kernel⟩
theorem fX0_18 : Cond.fieldLink RX0 18 (TX0 0).1 (TX0 0).2.1 (TX0 0).2.2.1 ∈ gtbl := gt_of ⟨List.mem_of_getElem? (i := 189) (by decide +kernel), by decide +kernel⟩
theorem fX0_22 : Cond.fieldLinkNest RX0 22 (TX1 0).1 (TX1 0).2.1 (TX1 0).2.2.1 "MeshSums" ∈ lw_tbl := List.mem_of_getElem? (i := 98) (by decide +kernel)
theorem fX0_28 : Cond.fieldLinkNest RX0 28 (TX1 1).1 (TX1 1).2.1 (TX1 1).2.2.1 "MeshSums" ∈ lw_tbl := List.mem_of_getElem? (i := 102) (by decide +kernel)
theorem fX0_31 : Cond.fieldLinkNest RX0 31 (TX1 4).1 (TX1 4).2.1 (TX1 4).2.2.1 "MeshSums" ∈ lw_tbl := List.mem_of_getElem? (i := 110) (by decide +kernel)
theorem fX0_38 : Cond.fieldLink RX0 38 (TX0 1).1 (TX0 1).2.1 (TX0 1).2.2.1 ∈ gtbl := gt_of ⟨List.mem_of_getElem? (i := 191) (by decide +kernel), by decide +kernel⟩
theorem fX0_46 : Cond.fieldLinkNest RX0 46 (TX1 7).1 (TX1 7).2.1 (TX1 7).2.2.1 "MeshSums" ∈ lw_tbl := List.mem_of_getElem? (i := 116) (by decide +kernel)
theorem fX1_9 : Cond.fieldLink RX1 9 (TX1 4).1 (TX1 4).2.1 (TX1 4).2.2.1 ∈ gtbl := gt_of ⟨List.mem_of_getElem? (i := 109) (by decide +kernel), by decide +kernel⟩
theorem fX1_15 : Cond.fieldLink RX1 15 (TX1 5).1 (TX1 5).2.1 (TX1 5).2.2.1 ∈ gtbl := gt_of ⟨List.mem_of_getElem? (i := 112) (by decide +kernel), by decide +kernel⟩
theorem fX1_18 : Cond.fieldLink RX1 18 (TX1 6).1 (TX1 6).2.1 (TX1 6).2.2.1 ∈ gtbl := gt_of ⟨List.mem_of_getElem? (i := 114) (by decide +kernel), by decide +kernel⟩
theorem fX1_21 : Cond.fieldLink RX1 21 (TX1 7).1 (TX1 7).2.1 (TX1 7).2.2.1 ∈ gtbl := gt_of ⟨List.mem_of_getElem? (i := 115) (by decide +kernel), by decide +kernel⟩
theorem fX1_28 : Cond.fieldLink RX1 28 (TX1 0).1 (TX1 0).2.1 (TX1 0).2.2.1 ∈ gtbl := gt_of ⟨List.mem_of_getElem? (i := 97) (by decide +kernel), by decide +kernel⟩
theorem fX1_32 : Cond.fieldLink RX1 32 (TX1 1).1 (TX1 1).2.1 (TX1 1).2.2.1 ∈ gtbl := gt_of ⟨List.mem_of_getElem? (i := 101) (by decide +kernel), by decide +kernel⟩
theorem fX1_35 : Cond.fieldLink RX1 35 (TX1 2).1 (TX1 2).2.1 (TX1 2).2.2.1 ∈ gtbl := gt_of ⟨List.mem_of_getElem? (i := 104) (by decide +kernel), by decide +kernel⟩
theorem fX1_38 : Cond.fieldLink RX1 38 (TX1 3).1 (TX1 3).2.1 (TX1 3).2.2.1 ∈ gtbl := gt_of ⟨List.mem_of_getElem? (i := 107) (by decide +kernel), by decide +kernel⟩
theorem fX2_9 : Cond.fieldLink RX2 9 (TX2 0).1 (TX2 0).2.1 (TX2 0).2.2.1 ∈ gtbl := gt_of ⟨List.mem_of_getElem? (i := 209) (by decide +kernel), by decide +kernel⟩
theorem fX2_15 : Cond.fieldLink RX2 15 (TX2 1).1 (TX2 1).2.1 (TX2 1).2.2.1 ∈ gtbl := gt_of ⟨List.mem_of_getElem? (i := 210) (by decide +kernel), by decide +kernel⟩
theorem fX2_19 : Cond.fieldLink RX2 19 (TX2 2).1 (TX2 2).2.1 (TX2 2).2.2.1 ∈ gtbl := gt_of ⟨List.mem_of_getElem? (i := 211) (by decide +kernel), by decide +kernel⟩
theorem fX2_22 : Cond.fieldLink RX2 22 (TX2 8).1 (TX2 8).2.1 (TX2 8).2.2.1 ∈ gtbl := gt_of ⟨List.mem_of_getElem? (i := 218) (by decide +kernel), by decide +kernel⟩
theorem fX2_25 : Cond.fieldLink RX2 25 (TX2 10).1 (TX2 10).2.1 (TX2 10).2.2.1 ∈ gtbl := gt_of ⟨List.mem_of_getElem? (i := 222) (by decide +kernel), by decide +kernel⟩
theorem fX2_33 : Cond.fieldLink RX2 33 (TX2 7).1 (TX2 7).2.1 (TX2 7).2.2.1 ∈ gtbl := gt_of ⟨List.mem_of_getElem? (i := 216) (by decide +kernel), by decide +kernel⟩
theorem fX2_51 : Cond.fieldLink RX2 51 (TX2 9).1 (TX2 9).2.1 (TX2 9).2.2.1 ∈ gtbl := gt_of ⟨List.mem_of_getElem? (i := 220) (by decide +kernel), by decide +kernel⟩
theorem fX2_58 : Cond.fieldLink RX2 58 (TX2 3).1 (TX2 3).2.1 (TX2 3).2.2.1 ∈ gtbl := gt_of ⟨List.mem_of_getElem? (i := 212) (by decide +kernel), by decide +kernel⟩
theorem fX2_61 : Cond.fieldLink RX2 61 (TX2 4).1 (TX2 4).2.1 (TX2 4).2.2.1 ∈ gtbl := gt_of ⟨List.mem_of_getElem? (i := 213) (by decide +kernel), by decide +kernel⟩
theorem fX2_64 : Cond.fieldLink RX2 64 (TX2 5).1 (TX2 5).2.1 (TX2 5).2.2.1 ∈ gtbl := gt_of ⟨List.mem_of_getElem? (i := 214) (by decide +kernel), by decide +kernel⟩
theorem fX2_70 : Cond.fieldLink RX2 70 (TX2 6).1 (TX2 6).2.1 (TX2 6).2.2.1 ∈ gtbl := gt_of ⟨List.mem_of_getElem? (i := 215) (by decide +kernel), by decide +kernel⟩
theorem fX3_9 : Cond.fieldLink RX3 9 (TX3 6).1 (TX3 6).2.1 (TX3 6).2.2.1 ∈ gtbl := gt_of ⟨List.mem_of_getElem? (i := 154) (by decide +kernel), by decide +kernel⟩
theorem fX3_15 : Cond.fieldLink RX3 15 (TX3 7).1 (TX3 7).2.1 (TX3 7).2.2.1 ∈ gtbl := gt_of ⟨List.mem_of_getElem? (i := 155) (by decide +kernel), by decide +kernel⟩
theorem fX3_18 : Cond.fieldLink RX3 18 (TX3 8).1 (TX3 8).2.1 (TX3 8).2.2.1 ∈ gtbl := gt_of ⟨List.mem_of_getElem? (i := 157) (by decide +kernel), by decide +kernel⟩
theorem fX3_21 : Cond.fieldLink RX3 21 (TX3 9).1 (TX3 9).2.1 (TX3 9).2.2.1 ∈ gtbl := gt_of ⟨List.mem_of_getElem? (i := 158) (by decide +kernel), by decide +kernel⟩
theorem fX3_24 : Cond.fieldLink RX3 24 (TX3 10).1 (TX3 10).2.1 (TX3 10).2.2.1 ∈ gtbl := gt_of ⟨List.mem_of_getElem? (i := 159) (by decide +kernel), by decide +kernel⟩
theorem fX3_27 : Cond.fieldLink RX3 27 (TX3 0).1 (TX3 0).2.1 (TX3 0).2.2.1 ∈ gtbl := gt_of ⟨List.mem_of_getElem? (i := 143) (by decide +kernel), by decide +kernel⟩
theorem fX3_31 : Cond.fieldLink RX3 31 (TX3 1).1 (TX3 1).2.1 (TX3 1).2.2.1 ∈ gtbl := gt_of ⟨List.mem_of_getElem? (i := 144) (by decide +kernel), by decide +kernel⟩
theorem fX3_35 : Cond.fieldLink RX3 35 (TX3 2).1 (TX3 2).2.1 (TX3 2).2.2.1 ∈ gtbl := gt_of ⟨List.mem_of_getElem? (i := 146) (by decide +kernel), by decide +kernel⟩
theorem fX3_38 : Cond.fieldLink RX3 38 (TX3 3).1 (TX3 3).2.1 (TX3 3).2.2.1 ∈ gtbl := gt_of ⟨List.mem_of_getElem? (i := 148) (by decide +kernel), by decide +kernel⟩
theorem fX3_41 : Cond.fieldLink RX3 41 (TX3 5).1 (TX3 5).2.1 (TX3 5).2.2.1 ∈ gtbl := gt_of ⟨List.mem_of_getElem? (i := 152) (by decide +kernel), by decide +kernel⟩
theorem fX3_53 : Cond.fieldLink RX3 53 (TX3 4).1 (TX3 4).2.1 (TX3 4).2.2.1 ∈ gtbl := gt_of ⟨List.mem_of_getElem? (i := 150) (by decide +kernel), by decide +kernel⟩
theorem fX3_62 : Cond.fieldLinkNest RX3 62 (TX1 2).1 (TX1 2).2.1 (TX1 2).2.2.1 "MeshSums" ∈ lw_tbl := List.mem_of_getElem? (i := 106) (by decide +kernel)
theorem fX3_100 : Cond.fieldLinkNest RX3 100 (TX1 7).1 (TX1 7).2.1 (TX1 7).2.2.1 "MeshSums" ∈ lw_tbl := List.mem_of_getElem? (i := 118) (by decide +kernel)
theorem fX3_103 : Cond.fieldLinkNest RX3 103 (TX1 4).1 (TX1 4).2.1 (TX1 4).2.2.1 "MeshSums" ∈ lw_tbl := List.mem_of_getElem? (i := 111) (by decide +kernel)
theorem fX3_109 : Cond.fieldLinkNest RX3 109 (TX1 0).1 (TX1 0).2.1 (TX1 0).2.2.1 "MeshSums" ∈ lw_tbl := List.mem_of_getElem? (i := 100) (by decide +kernel)
theorem fX3_130 : Cond.fieldLinkNest RX3 130 (TX1 5).1 (TX1 5).2.1 (TX1 5).2.2.1 "MeshSums" ∈ lw_tbl := List.mem_of_getElem? (i := 113) (by decide +kernel)
theorem fX5_7 : Cond.fieldLink RX5 7 (TX5 0).1 (TX5 0).2.1 (TX5 0).2.2.1 ∈ gtbl := gt_of ⟨List.mem_of_getElem? (i := 636) (by decide +kernel), by decide +kernel⟩
theorem fX5_13 : Cond.fieldLink RX5 13 (TX5 1).1 (TX5 1).2.1 (TX5 1).2.2.1 ∈ gtbl := gt_of ⟨List.mem_of_getElem? (i := 637) (by decide +kernel), by decide +kernel⟩
theorem fX5_16 : Cond.fieldLink RX5 16 (TX5 2).1 (TX5 2).2.1 (TX5 2).2.2.1 ∈ gtbl := gt_of ⟨List.mem_of_getElem? (i := 638) (by decide +kernel), by decide +kernel⟩
theorem fX5_19 : Cond.fieldLink RX5 19 (TX5 3).1 (TX5 3).2.1 (TX5 3).2.2.1 ∈ gtbl := gt_of ⟨List.mem_of_getElem? (i := 639) (by decide +kernel), by decide +kernel⟩
theorem fX5_23 : Cond.fieldLink RX5 23 (TX5 4).1 (TX5 4).2.1 (TX5 4).2.2.1 ∈ gtbl := gt_of ⟨List.mem_of_getElem? (i := 640) (by decide +kernel), by decide +kernel⟩
theorem fX5_26 : Cond.fieldLink RX5 26 (TX5 5).1 (TX5 5).2.1 (TX5 5).2.2.1 ∈ gtbl := gt_of ⟨List.mem_of_getElem? (i := 641) (by decide +kernel), by decide +kernel⟩
theorem fX5_29 : Cond.fieldLink RX5 29 (TX5 6).1 (TX5 6).2.1 (TX5 6).2.2.1 ∈ gtbl := gt_of ⟨List.mem_of_getElem? (i := 642) (by decide +kernel), by decide +kernel⟩
theorem fX5_32 : Cond.fieldLink RX5 32 (TX5 7).1 (TX5 7).2.1 (TX5 7).2.2.1 ∈ gtbl := gt_of ⟨List.mem_of_getElem? (i := 643) (by decide +kernel), by decide +kernel⟩
theorem fX5_35 : Cond.fieldLink RX5 35 (TX5 13).1 (TX5 13).2.1 (TX5 13).2.2.1 ∈ gtbl := gt_of ⟨List.mem_of_getElem? (i := 649) (by decide +kernel), by decide +kernel⟩
theorem fX5_38 : Cond.fieldLink RX5 38 (TX5 14).1 (TX5 14).2.1 (TX5 14).2.2.1 ∈ gtbl := gt_of ⟨List.mem_of_getElem? (i := 650) (by decide +kernel), by decide +kernel⟩
theorem fX5_41 : Cond.fieldLink RX5 41 (TX5 15).1 (TX5 15).2.1 (TX5 15).2.2.1 ∈ gtbl := gt_of ⟨List.mem_of_getElem? (i := 651) (by decide +kernel), by decide +kernel⟩
theorem fX5_44 : Cond.fieldLink RX5 44 (TX5 16).1 (TX5 16).2.1 (TX5 16).2.2.1 ∈ gtbl := gt_of ⟨List.mem_of_getElem? (i := 652) (by decide +kernel), by decide +kernel⟩
theorem fX5_47 : Cond.fieldLink RX5 47 (TX5 17).1 (TX5 17).2.1 (TX5 17).2.2.1 ∈ gtbl := gt_of ⟨List.mem_of_getElem? (i := 653) (by decide +kernel), by decide +kernel⟩
theorem fX5_50 : Cond.fieldLink RX5 50 (TX5 18).1 (TX5 18).2.1 (TX5 18).2.2.1 ∈ gtbl := gt_of ⟨List.mem_of_getElem? (i := 654) (by decide +kernel), by decide +kernel⟩
theorem fX5_53 : Cond.fieldLink RX5 53 (TX5 19).1 (TX5 19).2.1 (TX5 19).2.2.1 ∈ gtbl := gt_of ⟨List.mem_of_getElem? (i := 655) (by decide +kernel), by decide +kernel⟩
theorem fX5_56 : Cond.fieldLink RX5 56 (TX5 20).1 (TX5 20).2.1 (TX5 20).2.2.1 ∈ gtbl := gt_of ⟨List.mem_of_getElem? (i := 656) (by decide +kernel), by decide +kernel⟩
theorem fX5_59 : Cond.fieldLink RX5 59 (TX5 21).1 (TX5 21).2.1 (TX5 21).2.2.1 ∈ gtbl := gt_of ⟨List.mem_of_getElem? (i := 657) (by decide +kernel), by decide +kernel⟩
theorem fX5_63 : Cond.fieldLink RX5 63 (TX5 22).1 (TX5 22).2.1 (TX5 22).2.2.1 ∈ gtbl := gt_of ⟨List.mem_of_getElem? (i := 658) (by decide +kernel), by decide +kernel⟩
theorem fX5_66 : Cond.fieldLink RX5 66 (TX5 23).1 (TX5 23).2.1 (TX5 23).2.2.1 ∈ gtbl := gt_of ⟨List.mem_of_getElem? (i := 659) (by decide +kernel), by decide +kernel⟩
theorem fX5_69 : Cond.fieldLink RX5 69 (TX5 24).1 (TX5 24).2.1 (TX5 24).2.2.1 ∈ gtbl := gt_of ⟨List.mem_of_getElem? (i := 660) (by decide +kernel), by decide +kernel⟩
theorem fX5_72 : Cond.fieldLink RX5 72 (TX5 27).1 (TX5 27).2.1 (TX5 27).2.2.1 ∈ gtbl := gt_of ⟨List.mem_of_getElem? (i := 663) (by decide +kernel), by decide +kernel⟩
theorem fX5_75 : Cond.fieldLink RX5 75 (TX5 28).1 (TX5 28).2.1 (TX5 28).2.2.1 ∈ gtbl := gt_of ⟨List.mem_of_getElem? (i := 664) (by decide +kernel), by decide +kernel⟩
theorem fX5_82 : Cond.fieldLink RX5 82 (TX5 8).1 (TX5 8).2.1 (TX5 8).2.2.1 ∈ gtbl := gt_of ⟨List.mem_of_getElem? (i := 644) (by decide +kernel), by decide +kernel⟩
theorem fX5_85 : Cond.fieldLink RX5 85 (TX5 9).1 (TX5 9).2.1 (TX5 9).2.2.1 ∈ gtbl := gt_of ⟨List.mem_of_getElem? (i := 645) (by decide +kernel), by decide +kernel⟩
theorem fX5_88 : Cond.fieldLink RX5 88 (TX5 10).1 (TX5 10).2.1 (TX5 10).2.2.1 ∈ gtbl := gt_of ⟨List.mem_of_getElem? (i := 646) (by decide +kernel), by decide +kernel⟩
theorem fX5_91 : Cond.fieldLink RX5 91 (TX5 11).1 (TX5 11).2.1 (TX5 11).2.2.1 ∈ gtbl := gt_of ⟨List.mem_of_getElem? (i := 647) (by decide +kernel), by decide +kernel⟩
theorem fX5_95 : Cond.fieldLink RX5 95 (TX5 12).1 (TX5 12).2.1 (TX5 12).2.2.1 ∈ gtbl := gt_of ⟨List.mem_of_getElem? (i := 648) (by decide +kernel), by decide +kernel⟩
theorem fX5_149 : Cond.fieldLink RX5 149 (TX5 25).1 (TX5 25).2.1 (TX5 25).2.2.1 ∈ gtbl := gt_of ⟨List.mem_of_getElem? (i := 661) (by decide +kernel), by decide +kernel⟩
theorem fX5_160 : Cond.fieldLink RX5 160 (TX5 26).1 (TX5 26).2.1 (TX5 26).2.2.1 ∈ gtbl := gt_of ⟨List.mem_of_getElem? (i := 662) (by decide +kernel), by decide +kernel⟩
theorem oX4_1 : Cond.methodLink RX4 1 Lib.objectInit ∈ gtbl ∧ Cond.instanceMethod Lib.objectInit ∈ gtbl ∧ Cond.code Lib.objectInit ⟨#[0xb1]⟩ 1 none ∈ gtbl := ⟨gt_of ⟨List.mem_of_getElem? (i := 81) (by decide +kernel), by decide +kernel⟩, gt_of ⟨List.mem_of_getElem? (i := 82) (by decide +kernel), by decide +kernel⟩, gt_of ⟨List.mem_of_getElem? (i := 83) (by decide +kernel), by decide +kernel⟩⟩
theorem oX4_9 : OkM mX1_init 0 ∧ Cond.code mX1_init.1 mX1_init.2.1 mX1_init.2.2.1 mX1_init.2.2.2 ∈ gtbl ∧ Cond.initialized mX1_init.1.cls ∈ gtbl ∧ Cond.methodLinkNest RX4 9 mX1_init.1 "MeshSums" ∈ lw_tbl ∧ Cond.instanceMethod mX1_init.1 ∈ gtbl ∧ mX1_init.1.name = "<init>" := ⟨by decide +kernel, gt_of ⟨List.mem_of_getElem? (i := 88) (by decide +kernel), by decide +kernel⟩, gt_of ⟨List.mem_of_getElem? (i := 68) (by decide +kernel), by decide +kernel⟩, List.mem_of_getElem? (i := 86) (by decide +kernel), ⟨gt_of ⟨List.mem_of_getElem? (i := 87) (by decide +kernel), by decide +kernel⟩, by decide +kernel⟩⟩
theorem oX4_18 : OkM mX3_init 1 ∧ Cond.code mX3_init.1 mX3_init.2.1 mX3_init.2.2.1 mX3_init.2.2.2 ∈ gtbl ∧ Cond.initialized mX3_init.1.cls ∈ gtbl ∧ Cond.methodLinkNest RX4 18 mX3_init.1 "MeshSums" ∈ lw_tbl ∧ Cond.instanceMethod mX3_init.1 ∈ gtbl ∧ mX3_init.1.name = "<init>" := ⟨by decide +kernel, gt_of ⟨List.mem_of_getElem? (i := 141) (by decide +kernel), by decide +kernel⟩, gt_of ⟨List.mem_of_getElem? (i := 70) (by decide +kernel), by decide +kernel⟩, List.mem_of_getElem? (i := 139) (by decide +kernel), ⟨gt_of ⟨List.mem_of_getElem? (i := 140) (by decide +kernel), by decide +kernel⟩, by decide +kernel⟩⟩
theorem oX4_27 : OkM mX0_init 1 ∧ Cond.code mX0_init.1 mX0_init.2.1 mX0_init.2.2.1 mX0_init.2.2.2 ∈ gtbl ∧ Cond.initialized mX0_init.1.cls ∈ gtbl ∧ Cond.methodLinkNest RX4 27 mX0_init.1 "MeshSums" ∈ lw_tbl ∧ Cond.instanceMethod mX0_init.1 ∈ gtbl ∧ mX0_init.1.name = "<init>" := ⟨by decide +kernel, gt_of ⟨List.mem_of_getElem? (i := 187) (by decide +kernel), by decide +kernel⟩, gt_of ⟨List.mem_of_getElem? (i := 71) (by decide +kernel), by decide +kernel⟩, List.mem_of_getElem? (i := 185) (by decide +kernel), ⟨gt_of ⟨List.mem_of_getElem? (i := 186) (by decide +kernel), by decide +kernel⟩, by decide +kernel⟩⟩
theorem oX4_34 : OkM mX2_init 0 ∧ Cond.code mX2_init.1 mX2_init.2.1 mX2_init.2.2.1 mX2_init.2.2.2 ∈ gtbl ∧ Cond.initialized mX2_init.1.cls ∈ gtbl ∧ Cond.methodLinkNest RX4 34 mX2_init.1 "MeshSums" ∈ lw_tbl ∧ Cond.instanceMethod mX2_init.1 ∈ gtbl ∧ mX2_init.1.name = "<init>" := ⟨by decide +kernel, gt_of ⟨List.mem_of_getElem? (i := 207) (by decide +kernel), by decide +kernel⟩, gt_of ⟨List.mem_of_getElem? (i := 72) (by decide +kernel), by decide +kernel⟩, List.mem_of_getElem? (i := 205) (by decide +kernel), ⟨gt_of ⟨List.mem_of_getElem? (i := 206) (by decide +kernel), by decide +kernel⟩, by decide +kernel⟩⟩
theorem oX4_39 : OkM mX4_within 3 ∧ Cond.code mX4_within.1 mX4_within.2.1 mX4_within.2.2.1 mX4_within.2.2.2 ∈ gtbl ∧ Cond.initialized mX4_within.1.cls ∈ gtbl ∧ Cond.methodLink RX4 39 mX4_within.1 ∈ gtbl ∧ Cond.static mX4_within.1 ∈ gtbl ∧ True := ⟨by decide +kernel, gt_of ⟨List.mem_of_getElem? (i := 267) (by decide +kernel), by decide +kernel⟩, gt_of ⟨List.mem_of_getElem? (i := 67) (by decide +kernel), by decide +kernel⟩, gt_of ⟨List.mem_of_getElem? (i := 265) (by decide +kernel), by decide +kernel⟩, ⟨gt_of ⟨List.mem_of_getElem? (i := 266) (by decide +kernel), by decide +kernel⟩, trivial⟩⟩
theorem oX4_43 : OkM mX1_renew 3 ∧ Cond.code mX1_renew.1 mX1_renew.2.1 mX1_renew.2.2.1 mX1_renew.2.2.2 ∈ gtbl ∧ Cond.initialized mX1_renew.1.cls ∈ gtbl ∧ Cond.methodLinkNest RX4 43 mX1_renew.1 "MeshSums" ∈ lw_tbl ∧ Cond.instanceMethod mX1_renew.1 ∈ gtbl ∧ Cond.selects mX1_renew.1.cls mX1_renew.1 mX1_renew.1 ∈ gtbl := ⟨by decide +kernel, gt_of ⟨List.mem_of_getElem? (i := 93) (by decide +kernel), by decide +kernel⟩, gt_of ⟨List.mem_of_getElem? (i := 68) (by decide +kernel), by decide +kernel⟩, List.mem_of_getElem? (i := 268) (by decide +kernel), ⟨gt_of ⟨List.mem_of_getElem? (i := 92) (by decide +kernel), by decide +kernel⟩, gt_of ⟨List.mem_of_getElem? (i := 0) (by decide +kernel), by decide +kernel⟩⟩⟩
theorem oX4_47 : OkM mX3_drop 0 ∧ Cond.code mX3_drop.1 mX3_drop.2.1 mX3_drop.2.2.1 mX3_drop.2.2.2 ∈ gtbl ∧ Cond.initialized mX3_drop.1.cls ∈ gtbl ∧ Cond.methodLinkNest RX4 47 mX3_drop.1 "MeshSums" ∈ lw_tbl ∧ Cond.instanceMethod mX3_drop.1 ∈ gtbl ∧ Cond.selects mX3_drop.1.cls mX3_drop.1 mX3_drop.1 ∈ gtbl := ⟨by decide +kernel, gt_of ⟨List.mem_of_getElem? (i := 272) (by decide +kernel), by decide +kernel⟩, gt_of ⟨List.mem_of_getElem? (i := 70) (by decide +kernel), by decide +kernel⟩, List.mem_of_getElem? (i := 269) (by decide +kernel), ⟨gt_of ⟨List.mem_of_getElem? (i := 271) (by decide +kernel), by decide +kernel⟩, gt_of ⟨List.mem_of_getElem? (i := 1) (by decide +kernel), by decide +kernel⟩⟩⟩
theorem oX4_54 : OkM mX1_hasCell 2 ∧ Cond.code mX1_hasCell.1 mX1_hasCell.2.1 mX1_hasCell.2.2.1 mX1_hasCell.2.2.2 ∈ gtbl ∧ Cond.initialized mX1_hasCell.1.cls ∈ gtbl ∧ Cond.methodLinkNest RX4 54 mX1_hasCell.1 "MeshSums" ∈ lw_tbl ∧ Cond.instanceMethod mX1_hasCell.1 ∈ gtbl ∧ Cond.selects mX1_hasCell.1.cls mX1_hasCell.1 mX1_hasCell.1 ∈ gtbl := ⟨by decide +kernel, gt_of ⟨List.mem_of_getElem? (i := 280) (by decide +kernel), by decide +kernel⟩, gt_of ⟨List.mem_of_getElem? (i := 68) (by decide +kernel), by decide +kernel⟩, List.mem_of_getElem? (i := 277) (by decide +kernel), ⟨gt_of ⟨List.mem_of_getElem? (i := 279) (by decide +kernel), by decide +kernel⟩, gt_of ⟨List.mem_of_getElem? (i := 2) (by decide +kernel), by decide +kernel⟩⟩⟩
theorem oX4_62 : OkM mX1_place 2 ∧ Cond.code mX1_place.1 mX1_place.2.1 mX1_place.2.2.1 mX1_place.2.2.2 ∈ gtbl ∧ Cond.initialized mX1_place.1.cls ∈ gtbl ∧ Cond.methodLinkNest RX4 62 mX1_place.1 "MeshSums" ∈ lw_tbl ∧ Cond.instanceMethod mX1_place.1 ∈ gtbl ∧ Cond.selects mX1_place.1.cls mX1_place.1 mX1_place.1 ∈ gtbl := ⟨by decide +kernel, gt_of ⟨List.mem_of_getElem? (i := 285) (by decide +kernel), by decide +kernel⟩, gt_of ⟨List.mem_of_getElem? (i := 68) (by decide +kernel), by decide +kernel⟩, List.mem_of_getElem? (i := 282) (by decide +kernel), ⟨gt_of ⟨List.mem_of_getElem? (i := 284) (by decide +kernel), by decide +kernel⟩, gt_of ⟨List.mem_of_getElem? (i := 3) (by decide +kernel), by decide +kernel⟩⟩⟩
theorem oX4_66 : OkM mX1_sticksAtAnother 2 ∧ Cond.code mX1_sticksAtAnother.1 mX1_sticksAtAnother.2.1 mX1_sticksAtAnother.2.2.1 mX1_sticksAtAnother.2.2.2 ∈ gtbl ∧ Cond.initialized mX1_sticksAtAnother.1.cls ∈ gtbl ∧ Cond.methodLinkNest RX4 66 mX1_sticksAtAnother.1 "MeshSums" ∈ lw_tbl ∧ Cond.instanceMethod mX1_sticksAtAnother.1 ∈ gtbl ∧ Cond.selects mX1_sticksAtAnother.1.cls mX1_sticksAtAnother.1 mX1_sticksAtAnother.1 ∈ gtbl := ⟨by decide +kernel, gt_of ⟨List.mem_of_getElem? (i := 289) (by decide +kernel), by decide +kernel⟩, gt_of ⟨List.mem_of_getElem? (i := 68) (by decide +kernel), by decide +kernel⟩, List.mem_of_getElem? (i := 286) (by decide +kernel), ⟨gt_of ⟨List.mem_of_getElem? (i := 288) (by decide +kernel), by decide +kernel⟩, gt_of ⟨List.mem_of_getElem? (i := 4) (by decide +kernel), by decide +kernel⟩⟩⟩
theorem oX4_69 : OkM mX1_put 2 ∧ Cond.code mX1_put.1 mX1_put.2.1 mX1_put.2.2.1 mX1_put.2.2.2 ∈ gtbl ∧ Cond.initialized mX1_put.1.cls ∈ gtbl ∧ Cond.methodLinkNest RX4 69 mX1_put.1 "MeshSums" ∈ lw_tbl ∧ Cond.instanceMethod mX1_put.1 ∈ gtbl ∧ Cond.selects mX1_put.1.cls mX1_put.1 mX1_put.1 ∈ gtbl := ⟨by decide +kernel, gt_of ⟨List.mem_of_getElem? (i := 297) (by decide +kernel), by decide +kernel⟩, gt_of ⟨List.mem_of_getElem? (i := 68) (by decide +kernel), by decide +kernel⟩, List.mem_of_getElem? (i := 294) (by decide +kernel), ⟨gt_of ⟨List.mem_of_getElem? (i := 296) (by decide +kernel), by decide +kernel⟩, gt_of ⟨List.mem_of_getElem? (i := 6) (by decide +kernel), by decide +kernel⟩⟩⟩
theorem oX4_73 : OkM mX1_hold 2 ∧ Cond.code mX1_hold.1 mX1_hold.2.1 mX1_hold.2.2.1 mX1_hold.2.2.2 ∈ gtbl ∧ Cond.initialized mX1_hold.1.cls ∈ gtbl ∧ Cond.methodLinkNest RX4 73 mX1_hold.1 "MeshSums" ∈ lw_tbl ∧ Cond.instanceMethod mX1_hold.1 ∈ gtbl ∧ Cond.selects mX1_hold.1.cls mX1_hold.1 mX1_hold.1 ∈ gtbl := ⟨by decide +kernel, gt_of ⟨List.mem_of_getElem? (i := 305) (by decide +kernel), by decide +kernel⟩, gt_of ⟨List.mem_of_getElem? (i := 68) (by decide +kernel), by decide +kernel⟩, List.mem_of_getElem? (i := 302) (by decide +kernel), ⟨gt_of ⟨List.mem_of_getElem? (i := 304) (by decide +kernel), by decide +kernel⟩, gt_of ⟨List.mem_of_getElem? (i := 7) (by decide +kernel), by decide +kernel⟩⟩⟩
theorem oX4_76 : OkM mX1_tellCell 2 ∧ Cond.code mX1_tellCell.1 mX1_tellCell.2.1 mX1_tellCell.2.2.1 mX1_tellCell.2.2.2 ∈ gtbl ∧ Cond.initialized mX1_tellCell.1.cls ∈ gtbl ∧ Cond.methodLinkNest RX4 76 mX1_tellCell.1 "MeshSums" ∈ lw_tbl ∧ Cond.instanceMethod mX1_tellCell.1 ∈ gtbl ∧ Cond.selects mX1_tellCell.1.cls mX1_tellCell.1 mX1_tellCell.1 ∈ gtbl := ⟨by decide +kernel, gt_of ⟨List.mem_of_getElem? (i := 313) (by decide +kernel), by decide +kernel⟩, gt_of ⟨List.mem_of_getElem? (i := 68) (by decide +kernel), by decide +kernel⟩, List.mem_of_getElem? (i := 310) (by decide +kernel), ⟨gt_of ⟨List.mem_of_getElem? (i := 312) (by decide +kernel), by decide +kernel⟩, gt_of ⟨List.mem_of_getElem? (i := 8) (by decide +kernel), by decide +kernel⟩⟩⟩
theorem oX4_92 : OkM mX1_columnSum 1 ∧ Cond.code mX1_columnSum.1 mX1_columnSum.2.1 mX1_columnSum.2.2.1 mX1_columnSum.2.2.2 ∈ gtbl ∧ Cond.initialized mX1_columnSum.1.cls ∈ gtbl ∧ Cond.methodLinkNest RX4 92 mX1_columnSum.1 "MeshSums" ∈ lw_tbl ∧ Cond.instanceMethod mX1_columnSum.1 ∈ gtbl ∧ Cond.selects mX1_columnSum.1.cls mX1_columnSum.1 mX1_columnSum.1 ∈ gtbl := ⟨by decide +kernel, gt_of ⟨List.mem_of_getElem? (i := 329) (by decide +kernel), by decide +kernel⟩, gt_of ⟨List.mem_of_getElem? (i := 68) (by decide +kernel), by decide +kernel⟩, List.mem_of_getElem? (i := 326) (by decide +kernel), ⟨gt_of ⟨List.mem_of_getElem? (i := 328) (by decide +kernel), by decide +kernel⟩, gt_of ⟨List.mem_of_getElem? (i := 9) (by decide +kernel), by decide +kernel⟩⟩⟩
theorem oX4_96 : OkM mX1_convert 1 ∧ Cond.code mX1_convert.1 mX1_convert.2.1 mX1_convert.2.2.1 mX1_convert.2.2.2 ∈ gtbl ∧ Cond.initialized mX1_convert.1.cls ∈ gtbl ∧ Cond.methodLinkNest RX4 96 mX1_convert.1 "MeshSums" ∈ lw_tbl ∧ Cond.instanceMethod mX1_convert.1 ∈ gtbl ∧ Cond.selects mX1_convert.1.cls mX1_convert.1 mX1_convert.1 ∈ gtbl := ⟨by decide +kernel, gt_of ⟨List.mem_of_getElem? (i := 334) (by decide +kernel), by decide +kernel⟩, gt_of ⟨List.mem_of_getElem? (i := 68) (by decide +kernel), by decide +kernel⟩, List.mem_of_getElem? (i := 331) (by decide +kernel), ⟨gt_of ⟨List.mem_of_getElem? (i := 333) (by decide +kernel), by decide +kernel⟩, gt_of ⟨List.mem_of_getElem? (i := 10) (by decide +kernel), by decide +kernel⟩⟩⟩
theorem oX4_99 : OkM mX3_begin 3 ∧ Cond.code mX3_begin.1 mX3_begin.2.1 mX3_begin.2.2.1 mX3_begin.2.2.2 ∈ gtbl ∧ Cond.initialized mX3_begin.1.cls ∈ gtbl ∧ Cond.methodLinkNest RX4 99 mX3_begin.1 "MeshSums" ∈ lw_tbl ∧ Cond.instanceMethod mX3_begin.1 ∈ gtbl ∧ Cond.selects mX3_begin.1.cls mX3_begin.1 mX3_begin.1 ∈ gtbl := ⟨by decide +kernel, gt_of ⟨List.mem_of_getElem? (i := 345) (by decide +kernel), by decide +kernel⟩, gt_of ⟨List.mem_of_getElem? (i := 70) (by decide +kernel), by decide +kernel⟩, List.mem_of_getElem? (i := 342) (by decide +kernel), ⟨gt_of ⟨List.mem_of_getElem? (i := 344) (by decide +kernel), by decide +kernel⟩, gt_of ⟨List.mem_of_getElem? (i := 11) (by decide +kernel), by decide +kernel⟩⟩⟩
theorem oX4_112 : OkM mX3_exchange 3 ∧ Cond.code mX3_exchange.1 mX3_exchange.2.1 mX3_exchange.2.2.1 mX3_exchange.2.2.2 ∈ gtbl ∧ Cond.initialized mX3_exchange.1.cls ∈ gtbl ∧ Cond.methodLinkNest RX4 112 mX3_exchange.1 "MeshSums" ∈ lw_tbl ∧ Cond.instanceMethod mX3_exchange.1 ∈ gtbl ∧ Cond.selects mX3_exchange.1.cls mX3_exchange.1 mX3_exchange.1 ∈ gtbl := ⟨by decide +kernel, gt_of ⟨List.mem_of_getElem? (i := 362) (by decide +kernel), by decide +kernel⟩, gt_of ⟨List.mem_of_getElem? (i := 70) (by decide +kernel), by decide +kernel⟩, List.mem_of_getElem? (i := 359) (by decide +kernel), ⟨gt_of ⟨List.mem_of_getElem? (i := 361) (by decide +kernel), by decide +kernel⟩, gt_of ⟨List.mem_of_getElem? (i := 13) (by decide +kernel), by decide +kernel⟩⟩⟩
theorem oX4_116 : OkM mX3_exists 0 ∧ Cond.code mX3_exists.1 mX3_exists.2.1 mX3_exists.2.2.1 mX3_exists.2.2.2 ∈ gtbl ∧ Cond.initialized mX3_exists.1.cls ∈ gtbl ∧ Cond.methodLinkNest RX4 116 mX3_exists.1 "MeshSums" ∈ lw_tbl ∧ Cond.instanceMethod mX3_exists.1 ∈ gtbl ∧ Cond.selects mX3_exists.1.cls mX3_exists.1 mX3_exists.1 ∈ gtbl := ⟨by decide +kernel, gt_of ⟨List.mem_of_getElem? (i := 374) (by decide +kernel), by decide +kernel⟩, gt_of ⟨List.mem_of_getElem? (i := 70) (by decide +kernel), by decide +kernel⟩, List.mem_of_getElem? (i := 371) (by decide +kernel), ⟨gt_of ⟨List.mem_of_getElem? (i := 373) (by decide +kernel), by decide +kernel⟩, gt_of ⟨List.mem_of_getElem? (i := 15) (by decide +kernel), by decide +kernel⟩⟩⟩
theorem oX4_120 : OkM mX3_layAll 0 ∧ Cond.code mX3_layAll.1 mX3_layAll.2.1 mX3_layAll.2.2.1 mX3_layAll.2.2.2 ∈ gtbl ∧ Cond.initialized mX3_layAll.1.cls ∈ gtbl ∧ Cond.methodLinkNest RX4 120 mX3_layAll.1 "MeshSums" ∈ lw_tbl ∧ Cond.instanceMethod mX3_layAll.1 ∈ gtbl ∧ Cond.selects mX3_layAll.1.cls mX3_layAll.1 mX3_layAll.1 ∈ gtbl := ⟨by decide +kernel, gt_of ⟨List.mem_of_getElem? (i := 378) (by decide +kernel), by decide +kernel⟩, gt_of ⟨List.mem_of_getElem? (i := 70) (by decide +kernel), by decide +kernel⟩, List.mem_of_getElem? (i := 375) (by decide +kernel), ⟨gt_of ⟨List.mem_of_getElem? (i := 377) (by decide +kernel), by decide +kernel⟩, gt_of ⟨List.mem_of_getElem? (i := 16) (by decide +kernel), by decide +kernel⟩⟩⟩
theorem oX4_129 : OkM mX3_meshProduct 1 ∧ Cond.code mX3_meshProduct.1 mX3_meshProduct.2.1 mX3_meshProduct.2.2.1 mX3_meshProduct.2.2.2 ∈ gtbl ∧ Cond.initialized mX3_meshProduct.1.cls ∈ gtbl ∧ Cond.methodLinkNest RX4 129 mX3_meshProduct.1 "MeshSums" ∈ lw_tbl ∧ Cond.instanceMethod mX3_meshProduct.1 ∈ gtbl ∧ Cond.selects mX3_meshProduct.1.cls mX3_meshProduct.1 mX3_meshProduct.1 ∈ gtbl := ⟨by decide +kernel, gt_of ⟨List.mem_of_getElem? (i := 401) (by decide +kernel), by decide +kernel⟩, gt_of ⟨List.mem_of_getElem? (i := 70) (by decide +kernel), by decide +kernel⟩, List.mem_of_getElem? (i := 398) (by decide +kernel), ⟨gt_of ⟨List.mem_of_getElem? (i := 400) (by decide +kernel), by decide +kernel⟩, gt_of ⟨List.mem_of_getElem? (i := 19) (by decide +kernel), by decide +kernel⟩⟩⟩
theorem oX4_133 : OkM mX3_trueProduct 1 ∧ Cond.code mX3_trueProduct.1 mX3_trueProduct.2.1 mX3_trueProduct.2.2.1 mX3_trueProduct.2.2.2 ∈ gtbl ∧ Cond.initialized mX3_trueProduct.1.cls ∈ gtbl ∧ Cond.methodLinkNest RX4 133 mX3_trueProduct.1 "MeshSums" ∈ lw_tbl ∧ Cond.instanceMethod mX3_trueProduct.1 ∈ gtbl ∧ Cond.selects mX3_trueProduct.1.cls mX3_trueProduct.1 mX3_trueProduct.1 ∈ gtbl := ⟨by decide +kernel, gt_of ⟨List.mem_of_getElem? (i := 414) (by decide +kernel), by decide +kernel⟩, gt_of ⟨List.mem_of_getElem? (i := 70) (by decide +kernel), by decide +kernel⟩, List.mem_of_getElem? (i := 411) (by decide +kernel), ⟨gt_of ⟨List.mem_of_getElem? (i := 413) (by decide +kernel), by decide +kernel⟩, gt_of ⟨List.mem_of_getElem? (i := 21) (by decide +kernel), by decide +kernel⟩⟩⟩
theorem oX4_136 : OkM mX3_bitsEnough 0 ∧ Cond.code mX3_bitsEnough.1 mX3_bitsEnough.2.1 mX3_bitsEnough.2.2.1 mX3_bitsEnough.2.2.2 ∈ gtbl ∧ Cond.initialized mX3_bitsEnough.1.cls ∈ gtbl ∧ Cond.methodLinkNest RX4 136 mX3_bitsEnough.1 "MeshSums" ∈ lw_tbl ∧ Cond.instanceMethod mX3_bitsEnough.1 ∈ gtbl ∧ Cond.selects mX3_bitsEnough.1.cls mX3_bitsEnough.1 mX3_bitsEnough.1 ∈ gtbl := ⟨by decide +kernel, gt_of ⟨List.mem_of_getElem? (i := 422) (by decide +kernel), by decide +kernel⟩, gt_of ⟨List.mem_of_getElem? (i := 70) (by decide +kernel), by decide +kernel⟩, List.mem_of_getElem? (i := 419) (by decide +kernel), ⟨gt_of ⟨List.mem_of_getElem? (i := 421) (by decide +kernel), by decide +kernel⟩, gt_of ⟨List.mem_of_getElem? (i := 22) (by decide +kernel), by decide +kernel⟩⟩⟩
theorem oX4_139 : OkM mX3_mapAnew 0 ∧ Cond.code mX3_mapAnew.1 mX3_mapAnew.2.1 mX3_mapAnew.2.2.1 mX3_mapAnew.2.2.2 ∈ gtbl ∧ Cond.initialized mX3_mapAnew.1.cls ∈ gtbl ∧ Cond.methodLinkNest RX4 139 mX3_mapAnew.1 "MeshSums" ∈ lw_tbl ∧ Cond.instanceMethod mX3_mapAnew.1 ∈ gtbl ∧ Cond.selects mX3_mapAnew.1.cls mX3_mapAnew.1 mX3_mapAnew.1 ∈ gtbl := ⟨by decide +kernel, gt_of ⟨List.mem_of_getElem? (i := 430) (by decide +kernel), by decide +kernel⟩, gt_of ⟨List.mem_of_getElem? (i := 70) (by decide +kernel), by decide +kernel⟩, List.mem_of_getElem? (i := 427) (by decide +kernel), ⟨gt_of ⟨List.mem_of_getElem? (i := 429) (by decide +kernel), by decide +kernel⟩, gt_of ⟨List.mem_of_getElem? (i := 23) (by decide +kernel), by decide +kernel⟩⟩⟩
theorem oX4_145 : OkM mX0_takeAnew 0 ∧ Cond.code mX0_takeAnew.1 mX0_takeAnew.2.1 mX0_takeAnew.2.2.1 mX0_takeAnew.2.2.2 ∈ gtbl ∧ Cond.initialized mX0_takeAnew.1.cls ∈ gtbl ∧ Cond.methodLinkNest RX4 145 mX0_takeAnew.1 "MeshSums" ∈ lw_tbl ∧ Cond.instanceMethod mX0_takeAnew.1 ∈ gtbl ∧ Cond.selects mX0_takeAnew.1.cls mX0_takeAnew.1 mX0_takeAnew.1 ∈ gtbl := ⟨by decide +kernel, gt_of ⟨List.mem_of_getElem? (i := 475) (by decide +kernel), by decide +kernel⟩, gt_of ⟨List.mem_of_getElem? (i := 71) (by decide +kernel), by decide +kernel⟩, List.mem_of_getElem? (i := 472) (by decide +kernel), ⟨gt_of ⟨List.mem_of_getElem? (i := 474) (by decide +kernel), by decide +kernel⟩, gt_of ⟨List.mem_of_getElem? (i := 30) (by decide +kernel), by decide +kernel⟩⟩⟩
theorem oX4_148 : OkM mX0_wrongColumn 0 ∧ Cond.code mX0_wrongColumn.1 mX0_wrongColumn.2.1 mX0_wrongColumn.2.2.1 mX0_wrongColumn.2.2.2 ∈ gtbl ∧ Cond.initialized mX0_wrongColumn.1.cls ∈ gtbl ∧ Cond.methodLinkNest RX4 148 mX0_wrongColumn.1 "MeshSums" ∈ lw_tbl ∧ Cond.instanceMethod mX0_wrongColumn.1 ∈ gtbl ∧ Cond.selects mX0_wrongColumn.1.cls mX0_wrongColumn.1 mX0_wrongColumn.1 ∈ gtbl := ⟨by decide +kernel, gt_of ⟨List.mem_of_getElem? (i := 484) (by decide +kernel), by decide +kernel⟩, gt_of ⟨List.mem_of_getElem? (i := 71) (by decide +kernel), by decide +kernel⟩, List.mem_of_getElem? (i := 481) (by decide +kernel), ⟨gt_of ⟨List.mem_of_getElem? (i := 483) (by decide +kernel), by decide +kernel⟩, gt_of ⟨List.mem_of_getElem? (i := 31) (by decide +kernel), by decide +kernel⟩⟩⟩
theorem oX4_151 : OkM mX1_ageAll 0 ∧ Cond.code mX1_ageAll.1 mX1_ageAll.2.1 mX1_ageAll.2.2.1 mX1_ageAll.2.2.2 ∈ gtbl ∧ Cond.initialized mX1_ageAll.1.cls ∈ gtbl ∧ Cond.methodLinkNest RX4 151 mX1_ageAll.1 "MeshSums" ∈ lw_tbl ∧ Cond.instanceMethod mX1_ageAll.1 ∈ gtbl ∧ Cond.selects mX1_ageAll.1.cls mX1_ageAll.1 mX1_ageAll.1 ∈ gtbl := ⟨by decide +kernel, gt_of ⟨List.mem_of_getElem? (i := 500) (by decide +kernel), by decide +kernel⟩, gt_of ⟨List.mem_of_getElem? (i := 68) (by decide +kernel), by decide +kernel⟩, List.mem_of_getElem? (i := 497) (by decide +kernel), ⟨gt_of ⟨List.mem_of_getElem? (i := 499) (by decide +kernel), by decide +kernel⟩, gt_of ⟨List.mem_of_getElem? (i := 33) (by decide +kernel), by decide +kernel⟩⟩⟩
theorem oX4_154 : OkM mX1_sticks 1 ∧ Cond.code mX1_sticks.1 mX1_sticks.2.1 mX1_sticks.2.2.1 mX1_sticks.2.2.2 ∈ gtbl ∧ Cond.initialized mX1_sticks.1.cls ∈ gtbl ∧ Cond.methodLinkNest RX4 154 mX1_sticks.1 "MeshSums" ∈ lw_tbl ∧ Cond.instanceMethod mX1_sticks.1 ∈ gtbl ∧ Cond.selects mX1_sticks.1.cls mX1_sticks.1 mX1_sticks.1 ∈ gtbl := ⟨by decide +kernel, gt_of ⟨List.mem_of_getElem? (i := 293) (by decide +kernel), by decide +kernel⟩, gt_of ⟨List.mem_of_getElem? (i := 68) (by decide +kernel), by decide +kernel⟩, List.mem_of_getElem? (i := 509) (by decide +kernel), ⟨gt_of ⟨List.mem_of_getElem? (i := 292) (by decide +kernel), by decide +kernel⟩, gt_of ⟨List.mem_of_getElem? (i := 5) (by decide +kernel), by decide +kernel⟩⟩⟩
theorem oX4_158 : OkM mX1_pulseTo 2 ∧ Cond.code mX1_pulseTo.1 mX1_pulseTo.2.1 mX1_pulseTo.2.2.1 mX1_pulseTo.2.2.2 ∈ gtbl ∧ Cond.initialized mX1_pulseTo.1.cls ∈ gtbl ∧ Cond.methodLinkNest RX4 158 mX1_pulseTo.1 "MeshSums" ∈ lw_tbl ∧ Cond.instanceMethod mX1_pulseTo.1 ∈ gtbl ∧ Cond.selects mX1_pulseTo.1.cls mX1_pulseTo.1 mX1_pulseTo.1 ∈ gtbl := ⟨by decide +kernel, gt_of ⟨List.mem_of_getElem? (i := 513) (by decide +kernel), by decide +kernel⟩, gt_of ⟨List.mem_of_getElem? (i := 68) (by decide +kernel), by decide +kernel⟩, List.mem_of_getElem? (i := 510) (by decide +kernel), ⟨gt_of ⟨List.mem_of_getElem? (i := 512) (by decide +kernel), by decide +kernel⟩, gt_of ⟨List.mem_of_getElem? (i := 35) (by decide +kernel), by decide +kernel⟩⟩⟩
theorem oX4_161 : OkM mX4_fullTable 1 ∧ Cond.code mX4_fullTable.1 mX4_fullTable.2.1 mX4_fullTable.2.2.1 mX4_fullTable.2.2.2 ∈ gtbl ∧ Cond.initialized mX4_fullTable.1.cls ∈ gtbl ∧ Cond.methodLink RX4 161 mX4_fullTable.1 ∈ gtbl ∧ Cond.static mX4_fullTable.1 ∈ gtbl ∧ True := ⟨by decide +kernel, gt_of ⟨List.mem_of_getElem? (i := 520) (by decide +kernel), by decide +kernel⟩, gt_of ⟨List.mem_of_getElem? (i := 67) (by decide +kernel), by decide +kernel⟩, gt_of ⟨List.mem_of_getElem? (i := 518) (by decide +kernel), by decide +kernel⟩, ⟨gt_of ⟨List.mem_of_getElem? (i := 519) (by decide +kernel), by decide +kernel⟩, trivial⟩⟩
theorem oX4_164 : OkM mX2_seek 3 ∧ Cond.code mX2_seek.1 mX2_seek.2.1 mX2_seek.2.2.1 mX2_seek.2.2.2 ∈ gtbl ∧ Cond.initialized mX2_seek.1.cls ∈ gtbl ∧ Cond.methodLinkNest RX4 164 mX2_seek.1 "MeshSums" ∈ lw_tbl ∧ Cond.instanceMethod mX2_seek.1 ∈ gtbl ∧ Cond.selects mX2_seek.1.cls mX2_seek.1 mX2_seek.1 ∈ gtbl := ⟨by decide +kernel, gt_of ⟨List.mem_of_getElem? (i := 524) (by decide +kernel), by decide +kernel⟩, gt_of ⟨List.mem_of_getElem? (i := 72) (by decide +kernel), by decide +kernel⟩, List.mem_of_getElem? (i := 521) (by decide +kernel), ⟨gt_of ⟨List.mem_of_getElem? (i := 523) (by decide +kernel), by decide +kernel⟩, gt_of ⟨List.mem_of_getElem? (i := 36) (by decide +kernel), by decide +kernel⟩⟩⟩
theorem oX4_173 : OkM mX4_actPart 2 ∧ Cond.code mX4_actPart.1 mX4_actPart.2.1 mX4_actPart.2.2.1 mX4_actPart.2.2.2 ∈ gtbl ∧ Cond.initialized mX4_actPart.1.cls ∈ gtbl ∧ Cond.methodLink RX4 173 mX4_actPart.1 ∈ gtbl ∧ Cond.static mX4_actPart.1 ∈ gtbl ∧ True := ⟨by decide +kernel, gt_of ⟨List.mem_of_getElem? (i := 585) (by decide +kernel), by decide +kernel⟩, gt_of ⟨List.mem_of_getElem? (i := 67) (by decide +kernel), by decide +kernel⟩, gt_of ⟨List.mem_of_getElem? (i := 583) (by decide +kernel), by decide +kernel⟩, ⟨gt_of ⟨List.mem_of_getElem? (i := 584) (by decide +kernel), by decide +kernel⟩, trivial⟩⟩
theorem oX4_182 : OkM mX1_stickingCells 0 ∧ Cond.code mX1_stickingCells.1 mX1_stickingCells.2.1 mX1_stickingCells.2.2.1 mX1_stickingCells.2.2.2 ∈ gtbl ∧ Cond.initialized mX1_stickingCells.1.cls ∈ gtbl ∧ Cond.methodLinkNest RX4 182 mX1_stickingCells.1 "MeshSums" ∈ lw_tbl ∧ Cond.instanceMethod mX1_stickingCells.1 ∈ gtbl ∧ Cond.selects mX1_stickingCells.1.cls mX1_stickingCells.1 mX1_stickingCells.1 ∈ gtbl := ⟨by decide +kernel, gt_of ⟨List.mem_of_getElem? (i := 601) (by decide +kernel), by decide +kernel⟩, gt_of ⟨List.mem_of_getElem? (i := 68) (by decide +kernel), by decide +kernel⟩, List.mem_of_getElem? (i := 598) (by decide +kernel), ⟨gt_of ⟨List.mem_of_getElem? (i := 600) (by decide +kernel), by decide +kernel⟩, gt_of ⟨List.mem_of_getElem? (i := 46) (by decide +kernel), by decide +kernel⟩⟩⟩
theorem oX4_192 : OkM mX4_count 1 ∧ Cond.code mX4_count.1 mX4_count.2.1 mX4_count.2.2.1 mX4_count.2.2.2 ∈ gtbl ∧ Cond.initialized mX4_count.1.cls ∈ gtbl ∧ Cond.methodLink RX4 192 mX4_count.1 ∈ gtbl ∧ Cond.instanceMethod mX4_count.1 ∈ gtbl ∧ Cond.selects mX4_count.1.cls mX4_count.1 mX4_count.1 ∈ gtbl := ⟨by decide +kernel, gt_of ⟨List.mem_of_getElem? (i := 597) (by decide +kernel), by decide +kernel⟩, gt_of ⟨List.mem_of_getElem? (i := 67) (by decide +kernel), by decide +kernel⟩, gt_of ⟨List.mem_of_getElem? (i := 608) (by decide +kernel), by decide +kernel⟩, ⟨gt_of ⟨List.mem_of_getElem? (i := 595) (by decide +kernel), by decide +kernel⟩, gt_of ⟨List.mem_of_getElem? (i := 596) (by decide +kernel), by decide +kernel⟩⟩⟩
theorem oX4_195 : OkM mX1_addTo 1 ∧ Cond.code mX1_addTo.1 mX1_addTo.2.1 mX1_addTo.2.2.1 mX1_addTo.2.2.2 ∈ gtbl ∧ Cond.initialized mX1_addTo.1.cls ∈ gtbl ∧ Cond.methodLinkNest RX4 195 mX1_addTo.1 "MeshSums" ∈ lw_tbl ∧ Cond.instanceMethod mX1_addTo.1 ∈ gtbl ∧ Cond.selects mX1_addTo.1.cls mX1_addTo.1 mX1_addTo.1 ∈ gtbl := ⟨by decide +kernel, gt_of ⟨List.mem_of_getElem? (i := 612) (by decide +kernel), by decide +kernel⟩, gt_of ⟨List.mem_of_getElem? (i := 68) (by decide +kernel), by decide +kernel⟩, List.mem_of_getElem? (i := 609) (by decide +kernel), ⟨gt_of ⟨List.mem_of_getElem? (i := 611) (by decide +kernel), by decide +kernel⟩, gt_of ⟨List.mem_of_getElem? (i := 47) (by decide +kernel), by decide +kernel⟩⟩⟩
theorem oX4_199 : OkM mX3_addTo 1 ∧ Cond.code mX3_addTo.1 mX3_addTo.2.1 mX3_addTo.2.2.1 mX3_addTo.2.2.2 ∈ gtbl ∧ Cond.initialized mX3_addTo.1.cls ∈ gtbl ∧ Cond.methodLinkNest RX4 199 mX3_addTo.1 "MeshSums" ∈ lw_tbl ∧ Cond.instanceMethod mX3_addTo.1 ∈ gtbl ∧ Cond.selects mX3_addTo.1.cls mX3_addTo.1 mX3_addTo.1 ∈ gtbl := ⟨by decide +kernel, gt_of ⟨List.mem_of_getElem? (i := 618) (by decide +kernel), by decide +kernel⟩, gt_of ⟨List.mem_of_getElem? (i := 70) (by decide +kernel), by decide +kernel⟩, List.mem_of_getElem? (i := 615) (by decide +kernel), ⟨gt_of ⟨List.mem_of_getElem? (i := 617) (by decide +kernel), by decide +kernel⟩, gt_of ⟨List.mem_of_getElem? (i := 48) (by decide +kernel), by decide +kernel⟩⟩⟩
theorem oX4_200 : OkM mX2_addTo 1 ∧ Cond.code mX2_addTo.1 mX2_addTo.2.1 mX2_addTo.2.2.1 mX2_addTo.2.2.2 ∈ gtbl ∧ Cond.initialized mX2_addTo.1.cls ∈ gtbl ∧ Cond.methodLinkNest RX4 200 mX2_addTo.1 "MeshSums" ∈ lw_tbl ∧ Cond.instanceMethod mX2_addTo.1 ∈ gtbl ∧ Cond.selects mX2_addTo.1.cls mX2_addTo.1 mX2_addTo.1 ∈ gtbl := ⟨by decide +kernel, gt_of ⟨List.mem_of_getElem? (i := 623) (by decide +kernel), by decide +kernel⟩, gt_of ⟨List.mem_of_getElem? (i := 72) (by decide +kernel), by decide +kernel⟩, List.mem_of_getElem? (i := 620) (by decide +kernel), ⟨gt_of ⟨List.mem_of_getElem? (i := 622) (by decide +kernel), by decide +kernel⟩, gt_of ⟨List.mem_of_getElem? (i := 49) (by decide +kernel), by decide +kernel⟩⟩⟩
theorem oX0_3 : Cond.methodLink RX0 3 Lib.objectInit ∈ gtbl ∧ Cond.instanceMethod Lib.objectInit ∈ gtbl ∧ Cond.code Lib.objectInit ⟨#[0xb1]⟩ 1 none ∈ gtbl := ⟨gt_of ⟨List.mem_of_getElem? (i := 188) (by decide +kernel), by decide +kernel⟩, gt_of ⟨List.mem_of_getElem? (i := 82) (by decide +kernel), by decide +kernel⟩, gt_of ⟨List.mem_of_getElem? (i := 83) (by decide +kernel), by decide +kernel⟩⟩
theorem oX0_34 : OkM mX1_place 2 ∧ Cond.code mX1_place.1 mX1_place.2.1 mX1_place.2.2.1 mX1_place.2.2.2 ∈ gtbl ∧ Cond.initialized mX1_place.1.cls ∈ gtbl ∧ Cond.methodLinkNest RX0 34 mX1_place.1 "MeshSums" ∈ lw_tbl ∧ Cond.instanceMethod mX1_place.1 ∈ gtbl ∧ Cond.selects mX1_place.1.cls mX1_place.1 mX1_place.1 ∈ gtbl := ⟨by decide +kernel, gt_of ⟨List.mem_of_getElem? (i := 285) (by decide +kernel), by decide +kernel⟩, gt_of ⟨List.mem_of_getElem? (i := 68) (by decide +kernel), by decide +kernel⟩, List.mem_of_getElem? (i := 476) (by decide +kernel), ⟨gt_of ⟨List.mem_of_getElem? (i := 284) (by decide +kernel), by decide +kernel⟩, gt_of ⟨List.mem_of_getElem? (i := 3) (by decide +kernel), by decide +kernel⟩⟩⟩
theorem oX0_42 : OkM mX1_columnSum 1 ∧ Cond.code mX1_columnSum.1 mX1_columnSum.2.1 mX1_columnSum.2.2.1 mX1_columnSum.2.2.2 ∈ gtbl ∧ Cond.initialized mX1_columnSum.1.cls ∈ gtbl ∧ Cond.methodLinkNest RX0 42 mX1_columnSum.1 "MeshSums" ∈ lw_tbl ∧ Cond.instanceMethod mX1_columnSum.1 ∈ gtbl ∧ Cond.selects mX1_columnSum.1.cls mX1_columnSum.1 mX1_columnSum.1 ∈ gtbl := ⟨by decide +kernel, gt_of ⟨List.mem_of_getElem? (i := 329) (by decide +kernel), by decide +kernel⟩, gt_of ⟨List.mem_of_getElem? (i := 68) (by decide +kernel), by decide +kernel⟩, List.mem_of_getElem? (i := 485) (by decide +kernel), ⟨gt_of ⟨List.mem_of_getElem? (i := 328) (by decide +kernel), by decide +kernel⟩, gt_of ⟨List.mem_of_getElem? (i := 9) (by decide +kernel), by decide +kernel⟩⟩⟩
theorem oX0_49 : OkM mJ9_floorMod_7cf53 2 ∧ Cond.code mJ9_floorMod_7cf53.1 mJ9_floorMod_7cf53.2.1 mJ9_floorMod_7cf53.2.2.1 mJ9_floorMod_7cf53.2.2.2 ∈ gtbl ∧ Cond.initialized mJ9_floorMod_7cf53.1.cls ∈ gtbl ∧ Cond.methodLink RX0 49 mJ9_floorMod_7cf53.1 ∈ gtbl ∧ Cond.static mJ9_floorMod_7cf53.1 ∈ gtbl ∧ True := ⟨by decide +kernel, gt_of ⟨List.mem_of_getElem? (i := 488) (by decide +kernel), by decide +kernel⟩, gt_of ⟨List.mem_of_getElem? (i := 74) (by decide +kernel), by decide +kernel⟩, gt_of ⟨List.mem_of_getElem? (i := 486) (by decide +kernel), by decide +kernel⟩, ⟨gt_of ⟨List.mem_of_getElem? (i := 487) (by decide +kernel), by decide +kernel⟩, trivial⟩⟩
theorem oX0_54 : OkM mX0_columnBy 2 ∧ Cond.code mX0_columnBy.1 mX0_columnBy.2.1 mX0_columnBy.2.2.1 mX0_columnBy.2.2.2 ∈ gtbl ∧ Cond.initialized mX0_columnBy.1.cls ∈ gtbl ∧ Cond.methodLink RX0 54 mX0_columnBy.1 ∈ gtbl ∧ Cond.instanceMethod mX0_columnBy.1 ∈ gtbl ∧ Cond.selects mX0_columnBy.1.cls mX0_columnBy.1 mX0_columnBy.1 ∈ gtbl := ⟨by decide +kernel, gt_of ⟨List.mem_of_getElem? (i := 492) (by decide +kernel), by decide +kernel⟩, gt_of ⟨List.mem_of_getElem? (i := 71) (by decide +kernel), by decide +kernel⟩, gt_of ⟨List.mem_of_getElem? (i := 489) (by decide +kernel), by decide +kernel⟩, ⟨gt_of ⟨List.mem_of_getElem? (i := 491) (by decide +kernel), by decide +kernel⟩, gt_of ⟨List.mem_of_getElem? (i := 32) (by decide +kernel), by decide +kernel⟩⟩⟩
theorem oX1_3 : Cond.methodLink RX1 3 Lib.objectInit ∈ gtbl ∧ Cond.instanceMethod Lib.objectInit ∈ gtbl ∧ Cond.code Lib.objectInit ⟨#[0xb1]⟩ 1 none ∈ gtbl := ⟨gt_of ⟨List.mem_of_getElem? (i := 89) (by decide +kernel), by decide +kernel⟩, gt_of ⟨List.mem_of_getElem? (i := 82) (by decide +kernel), by decide +kernel⟩, gt_of ⟨List.mem_of_getElem? (i := 83) (by decide +kernel), by decide +kernel⟩⟩
theorem oX1_24 : OkM mX1_renew 3 ∧ Cond.code mX1_renew.1 mX1_renew.2.1 mX1_renew.2.2.1 mX1_renew.2.2.2 ∈ gtbl ∧ Cond.initialized mX1_renew.1.cls ∈ gtbl ∧ Cond.methodLink RX1 24 mX1_renew.1 ∈ gtbl ∧ Cond.instanceMethod mX1_renew.1 ∈ gtbl ∧ Cond.selects mX1_renew.1.cls mX1_renew.1 mX1_renew.1 ∈ gtbl := ⟨by decide +kernel, gt_of ⟨List.mem_of_getElem? (i := 93) (by decide +kernel), by decide +kernel⟩, gt_of ⟨List.mem_of_getElem? (i := 68) (by decide +kernel), by decide +kernel⟩, gt_of ⟨List.mem_of_getElem? (i := 90) (by decide +kernel), by decide +kernel⟩, ⟨gt_of ⟨List.mem_of_getElem? (i := 92) (by decide +kernel), by decide +kernel⟩, gt_of ⟨List.mem_of_getElem? (i := 0) (by decide +kernel), by decide +kernel⟩⟩⟩
theorem oX1_41 : OkM mJ7_fill_53178 2 ∧ Cond.code mJ7_fill_53178.1 mJ7_fill_53178.2.1 mJ7_fill_53178.2.2.1 mJ7_fill_53178.2.2.2 ∈ gtbl ∧ Cond.initialized mJ7_fill_53178.1.cls ∈ gtbl ∧ Cond.methodLink RX1 41 mJ7_fill_53178.1 ∈ gtbl ∧ Cond.static mJ7_fill_53178.1 ∈ gtbl ∧ True := ⟨by decide +kernel, gt_of ⟨List.mem_of_getElem? (i := 96) (by decide +kernel), by decide +kernel⟩, gt_of ⟨List.mem_of_getElem? (i := 69) (by decide +kernel), by decide +kernel⟩, gt_of ⟨List.mem_of_getElem? (i := 94) (by decide +kernel), by decide +kernel⟩, ⟨gt_of ⟨List.mem_of_getElem? (i := 95) (by decide +kernel), by decide +kernel⟩, trivial⟩⟩
theorem oX1_47 : OkM mX4_within 3 ∧ Cond.code mX4_within.1 mX4_within.2.1 mX4_within.2.2.1 mX4_within.2.2.2 ∈ gtbl ∧ Cond.initialized mX4_within.1.cls ∈ gtbl ∧ Cond.methodLinkNest RX1 47 mX4_within.1 "MeshSums" ∈ lw_tbl ∧ Cond.static mX4_within.1 ∈ gtbl ∧ True := ⟨by decide +kernel, gt_of ⟨List.mem_of_getElem? (i := 267) (by decide +kernel), by decide +kernel⟩, gt_of ⟨List.mem_of_getElem? (i := 67) (by decide +kernel), by decide +kernel⟩, List.mem_of_getElem? (i := 281) (by decide +kernel), ⟨gt_of ⟨List.mem_of_getElem? (i := 266) (by decide +kernel), by decide +kernel⟩, trivial⟩⟩
theorem oX1_51 : OkM mX1_sticks 1 ∧ Cond.code mX1_sticks.1 mX1_sticks.2.1 mX1_sticks.2.2.1 mX1_sticks.2.2.2 ∈ gtbl ∧ Cond.initialized mX1_sticks.1.cls ∈ gtbl ∧ Cond.methodLink RX1 51 mX1_sticks.1 ∈ gtbl ∧ Cond.instanceMethod mX1_sticks.1 ∈ gtbl ∧ Cond.selects mX1_sticks.1.cls mX1_sticks.1 mX1_sticks.1 ∈ gtbl := ⟨by decide +kernel, gt_of ⟨List.mem_of_getElem? (i := 293) (by decide +kernel), by decide +kernel⟩, gt_of ⟨List.mem_of_getElem? (i := 68) (by decide +kernel), by decide +kernel⟩, gt_of ⟨List.mem_of_getElem? (i := 290) (by decide +kernel), by decide +kernel⟩, ⟨gt_of ⟨List.mem_of_getElem? (i := 292) (by decide +kernel), by decide +kernel⟩, gt_of ⟨List.mem_of_getElem? (i := 5) (by decide +kernel), by decide +kernel⟩⟩⟩
theorem oX1_55 : OkM mX1_place 2 ∧ Cond.code mX1_place.1 mX1_place.2.1 mX1_place.2.2.1 mX1_place.2.2.2 ∈ gtbl ∧ Cond.initialized mX1_place.1.cls ∈ gtbl ∧ Cond.methodLink RX1 55 mX1_place.1 ∈ gtbl ∧ Cond.instanceMethod mX1_place.1 ∈ gtbl ∧ Cond.selects mX1_place.1.cls mX1_place.1 mX1_place.1 ∈ gtbl := ⟨by decide +kernel, gt_of ⟨List.mem_of_getElem? (i := 285) (by decide +kernel), by decide +kernel⟩, gt_of ⟨List.mem_of_getElem? (i := 68) (by decide +kernel), by decide +kernel⟩, gt_of ⟨List.mem_of_getElem? (i := 330) (by decide +kernel), by decide +kernel⟩, ⟨gt_of ⟨List.mem_of_getElem? (i := 284) (by decide +kernel), by decide +kernel⟩, gt_of ⟨List.mem_of_getElem? (i := 3) (by decide +kernel), by decide +kernel⟩⟩⟩
theorem oX1_59 : OkM mJ9_min_7cf53 2 ∧ Cond.code mJ9_min_7cf53.1 mJ9_min_7cf53.2.1 mJ9_min_7cf53.2.2.1 mJ9_min_7cf53.2.2.2 ∈ gtbl ∧ Cond.initialized mJ9_min_7cf53.1.cls ∈ gtbl ∧ Cond.methodLink RX1 59 mJ9_min_7cf53.1 ∈ gtbl ∧ Cond.static mJ9_min_7cf53.1 ∈ gtbl ∧ True := ⟨by decide +kernel, gt_of ⟨List.mem_of_getElem? (i := 337) (by decide +kernel), by decide +kernel⟩, gt_of ⟨List.mem_of_getElem? (i := 74) (by decide +kernel), by decide +kernel⟩, gt_of ⟨List.mem_of_getElem? (i := 335) (by decide +kernel), by decide +kernel⟩, ⟨gt_of ⟨List.mem_of_getElem? (i := 336) (by decide +kernel), by decide +kernel⟩, trivial⟩⟩
theorem oX1_64 : OkM mX1_ageOne 1 ∧ Cond.code mX1_ageOne.1 mX1_ageOne.2.1 mX1_ageOne.2.2.1 mX1_ageOne.2.2.2 ∈ gtbl ∧ Cond.initialized mX1_ageOne.1.cls ∈ gtbl ∧ Cond.methodLink RX1 64 mX1_ageOne.1 ∈ gtbl ∧ Cond.instanceMethod mX1_ageOne.1 ∈ gtbl ∧ Cond.selects mX1_ageOne.1.cls mX1_ageOne.1 mX1_ageOne.1 ∈ gtbl := ⟨by decide +kernel, gt_of ⟨List.mem_of_getElem? (i := 504) (by decide +kernel), by decide +kernel⟩, gt_of ⟨List.mem_of_getElem? (i := 68) (by decide +kernel), by decide +kernel⟩, gt_of ⟨List.mem_of_getElem? (i := 501) (by decide +kernel), by decide +kernel⟩, ⟨gt_of ⟨List.mem_of_getElem? (i := 503) (by decide +kernel), by decide +kernel⟩, gt_of ⟨List.mem_of_getElem? (i := 34) (by decide +kernel), by decide +kernel⟩⟩⟩
theorem oX1_69 : OkM mX1_tellCell 2 ∧ Cond.code mX1_tellCell.1 mX1_tellCell.2.1 mX1_tellCell.2.2.1 mX1_tellCell.2.2.2 ∈ gtbl ∧ Cond.initialized mX1_tellCell.1.cls ∈ gtbl ∧ Cond.methodLink RX1 69 mX1_tellCell.1 ∈ gtbl ∧ Cond.instanceMethod mX1_tellCell.1 ∈ gtbl ∧ Cond.selects mX1_tellCell.1.cls mX1_tellCell.1 mX1_tellCell.1 ∈ gtbl := ⟨by decide +kernel, gt_of ⟨List.mem_of_getElem? (i := 313) (by decide +kernel), by decide +kernel⟩, gt_of ⟨List.mem_of_getElem? (i := 68) (by decide +kernel), by decide +kernel⟩, gt_of ⟨List.mem_of_getElem? (i := 614) (by decide +kernel), by decide +kernel⟩, ⟨gt_of ⟨List.mem_of_getElem? (i := 312) (by decide +kernel), by decide +kernel⟩, gt_of ⟨List.mem_of_getElem? (i := 8) (by decide +kernel), by decide +kernel⟩⟩⟩
theorem oX2_3 : Cond.methodLink RX2 3 Lib.objectInit ∈ gtbl ∧ Cond.instanceMethod Lib.objectInit ∈ gtbl ∧ Cond.code Lib.objectInit ⟨#[0xb1]⟩ 1 none ∈ gtbl := ⟨gt_of ⟨List.mem_of_getElem? (i := 208) (by decide +kernel), by decide +kernel⟩, gt_of ⟨List.mem_of_getElem? (i := 82) (by decide +kernel), by decide +kernel⟩, gt_of ⟨List.mem_of_getElem? (i := 83) (by decide +kernel), by decide +kernel⟩⟩
theorem oX2_29 : OkM mX2_begin 2 ∧ Cond.code mX2_begin.1 mX2_begin.2.1 mX2_begin.2.2.1 mX2_begin.2.2.2 ∈ gtbl ∧ Cond.initialized mX2_begin.1.cls ∈ gtbl ∧ Cond.methodLink RX2 29 mX2_begin.1 ∈ gtbl ∧ Cond.instanceMethod mX2_begin.1 ∈ gtbl ∧ Cond.selects mX2_begin.1.cls mX2_begin.1 mX2_begin.1 ∈ gtbl := ⟨by decide +kernel, gt_of ⟨List.mem_of_getElem? (i := 528) (by decide +kernel), by decide +kernel⟩, gt_of ⟨List.mem_of_getElem? (i := 72) (by decide +kernel), by decide +kernel⟩, gt_of ⟨List.mem_of_getElem? (i := 525) (by decide +kernel), by decide +kernel⟩, ⟨gt_of ⟨List.mem_of_getElem? (i := 527) (by decide +kernel), by decide +kernel⟩, gt_of ⟨List.mem_of_getElem? (i := 37) (by decide +kernel), by decide +kernel⟩⟩⟩
theorem oX2_36 : OkM mX4_stateOf 1 ∧ Cond.code mX4_stateOf.1 mX4_stateOf.2.1 mX4_stateOf.2.2.1 mX4_stateOf.2.2.2 ∈ gtbl ∧ Cond.initialized mX4_stateOf.1.cls ∈ gtbl ∧ Cond.methodLinkNest RX2 36 mX4_stateOf.1 "MeshSums" ∈ lw_tbl ∧ Cond.static mX4_stateOf.1 ∈ gtbl ∧ True := ⟨by decide +kernel, gt_of ⟨List.mem_of_getElem? (i := 544) (by decide +kernel), by decide +kernel⟩, gt_of ⟨List.mem_of_getElem? (i := 67) (by decide +kernel), by decide +kernel⟩, List.mem_of_getElem? (i := 542) (by decide +kernel), ⟨gt_of ⟨List.mem_of_getElem? (i := 543) (by decide +kernel), by decide +kernel⟩, trivial⟩⟩
theorem oX2_40 : OkM mX2_openState 1 ∧ Cond.code mX2_openState.1 mX2_openState.2.1 mX2_openState.2.2.1 mX2_openState.2.2.2 ∈ gtbl ∧ Cond.initialized mX2_openState.1.cls ∈ gtbl ∧ Cond.methodLink RX2 40 mX2_openState.1 ∈ gtbl ∧ Cond.instanceMethod mX2_openState.1 ∈ gtbl ∧ Cond.selects mX2_openState.1.cls mX2_openState.1 mX2_openState.1 ∈ gtbl := ⟨by decide +kernel, gt_of ⟨List.mem_of_getElem? (i := 549) (by decide +kernel), by decide +kernel⟩, gt_of ⟨List.mem_of_getElem? (i := 72) (by decide +kernel), by decide +kernel⟩, gt_of ⟨List.mem_of_getElem? (i := 546) (by decide +kernel), by decide +kernel⟩, ⟨gt_of ⟨List.mem_of_getElem? (i := 548) (by decide +kernel), by decide +kernel⟩, gt_of ⟨List.mem_of_getElem? (i := 40) (by decide +kernel), by decide +kernel⟩⟩⟩
theorem oX2_44 : OkM mX2_cellWith 1 ∧ Cond.code mX2_cellWith.1 mX2_cellWith.2.1 mX2_cellWith.2.2.1 mX2_cellWith.2.2.2 ∈ gtbl ∧ Cond.initialized mX2_cellWith.1.cls ∈ gtbl ∧ Cond.methodLink RX2 44 mX2_cellWith.1 ∈ gtbl ∧ Cond.instanceMethod mX2_cellWith.1 ∈ gtbl ∧ Cond.selects mX2_cellWith.1.cls mX2_cellWith.1 mX2_cellWith.1 ∈ gtbl := ⟨by decide +kernel, gt_of ⟨List.mem_of_getElem? (i := 557) (by decide +kernel), by decide +kernel⟩, gt_of ⟨List.mem_of_getElem? (i := 72) (by decide +kernel), by decide +kernel⟩, gt_of ⟨List.mem_of_getElem? (i := 554) (by decide +kernel), by decide +kernel⟩, ⟨gt_of ⟨List.mem_of_getElem? (i := 556) (by decide +kernel), by decide +kernel⟩, gt_of ⟨List.mem_of_getElem? (i := 42) (by decide +kernel), by decide +kernel⟩⟩⟩
theorem oX2_48 : OkM mX2_keep 2 ∧ Cond.code mX2_keep.1 mX2_keep.2.1 mX2_keep.2.2.1 mX2_keep.2.2.2 ∈ gtbl ∧ Cond.initialized mX2_keep.1.cls ∈ gtbl ∧ Cond.methodLink RX2 48 mX2_keep.1 ∈ gtbl ∧ Cond.instanceMethod mX2_keep.1 ∈ gtbl ∧ Cond.selects mX2_keep.1.cls mX2_keep.1 mX2_keep.1 ∈ gtbl := ⟨by decide +kernel, gt_of ⟨List.mem_of_getElem? (i := 561) (by decide +kernel), by decide +kernel⟩, gt_of ⟨List.mem_of_getElem? (i := 72) (by decide +kernel), by decide +kernel⟩, gt_of ⟨List.mem_of_getElem? (i := 558) (by decide +kernel), by decide +kernel⟩, ⟨gt_of ⟨List.mem_of_getElem? (i := 560) (by decide +kernel), by decide +kernel⟩, gt_of ⟨List.mem_of_getElem? (i := 43) (by decide +kernel), by decide +kernel⟩⟩⟩
theorem oX2_54 : OkM mX2_meetAllFrom 1 ∧ Cond.code mX2_meetAllFrom.1 mX2_meetAllFrom.2.1 mX2_meetAllFrom.2.2.1 mX2_meetAllFrom.2.2.2 ∈ gtbl ∧ Cond.initialized mX2_meetAllFrom.1.cls ∈ gtbl ∧ Cond.methodLink RX2 54 mX2_meetAllFrom.1 ∈ gtbl ∧ Cond.instanceMethod mX2_meetAllFrom.1 ∈ gtbl ∧ Cond.selects mX2_meetAllFrom.1.cls mX2_meetAllFrom.1 mX2_meetAllFrom.1 ∈ gtbl := ⟨by decide +kernel, gt_of ⟨List.mem_of_getElem? (i := 571) (by decide +kernel), by decide +kernel⟩, gt_of ⟨List.mem_of_getElem? (i := 72) (by decide +kernel), by decide +kernel⟩, gt_of ⟨List.mem_of_getElem? (i := 568) (by decide +kernel), by decide +kernel⟩, ⟨gt_of ⟨List.mem_of_getElem? (i := 570) (by decide +kernel), by decide +kernel⟩, gt_of ⟨List.mem_of_getElem? (i := 44) (by decide +kernel), by decide +kernel⟩⟩⟩
theorem oX2_67 : OkM mX4_fullTable 1 ∧ Cond.code mX4_fullTable.1 mX4_fullTable.2.1 mX4_fullTable.2.2.1 mX4_fullTable.2.2.2 ∈ gtbl ∧ Cond.initialized mX4_fullTable.1.cls ∈ gtbl ∧ Cond.methodLinkNest RX2 67 mX4_fullTable.1 "MeshSums" ∈ lw_tbl ∧ Cond.static mX4_fullTable.1 ∈ gtbl ∧ True := ⟨by decide +kernel, gt_of ⟨List.mem_of_getElem? (i := 520) (by decide +kernel), by decide +kernel⟩, gt_of ⟨List.mem_of_getElem? (i := 67) (by decide +kernel), by decide +kernel⟩, List.mem_of_getElem? (i := 529) (by decide +kernel), ⟨gt_of ⟨List.mem_of_getElem? (i := 519) (by decide +kernel), by decide +kernel⟩, trivial⟩⟩
theorem oX2_73 : OkM mJ7_fill_53178 2 ∧ Cond.code mJ7_fill_53178.1 mJ7_fill_53178.2.1 mJ7_fill_53178.2.2.1 mJ7_fill_53178.2.2.2 ∈ gtbl ∧ Cond.initialized mJ7_fill_53178.1.cls ∈ gtbl ∧ Cond.methodLink RX2 73 mJ7_fill_53178.1 ∈ gtbl ∧ Cond.static mJ7_fill_53178.1 ∈ gtbl ∧ True := ⟨by decide +kernel, gt_of ⟨List.mem_of_getElem? (i := 96) (by decide +kernel), by decide +kernel⟩, gt_of ⟨List.mem_of_getElem? (i := 69) (by decide +kernel), by decide +kernel⟩, gt_of ⟨List.mem_of_getElem? (i := 530) (by decide +kernel), by decide +kernel⟩, ⟨gt_of ⟨List.mem_of_getElem? (i := 95) (by decide +kernel), by decide +kernel⟩, trivial⟩⟩
theorem oX2_79 : OkM mX2_inputTable 1 ∧ Cond.code mX2_inputTable.1 mX2_inputTable.2.1 mX2_inputTable.2.2.1 mX2_inputTable.2.2.2 ∈ gtbl ∧ Cond.initialized mX2_inputTable.1.cls ∈ gtbl ∧ Cond.methodLink RX2 79 mX2_inputTable.1 ∈ gtbl ∧ Cond.instanceMethod mX2_inputTable.1 ∈ gtbl ∧ Cond.selects mX2_inputTable.1.cls mX2_inputTable.1 mX2_inputTable.1 ∈ gtbl := ⟨by decide +kernel, gt_of ⟨List.mem_of_getElem? (i := 534) (by decide +kernel), by decide +kernel⟩, gt_of ⟨List.mem_of_getElem? (i := 72) (by decide +kernel), by decide +kernel⟩, gt_of ⟨List.mem_of_getElem? (i := 531) (by decide +kernel), by decide +kernel⟩, ⟨gt_of ⟨List.mem_of_getElem? (i := 533) (by decide +kernel), by decide +kernel⟩, gt_of ⟨List.mem_of_getElem? (i := 38) (by decide +kernel), by decide +kernel⟩⟩⟩
theorem oX2_82 : OkM mX2_meet 3 ∧ Cond.code mX2_meet.1 mX2_meet.2.1 mX2_meet.2.2.1 mX2_meet.2.2.2 ∈ gtbl ∧ Cond.initialized mX2_meet.1.cls ∈ gtbl ∧ Cond.methodLink RX2 82 mX2_meet.1 ∈ gtbl ∧ Cond.instanceMethod mX2_meet.1 ∈ gtbl ∧ Cond.selects mX2_meet.1.cls mX2_meet.1 mX2_meet.1 ∈ gtbl := ⟨by decide +kernel, gt_of ⟨List.mem_of_getElem? (i := 538) (by decide +kernel), by decide +kernel⟩, gt_of ⟨List.mem_of_getElem? (i := 72) (by decide +kernel), by decide +kernel⟩, gt_of ⟨List.mem_of_getElem? (i := 535) (by decide +kernel), by decide +kernel⟩, ⟨gt_of ⟨List.mem_of_getElem? (i := 537) (by decide +kernel), by decide +kernel⟩, gt_of ⟨List.mem_of_getElem? (i := 39) (by decide +kernel), by decide +kernel⟩⟩⟩
theorem oX2_86 : OkM mX2_shiftOf 1 ∧ Cond.code mX2_shiftOf.1 mX2_shiftOf.2.1 mX2_shiftOf.2.2.1 mX2_shiftOf.2.2.2 ∈ gtbl ∧ Cond.initialized mX2_shiftOf.1.cls ∈ gtbl ∧ Cond.methodLink RX2 86 mX2_shiftOf.1 ∈ gtbl ∧ Cond.instanceMethod mX2_shiftOf.1 ∈ gtbl ∧ Cond.selects mX2_shiftOf.1.cls mX2_shiftOf.1 mX2_shiftOf.1 ∈ gtbl := ⟨by decide +kernel, gt_of ⟨List.mem_of_getElem? (i := 553) (by decide +kernel), by decide +kernel⟩, gt_of ⟨List.mem_of_getElem? (i := 72) (by decide +kernel), by decide +kernel⟩, gt_of ⟨List.mem_of_getElem? (i := 550) (by decide +kernel), by decide +kernel⟩, ⟨gt_of ⟨List.mem_of_getElem? (i := 552) (by decide +kernel), by decide +kernel⟩, gt_of ⟨List.mem_of_getElem? (i := 41) (by decide +kernel), by decide +kernel⟩⟩⟩
theorem oX2_89 : OkM mX2_meetByActs 3 ∧ Cond.code mX2_meetByActs.1 mX2_meetByActs.2.1 mX2_meetByActs.2.2.1 mX2_meetByActs.2.2.2 ∈ gtbl ∧ Cond.initialized mX2_meetByActs.1.cls ∈ gtbl ∧ Cond.methodLink RX2 89 mX2_meetByActs.1 ∈ gtbl ∧ Cond.instanceMethod mX2_meetByActs.1 ∈ gtbl ∧ Cond.selects mX2_meetByActs.1.cls mX2_meetByActs.1 mX2_meetByActs.1 ∈ gtbl := ⟨by decide +kernel, gt_of ⟨List.mem_of_getElem? (i := 575) (by decide +kernel), by decide +kernel⟩, gt_of ⟨List.mem_of_getElem? (i := 72) (by decide +kernel), by decide +kernel⟩, gt_of ⟨List.mem_of_getElem? (i := 572) (by decide +kernel), by decide +kernel⟩, ⟨gt_of ⟨List.mem_of_getElem? (i := 574) (by decide +kernel), by decide +kernel⟩, gt_of ⟨List.mem_of_getElem? (i := 45) (by decide +kernel), by decide +kernel⟩⟩⟩
theorem oX2_92 : OkM mX4_packAct 3 ∧ Cond.code mX4_packAct.1 mX4_packAct.2.1 mX4_packAct.2.2.1 mX4_packAct.2.2.2 ∈ gtbl ∧ Cond.initialized mX4_packAct.1.cls ∈ gtbl ∧ Cond.methodLinkNest RX2 92 mX4_packAct.1 "MeshSums" ∈ lw_tbl ∧ Cond.static mX4_packAct.1 ∈ gtbl ∧ True := ⟨by decide +kernel, gt_of ⟨List.mem_of_getElem? (i := 578) (by decide +kernel), by decide +kernel⟩, gt_of ⟨List.mem_of_getElem? (i := 67) (by decide +kernel), by decide +kernel⟩, List.mem_of_getElem? (i := 576) (by decide +kernel), ⟨gt_of ⟨List.mem_of_getElem? (i := 577) (by decide +kernel), by decide +kernel⟩, trivial⟩⟩
theorem oX2_96 : OkM mX4_packVisit 3 ∧ Cond.code mX4_packVisit.1 mX4_packVisit.2.1 mX4_packVisit.2.2.1 mX4_packVisit.2.2.2 ∈ gtbl ∧ Cond.initialized mX4_packVisit.1.cls ∈ gtbl ∧ Cond.methodLinkNest RX2 96 mX4_packVisit.1 "MeshSums" ∈ lw_tbl ∧ Cond.static mX4_packVisit.1 ∈ gtbl ∧ True := ⟨by decide +kernel, gt_of ⟨List.mem_of_getElem? (i := 541) (by decide +kernel), by decide +kernel⟩, gt_of ⟨List.mem_of_getElem? (i := 67) (by decide +kernel), by decide +kernel⟩, List.mem_of_getElem? (i := 539) (by decide +kernel), ⟨gt_of ⟨List.mem_of_getElem? (i := 540) (by decide +kernel), by decide +kernel⟩, trivial⟩⟩
theorem oX2_100 : OkM mX4_cameFrom 1 ∧ Cond.code mX4_cameFrom.1 mX4_cameFrom.2.1 mX4_cameFrom.2.2.1 mX4_cameFrom.2.2.2 ∈ gtbl ∧ Cond.initialized mX4_cameFrom.1.cls ∈ gtbl ∧ Cond.methodLinkNest RX2 100 mX4_cameFrom.1 "MeshSums" ∈ lw_tbl ∧ Cond.static mX4_cameFrom.1 ∈ gtbl ∧ True := ⟨by decide +kernel, gt_of ⟨List.mem_of_getElem? (i := 564) (by decide +kernel), by decide +kernel⟩, gt_of ⟨List.mem_of_getElem? (i := 67) (by decide +kernel), by decide +kernel⟩, List.mem_of_getElem? (i := 562) (by decide +kernel), ⟨gt_of ⟨List.mem_of_getElem? (i := 563) (by decide +kernel), by decide +kernel⟩, trivial⟩⟩
theorem oX2_103 : OkM mX4_cameBy 1 ∧ Cond.code mX4_cameBy.1 mX4_cameBy.2.1 mX4_cameBy.2.2.1 mX4_cameBy.2.2.2 ∈ gtbl ∧ Cond.initialized mX4_cameBy.1.cls ∈ gtbl ∧ Cond.methodLinkNest RX2 103 mX4_cameBy.1 "MeshSums" ∈ lw_tbl ∧ Cond.static mX4_cameBy.1 ∈ gtbl ∧ True := ⟨by decide +kernel, gt_of ⟨List.mem_of_getElem? (i := 567) (by decide +kernel), by decide +kernel⟩, gt_of ⟨List.mem_of_getElem? (i := 67) (by decide +kernel), by decide +kernel⟩, List.mem_of_getElem? (i := 565) (by decide +kernel), ⟨gt_of ⟨List.mem_of_getElem? (i := 566) (by decide +kernel), by decide +kernel⟩, trivial⟩⟩
theorem oX2_108 : OkM mX4_actPart 2 ∧ Cond.code mX4_actPart.1 mX4_actPart.2.1 mX4_actPart.2.2.1 mX4_actPart.2.2.2 ∈ gtbl ∧ Cond.initialized mX4_actPart.1.cls ∈ gtbl ∧ Cond.methodLinkNest RX2 108 mX4_actPart.1 "MeshSums" ∈ lw_tbl ∧ Cond.static mX4_actPart.1 ∈ gtbl ∧ True := ⟨by decide +kernel, gt_of ⟨List.mem_of_getElem? (i := 585) (by decide +kernel), by decide +kernel⟩, gt_of ⟨List.mem_of_getElem? (i := 67) (by decide +kernel), by decide +kernel⟩, List.mem_of_getElem? (i := 625) (by decide +kernel), ⟨gt_of ⟨List.mem_of_getElem? (i := 584) (by decide +kernel), by decide +kernel⟩, trivial⟩⟩
theorem oX3_3 : Cond.methodLink RX3 3 Lib.objectInit ∈ gtbl ∧ Cond.instanceMethod Lib.objectInit ∈ gtbl ∧ Cond.code Lib.objectInit ⟨#[0xb1]⟩ 1 none ∈ gtbl := ⟨gt_of ⟨List.mem_of_getElem? (i := 142) (by decide +kernel), by decide +kernel⟩, gt_of ⟨List.mem_of_getElem? (i := 82) (by decide +kernel), by decide +kernel⟩, gt_of ⟨List.mem_of_getElem? (i := 83) (by decide +kernel), by decide +kernel⟩⟩
theorem oX3_45 : OkM mX3_base 0 ∧ Cond.code mX3_base.1 mX3_base.2.1 mX3_base.2.2.1 mX3_base.2.2.2 ∈ gtbl ∧ Cond.initialized mX3_base.1.cls ∈ gtbl ∧ Cond.methodLink RX3 45 mX3_base.1 ∈ gtbl ∧ Cond.instanceMethod mX3_base.1 ∈ gtbl ∧ Cond.selects mX3_base.1.cls mX3_base.1 mX3_base.1 ∈ gtbl := ⟨by decide +kernel, gt_of ⟨List.mem_of_getElem? (i := 349) (by decide +kernel), by decide +kernel⟩, gt_of ⟨List.mem_of_getElem? (i := 70) (by decide +kernel), by decide +kernel⟩, gt_of ⟨List.mem_of_getElem? (i := 346) (by decide +kernel), by decide +kernel⟩, ⟨gt_of ⟨List.mem_of_getElem? (i := 348) (by decide +kernel), by decide +kernel⟩, gt_of ⟨List.mem_of_getElem? (i := 12) (by decide +kernel), by decide +kernel⟩⟩⟩
theorem oX3_49 : OkM mX3_power 2 ∧ Cond.code mX3_power.1 mX3_power.2.1 mX3_power.2.2.1 mX3_power.2.2.2 ∈ gtbl ∧ Cond.initialized mX3_power.1.cls ∈ gtbl ∧ Cond.methodLink RX3 49 mX3_power.1 ∈ gtbl ∧ Cond.static mX3_power.1 ∈ gtbl ∧ True := ⟨by decide +kernel, gt_of ⟨List.mem_of_getElem? (i := 352) (by decide +kernel), by decide +kernel⟩, gt_of ⟨List.mem_of_getElem? (i := 70) (by decide +kernel), by decide +kernel⟩, gt_of ⟨List.mem_of_getElem? (i := 350) (by decide +kernel), by decide +kernel⟩, ⟨gt_of ⟨List.mem_of_getElem? (i := 351) (by decide +kernel), by decide +kernel⟩, trivial⟩⟩
theorem oX3_56 : OkM mJ7_fill_53178 2 ∧ Cond.code mJ7_fill_53178.1 mJ7_fill_53178.2.1 mJ7_fill_53178.2.2.1 mJ7_fill_53178.2.2.2 ∈ gtbl ∧ Cond.initialized mJ7_fill_53178.1.cls ∈ gtbl ∧ Cond.methodLink RX3 56 mJ7_fill_53178.1 ∈ gtbl ∧ Cond.static mJ7_fill_53178.1 ∈ gtbl ∧ True := ⟨by decide +kernel, gt_of ⟨List.mem_of_getElem? (i := 96) (by decide +kernel), by decide +kernel⟩, gt_of ⟨List.mem_of_getElem? (i := 69) (by decide +kernel), by decide +kernel⟩, gt_of ⟨List.mem_of_getElem? (i := 353) (by decide +kernel), by decide +kernel⟩, ⟨gt_of ⟨List.mem_of_getElem? (i := 95) (by decide +kernel), by decide +kernel⟩, trivial⟩⟩
theorem oX3_67 : OkM mX3_numberAt 2 ∧ Cond.code mX3_numberAt.1 mX3_numberAt.2.1 mX3_numberAt.2.2.1 mX3_numberAt.2.2.2 ∈ gtbl ∧ Cond.initialized mX3_numberAt.1.cls ∈ gtbl ∧ Cond.methodLink RX3 67 mX3_numberAt.1 ∈ gtbl ∧ Cond.instanceMethod mX3_numberAt.1 ∈ gtbl ∧ Cond.selects mX3_numberAt.1.cls mX3_numberAt.1 mX3_numberAt.1 ∈ gtbl := ⟨by decide +kernel, gt_of ⟨List.mem_of_getElem? (i := 366) (by decide +kernel), by decide +kernel⟩, gt_of ⟨List.mem_of_getElem? (i := 70) (by decide +kernel), by decide +kernel⟩, gt_of ⟨List.mem_of_getElem? (i := 363) (by decide +kernel), by decide +kernel⟩, ⟨gt_of ⟨List.mem_of_getElem? (i := 365) (by decide +kernel), by decide +kernel⟩, gt_of ⟨List.mem_of_getElem? (i := 14) (by decide +kernel), by decide +kernel⟩⟩⟩
theorem oX3_70 : OkM mJ9_abs_0f7a4 1 ∧ Cond.code mJ9_abs_0f7a4.1 mJ9_abs_0f7a4.2.1 mJ9_abs_0f7a4.2.2.1 mJ9_abs_0f7a4.2.2.2 ∈ gtbl ∧ Cond.initialized mJ9_abs_0f7a4.1.cls ∈ gtbl ∧ Cond.methodLink RX3 70 mJ9_abs_0f7a4.1 ∈ gtbl ∧ Cond.static mJ9_abs_0f7a4.1 ∈ gtbl ∧ True := ⟨by decide +kernel, gt_of ⟨List.mem_of_getElem? (i := 385) (by decide +kernel), by decide +kernel⟩, gt_of ⟨List.mem_of_getElem? (i := 74) (by decide +kernel), by decide +kernel⟩, gt_of ⟨List.mem_of_getElem? (i := 383) (by decide +kernel), by decide +kernel⟩, ⟨gt_of ⟨List.mem_of_getElem? (i := 384) (by decide +kernel), by decide +kernel⟩, trivial⟩⟩
theorem oX3_76 : OkM mX3_spellRow 1 ∧ Cond.code mX3_spellRow.1 mX3_spellRow.2.1 mX3_spellRow.2.2.1 mX3_spellRow.2.2.2 ∈ gtbl ∧ Cond.initialized mX3_spellRow.1.cls ∈ gtbl ∧ Cond.methodLink RX3 76 mX3_spellRow.1 ∈ gtbl ∧ Cond.instanceMethod mX3_spellRow.1 ∈ gtbl ∧ Cond.selects mX3_spellRow.1.cls mX3_spellRow.1 mX3_spellRow.1 ∈ gtbl := ⟨by decide +kernel, gt_of ⟨List.mem_of_getElem? (i := 382) (by decide +kernel), by decide +kernel⟩, gt_of ⟨List.mem_of_getElem? (i := 70) (by decide +kernel), by decide +kernel⟩, gt_of ⟨List.mem_of_getElem? (i := 379) (by decide +kernel), by decide +kernel⟩, ⟨gt_of ⟨List.mem_of_getElem? (i := 381) (by decide +kernel), by decide +kernel⟩, gt_of ⟨List.mem_of_getElem? (i := 17) (by decide +kernel), by decide +kernel⟩⟩⟩
theorem oX3_80 : OkM mX3_usedColumns 0 ∧ Cond.code mX3_usedColumns.1 mX3_usedColumns.2.1 mX3_usedColumns.2.2.1 mX3_usedColumns.2.2.2 ∈ gtbl ∧ Cond.initialized mX3_usedColumns.1.cls ∈ gtbl ∧ Cond.methodLink RX3 80 mX3_usedColumns.1 ∈ gtbl ∧ Cond.instanceMethod mX3_usedColumns.1 ∈ gtbl ∧ Cond.selects mX3_usedColumns.1.cls mX3_usedColumns.1 mX3_usedColumns.1 ∈ gtbl := ⟨by decide +kernel, gt_of ⟨List.mem_of_getElem? (i := 389) (by decide +kernel), by decide +kernel⟩, gt_of ⟨List.mem_of_getElem? (i := 70) (by decide +kernel), by decide +kernel⟩, gt_of ⟨List.mem_of_getElem? (i := 386) (by decide +kernel), by decide +kernel⟩, ⟨gt_of ⟨List.mem_of_getElem? (i := 388) (by decide +kernel), by decide +kernel⟩, gt_of ⟨List.mem_of_getElem? (i := 18) (by decide +kernel), by decide +kernel⟩⟩⟩
theorem oX3_83 : OkM mX1_place 2 ∧ Cond.code mX1_place.1 mX1_place.2.1 mX1_place.2.2.1 mX1_place.2.2.2 ∈ gtbl ∧ Cond.initialized mX1_place.1.cls ∈ gtbl ∧ Cond.methodLinkNest RX3 83 mX1_place.1 "MeshSums" ∈ lw_tbl ∧ Cond.instanceMethod mX1_place.1 ∈ gtbl ∧ Cond.selects mX1_place.1.cls mX1_place.1 mX1_place.1 ∈ gtbl := ⟨by decide +kernel, gt_of ⟨List.mem_of_getElem? (i := 285) (by decide +kernel), by decide +kernel⟩, gt_of ⟨List.mem_of_getElem? (i := 68) (by decide +kernel), by decide +kernel⟩, List.mem_of_getElem? (i := 390) (by decide +kernel), ⟨gt_of ⟨List.mem_of_getElem? (i := 284) (by decide +kernel), by decide +kernel⟩, gt_of ⟨List.mem_of_getElem? (i := 3) (by decide +kernel), by decide +kernel⟩⟩⟩
theorem oX3_86 : OkM mX1_put 2 ∧ Cond.code mX1_put.1 mX1_put.2.1 mX1_put.2.2.1 mX1_put.2.2.2 ∈ gtbl ∧ Cond.initialized mX1_put.1.cls ∈ gtbl ∧ Cond.methodLinkNest RX3 86 mX1_put.1 "MeshSums" ∈ lw_tbl ∧ Cond.instanceMethod mX1_put.1 ∈ gtbl ∧ Cond.selects mX1_put.1.cls mX1_put.1 mX1_put.1 ∈ gtbl := ⟨by decide +kernel, gt_of ⟨List.mem_of_getElem? (i := 297) (by decide +kernel), by decide +kernel⟩, gt_of ⟨List.mem_of_getElem? (i := 68) (by decide +kernel), by decide +kernel⟩, List.mem_of_getElem? (i := 391) (by decide +kernel), ⟨gt_of ⟨List.mem_of_getElem? (i := 296) (by decide +kernel), by decide +kernel⟩, gt_of ⟨List.mem_of_getElem? (i := 6) (by decide +kernel), by decide +kernel⟩⟩⟩
theorem oX3_90 : OkM mX1_sticksAtAnother 2 ∧ Cond.code mX1_sticksAtAnother.1 mX1_sticksAtAnother.2.1 mX1_sticksAtAnother.2.2.1 mX1_sticksAtAnother.2.2.2 ∈ gtbl ∧ Cond.initialized mX1_sticksAtAnother.1.cls ∈ gtbl ∧ Cond.methodLinkNest RX3 90 mX1_sticksAtAnother.1 "MeshSums" ∈ lw_tbl ∧ Cond.instanceMethod mX1_sticksAtAnother.1 ∈ gtbl ∧ Cond.selects mX1_sticksAtAnother.1.cls mX1_sticksAtAnother.1 mX1_sticksAtAnother.1 ∈ gtbl := ⟨by decide +kernel, gt_of ⟨List.mem_of_getElem? (i := 289) (by decide +kernel), by decide +kernel⟩, gt_of ⟨List.mem_of_getElem? (i := 68) (by decide +kernel), by decide +kernel⟩, List.mem_of_getElem? (i := 392) (by decide +kernel), ⟨gt_of ⟨List.mem_of_getElem? (i := 288) (by decide +kernel), by decide +kernel⟩, gt_of ⟨List.mem_of_getElem? (i := 4) (by decide +kernel), by decide +kernel⟩⟩⟩
theorem oX3_94 : OkM mX3_bitSum 2 ∧ Cond.code mX3_bitSum.1 mX3_bitSum.2.1 mX3_bitSum.2.2.1 mX3_bitSum.2.2.2 ∈ gtbl ∧ Cond.initialized mX3_bitSum.1.cls ∈ gtbl ∧ Cond.methodLink RX3 94 mX3_bitSum.1 ∈ gtbl ∧ Cond.instanceMethod mX3_bitSum.1 ∈ gtbl ∧ Cond.selects mX3_bitSum.1.cls mX3_bitSum.1 mX3_bitSum.1 ∈ gtbl := ⟨by decide +kernel, gt_of ⟨List.mem_of_getElem? (i := 405) (by decide +kernel), by decide +kernel⟩, gt_of ⟨List.mem_of_getElem? (i := 70) (by decide +kernel), by decide +kernel⟩, gt_of ⟨List.mem_of_getElem? (i := 402) (by decide +kernel), by decide +kernel⟩, ⟨gt_of ⟨List.mem_of_getElem? (i := 404) (by decide +kernel), by decide +kernel⟩, gt_of ⟨List.mem_of_getElem? (i := 20) (by decide +kernel), by decide +kernel⟩⟩⟩
theorem oX3_97 : OkM mX1_convert 1 ∧ Cond.code mX1_convert.1 mX1_convert.2.1 mX1_convert.2.2.1 mX1_convert.2.2.2 ∈ gtbl ∧ Cond.initialized mX1_convert.1.cls ∈ gtbl ∧ Cond.methodLinkNest RX3 97 mX1_convert.1 "MeshSums" ∈ lw_tbl ∧ Cond.instanceMethod mX1_convert.1 ∈ gtbl ∧ Cond.selects mX1_convert.1.cls mX1_convert.1 mX1_convert.1 ∈ gtbl := ⟨by decide +kernel, gt_of ⟨List.mem_of_getElem? (i := 334) (by decide +kernel), by decide +kernel⟩, gt_of ⟨List.mem_of_getElem? (i := 68) (by decide +kernel), by decide +kernel⟩, List.mem_of_getElem? (i := 406) (by decide +kernel), ⟨gt_of ⟨List.mem_of_getElem? (i := 333) (by decide +kernel), by decide +kernel⟩, gt_of ⟨List.mem_of_getElem? (i := 10) (by decide +kernel), by decide +kernel⟩⟩⟩
theorem oX3_106 : OkM mX3_fillCosts 0 ∧ Cond.code mX3_fillCosts.1 mX3_fillCosts.2.1 mX3_fillCosts.2.2.1 mX3_fillCosts.2.2.2 ∈ gtbl ∧ Cond.initialized mX3_fillCosts.1.cls ∈ gtbl ∧ Cond.methodLink RX3 106 mX3_fillCosts.1 ∈ gtbl ∧ Cond.instanceMethod mX3_fillCosts.1 ∈ gtbl ∧ Cond.selects mX3_fillCosts.1.cls mX3_fillCosts.1 mX3_fillCosts.1 ∈ gtbl := ⟨by decide +kernel, gt_of ⟨List.mem_of_getElem? (i := 434) (by decide +kernel), by decide +kernel⟩, gt_of ⟨List.mem_of_getElem? (i := 70) (by decide +kernel), by decide +kernel⟩, gt_of ⟨List.mem_of_getElem? (i := 431) (by decide +kernel), by decide +kernel⟩, ⟨gt_of ⟨List.mem_of_getElem? (i := 433) (by decide +kernel), by decide +kernel⟩, gt_of ⟨List.mem_of_getElem? (i := 24) (by decide +kernel), by decide +kernel⟩⟩⟩
theorem oX3_112 : OkM mJ6_bitCount_0f7a4 1 ∧ Cond.code mJ6_bitCount_0f7a4.1 mJ6_bitCount_0f7a4.2.1 mJ6_bitCount_0f7a4.2.2.1 mJ6_bitCount_0f7a4.2.2.2 ∈ gtbl ∧ Cond.initialized mJ6_bitCount_0f7a4.1.cls ∈ gtbl ∧ Cond.methodLink RX3 112 mJ6_bitCount_0f7a4.1 ∈ gtbl ∧ Cond.static mJ6_bitCount_0f7a4.1 ∈ gtbl ∧ True := ⟨by decide +kernel, gt_of ⟨List.mem_of_getElem? (i := 442) (by decide +kernel), by decide +kernel⟩, gt_of ⟨List.mem_of_getElem? (i := 75) (by decide +kernel), by decide +kernel⟩, gt_of ⟨List.mem_of_getElem? (i := 440) (by decide +kernel), by decide +kernel⟩, ⟨gt_of ⟨List.mem_of_getElem? (i := 441) (by decide +kernel), by decide +kernel⟩, trivial⟩⟩
theorem oX3_117 : OkM mX3_leastFrom 2 ∧ Cond.code mX3_leastFrom.1 mX3_leastFrom.2.1 mX3_leastFrom.2.2.1 mX3_leastFrom.2.2.2 ∈ gtbl ∧ Cond.initialized mX3_leastFrom.1.cls ∈ gtbl ∧ Cond.methodLink RX3 117 mX3_leastFrom.1 ∈ gtbl ∧ Cond.instanceMethod mX3_leastFrom.1 ∈ gtbl ∧ Cond.selects mX3_leastFrom.1.cls mX3_leastFrom.1 mX3_leastFrom.1 ∈ gtbl := ⟨by decide +kernel, gt_of ⟨List.mem_of_getElem? (i := 449) (by decide +kernel), by decide +kernel⟩, gt_of ⟨List.mem_of_getElem? (i := 70) (by decide +kernel), by decide +kernel⟩, gt_of ⟨List.mem_of_getElem? (i := 446) (by decide +kernel), by decide +kernel⟩, ⟨gt_of ⟨List.mem_of_getElem? (i := 448) (by decide +kernel), by decide +kernel⟩, gt_of ⟨List.mem_of_getElem? (i := 26) (by decide +kernel), by decide +kernel⟩⟩⟩
theorem oX3_120 : OkM mX3_chooseFirstLeast 0 ∧ Cond.code mX3_chooseFirstLeast.1 mX3_chooseFirstLeast.2.1 mX3_chooseFirstLeast.2.2.1 mX3_chooseFirstLeast.2.2.2 ∈ gtbl ∧ Cond.initialized mX3_chooseFirstLeast.1.cls ∈ gtbl ∧ Cond.methodLink RX3 120 mX3_chooseFirstLeast.1 ∈ gtbl ∧ Cond.instanceMethod mX3_chooseFirstLeast.1 ∈ gtbl ∧ Cond.selects mX3_chooseFirstLeast.1.cls mX3_chooseFirstLeast.1 mX3_chooseFirstLeast.1 ∈ gtbl := ⟨by decide +kernel, gt_of ⟨List.mem_of_getElem? (i := 459) (by decide +kernel), by decide +kernel⟩, gt_of ⟨List.mem_of_getElem? (i := 70) (by decide +kernel), by decide +kernel⟩, gt_of ⟨List.mem_of_getElem? (i := 456) (by decide +kernel), by decide +kernel⟩, ⟨gt_of ⟨List.mem_of_getElem? (i := 458) (by decide +kernel), by decide +kernel⟩, gt_of ⟨List.mem_of_getElem? (i := 28) (by decide +kernel), by decide +kernel⟩⟩⟩
theorem oX3_123 : OkM mX3_costOn 1 ∧ Cond.code mX3_costOn.1 mX3_costOn.2.1 mX3_costOn.2.2.1 mX3_costOn.2.2.2 ∈ gtbl ∧ Cond.initialized mX3_costOn.1.cls ∈ gtbl ∧ Cond.methodLink RX3 123 mX3_costOn.1 ∈ gtbl ∧ Cond.instanceMethod mX3_costOn.1 ∈ gtbl ∧ Cond.selects mX3_costOn.1.cls mX3_costOn.1 mX3_costOn.1 ∈ gtbl := ⟨by decide +kernel, gt_of ⟨List.mem_of_getElem? (i := 438) (by decide +kernel), by decide +kernel⟩, gt_of ⟨List.mem_of_getElem? (i := 70) (by decide +kernel), by decide +kernel⟩, gt_of ⟨List.mem_of_getElem? (i := 435) (by decide +kernel), by decide +kernel⟩, ⟨gt_of ⟨List.mem_of_getElem? (i := 437) (by decide +kernel), by decide +kernel⟩, gt_of ⟨List.mem_of_getElem? (i := 25) (by decide +kernel), by decide +kernel⟩⟩⟩
theorem oX3_126 : OkM mX1_sticks 1 ∧ Cond.code mX1_sticks.1 mX1_sticks.2.1 mX1_sticks.2.2.1 mX1_sticks.2.2.2 ∈ gtbl ∧ Cond.initialized mX1_sticks.1.cls ∈ gtbl ∧ Cond.methodLinkNest RX3 126 mX1_sticks.1 "MeshSums" ∈ lw_tbl ∧ Cond.instanceMethod mX1_sticks.1 ∈ gtbl ∧ Cond.selects mX1_sticks.1.cls mX1_sticks.1 mX1_sticks.1 ∈ gtbl := ⟨by decide +kernel, gt_of ⟨List.mem_of_getElem? (i := 293) (by decide +kernel), by decide +kernel⟩, gt_of ⟨List.mem_of_getElem? (i := 68) (by decide +kernel), by decide +kernel⟩, List.mem_of_getElem? (i := 439) (by decide +kernel), ⟨gt_of ⟨List.mem_of_getElem? (i := 292) (by decide +kernel), by decide +kernel⟩, gt_of ⟨List.mem_of_getElem? (i := 5) (by decide +kernel), by decide +kernel⟩⟩⟩
theorem oX3_134 : OkM mX3_costWith 3 ∧ Cond.code mX3_costWith.1 mX3_costWith.2.1 mX3_costWith.2.2.1 mX3_costWith.2.2.2 ∈ gtbl ∧ Cond.initialized mX3_costWith.1.cls ∈ gtbl ∧ Cond.methodLink RX3 134 mX3_costWith.1 ∈ gtbl ∧ Cond.instanceMethod mX3_costWith.1 ∈ gtbl ∧ Cond.selects mX3_costWith.1.cls mX3_costWith.1 mX3_costWith.1 ∈ gtbl := ⟨by decide +kernel, gt_of ⟨List.mem_of_getElem? (i := 454) (by decide +kernel), by decide +kernel⟩, gt_of ⟨List.mem_of_getElem? (i := 70) (by decide +kernel), by decide +kernel⟩, gt_of ⟨List.mem_of_getElem? (i := 451) (by decide +kernel), by decide +kernel⟩, ⟨gt_of ⟨List.mem_of_getElem? (i := 453) (by decide +kernel), by decide +kernel⟩, gt_of ⟨List.mem_of_getElem? (i := 27) (by decide +kernel), by decide +kernel⟩⟩⟩
theorem oX3_138 : OkM mJ9_min_7cf53 2 ∧ Cond.code mJ9_min_7cf53.1 mJ9_min_7cf53.2.1 mJ9_min_7cf53.2.2.1 mJ9_min_7cf53.2.2.2 ∈ gtbl ∧ Cond.initialized mJ9_min_7cf53.1.cls ∈ gtbl ∧ Cond.methodLink RX3 138 mJ9_min_7cf53.1 ∈ gtbl ∧ Cond.static mJ9_min_7cf53.1 ∈ gtbl ∧ True := ⟨by decide +kernel, gt_of ⟨List.mem_of_getElem? (i := 337) (by decide +kernel), by decide +kernel⟩, gt_of ⟨List.mem_of_getElem? (i := 74) (by decide +kernel), by decide +kernel⟩, gt_of ⟨List.mem_of_getElem? (i := 455) (by decide +kernel), by decide +kernel⟩, ⟨gt_of ⟨List.mem_of_getElem? (i := 336) (by decide +kernel), by decide +kernel⟩, trivial⟩⟩
theorem oX3_141 : OkM mX3_firstLeastRow 2 ∧ Cond.code mX3_firstLeastRow.1 mX3_firstLeastRow.2.1 mX3_firstLeastRow.2.2.1 mX3_firstLeastRow.2.2.2 ∈ gtbl ∧ Cond.initialized mX3_firstLeastRow.1.cls ∈ gtbl ∧ Cond.methodLink RX3 141 mX3_firstLeastRow.1 ∈ gtbl ∧ Cond.instanceMethod mX3_firstLeastRow.1 ∈ gtbl ∧ Cond.selects mX3_firstLeastRow.1.cls mX3_firstLeastRow.1 mX3_firstLeastRow.1 ∈ gtbl := ⟨by decide +kernel, gt_of ⟨List.mem_of_getElem? (i := 463) (by decide +kernel), by decide +kernel⟩, gt_of ⟨List.mem_of_getElem? (i := 70) (by decide +kernel), by decide +kernel⟩, gt_of ⟨List.mem_of_getElem? (i := 460) (by decide +kernel), by decide +kernel⟩, ⟨gt_of ⟨List.mem_of_getElem? (i := 462) (by decide +kernel), by decide +kernel⟩, gt_of ⟨List.mem_of_getElem? (i := 29) (by decide +kernel), by decide +kernel⟩⟩⟩
theorem oL_9 : OkM mX4_init 0 ∧ Cond.code mX4_init.1 mX4_init.2.1 mX4_init.2.2.1 mX4_init.2.2.2 ∈ gtbl ∧ Cond.initialized mX4_init.1.cls ∈ gtbl ∧ Cond.methodLink RL 9 mX4_init.1 ∈ gtbl ∧ Cond.instanceMethod mX4_init.1 ∈ gtbl ∧ mX4_init.1.name = "<init>" := ⟨by decide +kernel, gt_of ⟨List.mem_of_getElem? (i := 80) (by decide +kernel), by decide +kernel⟩, gt_of ⟨List.mem_of_getElem? (i := 67) (by decide +kernel), by decide +kernel⟩, gt_of ⟨List.mem_of_getElem? (i := 78) (by decide +kernel), by decide +kernel⟩, ⟨gt_of ⟨List.mem_of_getElem? (i := 79) (by decide +kernel), by decide +kernel⟩, by decide +kernel⟩⟩
theorem oL_12 : OkM mX5_init 0 ∧ Cond.code mX5_init.1 mX5_init.2.1 mX5_init.2.2.1 mX5_init.2.2.2 ∈ gtbl ∧ Cond.initialized mX5_init.1.cls ∈ gtbl ∧ Cond.methodLink RL 12 mX5_init.1 ∈ gtbl ∧ Cond.instanceMethod mX5_init.1 ∈ gtbl ∧ mX5_init.1.name = "<init>" := ⟨by decide +kernel, gt_of ⟨List.mem_of_getElem? (i := 630) (by decide +kernel), by decide +kernel⟩, gt_of ⟨List.mem_of_getElem? (i := 73) (by decide +kernel), by decide +kernel⟩, gt_of ⟨List.mem_of_getElem? (i := 628) (by decide +kernel), by decide +kernel⟩, ⟨gt_of ⟨List.mem_of_getElem? (i := 629) (by decide +kernel), by decide +kernel⟩, by decide +kernel⟩⟩
theorem oL_13 : OkM mX4_mesh 3 ∧ Cond.code mX4_mesh.1 mX4_mesh.2.1 mX4_mesh.2.2.1 mX4_mesh.2.2.2 ∈ gtbl ∧ Cond.initialized mX4_mesh.1.cls ∈ gtbl ∧ Cond.methodLink RL 13 mX4_mesh.1 ∈ gtbl ∧ Cond.instanceMethod mX4_mesh.1 ∈ gtbl ∧ Cond.selects mX4_mesh.1.cls mX4_mesh.1 mX4_mesh.1 ∈ gtbl := ⟨by decide +kernel, gt_of ⟨List.mem_of_getElem? (i := 264) (by decide +kernel), by decide +kernel⟩, gt_of ⟨List.mem_of_getElem? (i := 67) (by decide +kernel), by decide +kernel⟩, gt_of ⟨List.mem_of_getElem? (i := 261) (by decide +kernel), by decide +kernel⟩, ⟨gt_of ⟨List.mem_of_getElem? (i := 262) (by decide +kernel), by decide +kernel⟩, gt_of ⟨List.mem_of_getElem? (i := 263) (by decide +kernel), by decide +kernel⟩⟩⟩
theorem oL_17 : OkM mX5_mesh 3 ∧ Cond.code mX5_mesh.1 mX5_mesh.2.1 mX5_mesh.2.2.1 mX5_mesh.2.2.2 ∈ gtbl ∧ Cond.initialized mX5_mesh.1.cls ∈ gtbl ∧ Cond.methodLink RL 17 mX5_mesh.1 ∈ gtbl ∧ Cond.instanceMethod mX5_mesh.1 ∈ gtbl ∧ Cond.selects mX5_mesh.1.cls mX5_mesh.1 mX5_mesh.1 ∈ gtbl := ⟨by decide +kernel, gt_of ⟨List.mem_of_getElem? (i := 727) (by decide +kernel), by decide +kernel⟩, gt_of ⟨List.mem_of_getElem? (i := 73) (by decide +kernel), by decide +kernel⟩, gt_of ⟨List.mem_of_getElem? (i := 724) (by decide +kernel), by decide +kernel⟩, ⟨gt_of ⟨List.mem_of_getElem? (i := 725) (by decide +kernel), by decide +kernel⟩, gt_of ⟨List.mem_of_getElem? (i := 726) (by decide +kernel), by decide +kernel⟩⟩⟩
theorem oL_18 : OkM mX4_write 3 ∧ Cond.code mX4_write.1 mX4_write.2.1 mX4_write.2.2.1 mX4_write.2.2.2 ∈ gtbl ∧ Cond.initialized mX4_write.1.cls ∈ gtbl ∧ Cond.methodLink RL 18 mX4_write.1 ∈ gtbl ∧ Cond.instanceMethod mX4_write.1 ∈ gtbl ∧ Cond.selects mX4_write.1.cls mX4_write.1 mX4_write.1 ∈ gtbl := ⟨by decide +kernel, gt_of ⟨List.mem_of_getElem? (i := 276) (by decide +kernel), by decide +kernel⟩, gt_of ⟨List.mem_of_getElem? (i := 67) (by decide +kernel), by decide +kernel⟩, gt_of ⟨List.mem_of_getElem? (i := 273) (by decide +kernel), by decide +kernel⟩, ⟨gt_of ⟨List.mem_of_getElem? (i := 274) (by decide +kernel), by decide +kernel⟩, gt_of ⟨List.mem_of_getElem? (i := 275) (by decide +kernel), by decide +kernel⟩⟩⟩
theorem oL_21 : OkM mX5_write 3 ∧ Cond.code mX5_write.1 mX5_write.2.1 mX5_write.2.2.1 mX5_write.2.2.2 ∈ gtbl ∧ Cond.initialized mX5_write.1.cls ∈ gtbl ∧ Cond.methodLink RL 21 mX5_write.1 ∈ gtbl ∧ Cond.instanceMethod mX5_write.1 ∈ gtbl ∧ Cond.selects mX5_write.1.cls mX5_write.1 mX5_write.1 ∈ gtbl := ⟨by decide +kernel, gt_of ⟨List.mem_of_getElem? (i := 734) (by decide +kernel), by decide +kernel⟩, gt_of ⟨List.mem_of_getElem? (i := 73) (by decide +kernel), by decide +kernel⟩, gt_of ⟨List.mem_of_getElem? (i := 731) (by decide +kernel), by decide +kernel⟩, ⟨gt_of ⟨List.mem_of_getElem? (i := 732) (by decide +kernel), by decide +kernel⟩, gt_of ⟨List.mem_of_getElem? (i := 733) (by decide +kernel), by decide +kernel⟩⟩⟩
theorem oL_22 : OkM mX4_stick 3 ∧ Cond.code mX4_stick.1 mX4_stick.2.1 mX4_stick.2.2.1 mX4_stick.2.2.2 ∈ gtbl ∧ Cond.initialized mX4_stick.1.cls ∈ gtbl ∧ Cond.methodLink RL 22 mX4_stick.1 ∈ gtbl ∧ Cond.instanceMethod mX4_stick.1 ∈ gtbl ∧ Cond.selects mX4_stick.1.cls mX4_stick.1 mX4_stick.1 ∈ gtbl := ⟨by decide +kernel, gt_of ⟨List.mem_of_getElem? (i := 301) (by decide +kernel), by decide +kernel⟩, gt_of ⟨List.mem_of_getElem? (i := 67) (by decide +kernel), by decide +kernel⟩, gt_of ⟨List.mem_of_getElem? (i := 298) (by decide +kernel), by decide +kernel⟩, ⟨gt_of ⟨List.mem_of_getElem? (i := 299) (by decide +kernel), by decide +kernel⟩, gt_of ⟨List.mem_of_getElem? (i := 300) (by decide +kernel), by decide +kernel⟩⟩⟩
theorem oL_25 : OkM mX5_stick 3 ∧ Cond.code mX5_stick.1 mX5_stick.2.1 mX5_stick.2.2.1 mX5_stick.2.2.2 ∈ gtbl ∧ Cond.initialized mX5_stick.1.cls ∈ gtbl ∧ Cond.methodLink RL 25 mX5_stick.1 ∈ gtbl ∧ Cond.instanceMethod mX5_stick.1 ∈ gtbl ∧ Cond.selects mX5_stick.1.cls mX5_stick.1 mX5_stick.1 ∈ gtbl := ⟨by decide +kernel, gt_of ⟨List.mem_of_getElem? (i := 746) (by decide +kernel), by decide +kernel⟩, gt_of ⟨List.mem_of_getElem? (i := 73) (by decide +kernel), by decide +kernel⟩, gt_of ⟨List.mem_of_getElem? (i := 743) (by decide +kernel), by decide +kernel⟩, ⟨gt_of ⟨List.mem_of_getElem? (i := 744) (by decide +kernel), by decide +kernel⟩, gt_of ⟨List.mem_of_getElem? (i := 745) (by decide +kernel), by decide +kernel⟩⟩⟩
theorem oL_26 : OkM mX4_cell 3 ∧ Cond.code mX4_cell.1 mX4_cell.2.1 mX4_cell.2.2.1 mX4_cell.2.2.2 ∈ gtbl ∧ Cond.initialized mX4_cell.1.cls ∈ gtbl ∧ Cond.methodLink RL 26 mX4_cell.1 ∈ gtbl ∧ Cond.instanceMethod mX4_cell.1 ∈ gtbl ∧ Cond.selects mX4_cell.1.cls mX4_cell.1 mX4_cell.1 ∈ gtbl := ⟨by decide +kernel, gt_of ⟨List.mem_of_getElem? (i := 309) (by decide +kernel), by decide +kernel⟩, gt_of ⟨List.mem_of_getElem? (i := 67) (by decide +kernel), by decide +kernel⟩, gt_of ⟨List.mem_of_getElem? (i := 306) (by decide +kernel), by decide +kernel⟩, ⟨gt_of ⟨List.mem_of_getElem? (i := 307) (by decide +kernel), by decide +kernel⟩, gt_of ⟨List.mem_of_getElem? (i := 308) (by decide +kernel), by decide +kernel⟩⟩⟩
theorem oL_29 : OkM mX5_cell 3 ∧ Cond.code mX5_cell.1 mX5_cell.2.1 mX5_cell.2.2.1 mX5_cell.2.2.2 ∈ gtbl ∧ Cond.initialized mX5_cell.1.cls ∈ gtbl ∧ Cond.methodLink RL 29 mX5_cell.1 ∈ gtbl ∧ Cond.instanceMethod mX5_cell.1 ∈ gtbl ∧ Cond.selects mX5_cell.1.cls mX5_cell.1 mX5_cell.1 ∈ gtbl := ⟨by decide +kernel, gt_of ⟨List.mem_of_getElem? (i := 750) (by decide +kernel), by decide +kernel⟩, gt_of ⟨List.mem_of_getElem? (i := 73) (by decide +kernel), by decide +kernel⟩, gt_of ⟨List.mem_of_getElem? (i := 747) (by decide +kernel), by decide +kernel⟩, ⟨gt_of ⟨List.mem_of_getElem? (i := 748) (by decide +kernel), by decide +kernel⟩, gt_of ⟨List.mem_of_getElem? (i := 749) (by decide +kernel), by decide +kernel⟩⟩⟩
theorem oL_30 : OkM mX4_input 2 ∧ Cond.code mX4_input.1 mX4_input.2.1 mX4_input.2.2.1 mX4_input.2.2.2 ∈ gtbl ∧ Cond.initialized mX4_input.1.cls ∈ gtbl ∧ Cond.methodLink RL 30 mX4_input.1 ∈ gtbl ∧ Cond.instanceMethod mX4_input.1 ∈ gtbl ∧ Cond.selects mX4_input.1.cls mX4_input.1 mX4_input.1 ∈ gtbl := ⟨by decide +kernel, gt_of ⟨List.mem_of_getElem? (i := 317) (by decide +kernel), by decide +kernel⟩, gt_of ⟨List.mem_of_getElem? (i := 67) (by decide +kernel), by decide +kernel⟩, gt_of ⟨List.mem_of_getElem? (i := 314) (by decide +kernel), by decide +kernel⟩, ⟨gt_of ⟨List.mem_of_getElem? (i := 315) (by decide +kernel), by decide +kernel⟩, gt_of ⟨List.mem_of_getElem? (i := 316) (by decide +kernel), by decide +kernel⟩⟩⟩
theorem oL_34 : OkM mX5_input 2 ∧ Cond.code mX5_input.1 mX5_input.2.1 mX5_input.2.2.1 mX5_input.2.2.2 ∈ gtbl ∧ Cond.initialized mX5_input.1.cls ∈ gtbl ∧ Cond.methodLink RL 34 mX5_input.1 ∈ gtbl ∧ Cond.instanceMethod mX5_input.1 ∈ gtbl ∧ Cond.selects mX5_input.1.cls mX5_input.1 mX5_input.1 ∈ gtbl := ⟨by decide +kernel, gt_of ⟨List.mem_of_getElem? (i := 758) (by decide +kernel), by decide +kernel⟩, gt_of ⟨List.mem_of_getElem? (i := 73) (by decide +kernel), by decide +kernel⟩, gt_of ⟨List.mem_of_getElem? (i := 755) (by decide +kernel), by decide +kernel⟩, ⟨gt_of ⟨List.mem_of_getElem? (i := 756) (by decide +kernel), by decide +kernel⟩, gt_of ⟨List.mem_of_getElem? (i := 757) (by decide +kernel), by decide +kernel⟩⟩⟩
theorem oL_35 : OkM mX4_bits 1 ∧ Cond.code mX4_bits.1 mX4_bits.2.1 mX4_bits.2.2.1 mX4_bits.2.2.2 ∈ gtbl ∧ Cond.initialized mX4_bits.1.cls ∈ gtbl ∧ Cond.methodLink RL 35 mX4_bits.1 ∈ gtbl ∧ Cond.instanceMethod mX4_bits.1 ∈ gtbl ∧ Cond.selects mX4_bits.1.cls mX4_bits.1 mX4_bits.1 ∈ gtbl := ⟨by decide +kernel, gt_of ⟨List.mem_of_getElem? (i := 321) (by decide +kernel), by decide +kernel⟩, gt_of ⟨List.mem_of_getElem? (i := 67) (by decide +kernel), by decide +kernel⟩, gt_of ⟨List.mem_of_getElem? (i := 318) (by decide +kernel), by decide +kernel⟩, ⟨gt_of ⟨List.mem_of_getElem? (i := 319) (by decide +kernel), by decide +kernel⟩, gt_of ⟨List.mem_of_getElem? (i := 320) (by decide +kernel), by decide +kernel⟩⟩⟩
theorem oL_39 : OkM mX5_bits 1 ∧ Cond.code mX5_bits.1 mX5_bits.2.1 mX5_bits.2.2.1 mX5_bits.2.2.2 ∈ gtbl ∧ Cond.initialized mX5_bits.1.cls ∈ gtbl ∧ Cond.methodLink RL 39 mX5_bits.1 ∈ gtbl ∧ Cond.instanceMethod mX5_bits.1 ∈ gtbl ∧ Cond.selects mX5_bits.1.cls mX5_bits.1 mX5_bits.1 ∈ gtbl := ⟨by decide +kernel, gt_of ⟨List.mem_of_getElem? (i := 762) (by decide +kernel), by decide +kernel⟩, gt_of ⟨List.mem_of_getElem? (i := 73) (by decide +kernel), by decide +kernel⟩, gt_of ⟨List.mem_of_getElem? (i := 759) (by decide +kernel), by decide +kernel⟩, ⟨gt_of ⟨List.mem_of_getElem? (i := 760) (by decide +kernel), by decide +kernel⟩, gt_of ⟨List.mem_of_getElem? (i := 761) (by decide +kernel), by decide +kernel⟩⟩⟩
theorem oL_40 : OkM mX4_sum 1 ∧ Cond.code mX4_sum.1 mX4_sum.2.1 mX4_sum.2.2.1 mX4_sum.2.2.2 ∈ gtbl ∧ Cond.initialized mX4_sum.1.cls ∈ gtbl ∧ Cond.methodLink RL 40 mX4_sum.1 ∈ gtbl ∧ Cond.instanceMethod mX4_sum.1 ∈ gtbl ∧ Cond.selects mX4_sum.1.cls mX4_sum.1 mX4_sum.1 ∈ gtbl := ⟨by decide +kernel, gt_of ⟨List.mem_of_getElem? (i := 325) (by decide +kernel), by decide +kernel⟩, gt_of ⟨List.mem_of_getElem? (i := 67) (by decide +kernel), by decide +kernel⟩, gt_of ⟨List.mem_of_getElem? (i := 322) (by decide +kernel), by decide +kernel⟩, ⟨gt_of ⟨List.mem_of_getElem? (i := 323) (by decide +kernel), by decide +kernel⟩, gt_of ⟨List.mem_of_getElem? (i := 324) (by decide +kernel), by decide +kernel⟩⟩⟩
theorem oL_43 : OkM mX5_sum 1 ∧ Cond.code mX5_sum.1 mX5_sum.2.1 mX5_sum.2.2.1 mX5_sum.2.2.2 ∈ gtbl ∧ Cond.initialized mX5_sum.1.cls ∈ gtbl ∧ Cond.methodLink RL 43 mX5_sum.1 ∈ gtbl ∧ Cond.instanceMethod mX5_sum.1 ∈ gtbl ∧ Cond.selects mX5_sum.1.cls mX5_sum.1 mX5_sum.1 ∈ gtbl := ⟨by decide +kernel, gt_of ⟨List.mem_of_getElem? (i := 766) (by decide +kernel), by decide +kernel⟩, gt_of ⟨List.mem_of_getElem? (i := 73) (by decide +kernel), by decide +kernel⟩, gt_of ⟨List.mem_of_getElem? (i := 763) (by decide +kernel), by decide +kernel⟩, ⟨gt_of ⟨List.mem_of_getElem? (i := 764) (by decide +kernel), by decide +kernel⟩, gt_of ⟨List.mem_of_getElem? (i := 765) (by decide +kernel), by decide +kernel⟩⟩⟩
theorem oL_44 : OkM mX4_table 3 ∧ Cond.code mX4_table.1 mX4_table.2.1 mX4_table.2.2.1 mX4_table.2.2.2 ∈ gtbl ∧ Cond.initialized mX4_table.1.cls ∈ gtbl ∧ Cond.methodLink RL 44 mX4_table.1 ∈ gtbl ∧ Cond.instanceMethod mX4_table.1 ∈ gtbl ∧ Cond.selects mX4_table.1.cls mX4_table.1 mX4_table.1 ∈ gtbl := ⟨by decide +kernel, gt_of ⟨List.mem_of_getElem? (i := 341) (by decide +kernel), by decide +kernel⟩, gt_of ⟨List.mem_of_getElem? (i := 67) (by decide +kernel), by decide +kernel⟩, gt_of ⟨List.mem_of_getElem? (i := 338) (by decide +kernel), by decide +kernel⟩, ⟨gt_of ⟨List.mem_of_getElem? (i := 339) (by decide +kernel), by decide +kernel⟩, gt_of ⟨List.mem_of_getElem? (i := 340) (by decide +kernel), by decide +kernel⟩⟩⟩
theorem oL_47 : OkM mX5_table 3 ∧ Cond.code mX5_table.1 mX5_table.2.1 mX5_table.2.2.1 mX5_table.2.2.2 ∈ gtbl ∧ Cond.initialized mX5_table.1.cls ∈ gtbl ∧ Cond.methodLink RL 47 mX5_table.1 ∈ gtbl ∧ Cond.instanceMethod mX5_table.1 ∈ gtbl ∧ Cond.selects mX5_table.1.cls mX5_table.1 mX5_table.1 ∈ gtbl := ⟨by decide +kernel, gt_of ⟨List.mem_of_getElem? (i := 778) (by decide +kernel), by decide +kernel⟩, gt_of ⟨List.mem_of_getElem? (i := 73) (by decide +kernel), by decide +kernel⟩, gt_of ⟨List.mem_of_getElem? (i := 775) (by decide +kernel), by decide +kernel⟩, ⟨gt_of ⟨List.mem_of_getElem? (i := 776) (by decide +kernel), by decide +kernel⟩, gt_of ⟨List.mem_of_getElem? (i := 777) (by decide +kernel), by decide +kernel⟩⟩⟩
theorem oL_48 : OkM mX4_number 3 ∧ Cond.code mX4_number.1 mX4_number.2.1 mX4_number.2.2.1 mX4_number.2.2.2 ∈ gtbl ∧ Cond.initialized mX4_number.1.cls ∈ gtbl ∧ Cond.methodLink RL 48 mX4_number.1 ∈ gtbl ∧ Cond.instanceMethod mX4_number.1 ∈ gtbl ∧ Cond.selects mX4_number.1.cls mX4_number.1 mX4_number.1 ∈ gtbl := ⟨by decide +kernel, gt_of ⟨List.mem_of_getElem? (i := 357) (by decide +kernel), by decide +kernel⟩, gt_of ⟨List.mem_of_getElem? (i := 67) (by decide +kernel), by decide +kernel⟩, gt_of ⟨List.mem_of_getElem? (i := 354) (by decide +kernel), by decide +kernel⟩, ⟨gt_of ⟨List.mem_of_getElem? (i := 355) (by decide +kernel), by decide +kernel⟩, gt_of ⟨List.mem_of_getElem? (i := 356) (by decide +kernel), by decide +kernel⟩⟩⟩
theorem oL_51 : OkM mX5_number 3 ∧ Cond.code mX5_number.1 mX5_number.2.1 mX5_number.2.2.1 mX5_number.2.2.2 ∈ gtbl ∧ Cond.initialized mX5_number.1.cls ∈ gtbl ∧ Cond.methodLink RL 51 mX5_number.1 ∈ gtbl ∧ Cond.instanceMethod mX5_number.1 ∈ gtbl ∧ Cond.selects mX5_number.1.cls mX5_number.1 mX5_number.1 ∈ gtbl := ⟨by decide +kernel, gt_of ⟨List.mem_of_getElem? (i := 782) (by decide +kernel), by decide +kernel⟩, gt_of ⟨List.mem_of_getElem? (i := 73) (by decide +kernel), by decide +kernel⟩, gt_of ⟨List.mem_of_getElem? (i := 779) (by decide +kernel), by decide +kernel⟩, ⟨gt_of ⟨List.mem_of_getElem? (i := 780) (by decide +kernel), by decide +kernel⟩, gt_of ⟨List.mem_of_getElem? (i := 781) (by decide +kernel), by decide +kernel⟩⟩⟩
theorem oL_52 : OkM mX4_lay 0 ∧ Cond.code mX4_lay.1 mX4_lay.2.1 mX4_lay.2.2.1 mX4_lay.2.2.2 ∈ gtbl ∧ Cond.initialized mX4_lay.1.cls ∈ gtbl ∧ Cond.methodLink RL 52 mX4_lay.1 ∈ gtbl ∧ Cond.instanceMethod mX4_lay.1 ∈ gtbl ∧ Cond.selects mX4_lay.1.cls mX4_lay.1 mX4_lay.1 ∈ gtbl := ⟨by decide +kernel, gt_of ⟨List.mem_of_getElem? (i := 370) (by decide +kernel), by decide +kernel⟩, gt_of ⟨List.mem_of_getElem? (i := 67) (by decide +kernel), by decide +kernel⟩, gt_of ⟨List.mem_of_getElem? (i := 367) (by decide +kernel), by decide +kernel⟩, ⟨gt_of ⟨List.mem_of_getElem? (i := 368) (by decide +kernel), by decide +kernel⟩, gt_of ⟨List.mem_of_getElem? (i := 369) (by decide +kernel), by decide +kernel⟩⟩⟩
theorem oL_56 : OkM mX5_lay 0 ∧ Cond.code mX5_lay.1 mX5_lay.2.1 mX5_lay.2.2.1 mX5_lay.2.2.2 ∈ gtbl ∧ Cond.initialized mX5_lay.1.cls ∈ gtbl ∧ Cond.methodLink RL 56 mX5_lay.1 ∈ gtbl ∧ Cond.instanceMethod mX5_lay.1 ∈ gtbl ∧ Cond.selects mX5_lay.1.cls mX5_lay.1 mX5_lay.1 ∈ gtbl := ⟨by decide +kernel, gt_of ⟨List.mem_of_getElem? (i := 791) (by decide +kernel), by decide +kernel⟩, gt_of ⟨List.mem_of_getElem? (i := 73) (by decide +kernel), by decide +kernel⟩, gt_of ⟨List.mem_of_getElem? (i := 788) (by decide +kernel), by decide +kernel⟩, ⟨gt_of ⟨List.mem_of_getElem? (i := 789) (by decide +kernel), by decide +kernel⟩, gt_of ⟨List.mem_of_getElem? (i := 790) (by decide +kernel), by decide +kernel⟩⟩⟩
theorem oL_57 : OkM mX4_product 1 ∧ Cond.code mX4_product.1 mX4_product.2.1 mX4_product.2.2.1 mX4_product.2.2.2 ∈ gtbl ∧ Cond.initialized mX4_product.1.cls ∈ gtbl ∧ Cond.methodLink RL 57 mX4_product.1 ∈ gtbl ∧ Cond.instanceMethod mX4_product.1 ∈ gtbl ∧ Cond.selects mX4_product.1.cls mX4_product.1 mX4_product.1 ∈ gtbl := ⟨by decide +kernel, gt_of ⟨List.mem_of_getElem? (i := 396) (by decide +kernel), by decide +kernel⟩, gt_of ⟨List.mem_of_getElem? (i := 67) (by decide +kernel), by decide +kernel⟩, gt_of ⟨List.mem_of_getElem? (i := 393) (by decide +kernel), by decide +kernel⟩, ⟨gt_of ⟨List.mem_of_getElem? (i := 394) (by decide +kernel), by decide +kernel⟩, gt_of ⟨List.mem_of_getElem? (i := 395) (by decide +kernel), by decide +kernel⟩⟩⟩
theorem oL_61 : OkM mX5_product 1 ∧ Cond.code mX5_product.1 mX5_product.2.1 mX5_product.2.2.1 mX5_product.2.2.2 ∈ gtbl ∧ Cond.initialized mX5_product.1.cls ∈ gtbl ∧ Cond.methodLink RL 61 mX5_product.1 ∈ gtbl ∧ Cond.instanceMethod mX5_product.1 ∈ gtbl ∧ Cond.selects mX5_product.1.cls mX5_product.1 mX5_product.1 ∈ gtbl := ⟨by decide +kernel, gt_of ⟨List.mem_of_getElem? (i := 803) (by decide +kernel), by decide +kernel⟩, gt_of ⟨List.mem_of_getElem? (i := 73) (by decide +kernel), by decide +kernel⟩, gt_of ⟨List.mem_of_getElem? (i := 800) (by decide +kernel), by decide +kernel⟩, ⟨gt_of ⟨List.mem_of_getElem? (i := 801) (by decide +kernel), by decide +kernel⟩, gt_of ⟨List.mem_of_getElem? (i := 802) (by decide +kernel), by decide +kernel⟩⟩⟩
theorem oL_62 : OkM mX4_due 1 ∧ Cond.code mX4_due.1 mX4_due.2.1 mX4_due.2.2.1 mX4_due.2.2.2 ∈ gtbl ∧ Cond.initialized mX4_due.1.cls ∈ gtbl ∧ Cond.methodLink RL 62 mX4_due.1 ∈ gtbl ∧ Cond.instanceMethod mX4_due.1 ∈ gtbl ∧ Cond.selects mX4_due.1.cls mX4_due.1 mX4_due.1 ∈ gtbl := ⟨by decide +kernel, gt_of ⟨List.mem_of_getElem? (i := 410) (by decide +kernel), by decide +kernel⟩, gt_of ⟨List.mem_of_getElem? (i := 67) (by decide +kernel), by decide +kernel⟩, gt_of ⟨List.mem_of_getElem? (i := 407) (by decide +kernel), by decide +kernel⟩, ⟨gt_of ⟨List.mem_of_getElem? (i := 408) (by decide +kernel), by decide +kernel⟩, gt_of ⟨List.mem_of_getElem? (i := 409) (by decide +kernel), by decide +kernel⟩⟩⟩
theorem oL_65 : OkM mX5_due 1 ∧ Cond.code mX5_due.1 mX5_due.2.1 mX5_due.2.2.1 mX5_due.2.2.2 ∈ gtbl ∧ Cond.initialized mX5_due.1.cls ∈ gtbl ∧ Cond.methodLink RL 65 mX5_due.1 ∈ gtbl ∧ Cond.instanceMethod mX5_due.1 ∈ gtbl ∧ Cond.selects mX5_due.1.cls mX5_due.1 mX5_due.1 ∈ gtbl := ⟨by decide +kernel, gt_of ⟨List.mem_of_getElem? (i := 812) (by decide +kernel), by decide +kernel⟩, gt_of ⟨List.mem_of_getElem? (i := 73) (by decide +kernel), by decide +kernel⟩, gt_of ⟨List.mem_of_getElem? (i := 809) (by decide +kernel), by decide +kernel⟩, ⟨gt_of ⟨List.mem_of_getElem? (i := 810) (by decide +kernel), by decide +kernel⟩, gt_of ⟨List.mem_of_getElem? (i := 811) (by decide +kernel), by decide +kernel⟩⟩⟩
theorem oL_66 : OkM mX4_enough 0 ∧ Cond.code mX4_enough.1 mX4_enough.2.1 mX4_enough.2.2.1 mX4_enough.2.2.2 ∈ gtbl ∧ Cond.initialized mX4_enough.1.cls ∈ gtbl ∧ Cond.methodLink RL 66 mX4_enough.1 ∈ gtbl ∧ Cond.instanceMethod mX4_enough.1 ∈ gtbl ∧ Cond.selects mX4_enough.1.cls mX4_enough.1 mX4_enough.1 ∈ gtbl := ⟨by decide +kernel, gt_of ⟨List.mem_of_getElem? (i := 418) (by decide +kernel), by decide +kernel⟩, gt_of ⟨List.mem_of_getElem? (i := 67) (by decide +kernel), by decide +kernel⟩, gt_of ⟨List.mem_of_getElem? (i := 415) (by decide +kernel), by decide +kernel⟩, ⟨gt_of ⟨List.mem_of_getElem? (i := 416) (by decide +kernel), by decide +kernel⟩, gt_of ⟨List.mem_of_getElem? (i := 417) (by decide +kernel), by decide +kernel⟩⟩⟩
theorem oL_69 : OkM mX5_enough 0 ∧ Cond.code mX5_enough.1 mX5_enough.2.1 mX5_enough.2.2.1 mX5_enough.2.2.2 ∈ gtbl ∧ Cond.initialized mX5_enough.1.cls ∈ gtbl ∧ Cond.methodLink RL 69 mX5_enough.1 ∈ gtbl ∧ Cond.instanceMethod mX5_enough.1 ∈ gtbl ∧ Cond.selects mX5_enough.1.cls mX5_enough.1 mX5_enough.1 ∈ gtbl := ⟨by decide +kernel, gt_of ⟨List.mem_of_getElem? (i := 816) (by decide +kernel), by decide +kernel⟩, gt_of ⟨List.mem_of_getElem? (i := 73) (by decide +kernel), by decide +kernel⟩, gt_of ⟨List.mem_of_getElem? (i := 813) (by decide +kernel), by decide +kernel⟩, ⟨gt_of ⟨List.mem_of_getElem? (i := 814) (by decide +kernel), by decide +kernel⟩, gt_of ⟨List.mem_of_getElem? (i := 815) (by decide +kernel), by decide +kernel⟩⟩⟩
theorem oL_70 : OkM mX4_map 0 ∧ Cond.code mX4_map.1 mX4_map.2.1 mX4_map.2.2.1 mX4_map.2.2.2 ∈ gtbl ∧ Cond.initialized mX4_map.1.cls ∈ gtbl ∧ Cond.methodLink RL 70 mX4_map.1 ∈ gtbl ∧ Cond.instanceMethod mX4_map.1 ∈ gtbl ∧ Cond.selects mX4_map.1.cls mX4_map.1 mX4_map.1 ∈ gtbl := ⟨by decide +kernel, gt_of ⟨List.mem_of_getElem? (i := 426) (by decide +kernel), by decide +kernel⟩, gt_of ⟨List.mem_of_getElem? (i := 67) (by decide +kernel), by decide +kernel⟩, gt_of ⟨List.mem_of_getElem? (i := 423) (by decide +kernel), by decide +kernel⟩, ⟨gt_of ⟨List.mem_of_getElem? (i := 424) (by decide +kernel), by decide +kernel⟩, gt_of ⟨List.mem_of_getElem? (i := 425) (by decide +kernel), by decide +kernel⟩⟩⟩
theorem oL_73 : OkM mX5_map 0 ∧ Cond.code mX5_map.1 mX5_map.2.1 mX5_map.2.2.1 mX5_map.2.2.2 ∈ gtbl ∧ Cond.initialized mX5_map.1.cls ∈ gtbl ∧ Cond.methodLink RL 73 mX5_map.1 ∈ gtbl ∧ Cond.instanceMethod mX5_map.1 ∈ gtbl ∧ Cond.selects mX5_map.1.cls mX5_map.1 mX5_map.1 ∈ gtbl := ⟨by decide +kernel, gt_of ⟨List.mem_of_getElem? (i := 820) (by decide +kernel), by decide +kernel⟩, gt_of ⟨List.mem_of_getElem? (i := 73) (by decide +kernel), by decide +kernel⟩, gt_of ⟨List.mem_of_getElem? (i := 817) (by decide +kernel), by decide +kernel⟩, ⟨gt_of ⟨List.mem_of_getElem? (i := 818) (by decide +kernel), by decide +kernel⟩, gt_of ⟨List.mem_of_getElem? (i := 819) (by decide +kernel), by decide +kernel⟩⟩⟩
theorem oL_74 : OkM mX4_mapped 1 ∧ Cond.code mX4_mapped.1 mX4_mapped.2.1 mX4_mapped.2.2.1 mX4_mapped.2.2.2 ∈ gtbl ∧ Cond.initialized mX4_mapped.1.cls ∈ gtbl ∧ Cond.methodLink RL 74 mX4_mapped.1 ∈ gtbl ∧ Cond.instanceMethod mX4_mapped.1 ∈ gtbl ∧ Cond.selects mX4_mapped.1.cls mX4_mapped.1 mX4_mapped.1 ∈ gtbl := ⟨by decide +kernel, gt_of ⟨List.mem_of_getElem? (i := 467) (by decide +kernel), by decide +kernel⟩, gt_of ⟨List.mem_of_getElem? (i := 67) (by decide +kernel), by decide +kernel⟩, gt_of ⟨List.mem_of_getElem? (i := 464) (by decide +kernel), by decide +kernel⟩, ⟨gt_of ⟨List.mem_of_getElem? (i := 465) (by decide +kernel), by decide +kernel⟩, gt_of ⟨List.mem_of_getElem? (i := 466) (by decide +kernel), by decide +kernel⟩⟩⟩
theorem oL_77 : OkM mX5_mapped 1 ∧ Cond.code mX5_mapped.1 mX5_mapped.2.1 mX5_mapped.2.2.1 mX5_mapped.2.2.2 ∈ gtbl ∧ Cond.initialized mX5_mapped.1.cls ∈ gtbl ∧ Cond.methodLink RL 77 mX5_mapped.1 ∈ gtbl ∧ Cond.instanceMethod mX5_mapped.1 ∈ gtbl ∧ Cond.selects mX5_mapped.1.cls mX5_mapped.1 mX5_mapped.1 ∈ gtbl := ⟨by decide +kernel, gt_of ⟨List.mem_of_getElem? (i := 832) (by decide +kernel), by decide +kernel⟩, gt_of ⟨List.mem_of_getElem? (i := 73) (by decide +kernel), by decide +kernel⟩, gt_of ⟨List.mem_of_getElem? (i := 829) (by decide +kernel), by decide +kernel⟩, ⟨gt_of ⟨List.mem_of_getElem? (i := 830) (by decide +kernel), by decide +kernel⟩, gt_of ⟨List.mem_of_getElem? (i := 831) (by decide +kernel), by decide +kernel⟩⟩⟩
theorem oL_78 : OkM mX4_seal 0 ∧ Cond.code mX4_seal.1 mX4_seal.2.1 mX4_seal.2.2.1 mX4_seal.2.2.2 ∈ gtbl ∧ Cond.initialized mX4_seal.1.cls ∈ gtbl ∧ Cond.methodLink RL 78 mX4_seal.1 ∈ gtbl ∧ Cond.instanceMethod mX4_seal.1 ∈ gtbl ∧ Cond.selects mX4_seal.1.cls mX4_seal.1 mX4_seal.1 ∈ gtbl := ⟨by decide +kernel, gt_of ⟨List.mem_of_getElem? (i := 471) (by decide +kernel), by decide +kernel⟩, gt_of ⟨List.mem_of_getElem? (i := 67) (by decide +kernel), by decide +kernel⟩, gt_of ⟨List.mem_of_getElem? (i := 468) (by decide +kernel), by decide +kernel⟩, ⟨gt_of ⟨List.mem_of_getElem? (i := 469) (by decide +kernel), by decide +kernel⟩, gt_of ⟨List.mem_of_getElem? (i := 470) (by decide +kernel), by decide +kernel⟩⟩⟩
theorem oL_81 : OkM mX5_seal 0 ∧ Cond.code mX5_seal.1 mX5_seal.2.1 mX5_seal.2.2.1 mX5_seal.2.2.2 ∈ gtbl ∧ Cond.initialized mX5_seal.1.cls ∈ gtbl ∧ Cond.methodLink RL 81 mX5_seal.1 ∈ gtbl ∧ Cond.instanceMethod mX5_seal.1 ∈ gtbl ∧ Cond.selects mX5_seal.1.cls mX5_seal.1 mX5_seal.1 ∈ gtbl := ⟨by decide +kernel, gt_of ⟨List.mem_of_getElem? (i := 836) (by decide +kernel), by decide +kernel⟩, gt_of ⟨List.mem_of_getElem? (i := 73) (by decide +kernel), by decide +kernel⟩, gt_of ⟨List.mem_of_getElem? (i := 833) (by decide +kernel), by decide +kernel⟩, ⟨gt_of ⟨List.mem_of_getElem? (i := 834) (by decide +kernel), by decide +kernel⟩, gt_of ⟨List.mem_of_getElem? (i := 835) (by decide +kernel), by decide +kernel⟩⟩⟩
theorem oL_82 : OkM mX4_look 0 ∧ Cond.code mX4_look.1 mX4_look.2.1 mX4_look.2.2.1 mX4_look.2.2.2 ∈ gtbl ∧ Cond.initialized mX4_look.1.cls ∈ gtbl ∧ Cond.methodLink RL 82 mX4_look.1 ∈ gtbl ∧ Cond.instanceMethod mX4_look.1 ∈ gtbl ∧ Cond.selects mX4_look.1.cls mX4_look.1 mX4_look.1 ∈ gtbl := ⟨by decide +kernel, gt_of ⟨List.mem_of_getElem? (i := 480) (by decide +kernel), by decide +kernel⟩, gt_of ⟨List.mem_of_getElem? (i := 67) (by decide +kernel), by decide +kernel⟩, gt_of ⟨List.mem_of_getElem? (i := 477) (by decide +kernel), by decide +kernel⟩, ⟨gt_of ⟨List.mem_of_getElem? (i := 478) (by decide +kernel), by decide +kernel⟩, gt_of ⟨List.mem_of_getElem? (i := 479) (by decide +kernel), by decide +kernel⟩⟩⟩
theorem oL_85 : OkM mX5_look 0 ∧ Cond.code mX5_look.1 mX5_look.2.1 mX5_look.2.2.1 mX5_look.2.2.2 ∈ gtbl ∧ Cond.initialized mX5_look.1.cls ∈ gtbl ∧ Cond.methodLink RL 85 mX5_look.1 ∈ gtbl ∧ Cond.instanceMethod mX5_look.1 ∈ gtbl ∧ Cond.selects mX5_look.1.cls mX5_look.1 mX5_look.1 ∈ gtbl := ⟨by decide +kernel, gt_of ⟨List.mem_of_getElem? (i := 840) (by decide +kernel), by decide +kernel⟩, gt_of ⟨List.mem_of_getElem? (i := 73) (by decide +kernel), by decide +kernel⟩, gt_of ⟨List.mem_of_getElem? (i := 837) (by decide +kernel), by decide +kernel⟩, ⟨gt_of ⟨List.mem_of_getElem? (i := 838) (by decide +kernel), by decide +kernel⟩, gt_of ⟨List.mem_of_getElem? (i := 839) (by decide +kernel), by decide +kernel⟩⟩⟩
theorem oL_86 : OkM mX4_fade 1 ∧ Cond.code mX4_fade.1 mX4_fade.2.1 mX4_fade.2.2.1 mX4_fade.2.2.2 ∈ gtbl ∧ Cond.initialized mX4_fade.1.cls ∈ gtbl ∧ Cond.methodLink RL 86 mX4_fade.1 ∈ gtbl ∧ Cond.instanceMethod mX4_fade.1 ∈ gtbl ∧ Cond.selects mX4_fade.1.cls mX4_fade.1 mX4_fade.1 ∈ gtbl := ⟨by decide +kernel, gt_of ⟨List.mem_of_getElem? (i := 496) (by decide +kernel), by decide +kernel⟩, gt_of ⟨List.mem_of_getElem? (i := 67) (by decide +kernel), by decide +kernel⟩, gt_of ⟨List.mem_of_getElem? (i := 493) (by decide +kernel), by decide +kernel⟩, ⟨gt_of ⟨List.mem_of_getElem? (i := 494) (by decide +kernel), by decide +kernel⟩, gt_of ⟨List.mem_of_getElem? (i := 495) (by decide +kernel), by decide +kernel⟩⟩⟩
theorem oL_89 : OkM mX5_fade 1 ∧ Cond.code mX5_fade.1 mX5_fade.2.1 mX5_fade.2.2.1 mX5_fade.2.2.2 ∈ gtbl ∧ Cond.initialized mX5_fade.1.cls ∈ gtbl ∧ Cond.methodLink RL 89 mX5_fade.1 ∈ gtbl ∧ Cond.instanceMethod mX5_fade.1 ∈ gtbl ∧ Cond.selects mX5_fade.1.cls mX5_fade.1 mX5_fade.1 ∈ gtbl := ⟨by decide +kernel, gt_of ⟨List.mem_of_getElem? (i := 847) (by decide +kernel), by decide +kernel⟩, gt_of ⟨List.mem_of_getElem? (i := 73) (by decide +kernel), by decide +kernel⟩, gt_of ⟨List.mem_of_getElem? (i := 844) (by decide +kernel), by decide +kernel⟩, ⟨gt_of ⟨List.mem_of_getElem? (i := 845) (by decide +kernel), by decide +kernel⟩, gt_of ⟨List.mem_of_getElem? (i := 846) (by decide +kernel), by decide +kernel⟩⟩⟩
theorem oL_90 : OkM mX4_pulse 3 ∧ Cond.code mX4_pulse.1 mX4_pulse.2.1 mX4_pulse.2.2.1 mX4_pulse.2.2.2 ∈ gtbl ∧ Cond.initialized mX4_pulse.1.cls ∈ gtbl ∧ Cond.methodLink RL 90 mX4_pulse.1 ∈ gtbl ∧ Cond.instanceMethod mX4_pulse.1 ∈ gtbl ∧ Cond.selects mX4_pulse.1.cls mX4_pulse.1 mX4_pulse.1 ∈ gtbl := ⟨by decide +kernel, gt_of ⟨List.mem_of_getElem? (i := 508) (by decide +kernel), by decide +kernel⟩, gt_of ⟨List.mem_of_getElem? (i := 67) (by decide +kernel), by decide +kernel⟩, gt_of ⟨List.mem_of_getElem? (i := 505) (by decide +kernel), by decide +kernel⟩, ⟨gt_of ⟨List.mem_of_getElem? (i := 506) (by decide +kernel), by decide +kernel⟩, gt_of ⟨List.mem_of_getElem? (i := 507) (by decide +kernel), by decide +kernel⟩⟩⟩
theorem oL_93 : OkM mX5_pulse 3 ∧ Cond.code mX5_pulse.1 mX5_pulse.2.1 mX5_pulse.2.2.1 mX5_pulse.2.2.2 ∈ gtbl ∧ Cond.initialized mX5_pulse.1.cls ∈ gtbl ∧ Cond.methodLink RL 93 mX5_pulse.1 ∈ gtbl ∧ Cond.instanceMethod mX5_pulse.1 ∈ gtbl ∧ Cond.selects mX5_pulse.1.cls mX5_pulse.1 mX5_pulse.1 ∈ gtbl := ⟨by decide +kernel, gt_of ⟨List.mem_of_getElem? (i := 851) (by decide +kernel), by decide +kernel⟩, gt_of ⟨List.mem_of_getElem? (i := 73) (by decide +kernel), by decide +kernel⟩, gt_of ⟨List.mem_of_getElem? (i := 848) (by decide +kernel), by decide +kernel⟩, ⟨gt_of ⟨List.mem_of_getElem? (i := 849) (by decide +kernel), by decide +kernel⟩, gt_of ⟨List.mem_of_getElem? (i := 850) (by decide +kernel), by decide +kernel⟩⟩⟩
theorem oL_94 : OkM mX4_find 3 ∧ Cond.code mX4_find.1 mX4_find.2.1 mX4_find.2.2.1 mX4_find.2.2.2 ∈ gtbl ∧ Cond.initialized mX4_find.1.cls ∈ gtbl ∧ Cond.methodLink RL 94 mX4_find.1 ∈ gtbl ∧ Cond.instanceMethod mX4_find.1 ∈ gtbl ∧ Cond.selects mX4_find.1.cls mX4_find.1 mX4_find.1 ∈ gtbl := ⟨by decide +kernel, gt_of ⟨List.mem_of_getElem? (i := 517) (by decide +kernel), by decide +kernel⟩, gt_of ⟨List.mem_of_getElem? (i := 67) (by decide +kernel), by decide +kernel⟩, gt_of ⟨List.mem_of_getElem? (i := 514) (by decide +kernel), by decide +kernel⟩, ⟨gt_of ⟨List.mem_of_getElem? (i := 515) (by decide +kernel), by decide +kernel⟩, gt_of ⟨List.mem_of_getElem? (i := 516) (by decide +kernel), by decide +kernel⟩⟩⟩
theorem oL_97 : OkM mX5_find 3 ∧ Cond.code mX5_find.1 mX5_find.2.1 mX5_find.2.2.1 mX5_find.2.2.2 ∈ gtbl ∧ Cond.initialized mX5_find.1.cls ∈ gtbl ∧ Cond.methodLink RL 97 mX5_find.1 ∈ gtbl ∧ Cond.instanceMethod mX5_find.1 ∈ gtbl ∧ Cond.selects mX5_find.1.cls mX5_find.1 mX5_find.1 ∈ gtbl := ⟨by decide +kernel, gt_of ⟨List.mem_of_getElem? (i := 855) (by decide +kernel), by decide +kernel⟩, gt_of ⟨List.mem_of_getElem? (i := 73) (by decide +kernel), by decide +kernel⟩, gt_of ⟨List.mem_of_getElem? (i := 852) (by decide +kernel), by decide +kernel⟩, ⟨gt_of ⟨List.mem_of_getElem? (i := 853) (by decide +kernel), by decide +kernel⟩, gt_of ⟨List.mem_of_getElem? (i := 854) (by decide +kernel), by decide +kernel⟩⟩⟩
theorem oL_98 : OkM mX4_actAt 2 ∧ Cond.code mX4_actAt.1 mX4_actAt.2.1 mX4_actAt.2.2.1 mX4_actAt.2.2.2 ∈ gtbl ∧ Cond.initialized mX4_actAt.1.cls ∈ gtbl ∧ Cond.methodLink RL 98 mX4_actAt.1 ∈ gtbl ∧ Cond.instanceMethod mX4_actAt.1 ∈ gtbl ∧ Cond.selects mX4_actAt.1.cls mX4_actAt.1 mX4_actAt.1 ∈ gtbl := ⟨by decide +kernel, gt_of ⟨List.mem_of_getElem? (i := 582) (by decide +kernel), by decide +kernel⟩, gt_of ⟨List.mem_of_getElem? (i := 67) (by decide +kernel), by decide +kernel⟩, gt_of ⟨List.mem_of_getElem? (i := 579) (by decide +kernel), by decide +kernel⟩, ⟨gt_of ⟨List.mem_of_getElem? (i := 580) (by decide +kernel), by decide +kernel⟩, gt_of ⟨List.mem_of_getElem? (i := 581) (by decide +kernel), by decide +kernel⟩⟩⟩
theorem oL_101 : OkM mX5_actAt 2 ∧ Cond.code mX5_actAt.1 mX5_actAt.2.1 mX5_actAt.2.2.1 mX5_actAt.2.2.2 ∈ gtbl ∧ Cond.initialized mX5_actAt.1.cls ∈ gtbl ∧ Cond.methodLink RL 101 mX5_actAt.1 ∈ gtbl ∧ Cond.instanceMethod mX5_actAt.1 ∈ gtbl ∧ Cond.selects mX5_actAt.1.cls mX5_actAt.1 mX5_actAt.1 ∈ gtbl := ⟨by decide +kernel, gt_of ⟨List.mem_of_getElem? (i := 884) (by decide +kernel), by decide +kernel⟩, gt_of ⟨List.mem_of_getElem? (i := 73) (by decide +kernel), by decide +kernel⟩, gt_of ⟨List.mem_of_getElem? (i := 881) (by decide +kernel), by decide +kernel⟩, ⟨gt_of ⟨List.mem_of_getElem? (i := 882) (by decide +kernel), by decide +kernel⟩, gt_of ⟨List.mem_of_getElem? (i := 883) (by decide +kernel), by decide +kernel⟩⟩⟩
theorem oL_102 : OkM mX4_where 0 ∧ Cond.code mX4_where.1 mX4_where.2.1 mX4_where.2.2.1 mX4_where.2.2.2 ∈ gtbl ∧ Cond.initialized mX4_where.1.cls ∈ gtbl ∧ Cond.methodLink RL 102 mX4_where.1 ∈ gtbl ∧ Cond.instanceMethod mX4_where.1 ∈ gtbl ∧ Cond.selects mX4_where.1.cls mX4_where.1 mX4_where.1 ∈ gtbl := ⟨by decide +kernel, gt_of ⟨List.mem_of_getElem? (i := 589) (by decide +kernel), by decide +kernel⟩, gt_of ⟨List.mem_of_getElem? (i := 67) (by decide +kernel), by decide +kernel⟩, gt_of ⟨List.mem_of_getElem? (i := 586) (by decide +kernel), by decide +kernel⟩, ⟨gt_of ⟨List.mem_of_getElem? (i := 587) (by decide +kernel), by decide +kernel⟩, gt_of ⟨List.mem_of_getElem? (i := 588) (by decide +kernel), by decide +kernel⟩⟩⟩
theorem oL_105 : OkM mX5_where 0 ∧ Cond.code mX5_where.1 mX5_where.2.1 mX5_where.2.2.1 mX5_where.2.2.2 ∈ gtbl ∧ Cond.initialized mX5_where.1.cls ∈ gtbl ∧ Cond.methodLink RL 105 mX5_where.1 ∈ gtbl ∧ Cond.instanceMethod mX5_where.1 ∈ gtbl ∧ Cond.selects mX5_where.1.cls mX5_where.1 mX5_where.1 ∈ gtbl := ⟨by decide +kernel, gt_of ⟨List.mem_of_getElem? (i := 888) (by decide +kernel), by decide +kernel⟩, gt_of ⟨List.mem_of_getElem? (i := 73) (by decide +kernel), by decide +kernel⟩, gt_of ⟨List.mem_of_getElem? (i := 885) (by decide +kernel), by decide +kernel⟩, ⟨gt_of ⟨List.mem_of_getElem? (i := 886) (by decide +kernel), by decide +kernel⟩, gt_of ⟨List.mem_of_getElem? (i := 887) (by decide +kernel), by decide +kernel⟩⟩⟩
theorem oL_106 : OkM mX4_met 0 ∧ Cond.code mX4_met.1 mX4_met.2.1 mX4_met.2.2.1 mX4_met.2.2.2 ∈ gtbl ∧ Cond.initialized mX4_met.1.cls ∈ gtbl ∧ Cond.methodLink RL 106 mX4_met.1 ∈ gtbl ∧ Cond.instanceMethod mX4_met.1 ∈ gtbl ∧ Cond.selects mX4_met.1.cls mX4_met.1 mX4_met.1 ∈ gtbl := ⟨by decide +kernel, gt_of ⟨List.mem_of_getElem? (i := 593) (by decide +kernel), by decide +kernel⟩, gt_of ⟨List.mem_of_getElem? (i := 67) (by decide +kernel), by decide +kernel⟩, gt_of ⟨List.mem_of_getElem? (i := 590) (by decide +kernel), by decide +kernel⟩, ⟨gt_of ⟨List.mem_of_getElem? (i := 591) (by decide +kernel), by decide +kernel⟩, gt_of ⟨List.mem_of_getElem? (i := 592) (by decide +kernel), by decide +kernel⟩⟩⟩
theorem oL_109 : OkM mX5_met 0 ∧ Cond.code mX5_met.1 mX5_met.2.1 mX5_met.2.2.1 mX5_met.2.2.2 ∈ gtbl ∧ Cond.initialized mX5_met.1.cls ∈ gtbl ∧ Cond.methodLink RL 109 mX5_met.1 ∈ gtbl ∧ Cond.instanceMethod mX5_met.1 ∈ gtbl ∧ Cond.selects mX5_met.1.cls mX5_met.1 mX5_met.1 ∈ gtbl := ⟨by decide +kernel, gt_of ⟨List.mem_of_getElem? (i := 892) (by decide +kernel), by decide +kernel⟩, gt_of ⟨List.mem_of_getElem? (i := 73) (by decide +kernel), by decide +kernel⟩, gt_of ⟨List.mem_of_getElem? (i := 889) (by decide +kernel), by decide +kernel⟩, ⟨gt_of ⟨List.mem_of_getElem? (i := 890) (by decide +kernel), by decide +kernel⟩, gt_of ⟨List.mem_of_getElem? (i := 891) (by decide +kernel), by decide +kernel⟩⟩⟩
theorem oL_110 : OkM mX4_count 1 ∧ Cond.code mX4_count.1 mX4_count.2.1 mX4_count.2.2.1 mX4_count.2.2.2 ∈ gtbl ∧ Cond.initialized mX4_count.1.cls ∈ gtbl ∧ Cond.methodLink RL 110 mX4_count.1 ∈ gtbl ∧ Cond.instanceMethod mX4_count.1 ∈ gtbl ∧ Cond.selects mX4_count.1.cls mX4_count.1 mX4_count.1 ∈ gtbl := ⟨by decide +kernel, gt_of ⟨List.mem_of_getElem? (i := 597) (by decide +kernel), by decide +kernel⟩, gt_of ⟨List.mem_of_getElem? (i := 67) (by decide +kernel), by decide +kernel⟩, gt_of ⟨List.mem_of_getElem? (i := 594) (by decide +kernel), by decide +kernel⟩, ⟨gt_of ⟨List.mem_of_getElem? (i := 595) (by decide +kernel), by decide +kernel⟩, gt_of ⟨List.mem_of_getElem? (i := 596) (by decide +kernel), by decide +kernel⟩⟩⟩
theorem oL_113 : OkM mX5_count 1 ∧ Cond.code mX5_count.1 mX5_count.2.1 mX5_count.2.2.1 mX5_count.2.2.2 ∈ gtbl ∧ Cond.initialized mX5_count.1.cls ∈ gtbl ∧ Cond.methodLink RL 113 mX5_count.1 ∈ gtbl ∧ Cond.instanceMethod mX5_count.1 ∈ gtbl ∧ Cond.selects mX5_count.1.cls mX5_count.1 mX5_count.1 ∈ gtbl := ⟨by decide +kernel, gt_of ⟨List.mem_of_getElem? (i := 896) (by decide +kernel), by decide +kernel⟩, gt_of ⟨List.mem_of_getElem? (i := 73) (by decide +kernel), by decide +kernel⟩, gt_of ⟨List.mem_of_getElem? (i := 893) (by decide +kernel), by decide +kernel⟩, ⟨gt_of ⟨List.mem_of_getElem? (i := 894) (by decide +kernel), by decide +kernel⟩, gt_of ⟨List.mem_of_getElem? (i := 895) (by decide +kernel), by decide +kernel⟩⟩⟩
theorem oL_114 : OkM mX4_digest 0 ∧ Cond.code mX4_digest.1 mX4_digest.2.1 mX4_digest.2.2.1 mX4_digest.2.2.2 ∈ gtbl ∧ Cond.initialized mX4_digest.1.cls ∈ gtbl ∧ Cond.methodLink RL 114 mX4_digest.1 ∈ gtbl ∧ Cond.instanceMethod mX4_digest.1 ∈ gtbl ∧ Cond.selects mX4_digest.1.cls mX4_digest.1 mX4_digest.1 ∈ gtbl := ⟨by decide +kernel, gt_of ⟨List.mem_of_getElem? (i := 605) (by decide +kernel), by decide +kernel⟩, gt_of ⟨List.mem_of_getElem? (i := 67) (by decide +kernel), by decide +kernel⟩, gt_of ⟨List.mem_of_getElem? (i := 602) (by decide +kernel), by decide +kernel⟩, ⟨gt_of ⟨List.mem_of_getElem? (i := 603) (by decide +kernel), by decide +kernel⟩, gt_of ⟨List.mem_of_getElem? (i := 604) (by decide +kernel), by decide +kernel⟩⟩⟩
theorem oL_118 : OkM mX5_digest 0 ∧ Cond.code mX5_digest.1 mX5_digest.2.1 mX5_digest.2.2.1 mX5_digest.2.2.2 ∈ gtbl ∧ Cond.initialized mX5_digest.1.cls ∈ gtbl ∧ Cond.methodLink RL 118 mX5_digest.1 ∈ gtbl ∧ Cond.instanceMethod mX5_digest.1 ∈ gtbl ∧ Cond.selects mX5_digest.1.cls mX5_digest.1 mX5_digest.1 ∈ gtbl := ⟨by decide +kernel, gt_of ⟨List.mem_of_getElem? (i := 900) (by decide +kernel), by decide +kernel⟩, gt_of ⟨List.mem_of_getElem? (i := 73) (by decide +kernel), by decide +kernel⟩, gt_of ⟨List.mem_of_getElem? (i := 897) (by decide +kernel), by decide +kernel⟩, ⟨gt_of ⟨List.mem_of_getElem? (i := 898) (by decide +kernel), by decide +kernel⟩, gt_of ⟨List.mem_of_getElem? (i := 899) (by decide +kernel), by decide +kernel⟩⟩⟩
theorem oX5_1 : Cond.methodLink RX5 1 Lib.objectInit ∈ gtbl ∧ Cond.instanceMethod Lib.objectInit ∈ gtbl ∧ Cond.code Lib.objectInit ⟨#[0xb1]⟩ 1 none ∈ gtbl := ⟨gt_of ⟨List.mem_of_getElem? (i := 631) (by decide +kernel), by decide +kernel⟩, gt_of ⟨List.mem_of_getElem? (i := 82) (by decide +kernel), by decide +kernel⟩, gt_of ⟨List.mem_of_getElem? (i := 83) (by decide +kernel), by decide +kernel⟩⟩
theorem oX5_78 : OkM mX5_begins 3 ∧ Cond.code mX5_begins.1 mX5_begins.2.1 mX5_begins.2.2.1 mX5_begins.2.2.2 ∈ gtbl ∧ Cond.initialized mX5_begins.1.cls ∈ gtbl ∧ Cond.methodLink RX5 78 mX5_begins.1 ∈ gtbl ∧ Cond.instanceMethod mX5_begins.1 ∈ gtbl ∧ Cond.selects mX5_begins.1.cls mX5_begins.1 mX5_begins.1 ∈ gtbl := ⟨by decide +kernel, gt_of ⟨List.mem_of_getElem? (i := 635) (by decide +kernel), by decide +kernel⟩, gt_of ⟨List.mem_of_getElem? (i := 73) (by decide +kernel), by decide +kernel⟩, gt_of ⟨List.mem_of_getElem? (i := 632) (by decide +kernel), by decide +kernel⟩, ⟨gt_of ⟨List.mem_of_getElem? (i := 634) (by decide +kernel), by decide +kernel⟩, gt_of ⟨List.mem_of_getElem? (i := 50) (by decide +kernel), by decide +kernel⟩⟩⟩
theorem oX5_98 : OkM mX5_in 3 ∧ Cond.code mX5_in.1 mX5_in.2.1 mX5_in.2.2.1 mX5_in.2.2.2 ∈ gtbl ∧ Cond.initialized mX5_in.1.cls ∈ gtbl ∧ Cond.methodLink RX5 98 mX5_in.1 ∈ gtbl ∧ Cond.static mX5_in.1 ∈ gtbl ∧ True := ⟨by decide +kernel, gt_of ⟨List.mem_of_getElem? (i := 730) (by decide +kernel), by decide +kernel⟩, gt_of ⟨List.mem_of_getElem? (i := 73) (by decide +kernel), by decide +kernel⟩, gt_of ⟨List.mem_of_getElem? (i := 728) (by decide +kernel), by decide +kernel⟩, ⟨gt_of ⟨List.mem_of_getElem? (i := 729) (by decide +kernel), by decide +kernel⟩, trivial⟩⟩
theorem oX5_102 : OkM mX5_isCell 2 ∧ Cond.code mX5_isCell.1 mX5_isCell.2.1 mX5_isCell.2.2.1 mX5_isCell.2.2.2 ∈ gtbl ∧ Cond.initialized mX5_isCell.1.cls ∈ gtbl ∧ Cond.methodLink RX5 102 mX5_isCell.1 ∈ gtbl ∧ Cond.instanceMethod mX5_isCell.1 ∈ gtbl ∧ Cond.selects mX5_isCell.1.cls mX5_isCell.1 mX5_isCell.1 ∈ gtbl := ⟨by decide +kernel, gt_of ⟨List.mem_of_getElem? (i := 738) (by decide +kernel), by decide +kernel⟩, gt_of ⟨List.mem_of_getElem? (i := 73) (by decide +kernel), by decide +kernel⟩, gt_of ⟨List.mem_of_getElem? (i := 735) (by decide +kernel), by decide +kernel⟩, ⟨gt_of ⟨List.mem_of_getElem? (i := 737) (by decide +kernel), by decide +kernel⟩, gt_of ⟨List.mem_of_getElem? (i := 51) (by decide +kernel), by decide +kernel⟩⟩⟩
theorem oX5_106 : OkM mX5_writes 2 ∧ Cond.code mX5_writes.1 mX5_writes.2.1 mX5_writes.2.2.1 mX5_writes.2.2.2 ∈ gtbl ∧ Cond.initialized mX5_writes.1.cls ∈ gtbl ∧ Cond.methodLink RX5 106 mX5_writes.1 ∈ gtbl ∧ Cond.instanceMethod mX5_writes.1 ∈ gtbl ∧ Cond.selects mX5_writes.1.cls mX5_writes.1 mX5_writes.1 ∈ gtbl := ⟨by decide +kernel, gt_of ⟨List.mem_of_getElem? (i := 742) (by decide +kernel), by decide +kernel⟩, gt_of ⟨List.mem_of_getElem? (i := 73) (by decide +kernel), by decide +kernel⟩, gt_of ⟨List.mem_of_getElem? (i := 739) (by decide +kernel), by decide +kernel⟩, ⟨gt_of ⟨List.mem_of_getElem? (i := 741) (by decide +kernel), by decide +kernel⟩, gt_of ⟨List.mem_of_getElem? (i := 52) (by decide +kernel), by decide +kernel⟩⟩⟩
theorem oX5_109 : OkM mX5_cellAt 2 ∧ Cond.code mX5_cellAt.1 mX5_cellAt.2.1 mX5_cellAt.2.2.1 mX5_cellAt.2.2.2 ∈ gtbl ∧ Cond.initialized mX5_cellAt.1.cls ∈ gtbl ∧ Cond.methodLink RX5 109 mX5_cellAt.1 ∈ gtbl ∧ Cond.instanceMethod mX5_cellAt.1 ∈ gtbl ∧ Cond.selects mX5_cellAt.1.cls mX5_cellAt.1 mX5_cellAt.1 ∈ gtbl := ⟨by decide +kernel, gt_of ⟨List.mem_of_getElem? (i := 754) (by decide +kernel), by decide +kernel⟩, gt_of ⟨List.mem_of_getElem? (i := 73) (by decide +kernel), by decide +kernel⟩, gt_of ⟨List.mem_of_getElem? (i := 751) (by decide +kernel), by decide +kernel⟩, ⟨gt_of ⟨List.mem_of_getElem? (i := 753) (by decide +kernel), by decide +kernel⟩, gt_of ⟨List.mem_of_getElem? (i := 53) (by decide +kernel), by decide +kernel⟩⟩⟩
theorem oX5_113 : OkM mX5_sumOf 1 ∧ Cond.code mX5_sumOf.1 mX5_sumOf.2.1 mX5_sumOf.2.2.1 mX5_sumOf.2.2.2 ∈ gtbl ∧ Cond.initialized mX5_sumOf.1.cls ∈ gtbl ∧ Cond.methodLink RX5 113 mX5_sumOf.1 ∈ gtbl ∧ Cond.instanceMethod mX5_sumOf.1 ∈ gtbl ∧ Cond.selects mX5_sumOf.1.cls mX5_sumOf.1 mX5_sumOf.1 ∈ gtbl := ⟨by decide +kernel, gt_of ⟨List.mem_of_getElem? (i := 770) (by decide +kernel), by decide +kernel⟩, gt_of ⟨List.mem_of_getElem? (i := 73) (by decide +kernel), by decide +kernel⟩, gt_of ⟨List.mem_of_getElem? (i := 767) (by decide +kernel), by decide +kernel⟩, ⟨gt_of ⟨List.mem_of_getElem? (i := 769) (by decide +kernel), by decide +kernel⟩, gt_of ⟨List.mem_of_getElem? (i := 54) (by decide +kernel), by decide +kernel⟩⟩⟩
theorem oX5_117 : OkM mX5_converted 1 ∧ Cond.code mX5_converted.1 mX5_converted.2.1 mX5_converted.2.2.1 mX5_converted.2.2.2 ∈ gtbl ∧ Cond.initialized mX5_converted.1.cls ∈ gtbl ∧ Cond.methodLink RX5 117 mX5_converted.1 ∈ gtbl ∧ Cond.instanceMethod mX5_converted.1 ∈ gtbl ∧ Cond.selects mX5_converted.1.cls mX5_converted.1 mX5_converted.1 ∈ gtbl := ⟨by decide +kernel, gt_of ⟨List.mem_of_getElem? (i := 774) (by decide +kernel), by decide +kernel⟩, gt_of ⟨List.mem_of_getElem? (i := 73) (by decide +kernel), by decide +kernel⟩, gt_of ⟨List.mem_of_getElem? (i := 771) (by decide +kernel), by decide +kernel⟩, ⟨gt_of ⟨List.mem_of_getElem? (i := 773) (by decide +kernel), by decide +kernel⟩, gt_of ⟨List.mem_of_getElem? (i := 55) (by decide +kernel), by decide +kernel⟩⟩⟩
theorem oX5_120 : OkM mX5_greatest 0 ∧ Cond.code mX5_greatest.1 mX5_greatest.2.1 mX5_greatest.2.2.1 mX5_greatest.2.2.2 ∈ gtbl ∧ Cond.initialized mX5_greatest.1.cls ∈ gtbl ∧ Cond.methodLink RX5 120 mX5_greatest.1 ∈ gtbl ∧ Cond.instanceMethod mX5_greatest.1 ∈ gtbl ∧ Cond.selects mX5_greatest.1.cls mX5_greatest.1 mX5_greatest.1 ∈ gtbl := ⟨by decide +kernel, gt_of ⟨List.mem_of_getElem? (i := 786) (by decide +kernel), by decide +kernel⟩, gt_of ⟨List.mem_of_getElem? (i := 73) (by decide +kernel), by decide +kernel⟩, gt_of ⟨List.mem_of_getElem? (i := 783) (by decide +kernel), by decide +kernel⟩, ⟨gt_of ⟨List.mem_of_getElem? (i := 785) (by decide +kernel), by decide +kernel⟩, gt_of ⟨List.mem_of_getElem? (i := 56) (by decide +kernel), by decide +kernel⟩⟩⟩
theorem oX5_125 : OkM mX5_hasTable 0 ∧ Cond.code mX5_hasTable.1 mX5_hasTable.2.1 mX5_hasTable.2.2.1 mX5_hasTable.2.2.2 ∈ gtbl ∧ Cond.initialized mX5_hasTable.1.cls ∈ gtbl ∧ Cond.methodLink RX5 125 mX5_hasTable.1 ∈ gtbl ∧ Cond.instanceMethod mX5_hasTable.1 ∈ gtbl ∧ Cond.selects mX5_hasTable.1.cls mX5_hasTable.1 mX5_hasTable.1 ∈ gtbl := ⟨by decide +kernel, gt_of ⟨List.mem_of_getElem? (i := 795) (by decide +kernel), by decide +kernel⟩, gt_of ⟨List.mem_of_getElem? (i := 73) (by decide +kernel), by decide +kernel⟩, gt_of ⟨List.mem_of_getElem? (i := 792) (by decide +kernel), by decide +kernel⟩, ⟨gt_of ⟨List.mem_of_getElem? (i := 794) (by decide +kernel), by decide +kernel⟩, gt_of ⟨List.mem_of_getElem? (i := 57) (by decide +kernel), by decide +kernel⟩⟩⟩
theorem oX5_129 : OkM mX5_wanted 2 ∧ Cond.code mX5_wanted.1 mX5_wanted.2.1 mX5_wanted.2.2.1 mX5_wanted.2.2.2 ∈ gtbl ∧ Cond.initialized mX5_wanted.1.cls ∈ gtbl ∧ Cond.methodLink RX5 129 mX5_wanted.1 ∈ gtbl ∧ Cond.instanceMethod mX5_wanted.1 ∈ gtbl ∧ Cond.selects mX5_wanted.1.cls mX5_wanted.1 mX5_wanted.1 ∈ gtbl := ⟨by decide +kernel, gt_of ⟨List.mem_of_getElem? (i := 799) (by decide +kernel), by decide +kernel⟩, gt_of ⟨List.mem_of_getElem? (i := 73) (by decide +kernel), by decide +kernel⟩, gt_of ⟨List.mem_of_getElem? (i := 796) (by decide +kernel), by decide +kernel⟩, ⟨gt_of ⟨List.mem_of_getElem? (i := 798) (by decide +kernel), by decide +kernel⟩, gt_of ⟨List.mem_of_getElem? (i := 58) (by decide +kernel), by decide +kernel⟩⟩⟩
theorem oX5_134 : OkM mX5_bitSum 2 ∧ Cond.code mX5_bitSum.1 mX5_bitSum.2.1 mX5_bitSum.2.2.1 mX5_bitSum.2.2.2 ∈ gtbl ∧ Cond.initialized mX5_bitSum.1.cls ∈ gtbl ∧ Cond.methodLink RX5 134 mX5_bitSum.1 ∈ gtbl ∧ Cond.instanceMethod mX5_bitSum.1 ∈ gtbl ∧ Cond.selects mX5_bitSum.1.cls mX5_bitSum.1 mX5_bitSum.1 ∈ gtbl := ⟨by decide +kernel, gt_of ⟨List.mem_of_getElem? (i := 808) (by decide +kernel), by decide +kernel⟩, gt_of ⟨List.mem_of_getElem? (i := 73) (by decide +kernel), by decide +kernel⟩, gt_of ⟨List.mem_of_getElem? (i := 805) (by decide +kernel), by decide +kernel⟩, ⟨gt_of ⟨List.mem_of_getElem? (i := 807) (by decide +kernel), by decide +kernel⟩, gt_of ⟨List.mem_of_getElem? (i := 59) (by decide +kernel), by decide +kernel⟩⟩⟩
theorem oX5_138 : OkM mX5_findCosts 0 ∧ Cond.code mX5_findCosts.1 mX5_findCosts.2.1 mX5_findCosts.2.2.1 mX5_findCosts.2.2.2 ∈ gtbl ∧ Cond.initialized mX5_findCosts.1.cls ∈ gtbl ∧ Cond.methodLink RX5 138 mX5_findCosts.1 ∈ gtbl ∧ Cond.instanceMethod mX5_findCosts.1 ∈ gtbl ∧ Cond.selects mX5_findCosts.1.cls mX5_findCosts.1 mX5_findCosts.1 ∈ gtbl := ⟨by decide +kernel, gt_of ⟨List.mem_of_getElem? (i := 824) (by decide +kernel), by decide +kernel⟩, gt_of ⟨List.mem_of_getElem? (i := 73) (by decide +kernel), by decide +kernel⟩, gt_of ⟨List.mem_of_getElem? (i := 821) (by decide +kernel), by decide +kernel⟩, ⟨gt_of ⟨List.mem_of_getElem? (i := 823) (by decide +kernel), by decide +kernel⟩, gt_of ⟨List.mem_of_getElem? (i := 60) (by decide +kernel), by decide +kernel⟩⟩⟩
theorem oX5_141 : OkM mX5_isUsed 2 ∧ Cond.code mX5_isUsed.1 mX5_isUsed.2.1 mX5_isUsed.2.2.1 mX5_isUsed.2.2.2 ∈ gtbl ∧ Cond.initialized mX5_isUsed.1.cls ∈ gtbl ∧ Cond.methodLink RX5 141 mX5_isUsed.1 ∈ gtbl ∧ Cond.instanceMethod mX5_isUsed.1 ∈ gtbl ∧ Cond.selects mX5_isUsed.1.cls mX5_isUsed.1 mX5_isUsed.1 ∈ gtbl := ⟨by decide +kernel, gt_of ⟨List.mem_of_getElem? (i := 828) (by decide +kernel), by decide +kernel⟩, gt_of ⟨List.mem_of_getElem? (i := 73) (by decide +kernel), by decide +kernel⟩, gt_of ⟨List.mem_of_getElem? (i := 825) (by decide +kernel), by decide +kernel⟩, ⟨gt_of ⟨List.mem_of_getElem? (i := 827) (by decide +kernel), by decide +kernel⟩, gt_of ⟨List.mem_of_getElem? (i := 61) (by decide +kernel), by decide +kernel⟩⟩⟩
theorem oX5_144 : OkM mX5_rest 1 ∧ Cond.code mX5_rest.1 mX5_rest.2.1 mX5_rest.2.2.1 mX5_rest.2.2.2 ∈ gtbl ∧ Cond.initialized mX5_rest.1.cls ∈ gtbl ∧ Cond.methodLink RX5 144 mX5_rest.1 ∈ gtbl ∧ Cond.static mX5_rest.1 ∈ gtbl ∧ True := ⟨by decide +kernel, gt_of ⟨List.mem_of_getElem? (i := 843) (by decide +kernel), by decide +kernel⟩, gt_of ⟨List.mem_of_getElem? (i := 73) (by decide +kernel), by decide +kernel⟩, gt_of ⟨List.mem_of_getElem? (i := 841) (by decide +kernel), by decide +kernel⟩, ⟨gt_of ⟨List.mem_of_getElem? (i := 842) (by decide +kernel), by decide +kernel⟩, trivial⟩⟩
theorem oX5_152 : OkM mX5_isNew 1 ∧ Cond.code mX5_isNew.1 mX5_isNew.2.1 mX5_isNew.2.2.1 mX5_isNew.2.2.2 ∈ gtbl ∧ Cond.initialized mX5_isNew.1.cls ∈ gtbl ∧ Cond.methodLink RX5 152 mX5_isNew.1 ∈ gtbl ∧ Cond.instanceMethod mX5_isNew.1 ∈ gtbl ∧ Cond.selects mX5_isNew.1.cls mX5_isNew.1 mX5_isNew.1 ∈ gtbl := ⟨by decide +kernel, gt_of ⟨List.mem_of_getElem? (i := 863) (by decide +kernel), by decide +kernel⟩, gt_of ⟨List.mem_of_getElem? (i := 73) (by decide +kernel), by decide +kernel⟩, gt_of ⟨List.mem_of_getElem? (i := 860) (by decide +kernel), by decide +kernel⟩, ⟨gt_of ⟨List.mem_of_getElem? (i := 862) (by decide +kernel), by decide +kernel⟩, gt_of ⟨List.mem_of_getElem? (i := 63) (by decide +kernel), by decide +kernel⟩⟩⟩
theorem oX5_156 : OkM mX5_tableOf 2 ∧ Cond.code mX5_tableOf.1 mX5_tableOf.2.1 mX5_tableOf.2.2.1 mX5_tableOf.2.2.2 ∈ gtbl ∧ Cond.initialized mX5_tableOf.1.cls ∈ gtbl ∧ Cond.methodLink RX5 156 mX5_tableOf.1 ∈ gtbl ∧ Cond.static mX5_tableOf.1 ∈ gtbl ∧ True := ⟨by decide +kernel, gt_of ⟨List.mem_of_getElem? (i := 870) (by decide +kernel), by decide +kernel⟩, gt_of ⟨List.mem_of_getElem? (i := 73) (by decide +kernel), by decide +kernel⟩, gt_of ⟨List.mem_of_getElem? (i := 868) (by decide +kernel), by decide +kernel⟩, ⟨gt_of ⟨List.mem_of_getElem? (i := 869) (by decide +kernel), by decide +kernel⟩, trivial⟩⟩
theorem oX5_167 : OkM mX5_meets 3 ∧ Cond.code mX5_meets.1 mX5_meets.2.1 mX5_meets.2.2.1 mX5_meets.2.2.2 ∈ gtbl ∧ Cond.initialized mX5_meets.1.cls ∈ gtbl ∧ Cond.methodLink RX5 167 mX5_meets.1 ∈ gtbl ∧ Cond.instanceMethod mX5_meets.1 ∈ gtbl ∧ Cond.selects mX5_meets.1.cls mX5_meets.1 mX5_meets.1 ∈ gtbl := ⟨by decide +kernel, gt_of ⟨List.mem_of_getElem? (i := 859) (by decide +kernel), by decide +kernel⟩, gt_of ⟨List.mem_of_getElem? (i := 73) (by decide +kernel), by decide +kernel⟩, gt_of ⟨List.mem_of_getElem? (i := 856) (by decide +kernel), by decide +kernel⟩, ⟨gt_of ⟨List.mem_of_getElem? (i := 858) (by decide +kernel), by decide +kernel⟩, gt_of ⟨List.mem_of_getElem? (i := 62) (by decide +kernel), by decide +kernel⟩⟩⟩
theorem oX5_171 : OkM mX5_whereIs 3 ∧ Cond.code mX5_whereIs.1 mX5_whereIs.2.1 mX5_whereIs.2.2.1 mX5_whereIs.2.2.2 ∈ gtbl ∧ Cond.initialized mX5_whereIs.1.cls ∈ gtbl ∧ Cond.methodLink RX5 171 mX5_whereIs.1 ∈ gtbl ∧ Cond.static mX5_whereIs.1 ∈ gtbl ∧ True := ⟨by decide +kernel, gt_of ⟨List.mem_of_getElem? (i := 867) (by decide +kernel), by decide +kernel⟩, gt_of ⟨List.mem_of_getElem? (i := 73) (by decide +kernel), by decide +kernel⟩, gt_of ⟨List.mem_of_getElem? (i := 865) (by decide +kernel), by decide +kernel⟩, ⟨gt_of ⟨List.mem_of_getElem? (i := 866) (by decide +kernel), by decide +kernel⟩, trivial⟩⟩
theorem oX5_175 : OkM mX5_becomesFound 2 ∧ Cond.code mX5_becomesFound.1 mX5_becomesFound.2.1 mX5_becomesFound.2.2.1 mX5_becomesFound.2.2.2 ∈ gtbl ∧ Cond.initialized mX5_becomesFound.1.cls ∈ gtbl ∧ Cond.methodLink RX5 175 mX5_becomesFound.1 ∈ gtbl ∧ Cond.instanceMethod mX5_becomesFound.1 ∈ gtbl ∧ Cond.selects mX5_becomesFound.1.cls mX5_becomesFound.1 mX5_becomesFound.1 ∈ gtbl := ⟨by decide +kernel, gt_of ⟨List.mem_of_getElem? (i := 874) (by decide +kernel), by decide +kernel⟩, gt_of ⟨List.mem_of_getElem? (i := 73) (by decide +kernel), by decide +kernel⟩, gt_of ⟨List.mem_of_getElem? (i := 871) (by decide +kernel), by decide +kernel⟩, ⟨gt_of ⟨List.mem_of_getElem? (i := 873) (by decide +kernel), by decide +kernel⟩, gt_of ⟨List.mem_of_getElem? (i := 64) (by decide +kernel), by decide +kernel⟩⟩⟩
theorem oX5_179 : OkM mX5_goesOn 4 ∧ Cond.code mX5_goesOn.1 mX5_goesOn.2.1 mX5_goesOn.2.2.1 mX5_goesOn.2.2.2 ∈ gtbl ∧ Cond.initialized mX5_goesOn.1.cls ∈ gtbl ∧ Cond.methodLink RX5 179 mX5_goesOn.1 ∈ gtbl ∧ Cond.instanceMethod mX5_goesOn.1 ∈ gtbl ∧ Cond.selects mX5_goesOn.1.cls mX5_goesOn.1 mX5_goesOn.1 ∈ gtbl := ⟨by decide +kernel, gt_of ⟨List.mem_of_getElem? (i := 878) (by decide +kernel), by decide +kernel⟩, gt_of ⟨List.mem_of_getElem? (i := 73) (by decide +kernel), by decide +kernel⟩, gt_of ⟨List.mem_of_getElem? (i := 875) (by decide +kernel), by decide +kernel⟩, ⟨gt_of ⟨List.mem_of_getElem? (i := 877) (by decide +kernel), by decide +kernel⟩, gt_of ⟨List.mem_of_getElem? (i := 65) (by decide +kernel), by decide +kernel⟩⟩⟩
theorem oX5_187 : OkM mX5_count 1 ∧ Cond.code mX5_count.1 mX5_count.2.1 mX5_count.2.2.1 mX5_count.2.2.2 ∈ gtbl ∧ Cond.initialized mX5_count.1.cls ∈ gtbl ∧ Cond.methodLink RX5 187 mX5_count.1 ∈ gtbl ∧ Cond.instanceMethod mX5_count.1 ∈ gtbl ∧ Cond.selects mX5_count.1.cls mX5_count.1 mX5_count.1 ∈ gtbl := ⟨by decide +kernel, gt_of ⟨List.mem_of_getElem? (i := 896) (by decide +kernel), by decide +kernel⟩, gt_of ⟨List.mem_of_getElem? (i := 73) (by decide +kernel), by decide +kernel⟩, gt_of ⟨List.mem_of_getElem? (i := 903) (by decide +kernel), by decide +kernel⟩, ⟨gt_of ⟨List.mem_of_getElem? (i := 894) (by decide +kernel), by decide +kernel⟩, gt_of ⟨List.mem_of_getElem? (i := 895) (by decide +kernel), by decide +kernel⟩⟩⟩
theorem kX4_111 : Cond.constant RX4 111 (-2000000000) ∈ gtbl := gt_of ⟨List.mem_of_getElem? (i := 358) (by decide +kernel), by decide +kernel⟩
theorem kX4_127 : Cond.constantLong RX4 127 (-2000000000000000000) ∈ gtbl := gt_of ⟨List.mem_of_getElem? (i := 397) (by decide +kernel), by decide +kernel⟩
theorem kX4_188 : Cond.constantLong RX4 188 (167) ∈ gtbl := gt_of ⟨List.mem_of_getElem? (i := 606) (by decide +kernel), by decide +kernel⟩
theorem kX4_190 : Cond.constantLong RX4 190 (31) ∈ gtbl := gt_of ⟨List.mem_of_getElem? (i := 607) (by decide +kernel), by decide +kernel⟩
theorem kX4_201 : Cond.constant RX4 201 (65535) ∈ gtbl := gt_of ⟨List.mem_of_getElem? (i := 545) (by decide +kernel), by decide +kernel⟩
theorem kX1_67 : Cond.constantLong RX1 67 (31) ∈ gtbl := gt_of ⟨List.mem_of_getElem? (i := 613) (by decide +kernel), by decide +kernel⟩
theorem kX2_106 : Cond.constantLong RX2 106 (31) ∈ gtbl := gt_of ⟨List.mem_of_getElem? (i := 624) (by decide +kernel), by decide +kernel⟩
theorem kX3_133 : Cond.constant RX3 133 (2147483647) ∈ gtbl := gt_of ⟨List.mem_of_getElem? (i := 450) (by decide +kernel), by decide +kernel⟩
theorem kX3_144 : Cond.constantLong RX3 144 (31) ∈ gtbl := gt_of ⟨List.mem_of_getElem? (i := 619) (by decide +kernel), by decide +kernel⟩
theorem kX5_124 : Cond.constant RX5 124 (-2000000000) ∈ gtbl := gt_of ⟨List.mem_of_getElem? (i := 787) (by decide +kernel), by decide +kernel⟩
theorem kX5_132 : Cond.constantLong RX5 132 (-2000000000000000000) ∈ gtbl := gt_of ⟨List.mem_of_getElem? (i := 804) (by decide +kernel), by decide +kernel⟩
theorem kX5_147 : Cond.constantLong RX5 147 (-7046029254386353131) ∈ gtbl := gt_of ⟨List.mem_of_getElem? (i := 864) (by decide +kernel), by decide +kernel⟩
theorem kX5_163 : Cond.constantLong RX5 163 (255) ∈ gtbl := gt_of ⟨List.mem_of_getElem? (i := 879) (by decide +kernel), by decide +kernel⟩
theorem kX5_165 : Cond.constantLong RX5 165 (-1) ∈ gtbl := gt_of ⟨List.mem_of_getElem? (i := 880) (by decide +kernel), by decide +kernel⟩
theorem kX5_183 : Cond.constantLong RX5 183 (167) ∈ gtbl := gt_of ⟨List.mem_of_getElem? (i := 901) (by decide +kernel), by decide +kernel⟩
theorem kX5_185 : Cond.constantLong RX5 185 (31) ∈ gtbl := gt_of ⟨List.mem_of_getElem? (i := 902) (by decide +kernel), by decide +kernel⟩
theorem kJ6_265 : Cond.constant RJ6 265 (1431655765) ∈ gtbl := gt_of ⟨List.mem_of_getElem? (i := 443) (by decide +kernel), by decide +kernel⟩
theorem kJ6_266 : Cond.constant RJ6 266 (858993459) ∈ gtbl := gt_of ⟨List.mem_of_getElem? (i := 444) (by decide +kernel), by decide +kernel⟩
theorem kJ6_267 : Cond.constant RJ6 267 (252645135) ∈ gtbl := gt_of ⟨List.mem_of_getElem? (i := 445) (by decide +kernel), by decide +kernel⟩
theorem nX4_7 : Cond.classLink RX4 7 RX1 ∈ gtbl ∧ Cond.instantiable RX1 8 ∈ gtbl ∧ Cond.initialized RX1 ∈ gtbl := ⟨gt_of ⟨List.mem_of_getElem? (i := 84) (by decide +kernel), by decide +kernel⟩, gt_of ⟨List.mem_of_getElem? (i := 85) (by decide +kernel), by decide +kernel⟩, gt_of ⟨List.mem_of_getElem? (i := 68) (by decide +kernel), by decide +kernel⟩⟩
theorem nX4_16 : Cond.classLink RX4 16 RX3 ∈ gtbl ∧ Cond.instantiable RX3 11 ∈ gtbl ∧ Cond.initialized RX3 ∈ gtbl := ⟨gt_of ⟨List.mem_of_getElem? (i := 137) (by decide +kernel), by decide +kernel⟩, gt_of ⟨List.mem_of_getElem? (i := 138) (by decide +kernel), by decide +kernel⟩, gt_of ⟨List.mem_of_getElem? (i := 70) (by decide +kernel), by decide +kernel⟩⟩
theorem nX4_25 : Cond.classLink RX4 25 RX0 ∈ gtbl ∧ Cond.instantiable RX0 4 ∈ gtbl ∧ Cond.initialized RX0 ∈ gtbl := ⟨gt_of ⟨List.mem_of_getElem? (i := 183) (by decide +kernel), by decide +kernel⟩, gt_of ⟨List.mem_of_getElem? (i := 184) (by decide +kernel), by decide +kernel⟩, gt_of ⟨List.mem_of_getElem? (i := 71) (by decide +kernel), by decide +kernel⟩⟩
theorem nX4_32 : Cond.classLink RX4 32 RX2 ∈ gtbl ∧ Cond.instantiable RX2 11 ∈ gtbl ∧ Cond.initialized RX2 ∈ gtbl := ⟨gt_of ⟨List.mem_of_getElem? (i := 203) (by decide +kernel), by decide +kernel⟩, gt_of ⟨List.mem_of_getElem? (i := 204) (by decide +kernel), by decide +kernel⟩, gt_of ⟨List.mem_of_getElem? (i := 72) (by decide +kernel), by decide +kernel⟩⟩
theorem nL_7 : Cond.classLink RL 7 RX4 ∈ gtbl ∧ Cond.instantiable RX4 4 ∈ gtbl ∧ Cond.initialized RX4 ∈ gtbl := ⟨gt_of ⟨List.mem_of_getElem? (i := 76) (by decide +kernel), by decide +kernel⟩, gt_of ⟨List.mem_of_getElem? (i := 77) (by decide +kernel), by decide +kernel⟩, gt_of ⟨List.mem_of_getElem? (i := 67) (by decide +kernel), by decide +kernel⟩⟩
theorem nL_10 : Cond.classLink RL 10 RX5 ∈ gtbl ∧ Cond.instantiable RX5 29 ∈ gtbl ∧ Cond.initialized RX5 ∈ gtbl := ⟨gt_of ⟨List.mem_of_getElem? (i := 626) (by decide +kernel), by decide +kernel⟩, gt_of ⟨List.mem_of_getElem? (i := 627) (by decide +kernel), by decide +kernel⟩, gt_of ⟨List.mem_of_getElem? (i := 73) (by decide +kernel), by decide +kernel⟩⟩
theorem aI_ok : Cond.arrayClass .int ∈ gtbl := gt_of ⟨List.mem_of_getElem? (i := 136) (by decide +kernel), by decide +kernel⟩
theorem aJ_ok : Cond.arrayClass .long ∈ gtbl := gt_of ⟨List.mem_of_getElem? (i := 247) (by decide +kernel), by decide +kernel⟩
end
section
theorem dJ6_bitCount_0f7a4_0 : decode cJ6_bitCount_0f7a4 0 = .ok (.iload_n 0, 1) := by decide +kernel
theorem dJ6_bitCount_0f7a4_1 : decode cJ6_bitCount_0f7a4 1 = .ok (.iload_n 0, 1) := by decide +kernel
theorem dJ6_bitCount_0f7a4_2 : decode cJ6_bitCount_0f7a4 2 = .ok (.iconst 1, 1) := by decide +kernel
theorem dJ6_bitCount_0f7a4_3 : decode cJ6_bitCount_0f7a4 3 = .ok (.iushr, 1) := by decide +kernel
theorem dJ6_bitCount_0f7a4_4 : decode cJ6_bitCount_0f7a4 4 = .ok (.ldc_w 265, 3) := by decide +kernel
theorem dJ6_bitCount_0f7a4_7 : decode cJ6_bitCount_0f7a4 7 = .ok (.iand, 1) := by decide +kernel
theorem dJ6_bitCount_0f7a4_8 : decode cJ6_bitCount_0f7a4 8 = .ok (.isub, 1) := by decide +kernel
theorem dJ6_bitCount_0f7a4_9 : decode cJ6_bitCount_0f7a4 9 = .ok (.istore_n 0, 1) := by decide +kernel
theorem dJ6_bitCount_0f7a4_10 : decode cJ6_bitCount_0f7a4 10 = .ok (.iload_n 0, 1) := by decide +kernel
theorem dJ6_bitCount_0f7a4_11 : decode cJ6_bitCount_0f7a4 11 = .ok (.ldc_w 266, 3) := by decide +kernel
theorem dJ6_bitCount_0f7a4_14 : decode cJ6_bitCount_0f7a4 14 = .ok (.iand, 1) := by decide +kernel
theorem dJ6_bitCount_0f7a4_15 : decode cJ6_bitCount_0f7a4 15 = .ok (.iload_n 0, 1) := by decide +kernel
theorem dJ6_bitCount_0f7a4_16 : decode cJ6_bitCount_0f7a4 16 = .ok (.iconst 2, 1) := by decide +kernel
theorem dJ6_bitCount_0f7a4_17 : decode cJ6_bitCount_0f7a4 17 = .ok (.iushr, 1) := by decide +kernel
theorem dJ6_bitCount_0f7a4_18 : decode cJ6_bitCount_0f7a4 18 = .ok (.ldc_w 266, 3) := by decide +kernel
theorem dJ6_bitCount_0f7a4_21 : decode cJ6_bitCount_0f7a4 21 = .ok (.iand, 1) := by decide +kernel
theorem dJ6_bitCount_0f7a4_22 : decode cJ6_bitCount_0f7a4 22 = .ok (.iadd, 1) := by decide +kernel
theorem dJ6_bitCount_0f7a4_23 : decode cJ6_bitCount_0f7a4 23 = .ok (.istore_n 0, 1) := by decide +kernel
theorem dJ6_bitCount_0f7a4_24 : decode cJ6_bitCount_0f7a4 24 = .ok (.iload_n 0, 1) := by decide +kernel
theorem dJ6_bitCount_0f7a4_25 : decode cJ6_bitCount_0f7a4 25 = .ok (.iload_n 0, 1) := by decide +kernel
theorem dJ6_bitCount_0f7a4_26 : decode cJ6_bitCount_0f7a4 26 = .ok (.iconst 4, 1) := by decide +kernel
theorem dJ6_bitCount_0f7a4_27 : decode cJ6_bitCount_0f7a4 27 = .ok (.iushr, 1) := by decide +kernel
theorem dJ6_bitCount_0f7a4_28 : decode cJ6_bitCount_0f7a4 28 = .ok (.iadd, 1) := by decide +kernel
theorem dJ6_bitCount_0f7a4_29 : decode cJ6_bitCount_0f7a4 29 = .ok (.ldc_w 267, 3) := by decide +kernel
theorem dJ6_bitCount_0f7a4_32 : decode cJ6_bitCount_0f7a4 32 = .ok (.iand, 1) := by decide +kernel
theorem dJ6_bitCount_0f7a4_33 : decode cJ6_bitCount_0f7a4 33 = .ok (.istore_n 0, 1) := by decide +kernel
theorem dJ6_bitCount_0f7a4_34 : decode cJ6_bitCount_0f7a4 34 = .ok (.iload_n 0, 1) := by decide +kernel
theorem dJ6_bitCount_0f7a4_35 : decode cJ6_bitCount_0f7a4 35 = .ok (.iload_n 0, 1) := by decide +kernel
theorem dJ6_bitCount_0f7a4_36 : decode cJ6_bitCount_0f7a4 36 = .ok (.bipush 8, 2) := by decide +kernel
theorem dJ6_bitCount_0f7a4_38 : decode cJ6_bitCount_0f7a4 38 = .ok (.iushr, 1) := by decide +kernel
theorem dJ6_bitCount_0f7a4_39 : decode cJ6_bitCount_0f7a4 39 = .ok (.iadd, 1) := by decide +kernel
theorem dJ6_bitCount_0f7a4_40 : decode cJ6_bitCount_0f7a4 40 = .ok (.istore_n 0, 1) := by decide +kernel
theorem dJ6_bitCount_0f7a4_41 : decode cJ6_bitCount_0f7a4 41 = .ok (.iload_n 0, 1) := by decide +kernel
theorem dJ6_bitCount_0f7a4_42 : decode cJ6_bitCount_0f7a4 42 = .ok (.iload_n 0, 1) := by decide +kernel
theorem dJ6_bitCount_0f7a4_43 : decode cJ6_bitCount_0f7a4 43 = .ok (.bipush 16, 2) := by decide +kernel
theorem dJ6_bitCount_0f7a4_45 : decode cJ6_bitCount_0f7a4 45 = .ok (.iushr, 1) := by decide +kernel
theorem dJ6_bitCount_0f7a4_46 : decode cJ6_bitCount_0f7a4 46 = .ok (.iadd, 1) := by decide +kernel
theorem dJ6_bitCount_0f7a4_47 : decode cJ6_bitCount_0f7a4 47 = .ok (.istore_n 0, 1) := by decide +kernel
theorem dJ6_bitCount_0f7a4_48 : decode cJ6_bitCount_0f7a4 48 = .ok (.iload_n 0, 1) := by decide +kernel
theorem dJ6_bitCount_0f7a4_49 : decode cJ6_bitCount_0f7a4 49 = .ok (.bipush 63, 2) := by decide +kernel
theorem dJ6_bitCount_0f7a4_51 : decode cJ6_bitCount_0f7a4 51 = .ok (.iand, 1) := by decide +kernel
theorem dJ6_bitCount_0f7a4_52 : decode cJ6_bitCount_0f7a4 52 = .ok (.ireturn, 1) := by decide +kernel
theorem dJ7_fill_53178_0 : decode cJ7_fill_53178 0 = .ok (.iconst 0, 1) := by decide +kernel
theorem dJ7_fill_53178_1 : decode cJ7_fill_53178 1 = .ok (.istore_n 2, 1) := by decide +kernel
theorem dJ7_fill_53178_2 : decode cJ7_fill_53178 2 = .ok (.aload_n 0, 1) := by decide +kernel
theorem dJ7_fill_53178_3 : decode cJ7_fill_53178 3 = .ok (.arraylength, 1) := by decide +kernel
theorem dJ7_fill_53178_4 : decode cJ7_fill_53178 4 = .ok (.istore_n 3, 1) := by decide +kernel
theorem dJ7_fill_53178_5 : decode cJ7_fill_53178 5 = .ok (.iload_n 2, 1) := by decide +kernel
theorem dJ7_fill_53178_6 : decode cJ7_fill_53178 6 = .ok (.iload_n 3, 1) := by decide +kernel
theorem dJ7_fill_53178_7 : decode cJ7_fill_53178 7 = .ok (.if_icmp .ge 13, 3) := by decide +kernel
theorem dJ7_fill_53178_10 : decode cJ7_fill_53178 10 = .ok (.aload_n 0, 1) := by decide +kernel
theorem dJ7_fill_53178_11 : decode cJ7_fill_53178 11 = .ok (.iload_n 2, 1) := by decide +kernel
theorem dJ7_fill_53178_12 : decode cJ7_fill_53178 12 = .ok (.iload_n 1, 1) := by decide +kernel
theorem dJ7_fill_53178_13 : decode cJ7_fill_53178 13 = .ok (.iastore, 1) := by decide +kernel
theorem dJ7_fill_53178_14 : decode cJ7_fill_53178 14 = .ok (.iinc 2 1, 3) := by decide +kernel
theorem dJ7_fill_53178_17 : decode cJ7_fill_53178 17 = .ok (.goto (-12), 3) := by decide +kernel
theorem dJ7_fill_53178_20 : decode cJ7_fill_53178 20 = .ok (.return_, 1) := by decide +kernel
theorem dJ9_floorMod_7cf53_0 : decode cJ9_floorMod_7cf53 0 = .ok (.iload_n 0, 1) := by decide +kernel
theorem dJ9_floorMod_7cf53_1 : decode cJ9_floorMod_7cf53 1 = .ok (.iload_n 1, 1) := by decide +kernel
theorem dJ9_floorMod_7cf53_2 : decode cJ9_floorMod_7cf53 2 = .ok (.irem, 1) := by decide +kernel
theorem dJ9_floorMod_7cf53_3 : decode cJ9_floorMod_7cf53 3 = .ok (.istore_n 2, 1) := by decide +kernel
theorem dJ9_floorMod_7cf53_4 : decode cJ9_floorMod_7cf53 4 = .ok (.iload_n 0, 1) := by decide +kernel
theorem dJ9_floorMod_7cf53_5 : decode cJ9_floorMod_7cf53 5 = .ok (.iload_n 1, 1) := by decide +kernel
theorem dJ9_floorMod_7cf53_6 : decode cJ9_floorMod_7cf53 6 = .ok (.ixor, 1) := by decide +kernel
theorem dJ9_floorMod_7cf53_7 : decode cJ9_floorMod_7cf53 7 = .ok (.ifCond .ge 11, 3) := by decide +kernel
theorem dJ9_floorMod_7cf53_10 : decode cJ9_floorMod_7cf53 10 = .ok (.iload_n 2, 1) := by decide +kernel
theorem dJ9_floorMod_7cf53_11 : decode cJ9_floorMod_7cf53 11 = .ok (.ifCond .eq 7, 3) := by decide +kernel
theorem dJ9_floorMod_7cf53_14 : decode cJ9_floorMod_7cf53 14 = .ok (.iload_n 2, 1) := by decide +kernel
theorem dJ9_floorMod_7cf53_15 : decode cJ9_floorMod_7cf53 15 = .ok (.iload_n 1, 1) := by decide +kernel
theorem dJ9_floorMod_7cf53_16 : decode cJ9_floorMod_7cf53 16 = .ok (.iadd, 1) := by decide +kernel
theorem dJ9_floorMod_7cf53_17 : decode cJ9_floorMod_7cf53 17 = .ok (.ireturn, 1) := by decide +kernel
theorem dJ9_floorMod_7cf53_18 : decode cJ9_floorMod_7cf53 18 = .ok (.iload_n 2, 1) := by decide +kernel
theorem dJ9_floorMod_7cf53_19 : decode cJ9_floorMod_7cf53 19 = .ok (.ireturn, 1) := by decide +kernel
theorem dJ9_abs_0f7a4_0 : decode cJ9_abs_0f7a4 0 = .ok (.iload_n 0, 1) := by decide +kernel
theorem dJ9_abs_0f7a4_1 : decode cJ9_abs_0f7a4 1 = .ok (.ifCond .ge 8, 3) := by decide +kernel
theorem dJ9_abs_0f7a4_4 : decode cJ9_abs_0f7a4 4 = .ok (.iload_n 0, 1) := by decide +kernel
theorem dJ9_abs_0f7a4_5 : decode cJ9_abs_0f7a4 5 = .ok (.ineg, 1) := by decide +kernel
theorem dJ9_abs_0f7a4_6 : decode cJ9_abs_0f7a4 6 = .ok (.goto 4, 3) := by decide +kernel
theorem dJ9_abs_0f7a4_9 : decode cJ9_abs_0f7a4 9 = .ok (.iload_n 0, 1) := by decide +kernel
theorem dJ9_abs_0f7a4_10 : decode cJ9_abs_0f7a4 10 = .ok (.ireturn, 1) := by decide +kernel
theorem dJ9_min_7cf53_0 : decode cJ9_min_7cf53 0 = .ok (.iload_n 0, 1) := by decide +kernel
theorem dJ9_min_7cf53_1 : decode cJ9_min_7cf53 1 = .ok (.iload_n 1, 1) := by decide +kernel
theorem dJ9_min_7cf53_2 : decode cJ9_min_7cf53 2 = .ok (.if_icmp .gt 7, 3) := by decide +kernel
theorem dJ9_min_7cf53_5 : decode cJ9_min_7cf53 5 = .ok (.iload_n 0, 1) := by decide +kernel
theorem dJ9_min_7cf53_6 : decode cJ9_min_7cf53 6 = .ok (.goto 4, 3) := by decide +kernel
theorem dJ9_min_7cf53_9 : decode cJ9_min_7cf53 9 = .ok (.iload_n 1, 1) := by decide +kernel
theorem dJ9_min_7cf53_10 : decode cJ9_min_7cf53 10 = .ok (.ireturn, 1) := by decide +kernel
theorem dL_law_0 : decode cL_law 0 = .ok (.new 7, 3) := by decide +kernel
theorem dL_law_3 : decode cL_law 3 = .ok (.dup, 1) := by decide +kernel
theorem dL_law_4 : decode cL_law 4 = .ok (.invokespecial 9, 3) := by decide +kernel
theorem dL_law_7 : decode cL_law 7 = .ok (.astore_n 1, 1) := by decide +kernel
theorem dL_law_8 : decode cL_law 8 = .ok (.new 10, 3) := by decide +kernel
theorem dL_law_11 : decode cL_law 11 = .ok (.dup, 1) := by decide +kernel
theorem dL_law_12 : decode cL_law 12 = .ok (.invokespecial 12, 3) := by decide +kernel
theorem dL_law_15 : decode cL_law 15 = .ok (.astore_n 2, 1) := by decide +kernel
theorem dL_law_16 : decode cL_law 16 = .ok (.iconst 0, 1) := by decide +kernel
theorem dL_law_17 : decode cL_law 17 = .ok (.istore_n 3, 1) := by decide +kernel
theorem dL_law_18 : decode cL_law 18 = .ok (.iload_n 3, 1) := by decide +kernel
theorem dL_law_19 : decode cL_law 19 = .ok (.aload_n 0, 1) := by decide +kernel
theorem dL_law_20 : decode cL_law 20 = .ok (.arraylength, 1) := by decide +kernel
theorem dL_law_21 : decode cL_law 21 = .ok (.iconst 4, 1) := by decide +kernel
theorem dL_law_22 : decode cL_law 22 = .ok (.isub, 1) := by decide +kernel
theorem dL_law_23 : decode cL_law 23 = .ok (.if_icmp .gt 806, 3) := by decide +kernel
theorem dL_law_26 : decode cL_law 26 = .ok (.aload_n 0, 1) := by decide +kernel
theorem dL_law_27 : decode cL_law 27 = .ok (.iload_n 3, 1) := by decide +kernel
theorem dL_law_28 : decode cL_law 28 = .ok (.iaload, 1) := by decide +kernel
theorem dL_law_29 : decode cL_law 29 = .ok (.bipush 31, 2) := by decide +kernel
theorem dL_law_31 : decode cL_law 31 = .ok (.iand, 1) := by decide +kernel
theorem dL_law_32 : decode cL_law 32 = .ok (.tableswitch 791 0 24 #[116, 159, 202, 245, 288, 321, 344, 367, 410, 453, 466, 489, 512, 525, 538, 561, 574, 587, 610, 653, 696, 729, 742, 755, 778], 116) := by decide +kernel
theorem dL_law_148 : decode cL_law 148 = .ok (.aload_n 1, 1) := by decide +kernel
theorem dL_law_149 : decode cL_law 149 = .ok (.aload_n 0, 1) := by decide +kernel
theorem dL_law_150 : decode cL_law 150 = .ok (.iload_n 3, 1) := by decide +kernel
theorem dL_law_151 : decode cL_law 151 = .ok (.iconst 1, 1) := by decide +kernel
theorem dL_law_152 : decode cL_law 152 = .ok (.iadd, 1) := by decide +kernel
theorem dL_law_153 : decode cL_law 153 = .ok (.iaload, 1) := by decide +kernel
theorem dL_law_154 : decode cL_law 154 = .ok (.aload_n 0, 1) := by decide +kernel
theorem dL_law_155 : decode cL_law 155 = .ok (.iload_n 3, 1) := by decide +kernel
theorem dL_law_156 : decode cL_law 156 = .ok (.iconst 2, 1) := by decide +kernel
theorem dL_law_157 : decode cL_law 157 = .ok (.iadd, 1) := by decide +kernel
theorem dL_law_158 : decode cL_law 158 = .ok (.iaload, 1) := by decide +kernel
theorem dL_law_159 : decode cL_law 159 = .ok (.aload_n 0, 1) := by decide +kernel
theorem dL_law_160 : decode cL_law 160 = .ok (.iload_n 3, 1) := by decide +kernel
theorem dL_law_161 : decode cL_law 161 = .ok (.iconst 3, 1) := by decide +kernel
theorem dL_law_162 : decode cL_law 162 = .ok (.iadd, 1) := by decide +kernel
theorem dL_law_163 : decode cL_law 163 = .ok (.iaload, 1) := by decide +kernel
theorem dL_law_164 : decode cL_law 164 = .ok (.invokevirtual 13, 3) := by decide +kernel
theorem dL_law_167 : decode cL_law 167 = .ok (.aload_n 2, 1) := by decide +kernel
theorem dL_law_168 : decode cL_law 168 = .ok (.aload_n 0, 1) := by decide +kernel
theorem dL_law_169 : decode cL_law 169 = .ok (.iload_n 3, 1) := by decide +kernel
theorem dL_law_170 : decode cL_law 170 = .ok (.iconst 1, 1) := by decide +kernel
theorem dL_law_171 : decode cL_law 171 = .ok (.iadd, 1) := by decide +kernel
theorem dL_law_172 : decode cL_law 172 = .ok (.iaload, 1) := by decide +kernel
theorem dL_law_173 : decode cL_law 173 = .ok (.aload_n 0, 1) := by decide +kernel
theorem dL_law_174 : decode cL_law 174 = .ok (.iload_n 3, 1) := by decide +kernel
theorem dL_law_175 : decode cL_law 175 = .ok (.iconst 2, 1) := by decide +kernel
theorem dL_law_176 : decode cL_law 176 = .ok (.iadd, 1) := by decide +kernel
theorem dL_law_177 : decode cL_law 177 = .ok (.iaload, 1) := by decide +kernel
theorem dL_law_178 : decode cL_law 178 = .ok (.aload_n 0, 1) := by decide +kernel
theorem dL_law_179 : decode cL_law 179 = .ok (.iload_n 3, 1) := by decide +kernel
theorem dL_law_180 : decode cL_law 180 = .ok (.iconst 3, 1) := by decide +kernel
theorem dL_law_181 : decode cL_law 181 = .ok (.iadd, 1) := by decide +kernel
theorem dL_law_182 : decode cL_law 182 = .ok (.iaload, 1) := by decide +kernel
theorem dL_law_183 : decode cL_law 183 = .ok (.invokevirtual 17, 3) := by decide +kernel
theorem dL_law_186 : decode cL_law 186 = .ok (.if_icmp .eq 637, 3) := by decide +kernel
theorem dL_law_189 : decode cL_law 189 = .ok (.iconst 0, 1) := by decide +kernel
theorem dL_law_190 : decode cL_law 190 = .ok (.ireturn, 1) := by decide +kernel
theorem dL_law_191 : decode cL_law 191 = .ok (.aload_n 1, 1) := by decide +kernel
theorem dL_law_192 : decode cL_law 192 = .ok (.aload_n 0, 1) := by decide +kernel
theorem dL_law_193 : decode cL_law 193 = .ok (.iload_n 3, 1) := by decide +kernel
theorem dL_law_194 : decode cL_law 194 = .ok (.iconst 1, 1) := by decide +kernel
theorem dL_law_195 : decode cL_law 195 = .ok (.iadd, 1) := by decide +kernel
theorem dL_law_196 : decode cL_law 196 = .ok (.iaload, 1) := by decide +kernel
theorem dL_law_197 : decode cL_law 197 = .ok (.aload_n 0, 1) := by decide +kernel
theorem dL_law_198 : decode cL_law 198 = .ok (.iload_n 3, 1) := by decide +kernel
theorem dL_law_199 : decode cL_law 199 = .ok (.iconst 2, 1) := by decide +kernel
theorem dL_law_200 : decode cL_law 200 = .ok (.iadd, 1) := by decide +kernel
theorem dL_law_201 : decode cL_law 201 = .ok (.iaload, 1) := by decide +kernel
theorem dL_law_202 : decode cL_law 202 = .ok (.aload_n 0, 1) := by decide +kernel
theorem dL_law_203 : decode cL_law 203 = .ok (.iload_n 3, 1) := by decide +kernel
theorem dL_law_204 : decode cL_law 204 = .ok (.iconst 3, 1) := by decide +kernel
theorem dL_law_205 : decode cL_law 205 = .ok (.iadd, 1) := by decide +kernel
theorem dL_law_206 : decode cL_law 206 = .ok (.iaload, 1) := by decide +kernel
theorem dL_law_207 : decode cL_law 207 = .ok (.invokevirtual 18, 3) := by decide +kernel
theorem dL_law_210 : decode cL_law 210 = .ok (.pop, 1) := by decide +kernel
theorem dL_law_211 : decode cL_law 211 = .ok (.aload_n 2, 1) := by decide +kernel
theorem dL_law_212 : decode cL_law 212 = .ok (.aload_n 0, 1) := by decide +kernel
theorem dL_law_213 : decode cL_law 213 = .ok (.iload_n 3, 1) := by decide +kernel
theorem dL_law_214 : decode cL_law 214 = .ok (.iconst 1, 1) := by decide +kernel
theorem dL_law_215 : decode cL_law 215 = .ok (.iadd, 1) := by decide +kernel
theorem dL_law_216 : decode cL_law 216 = .ok (.iaload, 1) := by decide +kernel
theorem dL_law_217 : decode cL_law 217 = .ok (.aload_n 0, 1) := by decide +kernel
theorem dL_law_218 : decode cL_law 218 = .ok (.iload_n 3, 1) := by decide +kernel
theorem dL_law_219 : decode cL_law 219 = .ok (.iconst 2, 1) := by decide +kernel
theorem dL_law_220 : decode cL_law 220 = .ok (.iadd, 1) := by decide +kernel
theorem dL_law_221 : decode cL_law 221 = .ok (.iaload, 1) := by decide +kernel
theorem dL_law_222 : decode cL_law 222 = .ok (.aload_n 0, 1) := by decide +kernel
theorem dL_law_223 : decode cL_law 223 = .ok (.iload_n 3, 1) := by decide +kernel
theorem dL_law_224 : decode cL_law 224 = .ok (.iconst 3, 1) := by decide +kernel
theorem dL_law_225 : decode cL_law 225 = .ok (.iadd, 1) := by decide +kernel
theorem dL_law_226 : decode cL_law 226 = .ok (.iaload, 1) := by decide +kernel
theorem dL_law_227 : decode cL_law 227 = .ok (.invokevirtual 21, 3) := by decide +kernel
theorem dL_law_230 : decode cL_law 230 = .ok (.pop, 1) := by decide +kernel
theorem dL_law_231 : decode cL_law 231 = .ok (.goto 592, 3) := by decide +kernel
theorem dL_law_234 : decode cL_law 234 = .ok (.aload_n 1, 1) := by decide +kernel
theorem dL_law_235 : decode cL_law 235 = .ok (.aload_n 0, 1) := by decide +kernel
theorem dL_law_236 : decode cL_law 236 = .ok (.iload_n 3, 1) := by decide +kernel
theorem dL_law_237 : decode cL_law 237 = .ok (.iconst 1, 1) := by decide +kernel
theorem dL_law_238 : decode cL_law 238 = .ok (.iadd, 1) := by decide +kernel
theorem dL_law_239 : decode cL_law 239 = .ok (.iaload, 1) := by decide +kernel
theorem dL_law_240 : decode cL_law 240 = .ok (.aload_n 0, 1) := by decide +kernel
theorem dL_law_241 : decode cL_law 241 = .ok (.iload_n 3, 1) := by decide +kernel
theorem dL_law_242 : decode cL_law 242 = .ok (.iconst 2, 1) := by decide +kernel
theorem dL_law_243 : decode cL_law 243 = .ok (.iadd, 1) := by decide +kernel
theorem dL_law_244 : decode cL_law 244 = .ok (.iaload, 1) := by decide +kernel
theorem dL_law_245 : decode cL_law 245 = .ok (.aload_n 0, 1) := by decide +kernel
theorem dL_law_246 : decode cL_law 246 = .ok (.iload_n 3, 1) := by decide +kernel
theorem dL_law_247 : decode cL_law 247 = .ok (.iconst 3, 1) := by decide +kernel
theorem dL_law_248 : decode cL_law 248 = .ok (.iadd, 1) := by decide +kernel
theorem dL_law_249 : decode cL_law 249 = .ok (.iaload, 1) := by decide +kernel
theorem dL_law_250 : decode cL_law 250 = .ok (.invokevirtual 22, 3) := by decide +kernel
theorem dL_law_253 : decode cL_law 253 = .ok (.pop, 1) := by decide +kernel
theorem dL_law_254 : decode cL_law 254 = .ok (.aload_n 2, 1) := by decide +kernel
theorem dL_law_255 : decode cL_law 255 = .ok (.aload_n 0, 1) := by decide +kernel
theorem dL_law_256 : decode cL_law 256 = .ok (.iload_n 3, 1) := by decide +kernel
theorem dL_law_257 : decode cL_law 257 = .ok (.iconst 1, 1) := by decide +kernel
theorem dL_law_258 : decode cL_law 258 = .ok (.iadd, 1) := by decide +kernel
theorem dL_law_259 : decode cL_law 259 = .ok (.iaload, 1) := by decide +kernel
theorem dL_law_260 : decode cL_law 260 = .ok (.aload_n 0, 1) := by decide +kernel
theorem dL_law_261 : decode cL_law 261 = .ok (.iload_n 3, 1) := by decide +kernel
theorem dL_law_262 : decode cL_law 262 = .ok (.iconst 2, 1) := by decide +kernel
theorem dL_law_263 : decode cL_law 263 = .ok (.iadd, 1) := by decide +kernel
theorem dL_law_264 : decode cL_law 264 = .ok (.iaload, 1) := by decide +kernel
theorem dL_law_265 : decode cL_law 265 = .ok (.aload_n 0, 1) := by decide +kernel
theorem dL_law_266 : decode cL_law 266 = .ok (.iload_n 3, 1) := by decide +kernel
theorem dL_law_267 : decode cL_law 267 = .ok (.iconst 3, 1) := by decide +kernel
theorem dL_law_268 : decode cL_law 268 = .ok (.iadd, 1) := by decide +kernel
theorem dL_law_269 : decode cL_law 269 = .ok (.iaload, 1) := by decide +kernel
theorem dL_law_270 : decode cL_law 270 = .ok (.invokevirtual 25, 3) := by decide +kernel
theorem dL_law_273 : decode cL_law 273 = .ok (.pop, 1) := by decide +kernel
theorem dL_law_274 : decode cL_law 274 = .ok (.goto 549, 3) := by decide +kernel
theorem dL_law_277 : decode cL_law 277 = .ok (.aload_n 1, 1) := by decide +kernel
theorem dL_law_278 : decode cL_law 278 = .ok (.aload_n 0, 1) := by decide +kernel
theorem dL_law_279 : decode cL_law 279 = .ok (.iload_n 3, 1) := by decide +kernel
theorem dL_law_280 : decode cL_law 280 = .ok (.iconst 1, 1) := by decide +kernel
theorem dL_law_281 : decode cL_law 281 = .ok (.iadd, 1) := by decide +kernel
theorem dL_law_282 : decode cL_law 282 = .ok (.iaload, 1) := by decide +kernel
theorem dL_law_283 : decode cL_law 283 = .ok (.aload_n 0, 1) := by decide +kernel
theorem dL_law_284 : decode cL_law 284 = .ok (.iload_n 3, 1) := by decide +kernel
theorem dL_law_285 : decode cL_law 285 = .ok (.iconst 2, 1) := by decide +kernel
theorem dL_law_286 : decode cL_law 286 = .ok (.iadd, 1) := by decide +kernel
theorem dL_law_287 : decode cL_law 287 = .ok (.iaload, 1) := by decide +kernel
theorem dL_law_288 : decode cL_law 288 = .ok (.aload_n 0, 1) := by decide +kernel
theorem dL_law_289 : decode cL_law 289 = .ok (.iload_n 3, 1) := by decide +kernel
theorem dL_law_290 : decode cL_law 290 = .ok (.iconst 3, 1) := by decide +kernel
theorem dL_law_291 : decode cL_law 291 = .ok (.iadd, 1) := by decide +kernel
theorem dL_law_292 : decode cL_law 292 = .ok (.iaload, 1) := by decide +kernel
theorem dL_law_293 : decode cL_law 293 = .ok (.invokevirtual 26, 3) := by decide +kernel
theorem dL_law_296 : decode cL_law 296 = .ok (.pop, 1) := by decide +kernel
theorem dL_law_297 : decode cL_law 297 = .ok (.aload_n 2, 1) := by decide +kernel
theorem dL_law_298 : decode cL_law 298 = .ok (.aload_n 0, 1) := by decide +kernel
theorem dL_law_299 : decode cL_law 299 = .ok (.iload_n 3, 1) := by decide +kernel
theorem dL_law_300 : decode cL_law 300 = .ok (.iconst 1, 1) := by decide +kernel
theorem dL_law_301 : decode cL_law 301 = .ok (.iadd, 1) := by decide +kernel
theorem dL_law_302 : decode cL_law 302 = .ok (.iaload, 1) := by decide +kernel
theorem dL_law_303 : decode cL_law 303 = .ok (.aload_n 0, 1) := by decide +kernel
theorem dL_law_304 : decode cL_law 304 = .ok (.iload_n 3, 1) := by decide +kernel
theorem dL_law_305 : decode cL_law 305 = .ok (.iconst 2, 1) := by decide +kernel
theorem dL_law_306 : decode cL_law 306 = .ok (.iadd, 1) := by decide +kernel
theorem dL_law_307 : decode cL_law 307 = .ok (.iaload, 1) := by decide +kernel
theorem dL_law_308 : decode cL_law 308 = .ok (.aload_n 0, 1) := by decide +kernel
theorem dL_law_309 : decode cL_law 309 = .ok (.iload_n 3, 1) := by decide +kernel
theorem dL_law_310 : decode cL_law 310 = .ok (.iconst 3, 1) := by decide +kernel
theorem dL_law_311 : decode cL_law 311 = .ok (.iadd, 1) := by decide +kernel
theorem dL_law_312 : decode cL_law 312 = .ok (.iaload, 1) := by decide +kernel
theorem dL_law_313 : decode cL_law 313 = .ok (.invokevirtual 29, 3) := by decide +kernel
theorem dL_law_316 : decode cL_law 316 = .ok (.pop, 1) := by decide +kernel
theorem dL_law_317 : decode cL_law 317 = .ok (.goto 506, 3) := by decide +kernel
theorem dL_law_320 : decode cL_law 320 = .ok (.aload_n 1, 1) := by decide +kernel
theorem dL_law_321 : decode cL_law 321 = .ok (.aload_n 0, 1) := by decide +kernel
theorem dL_law_322 : decode cL_law 322 = .ok (.iload_n 3, 1) := by decide +kernel
theorem dL_law_323 : decode cL_law 323 = .ok (.iconst 1, 1) := by decide +kernel
theorem dL_law_324 : decode cL_law 324 = .ok (.iadd, 1) := by decide +kernel
theorem dL_law_325 : decode cL_law 325 = .ok (.iaload, 1) := by decide +kernel
theorem dL_law_326 : decode cL_law 326 = .ok (.aload_n 0, 1) := by decide +kernel
theorem dL_law_327 : decode cL_law 327 = .ok (.iload_n 3, 1) := by decide +kernel
theorem dL_law_328 : decode cL_law 328 = .ok (.iconst 2, 1) := by decide +kernel
theorem dL_law_329 : decode cL_law 329 = .ok (.iadd, 1) := by decide +kernel
theorem dL_law_330 : decode cL_law 330 = .ok (.iaload, 1) := by decide +kernel
theorem dL_law_331 : decode cL_law 331 = .ok (.invokevirtual 30, 3) := by decide +kernel
theorem dL_law_334 : decode cL_law 334 = .ok (.pop, 1) := by decide +kernel
theorem dL_law_335 : decode cL_law 335 = .ok (.aload_n 2, 1) := by decide +kernel
theorem dL_law_336 : decode cL_law 336 = .ok (.aload_n 0, 1) := by decide +kernel
theorem dL_law_337 : decode cL_law 337 = .ok (.iload_n 3, 1) := by decide +kernel
theorem dL_law_338 : decode cL_law 338 = .ok (.iconst 1, 1) := by decide +kernel
theorem dL_law_339 : decode cL_law 339 = .ok (.iadd, 1) := by decide +kernel
theorem dL_law_340 : decode cL_law 340 = .ok (.iaload, 1) := by decide +kernel
theorem dL_law_341 : decode cL_law 341 = .ok (.aload_n 0, 1) := by decide +kernel
theorem dL_law_342 : decode cL_law 342 = .ok (.iload_n 3, 1) := by decide +kernel
theorem dL_law_343 : decode cL_law 343 = .ok (.iconst 2, 1) := by decide +kernel
theorem dL_law_344 : decode cL_law 344 = .ok (.iadd, 1) := by decide +kernel
theorem dL_law_345 : decode cL_law 345 = .ok (.iaload, 1) := by decide +kernel
theorem dL_law_346 : decode cL_law 346 = .ok (.invokevirtual 34, 3) := by decide +kernel
theorem dL_law_349 : decode cL_law 349 = .ok (.pop, 1) := by decide +kernel
theorem dL_law_350 : decode cL_law 350 = .ok (.goto 473, 3) := by decide +kernel
theorem dL_law_353 : decode cL_law 353 = .ok (.aload_n 1, 1) := by decide +kernel
theorem dL_law_354 : decode cL_law 354 = .ok (.aload_n 0, 1) := by decide +kernel
theorem dL_law_355 : decode cL_law 355 = .ok (.iload_n 3, 1) := by decide +kernel
theorem dL_law_356 : decode cL_law 356 = .ok (.iconst 1, 1) := by decide +kernel
theorem dL_law_357 : decode cL_law 357 = .ok (.iadd, 1) := by decide +kernel
theorem dL_law_358 : decode cL_law 358 = .ok (.iaload, 1) := by decide +kernel
theorem dL_law_359 : decode cL_law 359 = .ok (.invokevirtual 35, 3) := by decide +kernel
theorem dL_law_362 : decode cL_law 362 = .ok (.pop, 1) := by decide +kernel
theorem dL_law_363 : decode cL_law 363 = .ok (.aload_n 2, 1) := by decide +kernel
theorem dL_law_364 : decode cL_law 364 = .ok (.aload_n 0, 1) := by decide +kernel
theorem dL_law_365 : decode cL_law 365 = .ok (.iload_n 3, 1) := by decide +kernel
theorem dL_law_366 : decode cL_law 366 = .ok (.iconst 1, 1) := by decide +kernel
theorem dL_law_367 : decode cL_law 367 = .ok (.iadd, 1) := by decide +kernel
theorem dL_law_368 : decode cL_law 368 = .ok (.iaload, 1) := by decide +kernel
theorem dL_law_369 : decode cL_law 369 = .ok (.invokevirtual 39, 3) := by decide +kernel
theorem dL_law_372 : decode cL_law 372 = .ok (.pop, 1) := by decide +kernel
theorem dL_law_373 : decode cL_law 373 = .ok (.goto 450, 3) := by decide +kernel
theorem dL_law_376 : decode cL_law 376 = .ok (.aload_n 1, 1) := by decide +kernel
theorem dL_law_377 : decode cL_law 377 = .ok (.aload_n 0, 1) := by decide +kernel
theorem dL_law_378 : decode cL_law 378 = .ok (.iload_n 3, 1) := by decide +kernel
theorem dL_law_379 : decode cL_law 379 = .ok (.iconst 1, 1) := by decide +kernel
theorem dL_law_380 : decode cL_law 380 = .ok (.iadd, 1) := by decide +kernel
theorem dL_law_381 : decode cL_law 381 = .ok (.iaload, 1) := by decide +kernel
theorem dL_law_382 : decode cL_law 382 = .ok (.invokevirtual 40, 3) := by decide +kernel
theorem dL_law_385 : decode cL_law 385 = .ok (.pop, 1) := by decide +kernel
theorem dL_law_386 : decode cL_law 386 = .ok (.aload_n 2, 1) := by decide +kernel
theorem dL_law_387 : decode cL_law 387 = .ok (.aload_n 0, 1) := by decide +kernel
theorem dL_law_388 : decode cL_law 388 = .ok (.iload_n 3, 1) := by decide +kernel
theorem dL_law_389 : decode cL_law 389 = .ok (.iconst 1, 1) := by decide +kernel
theorem dL_law_390 : decode cL_law 390 = .ok (.iadd, 1) := by decide +kernel
theorem dL_law_391 : decode cL_law 391 = .ok (.iaload, 1) := by decide +kernel
theorem dL_law_392 : decode cL_law 392 = .ok (.invokevirtual 43, 3) := by decide +kernel
theorem dL_law_395 : decode cL_law 395 = .ok (.pop, 1) := by decide +kernel
theorem dL_law_396 : decode cL_law 396 = .ok (.goto 427, 3) := by decide +kernel
theorem dL_law_399 : decode cL_law 399 = .ok (.aload_n 1, 1) := by decide +kernel
theorem dL_law_400 : decode cL_law 400 = .ok (.aload_n 0, 1) := by decide +kernel
theorem dL_law_401 : decode cL_law 401 = .ok (.iload_n 3, 1) := by decide +kernel
theorem dL_law_402 : decode cL_law 402 = .ok (.iconst 1, 1) := by decide +kernel
theorem dL_law_403 : decode cL_law 403 = .ok (.iadd, 1) := by decide +kernel
theorem dL_law_404 : decode cL_law 404 = .ok (.iaload, 1) := by decide +kernel
theorem dL_law_405 : decode cL_law 405 = .ok (.aload_n 0, 1) := by decide +kernel
theorem dL_law_406 : decode cL_law 406 = .ok (.iload_n 3, 1) := by decide +kernel
theorem dL_law_407 : decode cL_law 407 = .ok (.iconst 2, 1) := by decide +kernel
theorem dL_law_408 : decode cL_law 408 = .ok (.iadd, 1) := by decide +kernel
theorem dL_law_409 : decode cL_law 409 = .ok (.iaload, 1) := by decide +kernel
theorem dL_law_410 : decode cL_law 410 = .ok (.aload_n 0, 1) := by decide +kernel
theorem dL_law_411 : decode cL_law 411 = .ok (.iload_n 3, 1) := by decide +kernel
theorem dL_law_412 : decode cL_law 412 = .ok (.iconst 3, 1) := by decide +kernel
theorem dL_law_413 : decode cL_law 413 = .ok (.iadd, 1) := by decide +kernel
theorem dL_law_414 : decode cL_law 414 = .ok (.iaload, 1) := by decide +kernel
theorem dL_law_415 : decode cL_law 415 = .ok (.invokevirtual 44, 3) := by decide +kernel
theorem dL_law_418 : decode cL_law 418 = .ok (.pop, 1) := by decide +kernel
theorem dL_law_419 : decode cL_law 419 = .ok (.aload_n 2, 1) := by decide +kernel
theorem dL_law_420 : decode cL_law 420 = .ok (.aload_n 0, 1) := by decide +kernel
theorem dL_law_421 : decode cL_law 421 = .ok (.iload_n 3, 1) := by decide +kernel
theorem dL_law_422 : decode cL_law 422 = .ok (.iconst 1, 1) := by decide +kernel
theorem dL_law_423 : decode cL_law 423 = .ok (.iadd, 1) := by decide +kernel
theorem dL_law_424 : decode cL_law 424 = .ok (.iaload, 1) := by decide +kernel
theorem dL_law_425 : decode cL_law 425 = .ok (.aload_n 0, 1) := by decide +kernel
theorem dL_law_426 : decode cL_law 426 = .ok (.iload_n 3, 1) := by decide +kernel
theorem dL_law_427 : decode cL_law 427 = .ok (.iconst 2, 1) := by decide +kernel
theorem dL_law_428 : decode cL_law 428 = .ok (.iadd, 1) := by decide +kernel
theorem dL_law_429 : decode cL_law 429 = .ok (.iaload, 1) := by decide +kernel
theorem dL_law_430 : decode cL_law 430 = .ok (.aload_n 0, 1) := by decide +kernel
theorem dL_law_431 : decode cL_law 431 = .ok (.iload_n 3, 1) := by decide +kernel
theorem dL_law_432 : decode cL_law 432 = .ok (.iconst 3, 1) := by decide +kernel
theorem dL_law_433 : decode cL_law 433 = .ok (.iadd, 1) := by decide +kernel
theorem dL_law_434 : decode cL_law 434 = .ok (.iaload, 1) := by decide +kernel
theorem dL_law_435 : decode cL_law 435 = .ok (.invokevirtual 47, 3) := by decide +kernel
theorem dL_law_438 : decode cL_law 438 = .ok (.pop, 1) := by decide +kernel
theorem dL_law_439 : decode cL_law 439 = .ok (.goto 384, 3) := by decide +kernel
theorem dL_law_442 : decode cL_law 442 = .ok (.aload_n 1, 1) := by decide +kernel
theorem dL_law_443 : decode cL_law 443 = .ok (.aload_n 0, 1) := by decide +kernel
theorem dL_law_444 : decode cL_law 444 = .ok (.iload_n 3, 1) := by decide +kernel
theorem dL_law_445 : decode cL_law 445 = .ok (.iconst 1, 1) := by decide +kernel
theorem dL_law_446 : decode cL_law 446 = .ok (.iadd, 1) := by decide +kernel
theorem dL_law_447 : decode cL_law 447 = .ok (.iaload, 1) := by decide +kernel
theorem dL_law_448 : decode cL_law 448 = .ok (.aload_n 0, 1) := by decide +kernel
theorem dL_law_449 : decode cL_law 449 = .ok (.iload_n 3, 1) := by decide +kernel
theorem dL_law_450 : decode cL_law 450 = .ok (.iconst 2, 1) := by decide +kernel
theorem dL_law_451 : decode cL_law 451 = .ok (.iadd, 1) := by decide +kernel
theorem dL_law_452 : decode cL_law 452 = .ok (.iaload, 1) := by decide +kernel
theorem dL_law_453 : decode cL_law 453 = .ok (.aload_n 0, 1) := by decide +kernel
theorem dL_law_454 : decode cL_law 454 = .ok (.iload_n 3, 1) := by decide +kernel
theorem dL_law_455 : decode cL_law 455 = .ok (.iconst 3, 1) := by decide +kernel
theorem dL_law_456 : decode cL_law 456 = .ok (.iadd, 1) := by decide +kernel
theorem dL_law_457 : decode cL_law 457 = .ok (.iaload, 1) := by decide +kernel
theorem dL_law_458 : decode cL_law 458 = .ok (.invokevirtual 48, 3) := by decide +kernel
theorem dL_law_461 : decode cL_law 461 = .ok (.pop, 1) := by decide +kernel
theorem dL_law_462 : decode cL_law 462 = .ok (.aload_n 2, 1) := by decide +kernel
theorem dL_law_463 : decode cL_law 463 = .ok (.aload_n 0, 1) := by decide +kernel
theorem dL_law_464 : decode cL_law 464 = .ok (.iload_n 3, 1) := by decide +kernel
theorem dL_law_465 : decode cL_law 465 = .ok (.iconst 1, 1) := by decide +kernel
theorem dL_law_466 : decode cL_law 466 = .ok (.iadd, 1) := by decide +kernel
theorem dL_law_467 : decode cL_law 467 = .ok (.iaload, 1) := by decide +kernel
theorem dL_law_468 : decode cL_law 468 = .ok (.aload_n 0, 1) := by decide +kernel
theorem dL_law_469 : decode cL_law 469 = .ok (.iload_n 3, 1) := by decide +kernel
theorem dL_law_470 : decode cL_law 470 = .ok (.iconst 2, 1) := by decide +kernel
theorem dL_law_471 : decode cL_law 471 = .ok (.iadd, 1) := by decide +kernel
theorem dL_law_472 : decode cL_law 472 = .ok (.iaload, 1) := by decide +kernel
theorem dL_law_473 : decode cL_law 473 = .ok (.aload_n 0, 1) := by decide +kernel
theorem dL_law_474 : decode cL_law 474 = .ok (.iload_n 3, 1) := by decide +kernel
theorem dL_law_475 : decode cL_law 475 = .ok (.iconst 3, 1) := by decide +kernel
theorem dL_law_476 : decode cL_law 476 = .ok (.iadd, 1) := by decide +kernel
theorem dL_law_477 : decode cL_law 477 = .ok (.iaload, 1) := by decide +kernel
theorem dL_law_478 : decode cL_law 478 = .ok (.invokevirtual 51, 3) := by decide +kernel
theorem dL_law_481 : decode cL_law 481 = .ok (.pop, 1) := by decide +kernel
theorem dL_law_482 : decode cL_law 482 = .ok (.goto 341, 3) := by decide +kernel
theorem dL_law_485 : decode cL_law 485 = .ok (.aload_n 1, 1) := by decide +kernel
theorem dL_law_486 : decode cL_law 486 = .ok (.invokevirtual 52, 3) := by decide +kernel
theorem dL_law_489 : decode cL_law 489 = .ok (.pop, 1) := by decide +kernel
theorem dL_law_490 : decode cL_law 490 = .ok (.aload_n 2, 1) := by decide +kernel
theorem dL_law_491 : decode cL_law 491 = .ok (.invokevirtual 56, 3) := by decide +kernel
theorem dL_law_494 : decode cL_law 494 = .ok (.pop, 1) := by decide +kernel
theorem dL_law_495 : decode cL_law 495 = .ok (.goto 328, 3) := by decide +kernel
theorem dL_law_498 : decode cL_law 498 = .ok (.aload_n 1, 1) := by decide +kernel
theorem dL_law_499 : decode cL_law 499 = .ok (.aload_n 0, 1) := by decide +kernel
theorem dL_law_500 : decode cL_law 500 = .ok (.iload_n 3, 1) := by decide +kernel
theorem dL_law_501 : decode cL_law 501 = .ok (.iconst 1, 1) := by decide +kernel
theorem dL_law_502 : decode cL_law 502 = .ok (.iadd, 1) := by decide +kernel
theorem dL_law_503 : decode cL_law 503 = .ok (.iaload, 1) := by decide +kernel
theorem dL_law_504 : decode cL_law 504 = .ok (.invokevirtual 57, 3) := by decide +kernel
theorem dL_law_507 : decode cL_law 507 = .ok (.pop2, 1) := by decide +kernel
theorem dL_law_508 : decode cL_law 508 = .ok (.aload_n 2, 1) := by decide +kernel
theorem dL_law_509 : decode cL_law 509 = .ok (.aload_n 0, 1) := by decide +kernel
theorem dL_law_510 : decode cL_law 510 = .ok (.iload_n 3, 1) := by decide +kernel
theorem dL_law_511 : decode cL_law 511 = .ok (.iconst 1, 1) := by decide +kernel
theorem dL_law_512 : decode cL_law 512 = .ok (.iadd, 1) := by decide +kernel
theorem dL_law_513 : decode cL_law 513 = .ok (.iaload, 1) := by decide +kernel
theorem dL_law_514 : decode cL_law 514 = .ok (.invokevirtual 61, 3) := by decide +kernel
theorem dL_law_517 : decode cL_law 517 = .ok (.pop2, 1) := by decide +kernel
theorem dL_law_518 : decode cL_law 518 = .ok (.goto 305, 3) := by decide +kernel
theorem dL_law_521 : decode cL_law 521 = .ok (.aload_n 1, 1) := by decide +kernel
theorem dL_law_522 : decode cL_law 522 = .ok (.aload_n 0, 1) := by decide +kernel
theorem dL_law_523 : decode cL_law 523 = .ok (.iload_n 3, 1) := by decide +kernel
theorem dL_law_524 : decode cL_law 524 = .ok (.iconst 1, 1) := by decide +kernel
theorem dL_law_525 : decode cL_law 525 = .ok (.iadd, 1) := by decide +kernel
theorem dL_law_526 : decode cL_law 526 = .ok (.iaload, 1) := by decide +kernel
theorem dL_law_527 : decode cL_law 527 = .ok (.invokevirtual 62, 3) := by decide +kernel
theorem dL_law_530 : decode cL_law 530 = .ok (.pop2, 1) := by decide +kernel
theorem dL_law_531 : decode cL_law 531 = .ok (.aload_n 2, 1) := by decide +kernel
theorem dL_law_532 : decode cL_law 532 = .ok (.aload_n 0, 1) := by decide +kernel
theorem dL_law_533 : decode cL_law 533 = .ok (.iload_n 3, 1) := by decide +kernel
theorem dL_law_534 : decode cL_law 534 = .ok (.iconst 1, 1) := by decide +kernel
theorem dL_law_535 : decode cL_law 535 = .ok (.iadd, 1) := by decide +kernel
theorem dL_law_536 : decode cL_law 536 = .ok (.iaload, 1) := by decide +kernel
theorem dL_law_537 : decode cL_law 537 = .ok (.invokevirtual 65, 3) := by decide +kernel
theorem dL_law_540 : decode cL_law 540 = .ok (.pop2, 1) := by decide +kernel
theorem dL_law_541 : decode cL_law 541 = .ok (.goto 282, 3) := by decide +kernel
theorem dL_law_544 : decode cL_law 544 = .ok (.aload_n 1, 1) := by decide +kernel
theorem dL_law_545 : decode cL_law 545 = .ok (.invokevirtual 66, 3) := by decide +kernel
theorem dL_law_548 : decode cL_law 548 = .ok (.pop, 1) := by decide +kernel
theorem dL_law_549 : decode cL_law 549 = .ok (.aload_n 2, 1) := by decide +kernel
theorem dL_law_550 : decode cL_law 550 = .ok (.invokevirtual 69, 3) := by decide +kernel
theorem dL_law_553 : decode cL_law 553 = .ok (.pop, 1) := by decide +kernel
theorem dL_law_554 : decode cL_law 554 = .ok (.goto 269, 3) := by decide +kernel
theorem dL_law_557 : decode cL_law 557 = .ok (.aload_n 1, 1) := by decide +kernel
theorem dL_law_558 : decode cL_law 558 = .ok (.invokevirtual 70, 3) := by decide +kernel
theorem dL_law_561 : decode cL_law 561 = .ok (.pop, 1) := by decide +kernel
theorem dL_law_562 : decode cL_law 562 = .ok (.aload_n 2, 1) := by decide +kernel
theorem dL_law_563 : decode cL_law 563 = .ok (.invokevirtual 73, 3) := by decide +kernel
theorem dL_law_566 : decode cL_law 566 = .ok (.pop, 1) := by decide +kernel
theorem dL_law_567 : decode cL_law 567 = .ok (.goto 256, 3) := by decide +kernel
theorem dL_law_570 : decode cL_law 570 = .ok (.aload_n 1, 1) := by decide +kernel
theorem dL_law_571 : decode cL_law 571 = .ok (.aload_n 0, 1) := by decide +kernel
theorem dL_law_572 : decode cL_law 572 = .ok (.iload_n 3, 1) := by decide +kernel
theorem dL_law_573 : decode cL_law 573 = .ok (.iconst 1, 1) := by decide +kernel
theorem dL_law_574 : decode cL_law 574 = .ok (.iadd, 1) := by decide +kernel
theorem dL_law_575 : decode cL_law 575 = .ok (.iaload, 1) := by decide +kernel
theorem dL_law_576 : decode cL_law 576 = .ok (.invokevirtual 74, 3) := by decide +kernel
theorem dL_law_579 : decode cL_law 579 = .ok (.pop, 1) := by decide +kernel
theorem dL_law_580 : decode cL_law 580 = .ok (.aload_n 2, 1) := by decide +kernel
theorem dL_law_581 : decode cL_law 581 = .ok (.aload_n 0, 1) := by decide +kernel
theorem dL_law_582 : decode cL_law 582 = .ok (.iload_n 3, 1) := by decide +kernel
theorem dL_law_583 : decode cL_law 583 = .ok (.iconst 1, 1) := by decide +kernel
theorem dL_law_584 : decode cL_law 584 = .ok (.iadd, 1) := by decide +kernel
theorem dL_law_585 : decode cL_law 585 = .ok (.iaload, 1) := by decide +kernel
theorem dL_law_586 : decode cL_law 586 = .ok (.invokevirtual 77, 3) := by decide +kernel
theorem dL_law_589 : decode cL_law 589 = .ok (.pop, 1) := by decide +kernel
theorem dL_law_590 : decode cL_law 590 = .ok (.goto 233, 3) := by decide +kernel
theorem dL_law_593 : decode cL_law 593 = .ok (.aload_n 1, 1) := by decide +kernel
theorem dL_law_594 : decode cL_law 594 = .ok (.invokevirtual 78, 3) := by decide +kernel
theorem dL_law_597 : decode cL_law 597 = .ok (.pop, 1) := by decide +kernel
theorem dL_law_598 : decode cL_law 598 = .ok (.aload_n 2, 1) := by decide +kernel
theorem dL_law_599 : decode cL_law 599 = .ok (.invokevirtual 81, 3) := by decide +kernel
theorem dL_law_602 : decode cL_law 602 = .ok (.pop, 1) := by decide +kernel
theorem dL_law_603 : decode cL_law 603 = .ok (.goto 220, 3) := by decide +kernel
theorem dL_law_606 : decode cL_law 606 = .ok (.aload_n 1, 1) := by decide +kernel
theorem dL_law_607 : decode cL_law 607 = .ok (.invokevirtual 82, 3) := by decide +kernel
theorem dL_law_610 : decode cL_law 610 = .ok (.pop, 1) := by decide +kernel
theorem dL_law_611 : decode cL_law 611 = .ok (.aload_n 2, 1) := by decide +kernel
theorem dL_law_612 : decode cL_law 612 = .ok (.invokevirtual 85, 3) := by decide +kernel
theorem dL_law_615 : decode cL_law 615 = .ok (.pop, 1) := by decide +kernel
theorem dL_law_616 : decode cL_law 616 = .ok (.goto 207, 3) := by decide +kernel
theorem dL_law_619 : decode cL_law 619 = .ok (.aload_n 1, 1) := by decide +kernel
theorem dL_law_620 : decode cL_law 620 = .ok (.aload_n 0, 1) := by decide +kernel
theorem dL_law_621 : decode cL_law 621 = .ok (.iload_n 3, 1) := by decide +kernel
theorem dL_law_622 : decode cL_law 622 = .ok (.iconst 1, 1) := by decide +kernel
theorem dL_law_623 : decode cL_law 623 = .ok (.iadd, 1) := by decide +kernel
theorem dL_law_624 : decode cL_law 624 = .ok (.iaload, 1) := by decide +kernel
theorem dL_law_625 : decode cL_law 625 = .ok (.invokevirtual 86, 3) := by decide +kernel
theorem dL_law_628 : decode cL_law 628 = .ok (.pop, 1) := by decide +kernel
theorem dL_law_629 : decode cL_law 629 = .ok (.aload_n 2, 1) := by decide +kernel
theorem dL_law_630 : decode cL_law 630 = .ok (.aload_n 0, 1) := by decide +kernel
theorem dL_law_631 : decode cL_law 631 = .ok (.iload_n 3, 1) := by decide +kernel
theorem dL_law_632 : decode cL_law 632 = .ok (.iconst 1, 1) := by decide +kernel
theorem dL_law_633 : decode cL_law 633 = .ok (.iadd, 1) := by decide +kernel
theorem dL_law_634 : decode cL_law 634 = .ok (.iaload, 1) := by decide +kernel
theorem dL_law_635 : decode cL_law 635 = .ok (.invokevirtual 89, 3) := by decide +kernel
theorem dL_law_638 : decode cL_law 638 = .ok (.pop, 1) := by decide +kernel
theorem dL_law_639 : decode cL_law 639 = .ok (.goto 184, 3) := by decide +kernel
theorem dL_law_642 : decode cL_law 642 = .ok (.aload_n 1, 1) := by decide +kernel
theorem dL_law_643 : decode cL_law 643 = .ok (.aload_n 0, 1) := by decide +kernel
theorem dL_law_644 : decode cL_law 644 = .ok (.iload_n 3, 1) := by decide +kernel
theorem dL_law_645 : decode cL_law 645 = .ok (.iconst 1, 1) := by decide +kernel
theorem dL_law_646 : decode cL_law 646 = .ok (.iadd, 1) := by decide +kernel
theorem dL_law_647 : decode cL_law 647 = .ok (.iaload, 1) := by decide +kernel
theorem dL_law_648 : decode cL_law 648 = .ok (.aload_n 0, 1) := by decide +kernel
theorem dL_law_649 : decode cL_law 649 = .ok (.iload_n 3, 1) := by decide +kernel
theorem dL_law_650 : decode cL_law 650 = .ok (.iconst 2, 1) := by decide +kernel
theorem dL_law_651 : decode cL_law 651 = .ok (.iadd, 1) := by decide +kernel
theorem dL_law_652 : decode cL_law 652 = .ok (.iaload, 1) := by decide +kernel
theorem dL_law_653 : decode cL_law 653 = .ok (.aload_n 0, 1) := by decide +kernel
theorem dL_law_654 : decode cL_law 654 = .ok (.iload_n 3, 1) := by decide +kernel
theorem dL_law_655 : decode cL_law 655 = .ok (.iconst 3, 1) := by decide +kernel
theorem dL_law_656 : decode cL_law 656 = .ok (.iadd, 1) := by decide +kernel
theorem dL_law_657 : decode cL_law 657 = .ok (.iaload, 1) := by decide +kernel
theorem dL_law_658 : decode cL_law 658 = .ok (.invokevirtual 90, 3) := by decide +kernel
theorem dL_law_661 : decode cL_law 661 = .ok (.pop, 1) := by decide +kernel
theorem dL_law_662 : decode cL_law 662 = .ok (.aload_n 2, 1) := by decide +kernel
theorem dL_law_663 : decode cL_law 663 = .ok (.aload_n 0, 1) := by decide +kernel
theorem dL_law_664 : decode cL_law 664 = .ok (.iload_n 3, 1) := by decide +kernel
theorem dL_law_665 : decode cL_law 665 = .ok (.iconst 1, 1) := by decide +kernel
theorem dL_law_666 : decode cL_law 666 = .ok (.iadd, 1) := by decide +kernel
theorem dL_law_667 : decode cL_law 667 = .ok (.iaload, 1) := by decide +kernel
theorem dL_law_668 : decode cL_law 668 = .ok (.aload_n 0, 1) := by decide +kernel
theorem dL_law_669 : decode cL_law 669 = .ok (.iload_n 3, 1) := by decide +kernel
theorem dL_law_670 : decode cL_law 670 = .ok (.iconst 2, 1) := by decide +kernel
theorem dL_law_671 : decode cL_law 671 = .ok (.iadd, 1) := by decide +kernel
theorem dL_law_672 : decode cL_law 672 = .ok (.iaload, 1) := by decide +kernel
theorem dL_law_673 : decode cL_law 673 = .ok (.aload_n 0, 1) := by decide +kernel
theorem dL_law_674 : decode cL_law 674 = .ok (.iload_n 3, 1) := by decide +kernel
theorem dL_law_675 : decode cL_law 675 = .ok (.iconst 3, 1) := by decide +kernel
theorem dL_law_676 : decode cL_law 676 = .ok (.iadd, 1) := by decide +kernel
theorem dL_law_677 : decode cL_law 677 = .ok (.iaload, 1) := by decide +kernel
theorem dL_law_678 : decode cL_law 678 = .ok (.invokevirtual 93, 3) := by decide +kernel
theorem dL_law_681 : decode cL_law 681 = .ok (.pop, 1) := by decide +kernel
theorem dL_law_682 : decode cL_law 682 = .ok (.goto 141, 3) := by decide +kernel
theorem dL_law_685 : decode cL_law 685 = .ok (.aload_n 1, 1) := by decide +kernel
theorem dL_law_686 : decode cL_law 686 = .ok (.aload_n 0, 1) := by decide +kernel
theorem dL_law_687 : decode cL_law 687 = .ok (.iload_n 3, 1) := by decide +kernel
theorem dL_law_688 : decode cL_law 688 = .ok (.iconst 1, 1) := by decide +kernel
theorem dL_law_689 : decode cL_law 689 = .ok (.iadd, 1) := by decide +kernel
theorem dL_law_690 : decode cL_law 690 = .ok (.iaload, 1) := by decide +kernel
theorem dL_law_691 : decode cL_law 691 = .ok (.aload_n 0, 1) := by decide +kernel
theorem dL_law_692 : decode cL_law 692 = .ok (.iload_n 3, 1) := by decide +kernel
theorem dL_law_693 : decode cL_law 693 = .ok (.iconst 2, 1) := by decide +kernel
theorem dL_law_694 : decode cL_law 694 = .ok (.iadd, 1) := by decide +kernel
theorem dL_law_695 : decode cL_law 695 = .ok (.iaload, 1) := by decide +kernel
theorem dL_law_696 : decode cL_law 696 = .ok (.aload_n 0, 1) := by decide +kernel
theorem dL_law_697 : decode cL_law 697 = .ok (.iload_n 3, 1) := by decide +kernel
theorem dL_law_698 : decode cL_law 698 = .ok (.iconst 3, 1) := by decide +kernel
theorem dL_law_699 : decode cL_law 699 = .ok (.iadd, 1) := by decide +kernel
theorem dL_law_700 : decode cL_law 700 = .ok (.iaload, 1) := by decide +kernel
theorem dL_law_701 : decode cL_law 701 = .ok (.invokevirtual 94, 3) := by decide +kernel
theorem dL_law_704 : decode cL_law 704 = .ok (.pop, 1) := by decide +kernel
theorem dL_law_705 : decode cL_law 705 = .ok (.aload_n 2, 1) := by decide +kernel
theorem dL_law_706 : decode cL_law 706 = .ok (.aload_n 0, 1) := by decide +kernel
theorem dL_law_707 : decode cL_law 707 = .ok (.iload_n 3, 1) := by decide +kernel
theorem dL_law_708 : decode cL_law 708 = .ok (.iconst 1, 1) := by decide +kernel
theorem dL_law_709 : decode cL_law 709 = .ok (.iadd, 1) := by decide +kernel
theorem dL_law_710 : decode cL_law 710 = .ok (.iaload, 1) := by decide +kernel
theorem dL_law_711 : decode cL_law 711 = .ok (.aload_n 0, 1) := by decide +kernel
theorem dL_law_712 : decode cL_law 712 = .ok (.iload_n 3, 1) := by decide +kernel
theorem dL_law_713 : decode cL_law 713 = .ok (.iconst 2, 1) := by decide +kernel
theorem dL_law_714 : decode cL_law 714 = .ok (.iadd, 1) := by decide +kernel
theorem dL_law_715 : decode cL_law 715 = .ok (.iaload, 1) := by decide +kernel
theorem dL_law_716 : decode cL_law 716 = .ok (.aload_n 0, 1) := by decide +kernel
theorem dL_law_717 : decode cL_law 717 = .ok (.iload_n 3, 1) := by decide +kernel
theorem dL_law_718 : decode cL_law 718 = .ok (.iconst 3, 1) := by decide +kernel
theorem dL_law_719 : decode cL_law 719 = .ok (.iadd, 1) := by decide +kernel
theorem dL_law_720 : decode cL_law 720 = .ok (.iaload, 1) := by decide +kernel
theorem dL_law_721 : decode cL_law 721 = .ok (.invokevirtual 97, 3) := by decide +kernel
theorem dL_law_724 : decode cL_law 724 = .ok (.pop, 1) := by decide +kernel
theorem dL_law_725 : decode cL_law 725 = .ok (.goto 98, 3) := by decide +kernel
theorem dL_law_728 : decode cL_law 728 = .ok (.aload_n 1, 1) := by decide +kernel
theorem dL_law_729 : decode cL_law 729 = .ok (.aload_n 0, 1) := by decide +kernel
theorem dL_law_730 : decode cL_law 730 = .ok (.iload_n 3, 1) := by decide +kernel
theorem dL_law_731 : decode cL_law 731 = .ok (.iconst 1, 1) := by decide +kernel
theorem dL_law_732 : decode cL_law 732 = .ok (.iadd, 1) := by decide +kernel
theorem dL_law_733 : decode cL_law 733 = .ok (.iaload, 1) := by decide +kernel
theorem dL_law_734 : decode cL_law 734 = .ok (.aload_n 0, 1) := by decide +kernel
theorem dL_law_735 : decode cL_law 735 = .ok (.iload_n 3, 1) := by decide +kernel
theorem dL_law_736 : decode cL_law 736 = .ok (.iconst 2, 1) := by decide +kernel
theorem dL_law_737 : decode cL_law 737 = .ok (.iadd, 1) := by decide +kernel
theorem dL_law_738 : decode cL_law 738 = .ok (.iaload, 1) := by decide +kernel
theorem dL_law_739 : decode cL_law 739 = .ok (.invokevirtual 98, 3) := by decide +kernel
theorem dL_law_742 : decode cL_law 742 = .ok (.pop, 1) := by decide +kernel
theorem dL_law_743 : decode cL_law 743 = .ok (.aload_n 2, 1) := by decide +kernel
theorem dL_law_744 : decode cL_law 744 = .ok (.aload_n 0, 1) := by decide +kernel
theorem dL_law_745 : decode cL_law 745 = .ok (.iload_n 3, 1) := by decide +kernel
theorem dL_law_746 : decode cL_law 746 = .ok (.iconst 1, 1) := by decide +kernel
theorem dL_law_747 : decode cL_law 747 = .ok (.iadd, 1) := by decide +kernel
theorem dL_law_748 : decode cL_law 748 = .ok (.iaload, 1) := by decide +kernel
theorem dL_law_749 : decode cL_law 749 = .ok (.aload_n 0, 1) := by decide +kernel
theorem dL_law_750 : decode cL_law 750 = .ok (.iload_n 3, 1) := by decide +kernel
theorem dL_law_751 : decode cL_law 751 = .ok (.iconst 2, 1) := by decide +kernel
theorem dL_law_752 : decode cL_law 752 = .ok (.iadd, 1) := by decide +kernel
theorem dL_law_753 : decode cL_law 753 = .ok (.iaload, 1) := by decide +kernel
theorem dL_law_754 : decode cL_law 754 = .ok (.invokevirtual 101, 3) := by decide +kernel
theorem dL_law_757 : decode cL_law 757 = .ok (.pop, 1) := by decide +kernel
theorem dL_law_758 : decode cL_law 758 = .ok (.goto 65, 3) := by decide +kernel
theorem dL_law_761 : decode cL_law 761 = .ok (.aload_n 1, 1) := by decide +kernel
theorem dL_law_762 : decode cL_law 762 = .ok (.invokevirtual 102, 3) := by decide +kernel
theorem dL_law_765 : decode cL_law 765 = .ok (.pop, 1) := by decide +kernel
theorem dL_law_766 : decode cL_law 766 = .ok (.aload_n 2, 1) := by decide +kernel
theorem dL_law_767 : decode cL_law 767 = .ok (.invokevirtual 105, 3) := by decide +kernel
theorem dL_law_770 : decode cL_law 770 = .ok (.pop, 1) := by decide +kernel
theorem dL_law_771 : decode cL_law 771 = .ok (.goto 52, 3) := by decide +kernel
theorem dL_law_774 : decode cL_law 774 = .ok (.aload_n 1, 1) := by decide +kernel
theorem dL_law_775 : decode cL_law 775 = .ok (.invokevirtual 106, 3) := by decide +kernel
theorem dL_law_778 : decode cL_law 778 = .ok (.pop, 1) := by decide +kernel
theorem dL_law_779 : decode cL_law 779 = .ok (.aload_n 2, 1) := by decide +kernel
theorem dL_law_780 : decode cL_law 780 = .ok (.invokevirtual 109, 3) := by decide +kernel
theorem dL_law_783 : decode cL_law 783 = .ok (.pop, 1) := by decide +kernel
theorem dL_law_784 : decode cL_law 784 = .ok (.goto 39, 3) := by decide +kernel
theorem dL_law_787 : decode cL_law 787 = .ok (.aload_n 1, 1) := by decide +kernel
theorem dL_law_788 : decode cL_law 788 = .ok (.aload_n 0, 1) := by decide +kernel
theorem dL_law_789 : decode cL_law 789 = .ok (.iload_n 3, 1) := by decide +kernel
theorem dL_law_790 : decode cL_law 790 = .ok (.iconst 1, 1) := by decide +kernel
theorem dL_law_791 : decode cL_law 791 = .ok (.iadd, 1) := by decide +kernel
theorem dL_law_792 : decode cL_law 792 = .ok (.iaload, 1) := by decide +kernel
theorem dL_law_793 : decode cL_law 793 = .ok (.invokevirtual 110, 3) := by decide +kernel
theorem dL_law_796 : decode cL_law 796 = .ok (.pop, 1) := by decide +kernel
theorem dL_law_797 : decode cL_law 797 = .ok (.aload_n 2, 1) := by decide +kernel
theorem dL_law_798 : decode cL_law 798 = .ok (.aload_n 0, 1) := by decide +kernel
theorem dL_law_799 : decode cL_law 799 = .ok (.iload_n 3, 1) := by decide +kernel
theorem dL_law_800 : decode cL_law 800 = .ok (.iconst 1, 1) := by decide +kernel
theorem dL_law_801 : decode cL_law 801 = .ok (.iadd, 1) := by decide +kernel
theorem dL_law_802 : decode cL_law 802 = .ok (.iaload, 1) := by decide +kernel
theorem dL_law_803 : decode cL_law 803 = .ok (.invokevirtual 113, 3) := by decide +kernel
theorem dL_law_806 : decode cL_law 806 = .ok (.pop, 1) := by decide +kernel
theorem dL_law_807 : decode cL_law 807 = .ok (.goto 16, 3) := by decide +kernel
theorem dL_law_810 : decode cL_law 810 = .ok (.aload_n 1, 1) := by decide +kernel
theorem dL_law_811 : decode cL_law 811 = .ok (.invokevirtual 114, 3) := by decide +kernel
theorem dL_law_814 : decode cL_law 814 = .ok (.pop2, 1) := by decide +kernel
theorem dL_law_815 : decode cL_law 815 = .ok (.aload_n 2, 1) := by decide +kernel
theorem dL_law_816 : decode cL_law 816 = .ok (.invokevirtual 118, 3) := by decide +kernel
theorem dL_law_819 : decode cL_law 819 = .ok (.pop2, 1) := by decide +kernel
theorem dL_law_820 : decode cL_law 820 = .ok (.goto 3, 3) := by decide +kernel
theorem dL_law_823 : decode cL_law 823 = .ok (.iinc 3 4, 3) := by decide +kernel
theorem dL_law_826 : decode cL_law 826 = .ok (.goto (-808), 3) := by decide +kernel
theorem dL_law_829 : decode cL_law 829 = .ok (.iconst 1, 1) := by decide +kernel
theorem dL_law_830 : decode cL_law 830 = .ok (.ireturn, 1) := by decide +kernel
theorem dX0_init_0 : decode cX0_init 0 = .ok (.aload_n 0, 1) := by decide +kernel
theorem dX0_init_1 : decode cX0_init 1 = .ok (.invokespecial 3, 3) := by decide +kernel
theorem dX0_init_4 : decode cX0_init 4 = .ok (.aload_n 0, 1) := by decide +kernel
theorem dX0_init_5 : decode cX0_init 5 = .ok (.bipush 8, 2) := by decide +kernel
theorem dX0_init_7 : decode cX0_init 7 = .ok (.newarray .int, 2) := by decide +kernel
theorem dX0_init_9 : decode cX0_init 9 = .ok (.putfield 9, 3) := by decide +kernel
theorem dX0_init_12 : decode cX0_init 12 = .ok (.aload_n 0, 1) := by decide +kernel
theorem dX0_init_13 : decode cX0_init 13 = .ok (.bipush 8, 2) := by decide +kernel
theorem dX0_init_15 : decode cX0_init 15 = .ok (.newarray .int, 2) := by decide +kernel
theorem dX0_init_17 : decode cX0_init 17 = .ok (.putfield 15, 3) := by decide +kernel
theorem dX0_init_20 : decode cX0_init 20 = .ok (.aload_n 0, 1) := by decide +kernel
theorem dX0_init_21 : decode cX0_init 21 = .ok (.aload_n 1, 1) := by decide +kernel
theorem dX0_init_22 : decode cX0_init 22 = .ok (.putfield 18, 3) := by decide +kernel
theorem dX0_init_25 : decode cX0_init 25 = .ok (.return_, 1) := by decide +kernel
theorem dX0_takeAnew_0 : decode cX0_takeAnew 0 = .ok (.iconst 0, 1) := by decide +kernel
theorem dX0_takeAnew_1 : decode cX0_takeAnew 1 = .ok (.istore_n 1, 1) := by decide +kernel
theorem dX0_takeAnew_2 : decode cX0_takeAnew 2 = .ok (.iload_n 1, 1) := by decide +kernel
theorem dX0_takeAnew_3 : decode cX0_takeAnew 3 = .ok (.aload_n 0, 1) := by decide +kernel
theorem dX0_takeAnew_4 : decode cX0_takeAnew 4 = .ok (.getfield 18, 3) := by decide +kernel
theorem dX0_takeAnew_7 : decode cX0_takeAnew 7 = .ok (.getfield 22, 3) := by decide +kernel
theorem dX0_takeAnew_10 : decode cX0_takeAnew 10 = .ok (.if_icmp .ge 89, 3) := by decide +kernel
theorem dX0_takeAnew_13 : decode cX0_takeAnew 13 = .ok (.iconst 0, 1) := by decide +kernel
theorem dX0_takeAnew_14 : decode cX0_takeAnew 14 = .ok (.istore_n 2, 1) := by decide +kernel
theorem dX0_takeAnew_15 : decode cX0_takeAnew 15 = .ok (.iconst 0, 1) := by decide +kernel
theorem dX0_takeAnew_16 : decode cX0_takeAnew 16 = .ok (.istore_n 3, 1) := by decide +kernel
theorem dX0_takeAnew_17 : decode cX0_takeAnew 17 = .ok (.iconst 0, 1) := by decide +kernel
theorem dX0_takeAnew_18 : decode cX0_takeAnew 18 = .ok (.istore 4, 2) := by decide +kernel
theorem dX0_takeAnew_20 : decode cX0_takeAnew 20 = .ok (.iload 4, 2) := by decide +kernel
theorem dX0_takeAnew_22 : decode cX0_takeAnew 22 = .ok (.aload_n 0, 1) := by decide +kernel
theorem dX0_takeAnew_23 : decode cX0_takeAnew 23 = .ok (.getfield 18, 3) := by decide +kernel
theorem dX0_takeAnew_26 : decode cX0_takeAnew 26 = .ok (.getfield 28, 3) := by decide +kernel
theorem dX0_takeAnew_29 : decode cX0_takeAnew 29 = .ok (.if_icmp .ge 44, 3) := by decide +kernel
theorem dX0_takeAnew_32 : decode cX0_takeAnew 32 = .ok (.aload_n 0, 1) := by decide +kernel
theorem dX0_takeAnew_33 : decode cX0_takeAnew 33 = .ok (.getfield 18, 3) := by decide +kernel
theorem dX0_takeAnew_36 : decode cX0_takeAnew 36 = .ok (.getfield 31, 3) := by decide +kernel
theorem dX0_takeAnew_39 : decode cX0_takeAnew 39 = .ok (.aload_n 0, 1) := by decide +kernel
theorem dX0_takeAnew_40 : decode cX0_takeAnew 40 = .ok (.getfield 18, 3) := by decide +kernel
theorem dX0_takeAnew_43 : decode cX0_takeAnew 43 = .ok (.iload_n 1, 1) := by decide +kernel
theorem dX0_takeAnew_44 : decode cX0_takeAnew 44 = .ok (.iload 4, 2) := by decide +kernel
theorem dX0_takeAnew_46 : decode cX0_takeAnew 46 = .ok (.invokevirtual 34, 3) := by decide +kernel
theorem dX0_takeAnew_49 : decode cX0_takeAnew 49 = .ok (.iaload, 1) := by decide +kernel
theorem dX0_takeAnew_50 : decode cX0_takeAnew 50 = .ok (.istore 5, 2) := by decide +kernel
theorem dX0_takeAnew_52 : decode cX0_takeAnew 52 = .ok (.iload_n 2, 1) := by decide +kernel
theorem dX0_takeAnew_53 : decode cX0_takeAnew 53 = .ok (.iload 5, 2) := by decide +kernel
theorem dX0_takeAnew_55 : decode cX0_takeAnew 55 = .ok (.iadd, 1) := by decide +kernel
theorem dX0_takeAnew_56 : decode cX0_takeAnew 56 = .ok (.istore_n 2, 1) := by decide +kernel
theorem dX0_takeAnew_57 : decode cX0_takeAnew 57 = .ok (.iload_n 3, 1) := by decide +kernel
theorem dX0_takeAnew_58 : decode cX0_takeAnew 58 = .ok (.iload 4, 2) := by decide +kernel
theorem dX0_takeAnew_60 : decode cX0_takeAnew 60 = .ok (.iconst 1, 1) := by decide +kernel
theorem dX0_takeAnew_61 : decode cX0_takeAnew 61 = .ok (.iadd, 1) := by decide +kernel
theorem dX0_takeAnew_62 : decode cX0_takeAnew 62 = .ok (.iload 5, 2) := by decide +kernel
theorem dX0_takeAnew_64 : decode cX0_takeAnew 64 = .ok (.imul, 1) := by decide +kernel
theorem dX0_takeAnew_65 : decode cX0_takeAnew 65 = .ok (.iadd, 1) := by decide +kernel
theorem dX0_takeAnew_66 : decode cX0_takeAnew 66 = .ok (.istore_n 3, 1) := by decide +kernel
theorem dX0_takeAnew_67 : decode cX0_takeAnew 67 = .ok (.iinc 4 1, 3) := by decide +kernel
theorem dX0_takeAnew_70 : decode cX0_takeAnew 70 = .ok (.goto (-50), 3) := by decide +kernel
theorem dX0_takeAnew_73 : decode cX0_takeAnew 73 = .ok (.aload_n 0, 1) := by decide +kernel
theorem dX0_takeAnew_74 : decode cX0_takeAnew 74 = .ok (.getfield 9, 3) := by decide +kernel
theorem dX0_takeAnew_77 : decode cX0_takeAnew 77 = .ok (.iload_n 1, 1) := by decide +kernel
theorem dX0_takeAnew_78 : decode cX0_takeAnew 78 = .ok (.iload_n 2, 1) := by decide +kernel
theorem dX0_takeAnew_79 : decode cX0_takeAnew 79 = .ok (.bipush 97, 2) := by decide +kernel
theorem dX0_takeAnew_81 : decode cX0_takeAnew 81 = .ok (.irem, 1) := by decide +kernel
theorem dX0_takeAnew_82 : decode cX0_takeAnew 82 = .ok (.iastore, 1) := by decide +kernel
theorem dX0_takeAnew_83 : decode cX0_takeAnew 83 = .ok (.aload_n 0, 1) := by decide +kernel
theorem dX0_takeAnew_84 : decode cX0_takeAnew 84 = .ok (.getfield 15, 3) := by decide +kernel
theorem dX0_takeAnew_87 : decode cX0_takeAnew 87 = .ok (.iload_n 1, 1) := by decide +kernel
theorem dX0_takeAnew_88 : decode cX0_takeAnew 88 = .ok (.iload_n 3, 1) := by decide +kernel
theorem dX0_takeAnew_89 : decode cX0_takeAnew 89 = .ok (.bipush 97, 2) := by decide +kernel
theorem dX0_takeAnew_91 : decode cX0_takeAnew 91 = .ok (.irem, 1) := by decide +kernel
theorem dX0_takeAnew_92 : decode cX0_takeAnew 92 = .ok (.iastore, 1) := by decide +kernel
theorem dX0_takeAnew_93 : decode cX0_takeAnew 93 = .ok (.iinc 1 1, 3) := by decide +kernel
theorem dX0_takeAnew_96 : decode cX0_takeAnew 96 = .ok (.goto (-94), 3) := by decide +kernel
theorem dX0_takeAnew_99 : decode cX0_takeAnew 99 = .ok (.aload_n 0, 1) := by decide +kernel
theorem dX0_takeAnew_100 : decode cX0_takeAnew 100 = .ok (.iconst 1, 1) := by decide +kernel
theorem dX0_takeAnew_101 : decode cX0_takeAnew 101 = .ok (.putfield 38, 3) := by decide +kernel
theorem dX0_takeAnew_104 : decode cX0_takeAnew 104 = .ok (.return_, 1) := by decide +kernel
theorem dX0_wrongColumn_0 : decode cX0_wrongColumn 0 = .ok (.iconst 0, 1) := by decide +kernel
theorem dX0_wrongColumn_1 : decode cX0_wrongColumn 1 = .ok (.istore_n 1, 1) := by decide +kernel
theorem dX0_wrongColumn_2 : decode cX0_wrongColumn 2 = .ok (.iconst 0, 1) := by decide +kernel
theorem dX0_wrongColumn_3 : decode cX0_wrongColumn 3 = .ok (.istore_n 2, 1) := by decide +kernel
theorem dX0_wrongColumn_4 : decode cX0_wrongColumn 4 = .ok (.iconst 0, 1) := by decide +kernel
theorem dX0_wrongColumn_5 : decode cX0_wrongColumn 5 = .ok (.istore_n 3, 1) := by decide +kernel
theorem dX0_wrongColumn_6 : decode cX0_wrongColumn 6 = .ok (.iload_n 3, 1) := by decide +kernel
theorem dX0_wrongColumn_7 : decode cX0_wrongColumn 7 = .ok (.aload_n 0, 1) := by decide +kernel
theorem dX0_wrongColumn_8 : decode cX0_wrongColumn 8 = .ok (.getfield 18, 3) := by decide +kernel
theorem dX0_wrongColumn_11 : decode cX0_wrongColumn 11 = .ok (.getfield 28, 3) := by decide +kernel
theorem dX0_wrongColumn_14 : decode cX0_wrongColumn 14 = .ok (.if_icmp .ge 35, 3) := by decide +kernel
theorem dX0_wrongColumn_17 : decode cX0_wrongColumn 17 = .ok (.iload_n 1, 1) := by decide +kernel
theorem dX0_wrongColumn_18 : decode cX0_wrongColumn 18 = .ok (.aload_n 0, 1) := by decide +kernel
theorem dX0_wrongColumn_19 : decode cX0_wrongColumn 19 = .ok (.getfield 18, 3) := by decide +kernel
theorem dX0_wrongColumn_22 : decode cX0_wrongColumn 22 = .ok (.iload_n 3, 1) := by decide +kernel
theorem dX0_wrongColumn_23 : decode cX0_wrongColumn 23 = .ok (.invokevirtual 42, 3) := by decide +kernel
theorem dX0_wrongColumn_26 : decode cX0_wrongColumn 26 = .ok (.iadd, 1) := by decide +kernel
theorem dX0_wrongColumn_27 : decode cX0_wrongColumn 27 = .ok (.istore_n 1, 1) := by decide +kernel
theorem dX0_wrongColumn_28 : decode cX0_wrongColumn 28 = .ok (.iload_n 2, 1) := by decide +kernel
theorem dX0_wrongColumn_29 : decode cX0_wrongColumn 29 = .ok (.iload_n 3, 1) := by decide +kernel
theorem dX0_wrongColumn_30 : decode cX0_wrongColumn 30 = .ok (.iconst 1, 1) := by decide +kernel
theorem dX0_wrongColumn_31 : decode cX0_wrongColumn 31 = .ok (.iadd, 1) := by decide +kernel
theorem dX0_wrongColumn_32 : decode cX0_wrongColumn 32 = .ok (.aload_n 0, 1) := by decide +kernel
theorem dX0_wrongColumn_33 : decode cX0_wrongColumn 33 = .ok (.getfield 18, 3) := by decide +kernel
theorem dX0_wrongColumn_36 : decode cX0_wrongColumn 36 = .ok (.iload_n 3, 1) := by decide +kernel
theorem dX0_wrongColumn_37 : decode cX0_wrongColumn 37 = .ok (.invokevirtual 42, 3) := by decide +kernel
theorem dX0_wrongColumn_40 : decode cX0_wrongColumn 40 = .ok (.imul, 1) := by decide +kernel
theorem dX0_wrongColumn_41 : decode cX0_wrongColumn 41 = .ok (.iadd, 1) := by decide +kernel
theorem dX0_wrongColumn_42 : decode cX0_wrongColumn 42 = .ok (.istore_n 2, 1) := by decide +kernel
theorem dX0_wrongColumn_43 : decode cX0_wrongColumn 43 = .ok (.iinc 3 1, 3) := by decide +kernel
theorem dX0_wrongColumn_46 : decode cX0_wrongColumn 46 = .ok (.goto (-40), 3) := by decide +kernel
theorem dX0_wrongColumn_49 : decode cX0_wrongColumn 49 = .ok (.iconst 0, 1) := by decide +kernel
theorem dX0_wrongColumn_50 : decode cX0_wrongColumn 50 = .ok (.istore_n 3, 1) := by decide +kernel
theorem dX0_wrongColumn_51 : decode cX0_wrongColumn 51 = .ok (.iload_n 3, 1) := by decide +kernel
theorem dX0_wrongColumn_52 : decode cX0_wrongColumn 52 = .ok (.aload_n 0, 1) := by decide +kernel
theorem dX0_wrongColumn_53 : decode cX0_wrongColumn 53 = .ok (.getfield 18, 3) := by decide +kernel
theorem dX0_wrongColumn_56 : decode cX0_wrongColumn 56 = .ok (.getfield 22, 3) := by decide +kernel
theorem dX0_wrongColumn_59 : decode cX0_wrongColumn 59 = .ok (.if_icmp .ge 47, 3) := by decide +kernel
theorem dX0_wrongColumn_62 : decode cX0_wrongColumn 62 = .ok (.iload_n 1, 1) := by decide +kernel
theorem dX0_wrongColumn_63 : decode cX0_wrongColumn 63 = .ok (.aload_n 0, 1) := by decide +kernel
theorem dX0_wrongColumn_64 : decode cX0_wrongColumn 64 = .ok (.getfield 18, 3) := by decide +kernel
theorem dX0_wrongColumn_67 : decode cX0_wrongColumn 67 = .ok (.getfield 46, 3) := by decide +kernel
theorem dX0_wrongColumn_70 : decode cX0_wrongColumn 70 = .ok (.iload_n 3, 1) := by decide +kernel
theorem dX0_wrongColumn_71 : decode cX0_wrongColumn 71 = .ok (.iaload, 1) := by decide +kernel
theorem dX0_wrongColumn_72 : decode cX0_wrongColumn 72 = .ok (.aload_n 0, 1) := by decide +kernel
theorem dX0_wrongColumn_73 : decode cX0_wrongColumn 73 = .ok (.getfield 9, 3) := by decide +kernel
theorem dX0_wrongColumn_76 : decode cX0_wrongColumn 76 = .ok (.iload_n 3, 1) := by decide +kernel
theorem dX0_wrongColumn_77 : decode cX0_wrongColumn 77 = .ok (.iaload, 1) := by decide +kernel
theorem dX0_wrongColumn_78 : decode cX0_wrongColumn 78 = .ok (.imul, 1) := by decide +kernel
theorem dX0_wrongColumn_79 : decode cX0_wrongColumn 79 = .ok (.isub, 1) := by decide +kernel
theorem dX0_wrongColumn_80 : decode cX0_wrongColumn 80 = .ok (.istore_n 1, 1) := by decide +kernel
theorem dX0_wrongColumn_81 : decode cX0_wrongColumn 81 = .ok (.iload_n 2, 1) := by decide +kernel
theorem dX0_wrongColumn_82 : decode cX0_wrongColumn 82 = .ok (.aload_n 0, 1) := by decide +kernel
theorem dX0_wrongColumn_83 : decode cX0_wrongColumn 83 = .ok (.getfield 18, 3) := by decide +kernel
theorem dX0_wrongColumn_86 : decode cX0_wrongColumn 86 = .ok (.getfield 46, 3) := by decide +kernel
theorem dX0_wrongColumn_89 : decode cX0_wrongColumn 89 = .ok (.iload_n 3, 1) := by decide +kernel
theorem dX0_wrongColumn_90 : decode cX0_wrongColumn 90 = .ok (.iaload, 1) := by decide +kernel
theorem dX0_wrongColumn_91 : decode cX0_wrongColumn 91 = .ok (.aload_n 0, 1) := by decide +kernel
theorem dX0_wrongColumn_92 : decode cX0_wrongColumn 92 = .ok (.getfield 15, 3) := by decide +kernel
theorem dX0_wrongColumn_95 : decode cX0_wrongColumn 95 = .ok (.iload_n 3, 1) := by decide +kernel
theorem dX0_wrongColumn_96 : decode cX0_wrongColumn 96 = .ok (.iaload, 1) := by decide +kernel
theorem dX0_wrongColumn_97 : decode cX0_wrongColumn 97 = .ok (.imul, 1) := by decide +kernel
theorem dX0_wrongColumn_98 : decode cX0_wrongColumn 98 = .ok (.isub, 1) := by decide +kernel
theorem dX0_wrongColumn_99 : decode cX0_wrongColumn 99 = .ok (.istore_n 2, 1) := by decide +kernel
theorem dX0_wrongColumn_100 : decode cX0_wrongColumn 100 = .ok (.iinc 3 1, 3) := by decide +kernel
theorem dX0_wrongColumn_103 : decode cX0_wrongColumn 103 = .ok (.goto (-52), 3) := by decide +kernel
theorem dX0_wrongColumn_106 : decode cX0_wrongColumn 106 = .ok (.aload_n 0, 1) := by decide +kernel
theorem dX0_wrongColumn_107 : decode cX0_wrongColumn 107 = .ok (.iload_n 1, 1) := by decide +kernel
theorem dX0_wrongColumn_108 : decode cX0_wrongColumn 108 = .ok (.bipush 97, 2) := by decide +kernel
theorem dX0_wrongColumn_110 : decode cX0_wrongColumn 110 = .ok (.invokestatic 49, 3) := by decide +kernel
theorem dX0_wrongColumn_113 : decode cX0_wrongColumn 113 = .ok (.iload_n 2, 1) := by decide +kernel
theorem dX0_wrongColumn_114 : decode cX0_wrongColumn 114 = .ok (.bipush 97, 2) := by decide +kernel
theorem dX0_wrongColumn_116 : decode cX0_wrongColumn 116 = .ok (.invokestatic 49, 3) := by decide +kernel
theorem dX0_wrongColumn_119 : decode cX0_wrongColumn 119 = .ok (.invokevirtual 54, 3) := by decide +kernel
theorem dX0_wrongColumn_122 : decode cX0_wrongColumn 122 = .ok (.ireturn, 1) := by decide +kernel
theorem dX0_columnBy_0 : decode cX0_columnBy 0 = .ok (.iload_n 1, 1) := by decide +kernel
theorem dX0_columnBy_1 : decode cX0_columnBy 1 = .ok (.ifCond .ne 14, 3) := by decide +kernel
theorem dX0_columnBy_4 : decode cX0_columnBy 4 = .ok (.iload_n 2, 1) := by decide +kernel
theorem dX0_columnBy_5 : decode cX0_columnBy 5 = .ok (.ifCond .ne 7, 3) := by decide +kernel
theorem dX0_columnBy_8 : decode cX0_columnBy 8 = .ok (.iconst (-1), 1) := by decide +kernel
theorem dX0_columnBy_9 : decode cX0_columnBy 9 = .ok (.goto 5, 3) := by decide +kernel
theorem dX0_columnBy_12 : decode cX0_columnBy 12 = .ok (.bipush 100, 2) := by decide +kernel
theorem dX0_columnBy_14 : decode cX0_columnBy 14 = .ok (.ireturn, 1) := by decide +kernel
theorem dX0_columnBy_15 : decode cX0_columnBy 15 = .ok (.iconst 0, 1) := by decide +kernel
theorem dX0_columnBy_16 : decode cX0_columnBy 16 = .ok (.istore_n 3, 1) := by decide +kernel
theorem dX0_columnBy_17 : decode cX0_columnBy 17 = .ok (.iload_n 3, 1) := by decide +kernel
theorem dX0_columnBy_18 : decode cX0_columnBy 18 = .ok (.aload_n 0, 1) := by decide +kernel
theorem dX0_columnBy_19 : decode cX0_columnBy 19 = .ok (.getfield 18, 3) := by decide +kernel
theorem dX0_columnBy_22 : decode cX0_columnBy 22 = .ok (.getfield 28, 3) := by decide +kernel
theorem dX0_columnBy_25 : decode cX0_columnBy 25 = .ok (.if_icmp .ge 23, 3) := by decide +kernel
theorem dX0_columnBy_28 : decode cX0_columnBy 28 = .ok (.iload_n 1, 1) := by decide +kernel
theorem dX0_columnBy_29 : decode cX0_columnBy 29 = .ok (.iload_n 3, 1) := by decide +kernel
theorem dX0_columnBy_30 : decode cX0_columnBy 30 = .ok (.iconst 1, 1) := by decide +kernel
theorem dX0_columnBy_31 : decode cX0_columnBy 31 = .ok (.iadd, 1) := by decide +kernel
theorem dX0_columnBy_32 : decode cX0_columnBy 32 = .ok (.imul, 1) := by decide +kernel
theorem dX0_columnBy_33 : decode cX0_columnBy 33 = .ok (.bipush 97, 2) := by decide +kernel
theorem dX0_columnBy_35 : decode cX0_columnBy 35 = .ok (.irem, 1) := by decide +kernel
theorem dX0_columnBy_36 : decode cX0_columnBy 36 = .ok (.iload_n 2, 1) := by decide +kernel
theorem dX0_columnBy_37 : decode cX0_columnBy 37 = .ok (.if_icmp .ne 5, 3) := by decide +kernel
theorem dX0_columnBy_40 : decode cX0_columnBy 40 = .ok (.iload_n 3, 1) := by decide +kernel
theorem dX0_columnBy_41 : decode cX0_columnBy 41 = .ok (.ireturn, 1) := by decide +kernel
theorem dX0_columnBy_42 : decode cX0_columnBy 42 = .ok (.iinc 3 1, 3) := by decide +kernel
theorem dX0_columnBy_45 : decode cX0_columnBy 45 = .ok (.goto (-28), 3) := by decide +kernel
theorem dX0_columnBy_48 : decode cX0_columnBy 48 = .ok (.bipush 100, 2) := by decide +kernel
theorem dX0_columnBy_50 : decode cX0_columnBy 50 = .ok (.ireturn, 1) := by decide +kernel
theorem dX1_init_0 : decode cX1_init 0 = .ok (.aload_n 0, 1) := by decide +kernel
theorem dX1_init_1 : decode cX1_init 1 = .ok (.invokespecial 3, 3) := by decide +kernel
theorem dX1_init_4 : decode cX1_init 4 = .ok (.aload_n 0, 1) := by decide +kernel
theorem dX1_init_5 : decode cX1_init 5 = .ok (.sipush 192, 3) := by decide +kernel
theorem dX1_init_8 : decode cX1_init 8 = .ok (.newarray .int, 2) := by decide +kernel
theorem dX1_init_10 : decode cX1_init 10 = .ok (.putfield 9, 3) := by decide +kernel
theorem dX1_init_13 : decode cX1_init 13 = .ok (.aload_n 0, 1) := by decide +kernel
theorem dX1_init_14 : decode cX1_init 14 = .ok (.sipush 192, 3) := by decide +kernel
theorem dX1_init_17 : decode cX1_init 17 = .ok (.newarray .int, 2) := by decide +kernel
theorem dX1_init_19 : decode cX1_init 19 = .ok (.putfield 15, 3) := by decide +kernel
theorem dX1_init_22 : decode cX1_init 22 = .ok (.aload_n 0, 1) := by decide +kernel
theorem dX1_init_23 : decode cX1_init 23 = .ok (.sipush 192, 3) := by decide +kernel
theorem dX1_init_26 : decode cX1_init 26 = .ok (.newarray .int, 2) := by decide +kernel
theorem dX1_init_28 : decode cX1_init 28 = .ok (.putfield 18, 3) := by decide +kernel
theorem dX1_init_31 : decode cX1_init 31 = .ok (.aload_n 0, 1) := by decide +kernel
theorem dX1_init_32 : decode cX1_init 32 = .ok (.bipush 8, 2) := by decide +kernel
theorem dX1_init_34 : decode cX1_init 34 = .ok (.newarray .int, 2) := by decide +kernel
theorem dX1_init_36 : decode cX1_init 36 = .ok (.putfield 21, 3) := by decide +kernel
theorem dX1_init_39 : decode cX1_init 39 = .ok (.aload_n 0, 1) := by decide +kernel
theorem dX1_init_40 : decode cX1_init 40 = .ok (.iconst 1, 1) := by decide +kernel
theorem dX1_init_41 : decode cX1_init 41 = .ok (.iconst 1, 1) := by decide +kernel
theorem dX1_init_42 : decode cX1_init 42 = .ok (.iconst 1, 1) := by decide +kernel
theorem dX1_init_43 : decode cX1_init 43 = .ok (.invokevirtual 24, 3) := by decide +kernel
theorem dX1_init_46 : decode cX1_init 46 = .ok (.return_, 1) := by decide +kernel
theorem dX1_renew_0 : decode cX1_renew 0 = .ok (.aload_n 0, 1) := by decide +kernel
theorem dX1_renew_1 : decode cX1_renew 1 = .ok (.iload_n 1, 1) := by decide +kernel
theorem dX1_renew_2 : decode cX1_renew 2 = .ok (.putfield 28, 3) := by decide +kernel
theorem dX1_renew_5 : decode cX1_renew 5 = .ok (.aload_n 0, 1) := by decide +kernel
theorem dX1_renew_6 : decode cX1_renew 6 = .ok (.iload_n 2, 1) := by decide +kernel
theorem dX1_renew_7 : decode cX1_renew 7 = .ok (.putfield 32, 3) := by decide +kernel
theorem dX1_renew_10 : decode cX1_renew 10 = .ok (.aload_n 0, 1) := by decide +kernel
theorem dX1_renew_11 : decode cX1_renew 11 = .ok (.iload_n 3, 1) := by decide +kernel
theorem dX1_renew_12 : decode cX1_renew 12 = .ok (.putfield 35, 3) := by decide +kernel
theorem dX1_renew_15 : decode cX1_renew 15 = .ok (.aload_n 0, 1) := by decide +kernel
theorem dX1_renew_16 : decode cX1_renew 16 = .ok (.bipush 16, 2) := by decide +kernel
theorem dX1_renew_18 : decode cX1_renew 18 = .ok (.putfield 38, 3) := by decide +kernel
theorem dX1_renew_21 : decode cX1_renew 21 = .ok (.aload_n 0, 1) := by decide +kernel
theorem dX1_renew_22 : decode cX1_renew 22 = .ok (.getfield 9, 3) := by decide +kernel
theorem dX1_renew_25 : decode cX1_renew 25 = .ok (.iconst 0, 1) := by decide +kernel
theorem dX1_renew_26 : decode cX1_renew 26 = .ok (.invokestatic 41, 3) := by decide +kernel
theorem dX1_renew_29 : decode cX1_renew 29 = .ok (.aload_n 0, 1) := by decide +kernel
theorem dX1_renew_30 : decode cX1_renew 30 = .ok (.getfield 15, 3) := by decide +kernel
theorem dX1_renew_33 : decode cX1_renew 33 = .ok (.iconst (-1), 1) := by decide +kernel
theorem dX1_renew_34 : decode cX1_renew 34 = .ok (.invokestatic 41, 3) := by decide +kernel
theorem dX1_renew_37 : decode cX1_renew 37 = .ok (.aload_n 0, 1) := by decide +kernel
theorem dX1_renew_38 : decode cX1_renew 38 = .ok (.getfield 18, 3) := by decide +kernel
theorem dX1_renew_41 : decode cX1_renew 41 = .ok (.iconst 0, 1) := by decide +kernel
theorem dX1_renew_42 : decode cX1_renew 42 = .ok (.invokestatic 41, 3) := by decide +kernel
theorem dX1_renew_45 : decode cX1_renew 45 = .ok (.aload_n 0, 1) := by decide +kernel
theorem dX1_renew_46 : decode cX1_renew 46 = .ok (.getfield 21, 3) := by decide +kernel
theorem dX1_renew_49 : decode cX1_renew 49 = .ok (.iconst 0, 1) := by decide +kernel
theorem dX1_renew_50 : decode cX1_renew 50 = .ok (.invokestatic 41, 3) := by decide +kernel
theorem dX1_renew_53 : decode cX1_renew 53 = .ok (.return_, 1) := by decide +kernel
theorem dX1_hasCell_0 : decode cX1_hasCell 0 = .ok (.iload_n 1, 1) := by decide +kernel
theorem dX1_hasCell_1 : decode cX1_hasCell 1 = .ok (.iconst 0, 1) := by decide +kernel
theorem dX1_hasCell_2 : decode cX1_hasCell 2 = .ok (.aload_n 0, 1) := by decide +kernel
theorem dX1_hasCell_3 : decode cX1_hasCell 3 = .ok (.getfield 28, 3) := by decide +kernel
theorem dX1_hasCell_6 : decode cX1_hasCell 6 = .ok (.iconst 1, 1) := by decide +kernel
theorem dX1_hasCell_7 : decode cX1_hasCell 7 = .ok (.isub, 1) := by decide +kernel
theorem dX1_hasCell_8 : decode cX1_hasCell 8 = .ok (.invokestatic 47, 3) := by decide +kernel
theorem dX1_hasCell_11 : decode cX1_hasCell 11 = .ok (.ifCond .eq 21, 3) := by decide +kernel
theorem dX1_hasCell_14 : decode cX1_hasCell 14 = .ok (.iload_n 2, 1) := by decide +kernel
theorem dX1_hasCell_15 : decode cX1_hasCell 15 = .ok (.iconst 0, 1) := by decide +kernel
theorem dX1_hasCell_16 : decode cX1_hasCell 16 = .ok (.aload_n 0, 1) := by decide +kernel
theorem dX1_hasCell_17 : decode cX1_hasCell 17 = .ok (.getfield 32, 3) := by decide +kernel
theorem dX1_hasCell_20 : decode cX1_hasCell 20 = .ok (.iconst 1, 1) := by decide +kernel
theorem dX1_hasCell_21 : decode cX1_hasCell 21 = .ok (.isub, 1) := by decide +kernel
theorem dX1_hasCell_22 : decode cX1_hasCell 22 = .ok (.invokestatic 47, 3) := by decide +kernel
theorem dX1_hasCell_25 : decode cX1_hasCell 25 = .ok (.ifCond .eq 7, 3) := by decide +kernel
theorem dX1_hasCell_28 : decode cX1_hasCell 28 = .ok (.iconst 1, 1) := by decide +kernel
theorem dX1_hasCell_29 : decode cX1_hasCell 29 = .ok (.goto 4, 3) := by decide +kernel
theorem dX1_hasCell_32 : decode cX1_hasCell 32 = .ok (.iconst 0, 1) := by decide +kernel
theorem dX1_hasCell_33 : decode cX1_hasCell 33 = .ok (.ireturn, 1) := by decide +kernel
theorem dX1_place_0 : decode cX1_place 0 = .ok (.iload_n 1, 1) := by decide +kernel
theorem dX1_place_1 : decode cX1_place 1 = .ok (.bipush 24, 2) := by decide +kernel
theorem dX1_place_3 : decode cX1_place 3 = .ok (.imul, 1) := by decide +kernel
theorem dX1_place_4 : decode cX1_place 4 = .ok (.iload_n 2, 1) := by decide +kernel
theorem dX1_place_5 : decode cX1_place 5 = .ok (.iadd, 1) := by decide +kernel
theorem dX1_place_6 : decode cX1_place 6 = .ok (.ireturn, 1) := by decide +kernel
theorem dX1_sticks_0 : decode cX1_sticks 0 = .ok (.aload_n 0, 1) := by decide +kernel
theorem dX1_sticks_1 : decode cX1_sticks 1 = .ok (.getfield 15, 3) := by decide +kernel
end
section
theorem dX1_sticks_4 : decode cX1_sticks 4 = .ok (.iload_n 1, 1) := by decide +kernel
theorem dX1_sticks_5 : decode cX1_sticks 5 = .ok (.iaload, 1) := by decide +kernel
theorem dX1_sticks_6 : decode cX1_sticks 6 = .ok (.iconst (-1), 1) := by decide +kernel
theorem dX1_sticks_7 : decode cX1_sticks 7 = .ok (.if_icmp .eq 7, 3) := by decide +kernel
theorem dX1_sticks_10 : decode cX1_sticks 10 = .ok (.iconst 1, 1) := by decide +kernel
theorem dX1_sticks_11 : decode cX1_sticks 11 = .ok (.goto 4, 3) := by decide +kernel
theorem dX1_sticks_14 : decode cX1_sticks 14 = .ok (.iconst 0, 1) := by decide +kernel
theorem dX1_sticks_15 : decode cX1_sticks 15 = .ok (.ireturn, 1) := by decide +kernel
theorem dX1_sticksAtAnother_0 : decode cX1_sticksAtAnother 0 = .ok (.aload_n 0, 1) := by decide +kernel
theorem dX1_sticksAtAnother_1 : decode cX1_sticksAtAnother 1 = .ok (.iload_n 1, 1) := by decide +kernel
theorem dX1_sticksAtAnother_2 : decode cX1_sticksAtAnother 2 = .ok (.invokevirtual 51, 3) := by decide +kernel
theorem dX1_sticksAtAnother_5 : decode cX1_sticksAtAnother 5 = .ok (.ifCond .eq 17, 3) := by decide +kernel
theorem dX1_sticksAtAnother_8 : decode cX1_sticksAtAnother 8 = .ok (.aload_n 0, 1) := by decide +kernel
theorem dX1_sticksAtAnother_9 : decode cX1_sticksAtAnother 9 = .ok (.getfield 15, 3) := by decide +kernel
theorem dX1_sticksAtAnother_12 : decode cX1_sticksAtAnother 12 = .ok (.iload_n 1, 1) := by decide +kernel
theorem dX1_sticksAtAnother_13 : decode cX1_sticksAtAnother 13 = .ok (.iaload, 1) := by decide +kernel
theorem dX1_sticksAtAnother_14 : decode cX1_sticksAtAnother 14 = .ok (.iload_n 2, 1) := by decide +kernel
theorem dX1_sticksAtAnother_15 : decode cX1_sticksAtAnother 15 = .ok (.if_icmp .eq 7, 3) := by decide +kernel
theorem dX1_sticksAtAnother_18 : decode cX1_sticksAtAnother 18 = .ok (.iconst 1, 1) := by decide +kernel
theorem dX1_sticksAtAnother_19 : decode cX1_sticksAtAnother 19 = .ok (.goto 4, 3) := by decide +kernel
theorem dX1_sticksAtAnother_22 : decode cX1_sticksAtAnother 22 = .ok (.iconst 0, 1) := by decide +kernel
theorem dX1_sticksAtAnother_23 : decode cX1_sticksAtAnother 23 = .ok (.ireturn, 1) := by decide +kernel
theorem dX1_put_0 : decode cX1_put 0 = .ok (.aload_n 0, 1) := by decide +kernel
theorem dX1_put_1 : decode cX1_put 1 = .ok (.getfield 18, 3) := by decide +kernel
theorem dX1_put_4 : decode cX1_put 4 = .ok (.iload_n 1, 1) := by decide +kernel
theorem dX1_put_5 : decode cX1_put 5 = .ok (.iconst 0, 1) := by decide +kernel
theorem dX1_put_6 : decode cX1_put 6 = .ok (.iastore, 1) := by decide +kernel
theorem dX1_put_7 : decode cX1_put 7 = .ok (.aload_n 0, 1) := by decide +kernel
theorem dX1_put_8 : decode cX1_put 8 = .ok (.iload_n 1, 1) := by decide +kernel
theorem dX1_put_9 : decode cX1_put 9 = .ok (.invokevirtual 51, 3) := by decide +kernel
theorem dX1_put_12 : decode cX1_put 12 = .ok (.ifCond .ne 10, 3) := by decide +kernel
theorem dX1_put_15 : decode cX1_put 15 = .ok (.aload_n 0, 1) := by decide +kernel
theorem dX1_put_16 : decode cX1_put 16 = .ok (.getfield 9, 3) := by decide +kernel
theorem dX1_put_19 : decode cX1_put 19 = .ok (.iload_n 1, 1) := by decide +kernel
theorem dX1_put_20 : decode cX1_put 20 = .ok (.iload_n 2, 1) := by decide +kernel
theorem dX1_put_21 : decode cX1_put 21 = .ok (.iastore, 1) := by decide +kernel
theorem dX1_put_22 : decode cX1_put 22 = .ok (.return_, 1) := by decide +kernel
theorem dX1_hold_0 : decode cX1_hold 0 = .ok (.aload_n 0, 1) := by decide +kernel
theorem dX1_hold_1 : decode cX1_hold 1 = .ok (.getfield 15, 3) := by decide +kernel
theorem dX1_hold_4 : decode cX1_hold 4 = .ok (.iload_n 1, 1) := by decide +kernel
theorem dX1_hold_5 : decode cX1_hold 5 = .ok (.iload_n 2, 1) := by decide +kernel
theorem dX1_hold_6 : decode cX1_hold 6 = .ok (.iastore, 1) := by decide +kernel
theorem dX1_hold_7 : decode cX1_hold 7 = .ok (.iload_n 2, 1) := by decide +kernel
theorem dX1_hold_8 : decode cX1_hold 8 = .ok (.iconst (-1), 1) := by decide +kernel
theorem dX1_hold_9 : decode cX1_hold 9 = .ok (.if_icmp .eq 10, 3) := by decide +kernel
theorem dX1_hold_12 : decode cX1_hold 12 = .ok (.aload_n 0, 1) := by decide +kernel
theorem dX1_hold_13 : decode cX1_hold 13 = .ok (.getfield 9, 3) := by decide +kernel
theorem dX1_hold_16 : decode cX1_hold 16 = .ok (.iload_n 1, 1) := by decide +kernel
theorem dX1_hold_17 : decode cX1_hold 17 = .ok (.iload_n 2, 1) := by decide +kernel
theorem dX1_hold_18 : decode cX1_hold 18 = .ok (.iastore, 1) := by decide +kernel
theorem dX1_hold_19 : decode cX1_hold 19 = .ok (.return_, 1) := by decide +kernel
theorem dX1_tellCell_0 : decode cX1_tellCell 0 = .ok (.iload_n 2, 1) := by decide +kernel
theorem dX1_tellCell_1 : decode cX1_tellCell 1 = .ok (.ifCond .ne 10, 3) := by decide +kernel
theorem dX1_tellCell_4 : decode cX1_tellCell 4 = .ok (.aload_n 0, 1) := by decide +kernel
theorem dX1_tellCell_5 : decode cX1_tellCell 5 = .ok (.getfield 9, 3) := by decide +kernel
theorem dX1_tellCell_8 : decode cX1_tellCell 8 = .ok (.iload_n 1, 1) := by decide +kernel
theorem dX1_tellCell_9 : decode cX1_tellCell 9 = .ok (.iaload, 1) := by decide +kernel
theorem dX1_tellCell_10 : decode cX1_tellCell 10 = .ok (.ireturn, 1) := by decide +kernel
theorem dX1_tellCell_11 : decode cX1_tellCell 11 = .ok (.iload_n 2, 1) := by decide +kernel
theorem dX1_tellCell_12 : decode cX1_tellCell 12 = .ok (.iconst 1, 1) := by decide +kernel
theorem dX1_tellCell_13 : decode cX1_tellCell 13 = .ok (.if_icmp .ne 12, 3) := by decide +kernel
theorem dX1_tellCell_16 : decode cX1_tellCell 16 = .ok (.aload_n 0, 1) := by decide +kernel
theorem dX1_tellCell_17 : decode cX1_tellCell 17 = .ok (.getfield 15, 3) := by decide +kernel
theorem dX1_tellCell_20 : decode cX1_tellCell 20 = .ok (.iload_n 1, 1) := by decide +kernel
theorem dX1_tellCell_21 : decode cX1_tellCell 21 = .ok (.iaload, 1) := by decide +kernel
theorem dX1_tellCell_22 : decode cX1_tellCell 22 = .ok (.goto 9, 3) := by decide +kernel
theorem dX1_tellCell_25 : decode cX1_tellCell 25 = .ok (.aload_n 0, 1) := by decide +kernel
theorem dX1_tellCell_26 : decode cX1_tellCell 26 = .ok (.getfield 18, 3) := by decide +kernel
theorem dX1_tellCell_29 : decode cX1_tellCell 29 = .ok (.iload_n 1, 1) := by decide +kernel
theorem dX1_tellCell_30 : decode cX1_tellCell 30 = .ok (.iaload, 1) := by decide +kernel
theorem dX1_tellCell_31 : decode cX1_tellCell 31 = .ok (.ireturn, 1) := by decide +kernel
theorem dX1_columnSum_0 : decode cX1_columnSum 0 = .ok (.iconst 0, 1) := by decide +kernel
theorem dX1_columnSum_1 : decode cX1_columnSum 1 = .ok (.istore_n 2, 1) := by decide +kernel
theorem dX1_columnSum_2 : decode cX1_columnSum 2 = .ok (.iconst 0, 1) := by decide +kernel
theorem dX1_columnSum_3 : decode cX1_columnSum 3 = .ok (.istore_n 3, 1) := by decide +kernel
theorem dX1_columnSum_4 : decode cX1_columnSum 4 = .ok (.iload_n 3, 1) := by decide +kernel
theorem dX1_columnSum_5 : decode cX1_columnSum 5 = .ok (.aload_n 0, 1) := by decide +kernel
theorem dX1_columnSum_6 : decode cX1_columnSum 6 = .ok (.getfield 28, 3) := by decide +kernel
theorem dX1_columnSum_9 : decode cX1_columnSum 9 = .ok (.if_icmp .ge 30, 3) := by decide +kernel
theorem dX1_columnSum_12 : decode cX1_columnSum 12 = .ok (.iload_n 2, 1) := by decide +kernel
theorem dX1_columnSum_13 : decode cX1_columnSum 13 = .ok (.aload_n 0, 1) := by decide +kernel
theorem dX1_columnSum_14 : decode cX1_columnSum 14 = .ok (.getfield 21, 3) := by decide +kernel
theorem dX1_columnSum_17 : decode cX1_columnSum 17 = .ok (.iload_n 3, 1) := by decide +kernel
theorem dX1_columnSum_18 : decode cX1_columnSum 18 = .ok (.iaload, 1) := by decide +kernel
theorem dX1_columnSum_19 : decode cX1_columnSum 19 = .ok (.aload_n 0, 1) := by decide +kernel
theorem dX1_columnSum_20 : decode cX1_columnSum 20 = .ok (.getfield 9, 3) := by decide +kernel
theorem dX1_columnSum_23 : decode cX1_columnSum 23 = .ok (.aload_n 0, 1) := by decide +kernel
theorem dX1_columnSum_24 : decode cX1_columnSum 24 = .ok (.iload_n 3, 1) := by decide +kernel
theorem dX1_columnSum_25 : decode cX1_columnSum 25 = .ok (.iload_n 1, 1) := by decide +kernel
theorem dX1_columnSum_26 : decode cX1_columnSum 26 = .ok (.invokevirtual 55, 3) := by decide +kernel
theorem dX1_columnSum_29 : decode cX1_columnSum 29 = .ok (.iaload, 1) := by decide +kernel
theorem dX1_columnSum_30 : decode cX1_columnSum 30 = .ok (.imul, 1) := by decide +kernel
theorem dX1_columnSum_31 : decode cX1_columnSum 31 = .ok (.iadd, 1) := by decide +kernel
theorem dX1_columnSum_32 : decode cX1_columnSum 32 = .ok (.istore_n 2, 1) := by decide +kernel
theorem dX1_columnSum_33 : decode cX1_columnSum 33 = .ok (.iinc 3 1, 3) := by decide +kernel
theorem dX1_columnSum_36 : decode cX1_columnSum 36 = .ok (.goto (-32), 3) := by decide +kernel
theorem dX1_columnSum_39 : decode cX1_columnSum 39 = .ok (.iload_n 2, 1) := by decide +kernel
theorem dX1_columnSum_40 : decode cX1_columnSum 40 = .ok (.ireturn, 1) := by decide +kernel
theorem dX1_convert_0 : decode cX1_convert 0 = .ok (.iload_n 1, 1) := by decide +kernel
theorem dX1_convert_1 : decode cX1_convert 1 = .ok (.iconst 1, 1) := by decide +kernel
theorem dX1_convert_2 : decode cX1_convert 2 = .ok (.aload_n 0, 1) := by decide +kernel
theorem dX1_convert_3 : decode cX1_convert 3 = .ok (.getfield 38, 3) := by decide +kernel
theorem dX1_convert_6 : decode cX1_convert 6 = .ok (.ishl, 1) := by decide +kernel
theorem dX1_convert_7 : decode cX1_convert 7 = .ok (.iconst 1, 1) := by decide +kernel
theorem dX1_convert_8 : decode cX1_convert 8 = .ok (.isub, 1) := by decide +kernel
theorem dX1_convert_9 : decode cX1_convert 9 = .ok (.invokestatic 59, 3) := by decide +kernel
theorem dX1_convert_12 : decode cX1_convert 12 = .ok (.ireturn, 1) := by decide +kernel
theorem dX1_stickingCells_0 : decode cX1_stickingCells 0 = .ok (.iconst 0, 1) := by decide +kernel
theorem dX1_stickingCells_1 : decode cX1_stickingCells 1 = .ok (.istore_n 1, 1) := by decide +kernel
theorem dX1_stickingCells_2 : decode cX1_stickingCells 2 = .ok (.iconst 0, 1) := by decide +kernel
theorem dX1_stickingCells_3 : decode cX1_stickingCells 3 = .ok (.istore_n 2, 1) := by decide +kernel
theorem dX1_stickingCells_4 : decode cX1_stickingCells 4 = .ok (.iload_n 2, 1) := by decide +kernel
theorem dX1_stickingCells_5 : decode cX1_stickingCells 5 = .ok (.aload_n 0, 1) := by decide +kernel
theorem dX1_stickingCells_6 : decode cX1_stickingCells 6 = .ok (.getfield 28, 3) := by decide +kernel
theorem dX1_stickingCells_9 : decode cX1_stickingCells 9 = .ok (.if_icmp .ge 46, 3) := by decide +kernel
theorem dX1_stickingCells_12 : decode cX1_stickingCells 12 = .ok (.iconst 0, 1) := by decide +kernel
theorem dX1_stickingCells_13 : decode cX1_stickingCells 13 = .ok (.istore_n 3, 1) := by decide +kernel
theorem dX1_stickingCells_14 : decode cX1_stickingCells 14 = .ok (.iload_n 3, 1) := by decide +kernel
theorem dX1_stickingCells_15 : decode cX1_stickingCells 15 = .ok (.aload_n 0, 1) := by decide +kernel
theorem dX1_stickingCells_16 : decode cX1_stickingCells 16 = .ok (.getfield 32, 3) := by decide +kernel
theorem dX1_stickingCells_19 : decode cX1_stickingCells 19 = .ok (.if_icmp .ge 30, 3) := by decide +kernel
theorem dX1_stickingCells_22 : decode cX1_stickingCells 22 = .ok (.iload_n 1, 1) := by decide +kernel
theorem dX1_stickingCells_23 : decode cX1_stickingCells 23 = .ok (.aload_n 0, 1) := by decide +kernel
theorem dX1_stickingCells_24 : decode cX1_stickingCells 24 = .ok (.aload_n 0, 1) := by decide +kernel
theorem dX1_stickingCells_25 : decode cX1_stickingCells 25 = .ok (.iload_n 2, 1) := by decide +kernel
theorem dX1_stickingCells_26 : decode cX1_stickingCells 26 = .ok (.iload_n 3, 1) := by decide +kernel
theorem dX1_stickingCells_27 : decode cX1_stickingCells 27 = .ok (.invokevirtual 55, 3) := by decide +kernel
theorem dX1_stickingCells_30 : decode cX1_stickingCells 30 = .ok (.invokevirtual 51, 3) := by decide +kernel
theorem dX1_stickingCells_33 : decode cX1_stickingCells 33 = .ok (.ifCond .eq 7, 3) := by decide +kernel
theorem dX1_stickingCells_36 : decode cX1_stickingCells 36 = .ok (.iconst 1, 1) := by decide +kernel
theorem dX1_stickingCells_37 : decode cX1_stickingCells 37 = .ok (.goto 4, 3) := by decide +kernel
theorem dX1_stickingCells_40 : decode cX1_stickingCells 40 = .ok (.iconst 0, 1) := by decide +kernel
theorem dX1_stickingCells_41 : decode cX1_stickingCells 41 = .ok (.iadd, 1) := by decide +kernel
theorem dX1_stickingCells_42 : decode cX1_stickingCells 42 = .ok (.istore_n 1, 1) := by decide +kernel
theorem dX1_stickingCells_43 : decode cX1_stickingCells 43 = .ok (.iinc 3 1, 3) := by decide +kernel
theorem dX1_stickingCells_46 : decode cX1_stickingCells 46 = .ok (.goto (-32), 3) := by decide +kernel
theorem dX1_stickingCells_49 : decode cX1_stickingCells 49 = .ok (.iinc 2 1, 3) := by decide +kernel
theorem dX1_stickingCells_52 : decode cX1_stickingCells 52 = .ok (.goto (-48), 3) := by decide +kernel
theorem dX1_stickingCells_55 : decode cX1_stickingCells 55 = .ok (.iload_n 1, 1) := by decide +kernel
theorem dX1_stickingCells_56 : decode cX1_stickingCells 56 = .ok (.ireturn, 1) := by decide +kernel
theorem dX1_ageAll_0 : decode cX1_ageAll 0 = .ok (.iconst 0, 1) := by decide +kernel
theorem dX1_ageAll_1 : decode cX1_ageAll 1 = .ok (.istore_n 1, 1) := by decide +kernel
theorem dX1_ageAll_2 : decode cX1_ageAll 2 = .ok (.iconst 0, 1) := by decide +kernel
theorem dX1_ageAll_3 : decode cX1_ageAll 3 = .ok (.istore_n 2, 1) := by decide +kernel
theorem dX1_ageAll_4 : decode cX1_ageAll 4 = .ok (.iload_n 2, 1) := by decide +kernel
theorem dX1_ageAll_5 : decode cX1_ageAll 5 = .ok (.aload_n 0, 1) := by decide +kernel
theorem dX1_ageAll_6 : decode cX1_ageAll 6 = .ok (.getfield 28, 3) := by decide +kernel
theorem dX1_ageAll_9 : decode cX1_ageAll 9 = .ok (.if_icmp .ge 46, 3) := by decide +kernel
theorem dX1_ageAll_12 : decode cX1_ageAll 12 = .ok (.iconst 0, 1) := by decide +kernel
theorem dX1_ageAll_13 : decode cX1_ageAll 13 = .ok (.istore_n 3, 1) := by decide +kernel
theorem dX1_ageAll_14 : decode cX1_ageAll 14 = .ok (.iload_n 3, 1) := by decide +kernel
theorem dX1_ageAll_15 : decode cX1_ageAll 15 = .ok (.aload_n 0, 1) := by decide +kernel
theorem dX1_ageAll_16 : decode cX1_ageAll 16 = .ok (.getfield 32, 3) := by decide +kernel
theorem dX1_ageAll_19 : decode cX1_ageAll 19 = .ok (.if_icmp .ge 30, 3) := by decide +kernel
theorem dX1_ageAll_22 : decode cX1_ageAll 22 = .ok (.iload_n 1, 1) := by decide +kernel
theorem dX1_ageAll_23 : decode cX1_ageAll 23 = .ok (.aload_n 0, 1) := by decide +kernel
theorem dX1_ageAll_24 : decode cX1_ageAll 24 = .ok (.aload_n 0, 1) := by decide +kernel
theorem dX1_ageAll_25 : decode cX1_ageAll 25 = .ok (.iload_n 2, 1) := by decide +kernel
theorem dX1_ageAll_26 : decode cX1_ageAll 26 = .ok (.iload_n 3, 1) := by decide +kernel
theorem dX1_ageAll_27 : decode cX1_ageAll 27 = .ok (.invokevirtual 55, 3) := by decide +kernel
theorem dX1_ageAll_30 : decode cX1_ageAll 30 = .ok (.invokevirtual 64, 3) := by decide +kernel
theorem dX1_ageAll_33 : decode cX1_ageAll 33 = .ok (.ifCond .eq 7, 3) := by decide +kernel
theorem dX1_ageAll_36 : decode cX1_ageAll 36 = .ok (.iconst 1, 1) := by decide +kernel
theorem dX1_ageAll_37 : decode cX1_ageAll 37 = .ok (.goto 4, 3) := by decide +kernel
theorem dX1_ageAll_40 : decode cX1_ageAll 40 = .ok (.iconst 0, 1) := by decide +kernel
theorem dX1_ageAll_41 : decode cX1_ageAll 41 = .ok (.iadd, 1) := by decide +kernel
theorem dX1_ageAll_42 : decode cX1_ageAll 42 = .ok (.istore_n 1, 1) := by decide +kernel
theorem dX1_ageAll_43 : decode cX1_ageAll 43 = .ok (.iinc 3 1, 3) := by decide +kernel
theorem dX1_ageAll_46 : decode cX1_ageAll 46 = .ok (.goto (-32), 3) := by decide +kernel
theorem dX1_ageAll_49 : decode cX1_ageAll 49 = .ok (.iinc 2 1, 3) := by decide +kernel
theorem dX1_ageAll_52 : decode cX1_ageAll 52 = .ok (.goto (-48), 3) := by decide +kernel
theorem dX1_ageAll_55 : decode cX1_ageAll 55 = .ok (.iload_n 1, 1) := by decide +kernel
theorem dX1_ageAll_56 : decode cX1_ageAll 56 = .ok (.ireturn, 1) := by decide +kernel
theorem dX1_ageOne_0 : decode cX1_ageOne 0 = .ok (.aload_n 0, 1) := by decide +kernel
theorem dX1_ageOne_1 : decode cX1_ageOne 1 = .ok (.iload_n 1, 1) := by decide +kernel
theorem dX1_ageOne_2 : decode cX1_ageOne 2 = .ok (.invokevirtual 51, 3) := by decide +kernel
theorem dX1_ageOne_5 : decode cX1_ageOne 5 = .ok (.ifCond .eq 5, 3) := by decide +kernel
theorem dX1_ageOne_8 : decode cX1_ageOne 8 = .ok (.iconst 0, 1) := by decide +kernel
theorem dX1_ageOne_9 : decode cX1_ageOne 9 = .ok (.ireturn, 1) := by decide +kernel
theorem dX1_ageOne_10 : decode cX1_ageOne 10 = .ok (.aload_n 0, 1) := by decide +kernel
theorem dX1_ageOne_11 : decode cX1_ageOne 11 = .ok (.getfield 18, 3) := by decide +kernel
theorem dX1_ageOne_14 : decode cX1_ageOne 14 = .ok (.iload_n 1, 1) := by decide +kernel
theorem dX1_ageOne_15 : decode cX1_ageOne 15 = .ok (.dup2, 1) := by decide +kernel
theorem dX1_ageOne_16 : decode cX1_ageOne 16 = .ok (.iaload, 1) := by decide +kernel
theorem dX1_ageOne_17 : decode cX1_ageOne 17 = .ok (.iconst 1, 1) := by decide +kernel
theorem dX1_ageOne_18 : decode cX1_ageOne 18 = .ok (.iadd, 1) := by decide +kernel
theorem dX1_ageOne_19 : decode cX1_ageOne 19 = .ok (.iastore, 1) := by decide +kernel
theorem dX1_ageOne_20 : decode cX1_ageOne 20 = .ok (.aload_n 0, 1) := by decide +kernel
theorem dX1_ageOne_21 : decode cX1_ageOne 21 = .ok (.getfield 9, 3) := by decide +kernel
theorem dX1_ageOne_24 : decode cX1_ageOne 24 = .ok (.iload_n 1, 1) := by decide +kernel
theorem dX1_ageOne_25 : decode cX1_ageOne 25 = .ok (.iaload, 1) := by decide +kernel
theorem dX1_ageOne_26 : decode cX1_ageOne 26 = .ok (.ifCond .eq 21, 3) := by decide +kernel
theorem dX1_ageOne_29 : decode cX1_ageOne 29 = .ok (.aload_n 0, 1) := by decide +kernel
theorem dX1_ageOne_30 : decode cX1_ageOne 30 = .ok (.getfield 18, 3) := by decide +kernel
theorem dX1_ageOne_33 : decode cX1_ageOne 33 = .ok (.iload_n 1, 1) := by decide +kernel
theorem dX1_ageOne_34 : decode cX1_ageOne 34 = .ok (.iaload, 1) := by decide +kernel
theorem dX1_ageOne_35 : decode cX1_ageOne 35 = .ok (.bipush 16, 2) := by decide +kernel
theorem dX1_ageOne_37 : decode cX1_ageOne 37 = .ok (.aload_n 0, 1) := by decide +kernel
theorem dX1_ageOne_38 : decode cX1_ageOne 38 = .ok (.getfield 9, 3) := by decide +kernel
theorem dX1_ageOne_41 : decode cX1_ageOne 41 = .ok (.iload_n 1, 1) := by decide +kernel
theorem dX1_ageOne_42 : decode cX1_ageOne 42 = .ok (.iaload, 1) := by decide +kernel
theorem dX1_ageOne_43 : decode cX1_ageOne 43 = .ok (.isub, 1) := by decide +kernel
theorem dX1_ageOne_44 : decode cX1_ageOne 44 = .ok (.if_icmp .ge 5, 3) := by decide +kernel
theorem dX1_ageOne_47 : decode cX1_ageOne 47 = .ok (.iconst 0, 1) := by decide +kernel
theorem dX1_ageOne_48 : decode cX1_ageOne 48 = .ok (.ireturn, 1) := by decide +kernel
theorem dX1_ageOne_49 : decode cX1_ageOne 49 = .ok (.aload_n 0, 1) := by decide +kernel
theorem dX1_ageOne_50 : decode cX1_ageOne 50 = .ok (.getfield 9, 3) := by decide +kernel
theorem dX1_ageOne_53 : decode cX1_ageOne 53 = .ok (.iload_n 1, 1) := by decide +kernel
theorem dX1_ageOne_54 : decode cX1_ageOne 54 = .ok (.dup2, 1) := by decide +kernel
theorem dX1_ageOne_55 : decode cX1_ageOne 55 = .ok (.iaload, 1) := by decide +kernel
theorem dX1_ageOne_56 : decode cX1_ageOne 56 = .ok (.iconst 1, 1) := by decide +kernel
theorem dX1_ageOne_57 : decode cX1_ageOne 57 = .ok (.isub, 1) := by decide +kernel
theorem dX1_ageOne_58 : decode cX1_ageOne 58 = .ok (.iastore, 1) := by decide +kernel
theorem dX1_ageOne_59 : decode cX1_ageOne 59 = .ok (.aload_n 0, 1) := by decide +kernel
theorem dX1_ageOne_60 : decode cX1_ageOne 60 = .ok (.getfield 18, 3) := by decide +kernel
theorem dX1_ageOne_63 : decode cX1_ageOne 63 = .ok (.iload_n 1, 1) := by decide +kernel
theorem dX1_ageOne_64 : decode cX1_ageOne 64 = .ok (.iconst 0, 1) := by decide +kernel
theorem dX1_ageOne_65 : decode cX1_ageOne 65 = .ok (.iastore, 1) := by decide +kernel
theorem dX1_ageOne_66 : decode cX1_ageOne 66 = .ok (.iconst 1, 1) := by decide +kernel
theorem dX1_ageOne_67 : decode cX1_ageOne 67 = .ok (.ireturn, 1) := by decide +kernel
theorem dX1_pulseTo_0 : decode cX1_pulseTo 0 = .ok (.iconst 0, 1) := by decide +kernel
theorem dX1_pulseTo_1 : decode cX1_pulseTo 1 = .ok (.istore_n 3, 1) := by decide +kernel
theorem dX1_pulseTo_2 : decode cX1_pulseTo 2 = .ok (.iload_n 3, 1) := by decide +kernel
theorem dX1_pulseTo_3 : decode cX1_pulseTo 3 = .ok (.bipush 40, 2) := by decide +kernel
theorem dX1_pulseTo_5 : decode cX1_pulseTo 5 = .ok (.if_icmp .ge 68, 3) := by decide +kernel
theorem dX1_pulseTo_8 : decode cX1_pulseTo 8 = .ok (.aload_n 0, 1) := by decide +kernel
theorem dX1_pulseTo_9 : decode cX1_pulseTo 9 = .ok (.getfield 9, 3) := by decide +kernel
theorem dX1_pulseTo_12 : decode cX1_pulseTo 12 = .ok (.iload_n 1, 1) := by decide +kernel
theorem dX1_pulseTo_13 : decode cX1_pulseTo 13 = .ok (.iaload, 1) := by decide +kernel
theorem dX1_pulseTo_14 : decode cX1_pulseTo 14 = .ok (.iload_n 2, 1) := by decide +kernel
theorem dX1_pulseTo_15 : decode cX1_pulseTo 15 = .ok (.if_icmp .eq 58, 3) := by decide +kernel
theorem dX1_pulseTo_18 : decode cX1_pulseTo 18 = .ok (.aload_n 0, 1) := by decide +kernel
theorem dX1_pulseTo_19 : decode cX1_pulseTo 19 = .ok (.getfield 9, 3) := by decide +kernel
theorem dX1_pulseTo_22 : decode cX1_pulseTo 22 = .ok (.iload_n 1, 1) := by decide +kernel
theorem dX1_pulseTo_23 : decode cX1_pulseTo 23 = .ok (.aload_n 0, 1) := by decide +kernel
theorem dX1_pulseTo_24 : decode cX1_pulseTo 24 = .ok (.getfield 9, 3) := by decide +kernel
theorem dX1_pulseTo_27 : decode cX1_pulseTo 27 = .ok (.iload_n 1, 1) := by decide +kernel
theorem dX1_pulseTo_28 : decode cX1_pulseTo 28 = .ok (.iaload, 1) := by decide +kernel
theorem dX1_pulseTo_29 : decode cX1_pulseTo 29 = .ok (.iload_n 2, 1) := by decide +kernel
theorem dX1_pulseTo_30 : decode cX1_pulseTo 30 = .ok (.if_icmp .ge 21, 3) := by decide +kernel
theorem dX1_pulseTo_33 : decode cX1_pulseTo 33 = .ok (.aload_n 0, 1) := by decide +kernel
theorem dX1_pulseTo_34 : decode cX1_pulseTo 34 = .ok (.getfield 9, 3) := by decide +kernel
theorem dX1_pulseTo_37 : decode cX1_pulseTo 37 = .ok (.iload_n 1, 1) := by decide +kernel
theorem dX1_pulseTo_38 : decode cX1_pulseTo 38 = .ok (.iaload, 1) := by decide +kernel
theorem dX1_pulseTo_39 : decode cX1_pulseTo 39 = .ok (.iconst 2, 1) := by decide +kernel
theorem dX1_pulseTo_40 : decode cX1_pulseTo 40 = .ok (.iadd, 1) := by decide +kernel
theorem dX1_pulseTo_41 : decode cX1_pulseTo 41 = .ok (.aload_n 0, 1) := by decide +kernel
theorem dX1_pulseTo_42 : decode cX1_pulseTo 42 = .ok (.getfield 35, 3) := by decide +kernel
theorem dX1_pulseTo_45 : decode cX1_pulseTo 45 = .ok (.invokestatic 59, 3) := by decide +kernel
theorem dX1_pulseTo_48 : decode cX1_pulseTo 48 = .ok (.goto 11, 3) := by decide +kernel
theorem dX1_pulseTo_51 : decode cX1_pulseTo 51 = .ok (.aload_n 0, 1) := by decide +kernel
theorem dX1_pulseTo_52 : decode cX1_pulseTo 52 = .ok (.getfield 9, 3) := by decide +kernel
theorem dX1_pulseTo_55 : decode cX1_pulseTo 55 = .ok (.iload_n 1, 1) := by decide +kernel
theorem dX1_pulseTo_56 : decode cX1_pulseTo 56 = .ok (.iaload, 1) := by decide +kernel
theorem dX1_pulseTo_57 : decode cX1_pulseTo 57 = .ok (.iconst 1, 1) := by decide +kernel
theorem dX1_pulseTo_58 : decode cX1_pulseTo 58 = .ok (.isub, 1) := by decide +kernel
theorem dX1_pulseTo_59 : decode cX1_pulseTo 59 = .ok (.iastore, 1) := by decide +kernel
theorem dX1_pulseTo_60 : decode cX1_pulseTo 60 = .ok (.aload_n 0, 1) := by decide +kernel
theorem dX1_pulseTo_61 : decode cX1_pulseTo 61 = .ok (.getfield 18, 3) := by decide +kernel
theorem dX1_pulseTo_64 : decode cX1_pulseTo 64 = .ok (.iload_n 1, 1) := by decide +kernel
theorem dX1_pulseTo_65 : decode cX1_pulseTo 65 = .ok (.iconst 0, 1) := by decide +kernel
theorem dX1_pulseTo_66 : decode cX1_pulseTo 66 = .ok (.iastore, 1) := by decide +kernel
theorem dX1_pulseTo_67 : decode cX1_pulseTo 67 = .ok (.iinc 3 1, 3) := by decide +kernel
theorem dX1_pulseTo_70 : decode cX1_pulseTo 70 = .ok (.goto (-68), 3) := by decide +kernel
theorem dX1_pulseTo_73 : decode cX1_pulseTo 73 = .ok (.iload_n 3, 1) := by decide +kernel
theorem dX1_pulseTo_74 : decode cX1_pulseTo 74 = .ok (.ireturn, 1) := by decide +kernel
theorem dX1_addTo_0 : decode cX1_addTo 0 = .ok (.lload_n 1, 1) := by decide +kernel
theorem dX1_addTo_1 : decode cX1_addTo 1 = .ok (.lstore_n 3, 1) := by decide +kernel
theorem dX1_addTo_2 : decode cX1_addTo 2 = .ok (.iconst 0, 1) := by decide +kernel
theorem dX1_addTo_3 : decode cX1_addTo 3 = .ok (.istore 5, 2) := by decide +kernel
theorem dX1_addTo_5 : decode cX1_addTo 5 = .ok (.iload 5, 2) := by decide +kernel
theorem dX1_addTo_7 : decode cX1_addTo 7 = .ok (.aload_n 0, 1) := by decide +kernel
theorem dX1_addTo_8 : decode cX1_addTo 8 = .ok (.getfield 28, 3) := by decide +kernel
theorem dX1_addTo_11 : decode cX1_addTo 11 = .ok (.if_icmp .ge 64, 3) := by decide +kernel
theorem dX1_addTo_14 : decode cX1_addTo 14 = .ok (.iconst 0, 1) := by decide +kernel
theorem dX1_addTo_15 : decode cX1_addTo 15 = .ok (.istore 6, 2) := by decide +kernel
theorem dX1_addTo_17 : decode cX1_addTo 17 = .ok (.iload 6, 2) := by decide +kernel
theorem dX1_addTo_19 : decode cX1_addTo 19 = .ok (.aload_n 0, 1) := by decide +kernel
theorem dX1_addTo_20 : decode cX1_addTo 20 = .ok (.getfield 32, 3) := by decide +kernel
theorem dX1_addTo_23 : decode cX1_addTo 23 = .ok (.if_icmp .ge 46, 3) := by decide +kernel
theorem dX1_addTo_26 : decode cX1_addTo 26 = .ok (.iconst 0, 1) := by decide +kernel
theorem dX1_addTo_27 : decode cX1_addTo 27 = .ok (.istore 7, 2) := by decide +kernel
theorem dX1_addTo_29 : decode cX1_addTo 29 = .ok (.iload 7, 2) := by decide +kernel
theorem dX1_addTo_31 : decode cX1_addTo 31 = .ok (.iconst 2, 1) := by decide +kernel
theorem dX1_addTo_32 : decode cX1_addTo 32 = .ok (.if_icmp .gt 31, 3) := by decide +kernel
theorem dX1_addTo_35 : decode cX1_addTo 35 = .ok (.ldc2_w 67, 3) := by decide +kernel
theorem dX1_addTo_38 : decode cX1_addTo 38 = .ok (.lload_n 3, 1) := by decide +kernel
theorem dX1_addTo_39 : decode cX1_addTo 39 = .ok (.lmul, 1) := by decide +kernel
theorem dX1_addTo_40 : decode cX1_addTo 40 = .ok (.aload_n 0, 1) := by decide +kernel
theorem dX1_addTo_41 : decode cX1_addTo 41 = .ok (.aload_n 0, 1) := by decide +kernel
theorem dX1_addTo_42 : decode cX1_addTo 42 = .ok (.iload 5, 2) := by decide +kernel
theorem dX1_addTo_44 : decode cX1_addTo 44 = .ok (.iload 6, 2) := by decide +kernel
theorem dX1_addTo_46 : decode cX1_addTo 46 = .ok (.invokevirtual 55, 3) := by decide +kernel
theorem dX1_addTo_49 : decode cX1_addTo 49 = .ok (.iload 7, 2) := by decide +kernel
theorem dX1_addTo_51 : decode cX1_addTo 51 = .ok (.invokevirtual 69, 3) := by decide +kernel
theorem dX1_addTo_54 : decode cX1_addTo 54 = .ok (.i2l, 1) := by decide +kernel
theorem dX1_addTo_55 : decode cX1_addTo 55 = .ok (.ladd, 1) := by decide +kernel
theorem dX1_addTo_56 : decode cX1_addTo 56 = .ok (.lstore_n 3, 1) := by decide +kernel
theorem dX1_addTo_57 : decode cX1_addTo 57 = .ok (.iinc 7 1, 3) := by decide +kernel
theorem dX1_addTo_60 : decode cX1_addTo 60 = .ok (.goto (-31), 3) := by decide +kernel
theorem dX1_addTo_63 : decode cX1_addTo 63 = .ok (.iinc 6 1, 3) := by decide +kernel
theorem dX1_addTo_66 : decode cX1_addTo 66 = .ok (.goto (-49), 3) := by decide +kernel
theorem dX1_addTo_69 : decode cX1_addTo 69 = .ok (.iinc 5 1, 3) := by decide +kernel
theorem dX1_addTo_72 : decode cX1_addTo 72 = .ok (.goto (-67), 3) := by decide +kernel
theorem dX1_addTo_75 : decode cX1_addTo 75 = .ok (.iconst 0, 1) := by decide +kernel
theorem dX1_addTo_76 : decode cX1_addTo 76 = .ok (.istore 5, 2) := by decide +kernel
theorem dX1_addTo_78 : decode cX1_addTo 78 = .ok (.iload 5, 2) := by decide +kernel
theorem dX1_addTo_80 : decode cX1_addTo 80 = .ok (.aload_n 0, 1) := by decide +kernel
theorem dX1_addTo_81 : decode cX1_addTo 81 = .ok (.getfield 28, 3) := by decide +kernel
theorem dX1_addTo_84 : decode cX1_addTo 84 = .ok (.if_icmp .ge 24, 3) := by decide +kernel
theorem dX1_addTo_87 : decode cX1_addTo 87 = .ok (.ldc2_w 67, 3) := by decide +kernel
theorem dX1_addTo_90 : decode cX1_addTo 90 = .ok (.lload_n 3, 1) := by decide +kernel
theorem dX1_addTo_91 : decode cX1_addTo 91 = .ok (.lmul, 1) := by decide +kernel
theorem dX1_addTo_92 : decode cX1_addTo 92 = .ok (.aload_n 0, 1) := by decide +kernel
theorem dX1_addTo_93 : decode cX1_addTo 93 = .ok (.getfield 21, 3) := by decide +kernel
theorem dX1_addTo_96 : decode cX1_addTo 96 = .ok (.iload 5, 2) := by decide +kernel
theorem dX1_addTo_98 : decode cX1_addTo 98 = .ok (.iaload, 1) := by decide +kernel
theorem dX1_addTo_99 : decode cX1_addTo 99 = .ok (.i2l, 1) := by decide +kernel
theorem dX1_addTo_100 : decode cX1_addTo 100 = .ok (.ladd, 1) := by decide +kernel
theorem dX1_addTo_101 : decode cX1_addTo 101 = .ok (.lstore_n 3, 1) := by decide +kernel
theorem dX1_addTo_102 : decode cX1_addTo 102 = .ok (.iinc 5 1, 3) := by decide +kernel
theorem dX1_addTo_105 : decode cX1_addTo 105 = .ok (.goto (-27), 3) := by decide +kernel
theorem dX1_addTo_108 : decode cX1_addTo 108 = .ok (.lload_n 3, 1) := by decide +kernel
theorem dX1_addTo_109 : decode cX1_addTo 109 = .ok (.lreturn, 1) := by decide +kernel
theorem dX2_init_0 : decode cX2_init 0 = .ok (.aload_n 0, 1) := by decide +kernel
theorem dX2_init_1 : decode cX2_init 1 = .ok (.invokespecial 3, 3) := by decide +kernel
theorem dX2_init_4 : decode cX2_init 4 = .ok (.aload_n 0, 1) := by decide +kernel
theorem dX2_init_5 : decode cX2_init 5 = .ok (.sipush 8000, 3) := by decide +kernel
theorem dX2_init_8 : decode cX2_init 8 = .ok (.newarray .long, 2) := by decide +kernel
theorem dX2_init_10 : decode cX2_init 10 = .ok (.putfield 9, 3) := by decide +kernel
theorem dX2_init_13 : decode cX2_init 13 = .ok (.aload_n 0, 1) := by decide +kernel
theorem dX2_init_14 : decode cX2_init 14 = .ok (.sipush 2048, 3) := by decide +kernel
theorem dX2_init_17 : decode cX2_init 17 = .ok (.newarray .int, 2) := by decide +kernel
theorem dX2_init_19 : decode cX2_init 19 = .ok (.putfield 15, 3) := by decide +kernel
theorem dX2_init_22 : decode cX2_init 22 = .ok (.aload_n 0, 1) := by decide +kernel
theorem dX2_init_23 : decode cX2_init 23 = .ok (.iconst 5, 1) := by decide +kernel
theorem dX2_init_24 : decode cX2_init 24 = .ok (.newarray .int, 2) := by decide +kernel
theorem dX2_init_26 : decode cX2_init 26 = .ok (.putfield 19, 3) := by decide +kernel
theorem dX2_init_29 : decode cX2_init 29 = .ok (.aload_n 0, 1) := by decide +kernel
theorem dX2_init_30 : decode cX2_init 30 = .ok (.bipush 16, 2) := by decide +kernel
theorem dX2_init_32 : decode cX2_init 32 = .ok (.newarray .int, 2) := by decide +kernel
theorem dX2_init_34 : decode cX2_init 34 = .ok (.putfield 22, 3) := by decide +kernel
theorem dX2_init_37 : decode cX2_init 37 = .ok (.aload_n 0, 1) := by decide +kernel
theorem dX2_init_38 : decode cX2_init 38 = .ok (.iconst (-1), 1) := by decide +kernel
theorem dX2_init_39 : decode cX2_init 39 = .ok (.putfield 25, 3) := by decide +kernel
theorem dX2_init_42 : decode cX2_init 42 = .ok (.return_, 1) := by decide +kernel
theorem dX2_seek_0 : decode cX2_seek 0 = .ok (.aload_n 0, 1) := by decide +kernel
theorem dX2_seek_1 : decode cX2_seek 1 = .ok (.iload_n 1, 1) := by decide +kernel
theorem dX2_seek_2 : decode cX2_seek 2 = .ok (.iload_n 2, 1) := by decide +kernel
theorem dX2_seek_3 : decode cX2_seek 3 = .ok (.invokevirtual 29, 3) := by decide +kernel
theorem dX2_seek_6 : decode cX2_seek 6 = .ok (.iconst 0, 1) := by decide +kernel
theorem dX2_seek_7 : decode cX2_seek 7 = .ok (.istore 4, 2) := by decide +kernel
theorem dX2_seek_9 : decode cX2_seek 9 = .ok (.iload 4, 2) := by decide +kernel
theorem dX2_seek_11 : decode cX2_seek 11 = .ok (.sipush 8000, 3) := by decide +kernel
theorem dX2_seek_14 : decode cX2_seek 14 = .ok (.if_icmp .ge 70, 3) := by decide +kernel
theorem dX2_seek_17 : decode cX2_seek 17 = .ok (.iload 4, 2) := by decide +kernel
theorem dX2_seek_19 : decode cX2_seek 19 = .ok (.aload_n 0, 1) := by decide +kernel
theorem dX2_seek_20 : decode cX2_seek 20 = .ok (.getfield 33, 3) := by decide +kernel
theorem dX2_seek_23 : decode cX2_seek 23 = .ok (.if_icmp .ge 61, 3) := by decide +kernel
theorem dX2_seek_26 : decode cX2_seek 26 = .ok (.aload_n 0, 1) := by decide +kernel
theorem dX2_seek_27 : decode cX2_seek 27 = .ok (.aload_n 0, 1) := by decide +kernel
theorem dX2_seek_28 : decode cX2_seek 28 = .ok (.getfield 9, 3) := by decide +kernel
theorem dX2_seek_31 : decode cX2_seek 31 = .ok (.iload 4, 2) := by decide +kernel
theorem dX2_seek_33 : decode cX2_seek 33 = .ok (.laload, 1) := by decide +kernel
theorem dX2_seek_34 : decode cX2_seek 34 = .ok (.invokestatic 36, 3) := by decide +kernel
theorem dX2_seek_37 : decode cX2_seek 37 = .ok (.invokevirtual 40, 3) := by decide +kernel
theorem dX2_seek_40 : decode cX2_seek 40 = .ok (.aload_n 0, 1) := by decide +kernel
theorem dX2_seek_41 : decode cX2_seek 41 = .ok (.iload_n 3, 1) := by decide +kernel
theorem dX2_seek_42 : decode cX2_seek 42 = .ok (.invokevirtual 44, 3) := by decide +kernel
theorem dX2_seek_45 : decode cX2_seek 45 = .ok (.istore 5, 2) := by decide +kernel
theorem dX2_seek_47 : decode cX2_seek 47 = .ok (.iload 5, 2) := by decide +kernel
theorem dX2_seek_49 : decode cX2_seek 49 = .ok (.iconst (-1), 1) := by decide +kernel
theorem dX2_seek_50 : decode cX2_seek 50 = .ok (.if_icmp .eq 16, 3) := by decide +kernel
theorem dX2_seek_53 : decode cX2_seek 53 = .ok (.aload_n 0, 1) := by decide +kernel
theorem dX2_seek_54 : decode cX2_seek 54 = .ok (.iload 4, 2) := by decide +kernel
theorem dX2_seek_56 : decode cX2_seek 56 = .ok (.iload 5, 2) := by decide +kernel
theorem dX2_seek_58 : decode cX2_seek 58 = .ok (.invokevirtual 48, 3) := by decide +kernel
theorem dX2_seek_61 : decode cX2_seek 61 = .ok (.aload_n 0, 1) := by decide +kernel
theorem dX2_seek_62 : decode cX2_seek 62 = .ok (.getfield 51, 3) := by decide +kernel
theorem dX2_seek_65 : decode cX2_seek 65 = .ok (.ireturn, 1) := by decide +kernel
theorem dX2_seek_66 : decode cX2_seek 66 = .ok (.aload_n 0, 1) := by decide +kernel
theorem dX2_seek_67 : decode cX2_seek 67 = .ok (.iload 4, 2) := by decide +kernel
theorem dX2_seek_69 : decode cX2_seek 69 = .ok (.invokevirtual 54, 3) := by decide +kernel
theorem dX2_seek_72 : decode cX2_seek 72 = .ok (.ifCond .ne 6, 3) := by decide +kernel
theorem dX2_seek_75 : decode cX2_seek 75 = .ok (.bipush (-5), 2) := by decide +kernel
theorem dX2_seek_77 : decode cX2_seek 77 = .ok (.ireturn, 1) := by decide +kernel
theorem dX2_seek_78 : decode cX2_seek 78 = .ok (.iinc 4 1, 3) := by decide +kernel
theorem dX2_seek_81 : decode cX2_seek 81 = .ok (.goto (-72), 3) := by decide +kernel
theorem dX2_seek_84 : decode cX2_seek 84 = .ok (.iconst (-1), 1) := by decide +kernel
theorem dX2_seek_85 : decode cX2_seek 85 = .ok (.ireturn, 1) := by decide +kernel
theorem dX2_begin_0 : decode cX2_begin 0 = .ok (.aload_n 0, 1) := by decide +kernel
theorem dX2_begin_1 : decode cX2_begin 1 = .ok (.iload_n 1, 1) := by decide +kernel
theorem dX2_begin_2 : decode cX2_begin 2 = .ok (.putfield 58, 3) := by decide +kernel
theorem dX2_begin_5 : decode cX2_begin 5 = .ok (.aload_n 0, 1) := by decide +kernel
theorem dX2_begin_6 : decode cX2_begin 6 = .ok (.iload_n 2, 1) := by decide +kernel
theorem dX2_begin_7 : decode cX2_begin 7 = .ok (.putfield 61, 3) := by decide +kernel
theorem dX2_begin_10 : decode cX2_begin 10 = .ok (.aload_n 0, 1) := by decide +kernel
theorem dX2_begin_11 : decode cX2_begin 11 = .ok (.iconst 1, 1) := by decide +kernel
theorem dX2_begin_12 : decode cX2_begin 12 = .ok (.iload_n 1, 1) := by decide +kernel
theorem dX2_begin_13 : decode cX2_begin 13 = .ok (.ishl, 1) := by decide +kernel
theorem dX2_begin_14 : decode cX2_begin 14 = .ok (.putfield 64, 3) := by decide +kernel
theorem dX2_begin_17 : decode cX2_begin 17 = .ok (.aload_n 0, 1) := by decide +kernel
theorem dX2_begin_18 : decode cX2_begin 18 = .ok (.iload_n 1, 1) := by decide +kernel
theorem dX2_begin_19 : decode cX2_begin 19 = .ok (.invokestatic 67, 3) := by decide +kernel
theorem dX2_begin_22 : decode cX2_begin 22 = .ok (.putfield 70, 3) := by decide +kernel
theorem dX2_begin_25 : decode cX2_begin 25 = .ok (.aload_n 0, 1) := by decide +kernel
theorem dX2_begin_26 : decode cX2_begin 26 = .ok (.getfield 15, 3) := by decide +kernel
theorem dX2_begin_29 : decode cX2_begin 29 = .ok (.iconst 0, 1) := by decide +kernel
theorem dX2_begin_30 : decode cX2_begin 30 = .ok (.invokestatic 73, 3) := by decide +kernel
theorem dX2_begin_33 : decode cX2_begin 33 = .ok (.aload_n 0, 1) := by decide +kernel
theorem dX2_begin_34 : decode cX2_begin 34 = .ok (.iconst 0, 1) := by decide +kernel
theorem dX2_begin_35 : decode cX2_begin 35 = .ok (.putfield 33, 3) := by decide +kernel
theorem dX2_begin_38 : decode cX2_begin 38 = .ok (.iconst 0, 1) := by decide +kernel
theorem dX2_begin_39 : decode cX2_begin 39 = .ok (.istore_n 3, 1) := by decide +kernel
theorem dX2_begin_40 : decode cX2_begin 40 = .ok (.iload_n 3, 1) := by decide +kernel
theorem dX2_begin_41 : decode cX2_begin 41 = .ok (.iload_n 1, 1) := by decide +kernel
theorem dX2_begin_42 : decode cX2_begin 42 = .ok (.if_icmp .ge 20, 3) := by decide +kernel
theorem dX2_begin_45 : decode cX2_begin 45 = .ok (.aload_n 0, 1) := by decide +kernel
theorem dX2_begin_46 : decode cX2_begin 46 = .ok (.getfield 19, 3) := by decide +kernel
theorem dX2_begin_49 : decode cX2_begin 49 = .ok (.iload_n 3, 1) := by decide +kernel
theorem dX2_begin_50 : decode cX2_begin 50 = .ok (.aload_n 0, 1) := by decide +kernel
theorem dX2_begin_51 : decode cX2_begin 51 = .ok (.iload_n 3, 1) := by decide +kernel
theorem dX2_begin_52 : decode cX2_begin 52 = .ok (.invokevirtual 79, 3) := by decide +kernel
theorem dX2_begin_55 : decode cX2_begin 55 = .ok (.iastore, 1) := by decide +kernel
theorem dX2_begin_56 : decode cX2_begin 56 = .ok (.iinc 3 1, 3) := by decide +kernel
theorem dX2_begin_59 : decode cX2_begin 59 = .ok (.goto (-19), 3) := by decide +kernel
theorem dX2_begin_62 : decode cX2_begin 62 = .ok (.aload_n 0, 1) := by decide +kernel
theorem dX2_begin_63 : decode cX2_begin 63 = .ok (.iconst 0, 1) := by decide +kernel
theorem dX2_begin_64 : decode cX2_begin 64 = .ok (.iconst 0, 1) := by decide +kernel
theorem dX2_begin_65 : decode cX2_begin 65 = .ok (.iconst 0, 1) := by decide +kernel
theorem dX2_begin_66 : decode cX2_begin 66 = .ok (.invokevirtual 82, 3) := by decide +kernel
theorem dX2_begin_69 : decode cX2_begin 69 = .ok (.pop, 1) := by decide +kernel
theorem dX2_begin_70 : decode cX2_begin 70 = .ok (.return_, 1) := by decide +kernel
theorem dX2_inputTable_0 : decode cX2_inputTable 0 = .ok (.iconst 0, 1) := by decide +kernel
theorem dX2_inputTable_1 : decode cX2_inputTable 1 = .ok (.istore_n 2, 1) := by decide +kernel
theorem dX2_inputTable_2 : decode cX2_inputTable 2 = .ok (.iconst 0, 1) := by decide +kernel
theorem dX2_inputTable_3 : decode cX2_inputTable 3 = .ok (.istore_n 3, 1) := by decide +kernel
theorem dX2_inputTable_4 : decode cX2_inputTable 4 = .ok (.iload_n 3, 1) := by decide +kernel
theorem dX2_inputTable_5 : decode cX2_inputTable 5 = .ok (.aload_n 0, 1) := by decide +kernel
theorem dX2_inputTable_6 : decode cX2_inputTable 6 = .ok (.getfield 64, 3) := by decide +kernel
theorem dX2_inputTable_9 : decode cX2_inputTable 9 = .ok (.if_icmp .ge 19, 3) := by decide +kernel
theorem dX2_inputTable_12 : decode cX2_inputTable 12 = .ok (.iload_n 2, 1) := by decide +kernel
theorem dX2_inputTable_13 : decode cX2_inputTable 13 = .ok (.iload_n 3, 1) := by decide +kernel
theorem dX2_inputTable_14 : decode cX2_inputTable 14 = .ok (.iload_n 1, 1) := by decide +kernel
theorem dX2_inputTable_15 : decode cX2_inputTable 15 = .ok (.ishr, 1) := by decide +kernel
theorem dX2_inputTable_16 : decode cX2_inputTable 16 = .ok (.iconst 1, 1) := by decide +kernel
theorem dX2_inputTable_17 : decode cX2_inputTable 17 = .ok (.iand, 1) := by decide +kernel
theorem dX2_inputTable_18 : decode cX2_inputTable 18 = .ok (.iload_n 3, 1) := by decide +kernel
theorem dX2_inputTable_19 : decode cX2_inputTable 19 = .ok (.ishl, 1) := by decide +kernel
theorem dX2_inputTable_20 : decode cX2_inputTable 20 = .ok (.ior, 1) := by decide +kernel
theorem dX2_inputTable_21 : decode cX2_inputTable 21 = .ok (.istore_n 2, 1) := by decide +kernel
theorem dX2_inputTable_22 : decode cX2_inputTable 22 = .ok (.iinc 3 1, 3) := by decide +kernel
theorem dX2_inputTable_25 : decode cX2_inputTable 25 = .ok (.goto (-21), 3) := by decide +kernel
theorem dX2_inputTable_28 : decode cX2_inputTable 28 = .ok (.iload_n 2, 1) := by decide +kernel
theorem dX2_inputTable_29 : decode cX2_inputTable 29 = .ok (.ireturn, 1) := by decide +kernel
theorem dX2_shiftOf_0 : decode cX2_shiftOf 0 = .ok (.iload_n 1, 1) := by decide +kernel
theorem dX2_shiftOf_1 : decode cX2_shiftOf 1 = .ok (.aload_n 0, 1) := by decide +kernel
theorem dX2_shiftOf_2 : decode cX2_shiftOf 2 = .ok (.getfield 58, 3) := by decide +kernel
theorem dX2_shiftOf_5 : decode cX2_shiftOf 5 = .ok (.isub, 1) := by decide +kernel
theorem dX2_shiftOf_6 : decode cX2_shiftOf 6 = .ok (.aload_n 0, 1) := by decide +kernel
theorem dX2_shiftOf_7 : decode cX2_shiftOf 7 = .ok (.getfield 64, 3) := by decide +kernel
theorem dX2_shiftOf_10 : decode cX2_shiftOf 10 = .ok (.imul, 1) := by decide +kernel
theorem dX2_shiftOf_11 : decode cX2_shiftOf 11 = .ok (.ireturn, 1) := by decide +kernel
theorem dX2_openState_0 : decode cX2_openState 0 = .ok (.aload_n 0, 1) := by decide +kernel
theorem dX2_openState_1 : decode cX2_openState 1 = .ok (.getfield 58, 3) := by decide +kernel
theorem dX2_openState_4 : decode cX2_openState 4 = .ok (.istore_n 2, 1) := by decide +kernel
theorem dX2_openState_5 : decode cX2_openState 5 = .ok (.iload_n 2, 1) := by decide +kernel
theorem dX2_openState_6 : decode cX2_openState 6 = .ok (.aload_n 0, 1) := by decide +kernel
theorem dX2_openState_7 : decode cX2_openState 7 = .ok (.getfield 61, 3) := by decide +kernel
theorem dX2_openState_10 : decode cX2_openState 10 = .ok (.if_icmp .ge 27, 3) := by decide +kernel
theorem dX2_openState_13 : decode cX2_openState 13 = .ok (.aload_n 0, 1) := by decide +kernel
theorem dX2_openState_14 : decode cX2_openState 14 = .ok (.getfield 19, 3) := by decide +kernel
theorem dX2_openState_17 : decode cX2_openState 17 = .ok (.iload_n 2, 1) := by decide +kernel
theorem dX2_openState_18 : decode cX2_openState 18 = .ok (.iload_n 1, 1) := by decide +kernel
theorem dX2_openState_19 : decode cX2_openState 19 = .ok (.aload_n 0, 1) := by decide +kernel
theorem dX2_openState_20 : decode cX2_openState 20 = .ok (.iload_n 2, 1) := by decide +kernel
theorem dX2_openState_21 : decode cX2_openState 21 = .ok (.invokevirtual 86, 3) := by decide +kernel
theorem dX2_openState_24 : decode cX2_openState 24 = .ok (.ishr, 1) := by decide +kernel
theorem dX2_openState_25 : decode cX2_openState 25 = .ok (.aload_n 0, 1) := by decide +kernel
theorem dX2_openState_26 : decode cX2_openState 26 = .ok (.getfield 70, 3) := by decide +kernel
theorem dX2_openState_29 : decode cX2_openState 29 = .ok (.iand, 1) := by decide +kernel
theorem dX2_openState_30 : decode cX2_openState 30 = .ok (.iastore, 1) := by decide +kernel
theorem dX2_openState_31 : decode cX2_openState 31 = .ok (.iinc 2 1, 3) := by decide +kernel
theorem dX2_openState_34 : decode cX2_openState 34 = .ok (.goto (-29), 3) := by decide +kernel
theorem dX2_openState_37 : decode cX2_openState 37 = .ok (.return_, 1) := by decide +kernel
theorem dX2_cellWith_0 : decode cX2_cellWith 0 = .ok (.iconst 0, 1) := by decide +kernel
theorem dX2_cellWith_1 : decode cX2_cellWith 1 = .ok (.istore_n 2, 1) := by decide +kernel
theorem dX2_cellWith_2 : decode cX2_cellWith 2 = .ok (.iload_n 2, 1) := by decide +kernel
theorem dX2_cellWith_3 : decode cX2_cellWith 3 = .ok (.aload_n 0, 1) := by decide +kernel
theorem dX2_cellWith_4 : decode cX2_cellWith 4 = .ok (.getfield 61, 3) := by decide +kernel
theorem dX2_cellWith_7 : decode cX2_cellWith 7 = .ok (.if_icmp .ge 21, 3) := by decide +kernel
theorem dX2_cellWith_10 : decode cX2_cellWith 10 = .ok (.aload_n 0, 1) := by decide +kernel
theorem dX2_cellWith_11 : decode cX2_cellWith 11 = .ok (.getfield 19, 3) := by decide +kernel
theorem dX2_cellWith_14 : decode cX2_cellWith 14 = .ok (.iload_n 2, 1) := by decide +kernel
theorem dX2_cellWith_15 : decode cX2_cellWith 15 = .ok (.iaload, 1) := by decide +kernel
theorem dX2_cellWith_16 : decode cX2_cellWith 16 = .ok (.iload_n 1, 1) := by decide +kernel
theorem dX2_cellWith_17 : decode cX2_cellWith 17 = .ok (.if_icmp .ne 5, 3) := by decide +kernel
theorem dX2_cellWith_20 : decode cX2_cellWith 20 = .ok (.iload_n 2, 1) := by decide +kernel
theorem dX2_cellWith_21 : decode cX2_cellWith 21 = .ok (.ireturn, 1) := by decide +kernel
theorem dX2_cellWith_22 : decode cX2_cellWith 22 = .ok (.iinc 2 1, 3) := by decide +kernel
theorem dX2_cellWith_25 : decode cX2_cellWith 25 = .ok (.goto (-23), 3) := by decide +kernel
theorem dX2_cellWith_28 : decode cX2_cellWith 28 = .ok (.iconst (-1), 1) := by decide +kernel
theorem dX2_cellWith_29 : decode cX2_cellWith 29 = .ok (.ireturn, 1) := by decide +kernel
theorem dX2_meetAllFrom_0 : decode cX2_meetAllFrom 0 = .ok (.iconst 0, 1) := by decide +kernel
theorem dX2_meetAllFrom_1 : decode cX2_meetAllFrom 1 = .ok (.istore_n 2, 1) := by decide +kernel
theorem dX2_meetAllFrom_2 : decode cX2_meetAllFrom 2 = .ok (.iload_n 2, 1) := by decide +kernel
theorem dX2_meetAllFrom_3 : decode cX2_meetAllFrom 3 = .ok (.aload_n 0, 1) := by decide +kernel
theorem dX2_meetAllFrom_4 : decode cX2_meetAllFrom 4 = .ok (.getfield 61, 3) := by decide +kernel
theorem dX2_meetAllFrom_7 : decode cX2_meetAllFrom 7 = .ok (.if_icmp .ge 37, 3) := by decide +kernel
theorem dX2_meetAllFrom_10 : decode cX2_meetAllFrom 10 = .ok (.iload_n 2, 1) := by decide +kernel
theorem dX2_meetAllFrom_11 : decode cX2_meetAllFrom 11 = .ok (.istore_n 3, 1) := by decide +kernel
theorem dX2_meetAllFrom_12 : decode cX2_meetAllFrom 12 = .ok (.iload_n 3, 1) := by decide +kernel
theorem dX2_meetAllFrom_13 : decode cX2_meetAllFrom 13 = .ok (.aload_n 0, 1) := by decide +kernel
theorem dX2_meetAllFrom_14 : decode cX2_meetAllFrom 14 = .ok (.getfield 61, 3) := by decide +kernel
theorem dX2_meetAllFrom_17 : decode cX2_meetAllFrom 17 = .ok (.if_icmp .ge 21, 3) := by decide +kernel
theorem dX2_meetAllFrom_20 : decode cX2_meetAllFrom 20 = .ok (.aload_n 0, 1) := by decide +kernel
theorem dX2_meetAllFrom_21 : decode cX2_meetAllFrom 21 = .ok (.iload_n 1, 1) := by decide +kernel
theorem dX2_meetAllFrom_22 : decode cX2_meetAllFrom 22 = .ok (.iload_n 2, 1) := by decide +kernel
theorem dX2_meetAllFrom_23 : decode cX2_meetAllFrom 23 = .ok (.iload_n 3, 1) := by decide +kernel
theorem dX2_meetAllFrom_24 : decode cX2_meetAllFrom 24 = .ok (.invokevirtual 89, 3) := by decide +kernel
theorem dX2_meetAllFrom_27 : decode cX2_meetAllFrom 27 = .ok (.ifCond .ne 5, 3) := by decide +kernel
theorem dX2_meetAllFrom_30 : decode cX2_meetAllFrom 30 = .ok (.iconst 0, 1) := by decide +kernel
theorem dX2_meetAllFrom_31 : decode cX2_meetAllFrom 31 = .ok (.ireturn, 1) := by decide +kernel
theorem dX2_meetAllFrom_32 : decode cX2_meetAllFrom 32 = .ok (.iinc 3 1, 3) := by decide +kernel
theorem dX2_meetAllFrom_35 : decode cX2_meetAllFrom 35 = .ok (.goto (-23), 3) := by decide +kernel
theorem dX2_meetAllFrom_38 : decode cX2_meetAllFrom 38 = .ok (.iinc 2 1, 3) := by decide +kernel
theorem dX2_meetAllFrom_41 : decode cX2_meetAllFrom 41 = .ok (.goto (-39), 3) := by decide +kernel
theorem dX2_meetAllFrom_44 : decode cX2_meetAllFrom 44 = .ok (.iconst 1, 1) := by decide +kernel
theorem dX2_meetAllFrom_45 : decode cX2_meetAllFrom 45 = .ok (.ireturn, 1) := by decide +kernel
theorem dX2_meetByActs_0 : decode cX2_meetByActs 0 = .ok (.aload_n 0, 1) := by decide +kernel
theorem dX2_meetByActs_1 : decode cX2_meetByActs 1 = .ok (.getfield 19, 3) := by decide +kernel
theorem dX2_meetByActs_4 : decode cX2_meetByActs 4 = .ok (.iload_n 2, 1) := by decide +kernel
theorem dX2_meetByActs_5 : decode cX2_meetByActs 5 = .ok (.iaload, 1) := by decide +kernel
theorem dX2_meetByActs_6 : decode cX2_meetByActs 6 = .ok (.aload_n 0, 1) := by decide +kernel
theorem dX2_meetByActs_7 : decode cX2_meetByActs 7 = .ok (.getfield 19, 3) := by decide +kernel
theorem dX2_meetByActs_10 : decode cX2_meetByActs 10 = .ok (.iload_n 3, 1) := by decide +kernel
theorem dX2_meetByActs_11 : decode cX2_meetByActs 11 = .ok (.iaload, 1) := by decide +kernel
theorem dX2_meetByActs_12 : decode cX2_meetByActs 12 = .ok (.ior, 1) := by decide +kernel
theorem dX2_meetByActs_13 : decode cX2_meetByActs 13 = .ok (.iconst (-1), 1) := by decide +kernel
theorem dX2_meetByActs_14 : decode cX2_meetByActs 14 = .ok (.ixor, 1) := by decide +kernel
theorem dX2_meetByActs_15 : decode cX2_meetByActs 15 = .ok (.aload_n 0, 1) := by decide +kernel
theorem dX2_meetByActs_16 : decode cX2_meetByActs 16 = .ok (.getfield 70, 3) := by decide +kernel
theorem dX2_meetByActs_19 : decode cX2_meetByActs 19 = .ok (.iand, 1) := by decide +kernel
theorem dX2_meetByActs_20 : decode cX2_meetByActs 20 = .ok (.istore 4, 2) := by decide +kernel
theorem dX2_meetByActs_22 : decode cX2_meetByActs 22 = .ok (.aload_n 0, 1) := by decide +kernel
theorem dX2_meetByActs_23 : decode cX2_meetByActs 23 = .ok (.getfield 58, 3) := by decide +kernel
theorem dX2_meetByActs_26 : decode cX2_meetByActs 26 = .ok (.istore 5, 2) := by decide +kernel
theorem dX2_meetByActs_28 : decode cX2_meetByActs 28 = .ok (.iload 5, 2) := by decide +kernel
theorem dX2_meetByActs_30 : decode cX2_meetByActs 30 = .ok (.aload_n 0, 1) := by decide +kernel
theorem dX2_meetByActs_31 : decode cX2_meetByActs 31 = .ok (.getfield 61, 3) := by decide +kernel
theorem dX2_meetByActs_34 : decode cX2_meetByActs 34 = .ok (.if_icmp .ge 75, 3) := by decide +kernel
theorem dX2_meetByActs_37 : decode cX2_meetByActs 37 = .ok (.iload 5, 2) := by decide +kernel
theorem dX2_meetByActs_39 : decode cX2_meetByActs 39 = .ok (.iload_n 2, 1) := by decide +kernel
theorem dX2_meetByActs_40 : decode cX2_meetByActs 40 = .ok (.if_icmp .eq 63, 3) := by decide +kernel
theorem dX2_meetByActs_43 : decode cX2_meetByActs 43 = .ok (.iload 5, 2) := by decide +kernel
theorem dX2_meetByActs_45 : decode cX2_meetByActs 45 = .ok (.iload_n 3, 1) := by decide +kernel
theorem dX2_meetByActs_46 : decode cX2_meetByActs 46 = .ok (.if_icmp .eq 57, 3) := by decide +kernel
theorem dX2_meetByActs_49 : decode cX2_meetByActs 49 = .ok (.aload_n 0, 1) := by decide +kernel
theorem dX2_meetByActs_50 : decode cX2_meetByActs 50 = .ok (.getfield 9, 3) := by decide +kernel
theorem dX2_meetByActs_53 : decode cX2_meetByActs 53 = .ok (.iload_n 1, 1) := by decide +kernel
theorem dX2_meetByActs_54 : decode cX2_meetByActs 54 = .ok (.laload, 1) := by decide +kernel
theorem dX2_meetByActs_55 : decode cX2_meetByActs 55 = .ok (.invokestatic 36, 3) := by decide +kernel
theorem dX2_meetByActs_58 : decode cX2_meetByActs 58 = .ok (.aload_n 0, 1) := by decide +kernel
theorem dX2_meetByActs_59 : decode cX2_meetByActs 59 = .ok (.getfield 70, 3) := by decide +kernel
theorem dX2_meetByActs_62 : decode cX2_meetByActs 62 = .ok (.aload_n 0, 1) := by decide +kernel
theorem dX2_meetByActs_63 : decode cX2_meetByActs 63 = .ok (.iload 5, 2) := by decide +kernel
theorem dX2_meetByActs_65 : decode cX2_meetByActs 65 = .ok (.invokevirtual 86, 3) := by decide +kernel
theorem dX2_meetByActs_68 : decode cX2_meetByActs 68 = .ok (.ishl, 1) := by decide +kernel
theorem dX2_meetByActs_69 : decode cX2_meetByActs 69 = .ok (.iconst (-1), 1) := by decide +kernel
theorem dX2_meetByActs_70 : decode cX2_meetByActs 70 = .ok (.ixor, 1) := by decide +kernel
theorem dX2_meetByActs_71 : decode cX2_meetByActs 71 = .ok (.iand, 1) := by decide +kernel
theorem dX2_meetByActs_72 : decode cX2_meetByActs 72 = .ok (.istore 6, 2) := by decide +kernel
theorem dX2_meetByActs_74 : decode cX2_meetByActs 74 = .ok (.aload_n 0, 1) := by decide +kernel
theorem dX2_meetByActs_75 : decode cX2_meetByActs 75 = .ok (.iload 6, 2) := by decide +kernel
theorem dX2_meetByActs_77 : decode cX2_meetByActs 77 = .ok (.iload 4, 2) := by decide +kernel
theorem dX2_meetByActs_79 : decode cX2_meetByActs 79 = .ok (.aload_n 0, 1) := by decide +kernel
theorem dX2_meetByActs_80 : decode cX2_meetByActs 80 = .ok (.iload 5, 2) := by decide +kernel
theorem dX2_meetByActs_82 : decode cX2_meetByActs 82 = .ok (.invokevirtual 86, 3) := by decide +kernel
theorem dX2_meetByActs_85 : decode cX2_meetByActs 85 = .ok (.ishl, 1) := by decide +kernel
theorem dX2_meetByActs_86 : decode cX2_meetByActs 86 = .ok (.ior, 1) := by decide +kernel
theorem dX2_meetByActs_87 : decode cX2_meetByActs 87 = .ok (.iload_n 1, 1) := by decide +kernel
theorem dX2_meetByActs_88 : decode cX2_meetByActs 88 = .ok (.iload_n 2, 1) := by decide +kernel
theorem dX2_meetByActs_89 : decode cX2_meetByActs 89 = .ok (.iload_n 3, 1) := by decide +kernel
theorem dX2_meetByActs_90 : decode cX2_meetByActs 90 = .ok (.iload 5, 2) := by decide +kernel
theorem dX2_meetByActs_92 : decode cX2_meetByActs 92 = .ok (.invokestatic 92, 3) := by decide +kernel
theorem dX2_meetByActs_95 : decode cX2_meetByActs 95 = .ok (.invokevirtual 82, 3) := by decide +kernel
theorem dX2_meetByActs_98 : decode cX2_meetByActs 98 = .ok (.ifCond .ne 5, 3) := by decide +kernel
theorem dX2_meetByActs_101 : decode cX2_meetByActs 101 = .ok (.iconst 0, 1) := by decide +kernel
theorem dX2_meetByActs_102 : decode cX2_meetByActs 102 = .ok (.ireturn, 1) := by decide +kernel
theorem dX2_meetByActs_103 : decode cX2_meetByActs 103 = .ok (.iinc 5 1, 3) := by decide +kernel
theorem dX2_meetByActs_106 : decode cX2_meetByActs 106 = .ok (.goto (-78), 3) := by decide +kernel
theorem dX2_meetByActs_109 : decode cX2_meetByActs 109 = .ok (.iconst 1, 1) := by decide +kernel
theorem dX2_meetByActs_110 : decode cX2_meetByActs 110 = .ok (.ireturn, 1) := by decide +kernel
theorem dX2_meet_0 : decode cX2_meet 0 = .ok (.iload_n 1, 1) := by decide +kernel
theorem dX2_meet_1 : decode cX2_meet 1 = .ok (.iconst 5, 1) := by decide +kernel
theorem dX2_meet_2 : decode cX2_meet 2 = .ok (.ishr, 1) := by decide +kernel
theorem dX2_meet_3 : decode cX2_meet 3 = .ok (.istore 4, 2) := by decide +kernel
theorem dX2_meet_5 : decode cX2_meet 5 = .ok (.iconst 1, 1) := by decide +kernel
theorem dX2_meet_6 : decode cX2_meet 6 = .ok (.iload_n 1, 1) := by decide +kernel
theorem dX2_meet_7 : decode cX2_meet 7 = .ok (.bipush 31, 2) := by decide +kernel
theorem dX2_meet_9 : decode cX2_meet 9 = .ok (.iand, 1) := by decide +kernel
theorem dX2_meet_10 : decode cX2_meet 10 = .ok (.ishl, 1) := by decide +kernel
theorem dX2_meet_11 : decode cX2_meet 11 = .ok (.istore 5, 2) := by decide +kernel
theorem dX2_meet_13 : decode cX2_meet 13 = .ok (.aload_n 0, 1) := by decide +kernel
theorem dX2_meet_14 : decode cX2_meet 14 = .ok (.getfield 15, 3) := by decide +kernel
theorem dX2_meet_17 : decode cX2_meet 17 = .ok (.iload 4, 2) := by decide +kernel
theorem dX2_meet_19 : decode cX2_meet 19 = .ok (.iaload, 1) := by decide +kernel
theorem dX2_meet_20 : decode cX2_meet 20 = .ok (.iload 5, 2) := by decide +kernel
theorem dX2_meet_22 : decode cX2_meet 22 = .ok (.iand, 1) := by decide +kernel
theorem dX2_meet_23 : decode cX2_meet 23 = .ok (.ifCond .eq 5, 3) := by decide +kernel
theorem dX2_meet_26 : decode cX2_meet 26 = .ok (.iconst 1, 1) := by decide +kernel
theorem dX2_meet_27 : decode cX2_meet 27 = .ok (.ireturn, 1) := by decide +kernel
theorem dX2_meet_28 : decode cX2_meet 28 = .ok (.aload_n 0, 1) := by decide +kernel
theorem dX2_meet_29 : decode cX2_meet 29 = .ok (.getfield 33, 3) := by decide +kernel
theorem dX2_meet_32 : decode cX2_meet 32 = .ok (.sipush 8000, 3) := by decide +kernel
theorem dX2_meet_35 : decode cX2_meet 35 = .ok (.if_icmp .lt 5, 3) := by decide +kernel
theorem dX2_meet_38 : decode cX2_meet 38 = .ok (.iconst 0, 1) := by decide +kernel
theorem dX2_meet_39 : decode cX2_meet 39 = .ok (.ireturn, 1) := by decide +kernel
theorem dX2_meet_40 : decode cX2_meet 40 = .ok (.aload_n 0, 1) := by decide +kernel
theorem dX2_meet_41 : decode cX2_meet 41 = .ok (.getfield 15, 3) := by decide +kernel
theorem dX2_meet_44 : decode cX2_meet 44 = .ok (.iload 4, 2) := by decide +kernel
theorem dX2_meet_46 : decode cX2_meet 46 = .ok (.dup2, 1) := by decide +kernel
theorem dX2_meet_47 : decode cX2_meet 47 = .ok (.iaload, 1) := by decide +kernel
theorem dX2_meet_48 : decode cX2_meet 48 = .ok (.iload 5, 2) := by decide +kernel
theorem dX2_meet_50 : decode cX2_meet 50 = .ok (.ior, 1) := by decide +kernel
theorem dX2_meet_51 : decode cX2_meet 51 = .ok (.iastore, 1) := by decide +kernel
theorem dX2_meet_52 : decode cX2_meet 52 = .ok (.aload_n 0, 1) := by decide +kernel
theorem dX2_meet_53 : decode cX2_meet 53 = .ok (.getfield 9, 3) := by decide +kernel
theorem dX2_meet_56 : decode cX2_meet 56 = .ok (.aload_n 0, 1) := by decide +kernel
theorem dX2_meet_57 : decode cX2_meet 57 = .ok (.getfield 33, 3) := by decide +kernel
theorem dX2_meet_60 : decode cX2_meet 60 = .ok (.iload_n 1, 1) := by decide +kernel
theorem dX2_meet_61 : decode cX2_meet 61 = .ok (.iload_n 2, 1) := by decide +kernel
theorem dX2_meet_62 : decode cX2_meet 62 = .ok (.iload_n 3, 1) := by decide +kernel
theorem dX2_meet_63 : decode cX2_meet 63 = .ok (.invokestatic 96, 3) := by decide +kernel
theorem dX2_meet_66 : decode cX2_meet 66 = .ok (.lastore, 1) := by decide +kernel
theorem dX2_meet_67 : decode cX2_meet 67 = .ok (.aload_n 0, 1) := by decide +kernel
theorem dX2_meet_68 : decode cX2_meet 68 = .ok (.dup, 1) := by decide +kernel
theorem dX2_meet_69 : decode cX2_meet 69 = .ok (.getfield 33, 3) := by decide +kernel
theorem dX2_meet_72 : decode cX2_meet 72 = .ok (.iconst 1, 1) := by decide +kernel
theorem dX2_meet_73 : decode cX2_meet 73 = .ok (.iadd, 1) := by decide +kernel
theorem dX2_meet_74 : decode cX2_meet 74 = .ok (.putfield 33, 3) := by decide +kernel
theorem dX2_meet_77 : decode cX2_meet 77 = .ok (.iconst 1, 1) := by decide +kernel
theorem dX2_meet_78 : decode cX2_meet 78 = .ok (.ireturn, 1) := by decide +kernel
theorem dX2_keep_0 : decode cX2_keep 0 = .ok (.aload_n 0, 1) := by decide +kernel
theorem dX2_keep_1 : decode cX2_keep 1 = .ok (.iload_n 2, 1) := by decide +kernel
theorem dX2_keep_2 : decode cX2_keep 2 = .ok (.putfield 25, 3) := by decide +kernel
theorem dX2_keep_5 : decode cX2_keep 5 = .ok (.aload_n 0, 1) := by decide +kernel
theorem dX2_keep_6 : decode cX2_keep 6 = .ok (.iconst 0, 1) := by decide +kernel
theorem dX2_keep_7 : decode cX2_keep 7 = .ok (.putfield 51, 3) := by decide +kernel
theorem dX2_keep_10 : decode cX2_keep 10 = .ok (.iload_n 1, 1) := by decide +kernel
theorem dX2_keep_11 : decode cX2_keep 11 = .ok (.istore_n 3, 1) := by decide +kernel
theorem dX2_keep_12 : decode cX2_keep 12 = .ok (.iload_n 3, 1) := by decide +kernel
theorem dX2_keep_13 : decode cX2_keep 13 = .ok (.ifCond .le 36, 3) := by decide +kernel
theorem dX2_keep_16 : decode cX2_keep 16 = .ok (.aload_n 0, 1) := by decide +kernel
theorem dX2_keep_17 : decode cX2_keep 17 = .ok (.getfield 51, 3) := by decide +kernel
theorem dX2_keep_20 : decode cX2_keep 20 = .ok (.sipush 8000, 3) := by decide +kernel
theorem dX2_keep_23 : decode cX2_keep 23 = .ok (.if_icmp .ge 26, 3) := by decide +kernel
theorem dX2_keep_26 : decode cX2_keep 26 = .ok (.aload_n 0, 1) := by decide +kernel
theorem dX2_keep_27 : decode cX2_keep 27 = .ok (.dup, 1) := by decide +kernel
theorem dX2_keep_28 : decode cX2_keep 28 = .ok (.getfield 51, 3) := by decide +kernel
theorem dX2_keep_31 : decode cX2_keep 31 = .ok (.iconst 1, 1) := by decide +kernel
theorem dX2_keep_32 : decode cX2_keep 32 = .ok (.iadd, 1) := by decide +kernel
theorem dX2_keep_33 : decode cX2_keep 33 = .ok (.putfield 51, 3) := by decide +kernel
theorem dX2_keep_36 : decode cX2_keep 36 = .ok (.aload_n 0, 1) := by decide +kernel
theorem dX2_keep_37 : decode cX2_keep 37 = .ok (.getfield 9, 3) := by decide +kernel
theorem dX2_keep_40 : decode cX2_keep 40 = .ok (.iload_n 3, 1) := by decide +kernel
theorem dX2_keep_41 : decode cX2_keep 41 = .ok (.laload, 1) := by decide +kernel
theorem dX2_keep_42 : decode cX2_keep 42 = .ok (.invokestatic 100, 3) := by decide +kernel
theorem dX2_keep_45 : decode cX2_keep 45 = .ok (.istore_n 3, 1) := by decide +kernel
theorem dX2_keep_46 : decode cX2_keep 46 = .ok (.goto (-34), 3) := by decide +kernel
theorem dX2_keep_49 : decode cX2_keep 49 = .ok (.aload_n 0, 1) := by decide +kernel
theorem dX2_keep_50 : decode cX2_keep 50 = .ok (.getfield 51, 3) := by decide +kernel
theorem dX2_keep_53 : decode cX2_keep 53 = .ok (.aload_n 0, 1) := by decide +kernel
theorem dX2_keep_54 : decode cX2_keep 54 = .ok (.getfield 22, 3) := by decide +kernel
theorem dX2_keep_57 : decode cX2_keep 57 = .ok (.arraylength, 1) := by decide +kernel
theorem dX2_keep_58 : decode cX2_keep 58 = .ok (.if_icmp .le 13, 3) := by decide +kernel
theorem dX2_keep_61 : decode cX2_keep 61 = .ok (.aload_n 0, 1) := by decide +kernel
theorem dX2_keep_62 : decode cX2_keep 62 = .ok (.aload_n 0, 1) := by decide +kernel
theorem dX2_keep_63 : decode cX2_keep 63 = .ok (.getfield 51, 3) := by decide +kernel
theorem dX2_keep_66 : decode cX2_keep 66 = .ok (.newarray .int, 2) := by decide +kernel
theorem dX2_keep_68 : decode cX2_keep 68 = .ok (.putfield 22, 3) := by decide +kernel
theorem dX2_keep_71 : decode cX2_keep 71 = .ok (.aload_n 0, 1) := by decide +kernel
theorem dX2_keep_72 : decode cX2_keep 72 = .ok (.getfield 51, 3) := by decide +kernel
theorem dX2_keep_75 : decode cX2_keep 75 = .ok (.iconst 1, 1) := by decide +kernel
theorem dX2_keep_76 : decode cX2_keep 76 = .ok (.isub, 1) := by decide +kernel
theorem dX2_keep_77 : decode cX2_keep 77 = .ok (.istore_n 3, 1) := by decide +kernel
theorem dX2_keep_78 : decode cX2_keep 78 = .ok (.iload_n 1, 1) := by decide +kernel
theorem dX2_keep_79 : decode cX2_keep 79 = .ok (.istore 4, 2) := by decide +kernel
theorem dX2_keep_81 : decode cX2_keep 81 = .ok (.iload 4, 2) := by decide +kernel
theorem dX2_keep_83 : decode cX2_keep 83 = .ok (.ifCond .le 41, 3) := by decide +kernel
theorem dX2_keep_86 : decode cX2_keep 86 = .ok (.iload_n 3, 1) := by decide +kernel
theorem dX2_keep_87 : decode cX2_keep 87 = .ok (.ifCond .lt 37, 3) := by decide +kernel
theorem dX2_keep_90 : decode cX2_keep 90 = .ok (.aload_n 0, 1) := by decide +kernel
theorem dX2_keep_91 : decode cX2_keep 91 = .ok (.getfield 22, 3) := by decide +kernel
theorem dX2_keep_94 : decode cX2_keep 94 = .ok (.iload_n 3, 1) := by decide +kernel
theorem dX2_keep_95 : decode cX2_keep 95 = .ok (.aload_n 0, 1) := by decide +kernel
theorem dX2_keep_96 : decode cX2_keep 96 = .ok (.getfield 9, 3) := by decide +kernel
theorem dX2_keep_99 : decode cX2_keep 99 = .ok (.iload 4, 2) := by decide +kernel
theorem dX2_keep_101 : decode cX2_keep 101 = .ok (.laload, 1) := by decide +kernel
theorem dX2_keep_102 : decode cX2_keep 102 = .ok (.invokestatic 103, 3) := by decide +kernel
theorem dX2_keep_105 : decode cX2_keep 105 = .ok (.iastore, 1) := by decide +kernel
theorem dX2_keep_106 : decode cX2_keep 106 = .ok (.iinc 3 (-1), 3) := by decide +kernel
theorem dX2_keep_109 : decode cX2_keep 109 = .ok (.aload_n 0, 1) := by decide +kernel
theorem dX2_keep_110 : decode cX2_keep 110 = .ok (.getfield 9, 3) := by decide +kernel
theorem dX2_keep_113 : decode cX2_keep 113 = .ok (.iload 4, 2) := by decide +kernel
theorem dX2_keep_115 : decode cX2_keep 115 = .ok (.laload, 1) := by decide +kernel
theorem dX2_keep_116 : decode cX2_keep 116 = .ok (.invokestatic 100, 3) := by decide +kernel
theorem dX2_keep_119 : decode cX2_keep 119 = .ok (.istore 4, 2) := by decide +kernel
theorem dX2_keep_121 : decode cX2_keep 121 = .ok (.goto (-40), 3) := by decide +kernel
theorem dX2_keep_124 : decode cX2_keep 124 = .ok (.return_, 1) := by decide +kernel
theorem dX2_addTo_0 : decode cX2_addTo 0 = .ok (.lload_n 1, 1) := by decide +kernel
theorem dX2_addTo_1 : decode cX2_addTo 1 = .ok (.lstore_n 3, 1) := by decide +kernel
theorem dX2_addTo_2 : decode cX2_addTo 2 = .ok (.iconst 0, 1) := by decide +kernel
theorem dX2_addTo_3 : decode cX2_addTo 3 = .ok (.istore 5, 2) := by decide +kernel
theorem dX2_addTo_5 : decode cX2_addTo 5 = .ok (.iload 5, 2) := by decide +kernel
theorem dX2_addTo_7 : decode cX2_addTo 7 = .ok (.aload_n 0, 1) := by decide +kernel
theorem dX2_addTo_8 : decode cX2_addTo 8 = .ok (.getfield 51, 3) := by decide +kernel
theorem dX2_addTo_11 : decode cX2_addTo 11 = .ok (.if_icmp .ge 44, 3) := by decide +kernel
theorem dX2_addTo_14 : decode cX2_addTo 14 = .ok (.iconst 0, 1) := by decide +kernel
theorem dX2_addTo_15 : decode cX2_addTo 15 = .ok (.istore 6, 2) := by decide +kernel
theorem dX2_addTo_17 : decode cX2_addTo 17 = .ok (.iload 6, 2) := by decide +kernel
theorem dX2_addTo_19 : decode cX2_addTo 19 = .ok (.iconst 2, 1) := by decide +kernel
theorem dX2_addTo_20 : decode cX2_addTo 20 = .ok (.if_icmp .gt 29, 3) := by decide +kernel
theorem dX2_addTo_23 : decode cX2_addTo 23 = .ok (.ldc2_w 106, 3) := by decide +kernel
theorem dX2_addTo_26 : decode cX2_addTo 26 = .ok (.lload_n 3, 1) := by decide +kernel
theorem dX2_addTo_27 : decode cX2_addTo 27 = .ok (.lmul, 1) := by decide +kernel
theorem dX2_addTo_28 : decode cX2_addTo 28 = .ok (.aload_n 0, 1) := by decide +kernel
theorem dX2_addTo_29 : decode cX2_addTo 29 = .ok (.getfield 22, 3) := by decide +kernel
theorem dX2_addTo_32 : decode cX2_addTo 32 = .ok (.iload 5, 2) := by decide +kernel
theorem dX2_addTo_34 : decode cX2_addTo 34 = .ok (.iaload, 1) := by decide +kernel
theorem dX2_addTo_35 : decode cX2_addTo 35 = .ok (.iload 6, 2) := by decide +kernel
theorem dX2_addTo_37 : decode cX2_addTo 37 = .ok (.invokestatic 108, 3) := by decide +kernel
theorem dX2_addTo_40 : decode cX2_addTo 40 = .ok (.i2l, 1) := by decide +kernel
theorem dX2_addTo_41 : decode cX2_addTo 41 = .ok (.ladd, 1) := by decide +kernel
theorem dX2_addTo_42 : decode cX2_addTo 42 = .ok (.lstore_n 3, 1) := by decide +kernel
theorem dX2_addTo_43 : decode cX2_addTo 43 = .ok (.iinc 6 1, 3) := by decide +kernel
theorem dX2_addTo_46 : decode cX2_addTo 46 = .ok (.goto (-29), 3) := by decide +kernel
theorem dX2_addTo_49 : decode cX2_addTo 49 = .ok (.iinc 5 1, 3) := by decide +kernel
theorem dX2_addTo_52 : decode cX2_addTo 52 = .ok (.goto (-47), 3) := by decide +kernel
theorem dX2_addTo_55 : decode cX2_addTo 55 = .ok (.lload_n 3, 1) := by decide +kernel
theorem dX2_addTo_56 : decode cX2_addTo 56 = .ok (.lreturn, 1) := by decide +kernel
theorem dX3_init_0 : decode cX3_init 0 = .ok (.aload_n 0, 1) := by decide +kernel
theorem dX3_init_1 : decode cX3_init 1 = .ok (.invokespecial 3, 3) := by decide +kernel
theorem dX3_init_4 : decode cX3_init 4 = .ok (.aload_n 0, 1) := by decide +kernel
theorem dX3_init_5 : decode cX3_init 5 = .ok (.bipush 96, 2) := by decide +kernel
theorem dX3_init_7 : decode cX3_init 7 = .ok (.newarray .int, 2) := by decide +kernel
theorem dX3_init_9 : decode cX3_init 9 = .ok (.putfield 9, 3) := by decide +kernel
theorem dX3_init_12 : decode cX3_init 12 = .ok (.aload_n 0, 1) := by decide +kernel
theorem dX3_init_13 : decode cX3_init 13 = .ok (.bipush 8, 2) := by decide +kernel
theorem dX3_init_15 : decode cX3_init 15 = .ok (.newarray .int, 2) := by decide +kernel
theorem dX3_init_17 : decode cX3_init 17 = .ok (.putfield 15, 3) := by decide +kernel
theorem dX3_init_20 : decode cX3_init 20 = .ok (.aload_n 0, 1) := by decide +kernel
theorem dX3_init_21 : decode cX3_init 21 = .ok (.bipush 24, 2) := by decide +kernel
theorem dX3_init_23 : decode cX3_init 23 = .ok (.newarray .int, 2) := by decide +kernel
theorem dX3_init_25 : decode cX3_init 25 = .ok (.putfield 18, 3) := by decide +kernel
theorem dX3_init_28 : decode cX3_init 28 = .ok (.aload_n 0, 1) := by decide +kernel
theorem dX3_init_29 : decode cX3_init 29 = .ok (.bipush 64, 2) := by decide +kernel
theorem dX3_init_31 : decode cX3_init 31 = .ok (.newarray .int, 2) := by decide +kernel
theorem dX3_init_33 : decode cX3_init 33 = .ok (.putfield 21, 3) := by decide +kernel
theorem dX3_init_36 : decode cX3_init 36 = .ok (.aload_n 0, 1) := by decide +kernel
theorem dX3_init_37 : decode cX3_init 37 = .ok (.sipush 256, 3) := by decide +kernel
theorem dX3_init_40 : decode cX3_init 40 = .ok (.newarray .int, 2) := by decide +kernel
theorem dX3_init_42 : decode cX3_init 42 = .ok (.putfield 24, 3) := by decide +kernel
theorem dX3_init_45 : decode cX3_init 45 = .ok (.aload_n 0, 1) := by decide +kernel
theorem dX3_init_46 : decode cX3_init 46 = .ok (.aload_n 1, 1) := by decide +kernel
theorem dX3_init_47 : decode cX3_init 47 = .ok (.putfield 27, 3) := by decide +kernel
theorem dX3_init_50 : decode cX3_init 50 = .ok (.return_, 1) := by decide +kernel
theorem dX3_exists_0 : decode cX3_exists 0 = .ok (.aload_n 0, 1) := by decide +kernel
theorem dX3_exists_1 : decode cX3_exists 1 = .ok (.getfield 31, 3) := by decide +kernel
theorem dX3_exists_4 : decode cX3_exists 4 = .ok (.ifCond .le 7, 3) := by decide +kernel
theorem dX3_exists_7 : decode cX3_exists 7 = .ok (.iconst 1, 1) := by decide +kernel
theorem dX3_exists_8 : decode cX3_exists 8 = .ok (.goto 4, 3) := by decide +kernel
theorem dX3_exists_11 : decode cX3_exists 11 = .ok (.iconst 0, 1) := by decide +kernel
theorem dX3_exists_12 : decode cX3_exists 12 = .ok (.ireturn, 1) := by decide +kernel
theorem dX3_drop_0 : decode cX3_drop 0 = .ok (.aload_n 0, 1) := by decide +kernel
theorem dX3_drop_1 : decode cX3_drop 1 = .ok (.iconst 0, 1) := by decide +kernel
theorem dX3_drop_2 : decode cX3_drop 2 = .ok (.putfield 31, 3) := by decide +kernel
theorem dX3_drop_5 : decode cX3_drop 5 = .ok (.aload_n 0, 1) := by decide +kernel
theorem dX3_drop_6 : decode cX3_drop 6 = .ok (.iconst 0, 1) := by decide +kernel
theorem dX3_drop_7 : decode cX3_drop 7 = .ok (.putfield 35, 3) := by decide +kernel
theorem dX3_drop_10 : decode cX3_drop 10 = .ok (.aload_n 0, 1) := by decide +kernel
theorem dX3_drop_11 : decode cX3_drop 11 = .ok (.iconst 0, 1) := by decide +kernel
theorem dX3_drop_12 : decode cX3_drop 12 = .ok (.putfield 38, 3) := by decide +kernel
theorem dX3_drop_15 : decode cX3_drop 15 = .ok (.aload_n 0, 1) := by decide +kernel
theorem dX3_drop_16 : decode cX3_drop 16 = .ok (.iconst 0, 1) := by decide +kernel
theorem dX3_drop_17 : decode cX3_drop 17 = .ok (.putfield 41, 3) := by decide +kernel
theorem dX3_drop_20 : decode cX3_drop 20 = .ok (.return_, 1) := by decide +kernel
theorem dX3_begin_0 : decode cX3_begin 0 = .ok (.aload_n 0, 1) := by decide +kernel
theorem dX3_begin_1 : decode cX3_begin 1 = .ok (.iload_n 1, 1) := by decide +kernel
theorem dX3_begin_2 : decode cX3_begin 2 = .ok (.putfield 31, 3) := by decide +kernel
theorem dX3_begin_5 : decode cX3_begin 5 = .ok (.aload_n 0, 1) := by decide +kernel
theorem dX3_begin_6 : decode cX3_begin 6 = .ok (.iload_n 2, 1) := by decide +kernel
theorem dX3_begin_7 : decode cX3_begin 7 = .ok (.putfield 35, 3) := by decide +kernel
theorem dX3_begin_10 : decode cX3_begin 10 = .ok (.aload_n 0, 1) := by decide +kernel
theorem dX3_begin_11 : decode cX3_begin 11 = .ok (.iload_n 3, 1) := by decide +kernel
theorem dX3_begin_12 : decode cX3_begin 12 = .ok (.putfield 38, 3) := by decide +kernel
theorem dX3_begin_15 : decode cX3_begin 15 = .ok (.aload_n 0, 1) := by decide +kernel
theorem dX3_begin_16 : decode cX3_begin 16 = .ok (.aload_n 0, 1) := by decide +kernel
theorem dX3_begin_17 : decode cX3_begin 17 = .ok (.invokevirtual 45, 3) := by decide +kernel
theorem dX3_begin_20 : decode cX3_begin 20 = .ok (.iload_n 3, 1) := by decide +kernel
theorem dX3_begin_21 : decode cX3_begin 21 = .ok (.invokestatic 49, 3) := by decide +kernel
theorem dX3_begin_24 : decode cX3_begin 24 = .ok (.iconst 1, 1) := by decide +kernel
theorem dX3_begin_25 : decode cX3_begin 25 = .ok (.isub, 1) := by decide +kernel
theorem dX3_begin_26 : decode cX3_begin 26 = .ok (.putfield 53, 3) := by decide +kernel
theorem dX3_begin_29 : decode cX3_begin 29 = .ok (.aload_n 0, 1) := by decide +kernel
theorem dX3_begin_30 : decode cX3_begin 30 = .ok (.iconst 0, 1) := by decide +kernel
theorem dX3_begin_31 : decode cX3_begin 31 = .ok (.putfield 41, 3) := by decide +kernel
theorem dX3_begin_34 : decode cX3_begin 34 = .ok (.aload_n 0, 1) := by decide +kernel
theorem dX3_begin_35 : decode cX3_begin 35 = .ok (.getfield 9, 3) := by decide +kernel
theorem dX3_begin_38 : decode cX3_begin 38 = .ok (.iconst 0, 1) := by decide +kernel
theorem dX3_begin_39 : decode cX3_begin 39 = .ok (.invokestatic 56, 3) := by decide +kernel
theorem dX3_begin_42 : decode cX3_begin 42 = .ok (.iconst 0, 1) := by decide +kernel
theorem dX3_begin_43 : decode cX3_begin 43 = .ok (.istore 4, 2) := by decide +kernel
theorem dX3_begin_45 : decode cX3_begin 45 = .ok (.iload 4, 2) := by decide +kernel
theorem dX3_begin_47 : decode cX3_begin 47 = .ok (.bipush 8, 2) := by decide +kernel
theorem dX3_begin_49 : decode cX3_begin 49 = .ok (.if_icmp .ge 18, 3) := by decide +kernel
theorem dX3_begin_52 : decode cX3_begin 52 = .ok (.aload_n 0, 1) := by decide +kernel
theorem dX3_begin_53 : decode cX3_begin 53 = .ok (.getfield 15, 3) := by decide +kernel
theorem dX3_begin_56 : decode cX3_begin 56 = .ok (.iload 4, 2) := by decide +kernel
theorem dX3_begin_58 : decode cX3_begin 58 = .ok (.iload 4, 2) := by decide +kernel
theorem dX3_begin_60 : decode cX3_begin 60 = .ok (.iastore, 1) := by decide +kernel
theorem dX3_begin_61 : decode cX3_begin 61 = .ok (.iinc 4 1, 3) := by decide +kernel
theorem dX3_begin_64 : decode cX3_begin 64 = .ok (.goto (-19), 3) := by decide +kernel
theorem dX3_begin_67 : decode cX3_begin 67 = .ok (.return_, 1) := by decide +kernel
theorem dX3_base_0 : decode cX3_base 0 = .ok (.aload_n 0, 1) := by decide +kernel
theorem dX3_base_1 : decode cX3_base 1 = .ok (.getfield 27, 3) := by decide +kernel
theorem dX3_base_4 : decode cX3_base 4 = .ok (.getfield 62, 3) := by decide +kernel
theorem dX3_base_7 : decode cX3_base 7 = .ok (.iconst 1, 1) := by decide +kernel
theorem dX3_base_8 : decode cX3_base 8 = .ok (.iadd, 1) := by decide +kernel
theorem dX3_base_9 : decode cX3_base 9 = .ok (.ireturn, 1) := by decide +kernel
theorem dX3_power_0 : decode cX3_power 0 = .ok (.iconst 1, 1) := by decide +kernel
theorem dX3_power_1 : decode cX3_power 1 = .ok (.istore_n 2, 1) := by decide +kernel
theorem dX3_power_2 : decode cX3_power 2 = .ok (.iconst 0, 1) := by decide +kernel
theorem dX3_power_3 : decode cX3_power 3 = .ok (.istore_n 3, 1) := by decide +kernel
theorem dX3_power_4 : decode cX3_power 4 = .ok (.iload_n 3, 1) := by decide +kernel
theorem dX3_power_5 : decode cX3_power 5 = .ok (.iload_n 1, 1) := by decide +kernel
theorem dX3_power_6 : decode cX3_power 6 = .ok (.if_icmp .ge 13, 3) := by decide +kernel
theorem dX3_power_9 : decode cX3_power 9 = .ok (.iload_n 2, 1) := by decide +kernel
theorem dX3_power_10 : decode cX3_power 10 = .ok (.iload_n 0, 1) := by decide +kernel
theorem dX3_power_11 : decode cX3_power 11 = .ok (.imul, 1) := by decide +kernel
theorem dX3_power_12 : decode cX3_power 12 = .ok (.istore_n 2, 1) := by decide +kernel
theorem dX3_power_13 : decode cX3_power 13 = .ok (.iinc 3 1, 3) := by decide +kernel
theorem dX3_power_16 : decode cX3_power 16 = .ok (.goto (-12), 3) := by decide +kernel
theorem dX3_power_19 : decode cX3_power 19 = .ok (.iload_n 2, 1) := by decide +kernel
theorem dX3_power_20 : decode cX3_power 20 = .ok (.ireturn, 1) := by decide +kernel
theorem dX3_numberAt_0 : decode cX3_numberAt 0 = .ok (.aload_n 0, 1) := by decide +kernel
theorem dX3_numberAt_1 : decode cX3_numberAt 1 = .ok (.getfield 9, 3) := by decide +kernel
theorem dX3_numberAt_4 : decode cX3_numberAt 4 = .ok (.iload_n 1, 1) := by decide +kernel
theorem dX3_numberAt_5 : decode cX3_numberAt 5 = .ok (.bipush 12, 2) := by decide +kernel
theorem dX3_numberAt_7 : decode cX3_numberAt 7 = .ok (.imul, 1) := by decide +kernel
theorem dX3_numberAt_8 : decode cX3_numberAt 8 = .ok (.iload_n 2, 1) := by decide +kernel
theorem dX3_numberAt_9 : decode cX3_numberAt 9 = .ok (.iadd, 1) := by decide +kernel
theorem dX3_numberAt_10 : decode cX3_numberAt 10 = .ok (.iaload, 1) := by decide +kernel
theorem dX3_numberAt_11 : decode cX3_numberAt 11 = .ok (.ireturn, 1) := by decide +kernel
theorem dX3_exchange_0 : decode cX3_exchange 0 = .ok (.aload_n 0, 1) := by decide +kernel
theorem dX3_exchange_1 : decode cX3_exchange 1 = .ok (.iload_n 1, 1) := by decide +kernel
theorem dX3_exchange_2 : decode cX3_exchange 2 = .ok (.iload_n 2, 1) := by decide +kernel
theorem dX3_exchange_3 : decode cX3_exchange 3 = .ok (.invokevirtual 67, 3) := by decide +kernel
theorem dX3_exchange_6 : decode cX3_exchange 6 = .ok (.istore 4, 2) := by decide +kernel
theorem dX3_exchange_8 : decode cX3_exchange 8 = .ok (.aload_n 0, 1) := by decide +kernel
theorem dX3_exchange_9 : decode cX3_exchange 9 = .ok (.getfield 9, 3) := by decide +kernel
theorem dX3_exchange_12 : decode cX3_exchange 12 = .ok (.iload_n 1, 1) := by decide +kernel
theorem dX3_exchange_13 : decode cX3_exchange 13 = .ok (.bipush 12, 2) := by decide +kernel
theorem dX3_exchange_15 : decode cX3_exchange 15 = .ok (.imul, 1) := by decide +kernel
theorem dX3_exchange_16 : decode cX3_exchange 16 = .ok (.iload_n 2, 1) := by decide +kernel
theorem dX3_exchange_17 : decode cX3_exchange 17 = .ok (.iadd, 1) := by decide +kernel
theorem dX3_exchange_18 : decode cX3_exchange 18 = .ok (.iload_n 3, 1) := by decide +kernel
theorem dX3_exchange_19 : decode cX3_exchange 19 = .ok (.iastore, 1) := by decide +kernel
theorem dX3_exchange_20 : decode cX3_exchange 20 = .ok (.iload 4, 2) := by decide +kernel
theorem dX3_exchange_22 : decode cX3_exchange 22 = .ok (.ireturn, 1) := by decide +kernel
theorem dX3_usedColumns_0 : decode cX3_usedColumns 0 = .ok (.iconst 2, 1) := by decide +kernel
theorem dX3_usedColumns_1 : decode cX3_usedColumns 1 = .ok (.aload_n 0, 1) := by decide +kernel
theorem dX3_usedColumns_2 : decode cX3_usedColumns 2 = .ok (.getfield 38, 3) := by decide +kernel
theorem dX3_usedColumns_5 : decode cX3_usedColumns 5 = .ok (.imul, 1) := by decide +kernel
theorem dX3_usedColumns_6 : decode cX3_usedColumns 6 = .ok (.aload_n 0, 1) := by decide +kernel
theorem dX3_usedColumns_7 : decode cX3_usedColumns 7 = .ok (.getfield 35, 3) := by decide +kernel
theorem dX3_usedColumns_10 : decode cX3_usedColumns 10 = .ok (.imul, 1) := by decide +kernel
theorem dX3_usedColumns_11 : decode cX3_usedColumns 11 = .ok (.ireturn, 1) := by decide +kernel
theorem dX3_spellRow_0 : decode cX3_spellRow 0 = .ok (.aload_n 0, 1) := by decide +kernel
theorem dX3_spellRow_1 : decode cX3_spellRow 1 = .ok (.invokevirtual 45, 3) := by decide +kernel
theorem dX3_spellRow_4 : decode cX3_spellRow 4 = .ok (.istore_n 2, 1) := by decide +kernel
theorem dX3_spellRow_5 : decode cX3_spellRow 5 = .ok (.aload_n 0, 1) := by decide +kernel
theorem dX3_spellRow_6 : decode cX3_spellRow 6 = .ok (.getfield 18, 3) := by decide +kernel
theorem dX3_spellRow_9 : decode cX3_spellRow 9 = .ok (.iconst 0, 1) := by decide +kernel
theorem dX3_spellRow_10 : decode cX3_spellRow 10 = .ok (.invokestatic 56, 3) := by decide +kernel
theorem dX3_spellRow_13 : decode cX3_spellRow 13 = .ok (.iconst 0, 1) := by decide +kernel
theorem dX3_spellRow_14 : decode cX3_spellRow 14 = .ok (.istore_n 3, 1) := by decide +kernel
theorem dX3_spellRow_15 : decode cX3_spellRow 15 = .ok (.iload_n 3, 1) := by decide +kernel
theorem dX3_spellRow_16 : decode cX3_spellRow 16 = .ok (.aload_n 0, 1) := by decide +kernel
theorem dX3_spellRow_17 : decode cX3_spellRow 17 = .ok (.getfield 35, 3) := by decide +kernel
theorem dX3_spellRow_20 : decode cX3_spellRow 20 = .ok (.if_icmp .ge 86, 3) := by decide +kernel
theorem dX3_spellRow_23 : decode cX3_spellRow 23 = .ok (.aload_n 0, 1) := by decide +kernel
theorem dX3_spellRow_24 : decode cX3_spellRow 24 = .ok (.iload_n 1, 1) := by decide +kernel
theorem dX3_spellRow_25 : decode cX3_spellRow 25 = .ok (.iload_n 3, 1) := by decide +kernel
theorem dX3_spellRow_26 : decode cX3_spellRow 26 = .ok (.invokevirtual 67, 3) := by decide +kernel
theorem dX3_spellRow_29 : decode cX3_spellRow 29 = .ok (.istore 4, 2) := by decide +kernel
theorem dX3_spellRow_31 : decode cX3_spellRow 31 = .ok (.iconst 2, 1) := by decide +kernel
theorem dX3_spellRow_32 : decode cX3_spellRow 32 = .ok (.aload_n 0, 1) := by decide +kernel
theorem dX3_spellRow_33 : decode cX3_spellRow 33 = .ok (.getfield 38, 3) := by decide +kernel
theorem dX3_spellRow_36 : decode cX3_spellRow 36 = .ok (.imul, 1) := by decide +kernel
end
section
theorem dX3_spellRow_37 : decode cX3_spellRow 37 = .ok (.iload_n 3, 1) := by decide +kernel
theorem dX3_spellRow_38 : decode cX3_spellRow 38 = .ok (.imul, 1) := by decide +kernel
theorem dX3_spellRow_39 : decode cX3_spellRow 39 = .ok (.iload 4, 2) := by decide +kernel
theorem dX3_spellRow_41 : decode cX3_spellRow 41 = .ok (.ifCond .ge 10, 3) := by decide +kernel
theorem dX3_spellRow_44 : decode cX3_spellRow 44 = .ok (.aload_n 0, 1) := by decide +kernel
theorem dX3_spellRow_45 : decode cX3_spellRow 45 = .ok (.getfield 38, 3) := by decide +kernel
theorem dX3_spellRow_48 : decode cX3_spellRow 48 = .ok (.goto 4, 3) := by decide +kernel
theorem dX3_spellRow_51 : decode cX3_spellRow 51 = .ok (.iconst 0, 1) := by decide +kernel
theorem dX3_spellRow_52 : decode cX3_spellRow 52 = .ok (.iadd, 1) := by decide +kernel
theorem dX3_spellRow_53 : decode cX3_spellRow 53 = .ok (.istore 5, 2) := by decide +kernel
theorem dX3_spellRow_55 : decode cX3_spellRow 55 = .ok (.iload 4, 2) := by decide +kernel
theorem dX3_spellRow_57 : decode cX3_spellRow 57 = .ok (.invokestatic 70, 3) := by decide +kernel
theorem dX3_spellRow_60 : decode cX3_spellRow 60 = .ok (.istore 6, 2) := by decide +kernel
theorem dX3_spellRow_62 : decode cX3_spellRow 62 = .ok (.iconst 0, 1) := by decide +kernel
theorem dX3_spellRow_63 : decode cX3_spellRow 63 = .ok (.istore 7, 2) := by decide +kernel
theorem dX3_spellRow_65 : decode cX3_spellRow 65 = .ok (.iload 7, 2) := by decide +kernel
theorem dX3_spellRow_67 : decode cX3_spellRow 67 = .ok (.aload_n 0, 1) := by decide +kernel
theorem dX3_spellRow_68 : decode cX3_spellRow 68 = .ok (.getfield 38, 3) := by decide +kernel
theorem dX3_spellRow_71 : decode cX3_spellRow 71 = .ok (.if_icmp .ge 29, 3) := by decide +kernel
theorem dX3_spellRow_74 : decode cX3_spellRow 74 = .ok (.aload_n 0, 1) := by decide +kernel
theorem dX3_spellRow_75 : decode cX3_spellRow 75 = .ok (.getfield 18, 3) := by decide +kernel
theorem dX3_spellRow_78 : decode cX3_spellRow 78 = .ok (.iload 5, 2) := by decide +kernel
theorem dX3_spellRow_80 : decode cX3_spellRow 80 = .ok (.iload 7, 2) := by decide +kernel
theorem dX3_spellRow_82 : decode cX3_spellRow 82 = .ok (.iadd, 1) := by decide +kernel
theorem dX3_spellRow_83 : decode cX3_spellRow 83 = .ok (.iload 6, 2) := by decide +kernel
theorem dX3_spellRow_85 : decode cX3_spellRow 85 = .ok (.iload_n 2, 1) := by decide +kernel
theorem dX3_spellRow_86 : decode cX3_spellRow 86 = .ok (.irem, 1) := by decide +kernel
theorem dX3_spellRow_87 : decode cX3_spellRow 87 = .ok (.iastore, 1) := by decide +kernel
theorem dX3_spellRow_88 : decode cX3_spellRow 88 = .ok (.iload 6, 2) := by decide +kernel
theorem dX3_spellRow_90 : decode cX3_spellRow 90 = .ok (.iload_n 2, 1) := by decide +kernel
theorem dX3_spellRow_91 : decode cX3_spellRow 91 = .ok (.idiv, 1) := by decide +kernel
theorem dX3_spellRow_92 : decode cX3_spellRow 92 = .ok (.istore 6, 2) := by decide +kernel
theorem dX3_spellRow_94 : decode cX3_spellRow 94 = .ok (.iinc 7 1, 3) := by decide +kernel
theorem dX3_spellRow_97 : decode cX3_spellRow 97 = .ok (.goto (-32), 3) := by decide +kernel
theorem dX3_spellRow_100 : decode cX3_spellRow 100 = .ok (.iinc 3 1, 3) := by decide +kernel
theorem dX3_spellRow_103 : decode cX3_spellRow 103 = .ok (.goto (-88), 3) := by decide +kernel
theorem dX3_spellRow_106 : decode cX3_spellRow 106 = .ok (.return_, 1) := by decide +kernel
theorem dX3_layAll_0 : decode cX3_layAll 0 = .ok (.iconst 0, 1) := by decide +kernel
theorem dX3_layAll_1 : decode cX3_layAll 1 = .ok (.istore_n 1, 1) := by decide +kernel
theorem dX3_layAll_2 : decode cX3_layAll 2 = .ok (.iconst 0, 1) := by decide +kernel
theorem dX3_layAll_3 : decode cX3_layAll 3 = .ok (.istore_n 2, 1) := by decide +kernel
theorem dX3_layAll_4 : decode cX3_layAll 4 = .ok (.iload_n 2, 1) := by decide +kernel
theorem dX3_layAll_5 : decode cX3_layAll 5 = .ok (.aload_n 0, 1) := by decide +kernel
theorem dX3_layAll_6 : decode cX3_layAll 6 = .ok (.getfield 31, 3) := by decide +kernel
theorem dX3_layAll_9 : decode cX3_layAll 9 = .ok (.if_icmp .ge 87, 3) := by decide +kernel
theorem dX3_layAll_12 : decode cX3_layAll 12 = .ok (.aload_n 0, 1) := by decide +kernel
theorem dX3_layAll_13 : decode cX3_layAll 13 = .ok (.iload_n 2, 1) := by decide +kernel
theorem dX3_layAll_14 : decode cX3_layAll 14 = .ok (.invokevirtual 76, 3) := by decide +kernel
theorem dX3_layAll_17 : decode cX3_layAll 17 = .ok (.iconst 0, 1) := by decide +kernel
theorem dX3_layAll_18 : decode cX3_layAll 18 = .ok (.istore_n 3, 1) := by decide +kernel
theorem dX3_layAll_19 : decode cX3_layAll 19 = .ok (.iload_n 3, 1) := by decide +kernel
theorem dX3_layAll_20 : decode cX3_layAll 20 = .ok (.aload_n 0, 1) := by decide +kernel
theorem dX3_layAll_21 : decode cX3_layAll 21 = .ok (.invokevirtual 80, 3) := by decide +kernel
theorem dX3_layAll_24 : decode cX3_layAll 24 = .ok (.if_icmp .ge 66, 3) := by decide +kernel
theorem dX3_layAll_27 : decode cX3_layAll 27 = .ok (.aload_n 0, 1) := by decide +kernel
theorem dX3_layAll_28 : decode cX3_layAll 28 = .ok (.getfield 27, 3) := by decide +kernel
theorem dX3_layAll_31 : decode cX3_layAll 31 = .ok (.aload_n 0, 1) := by decide +kernel
theorem dX3_layAll_32 : decode cX3_layAll 32 = .ok (.getfield 15, 3) := by decide +kernel
theorem dX3_layAll_35 : decode cX3_layAll 35 = .ok (.iload_n 2, 1) := by decide +kernel
theorem dX3_layAll_36 : decode cX3_layAll 36 = .ok (.iaload, 1) := by decide +kernel
theorem dX3_layAll_37 : decode cX3_layAll 37 = .ok (.iload_n 3, 1) := by decide +kernel
theorem dX3_layAll_38 : decode cX3_layAll 38 = .ok (.invokevirtual 83, 3) := by decide +kernel
theorem dX3_layAll_41 : decode cX3_layAll 41 = .ok (.istore 4, 2) := by decide +kernel
theorem dX3_layAll_43 : decode cX3_layAll 43 = .ok (.aload_n 0, 1) := by decide +kernel
theorem dX3_layAll_44 : decode cX3_layAll 44 = .ok (.getfield 27, 3) := by decide +kernel
theorem dX3_layAll_47 : decode cX3_layAll 47 = .ok (.iload 4, 2) := by decide +kernel
theorem dX3_layAll_49 : decode cX3_layAll 49 = .ok (.aload_n 0, 1) := by decide +kernel
theorem dX3_layAll_50 : decode cX3_layAll 50 = .ok (.getfield 18, 3) := by decide +kernel
theorem dX3_layAll_53 : decode cX3_layAll 53 = .ok (.iload_n 3, 1) := by decide +kernel
theorem dX3_layAll_54 : decode cX3_layAll 54 = .ok (.iaload, 1) := by decide +kernel
theorem dX3_layAll_55 : decode cX3_layAll 55 = .ok (.invokevirtual 86, 3) := by decide +kernel
theorem dX3_layAll_58 : decode cX3_layAll 58 = .ok (.iload_n 1, 1) := by decide +kernel
theorem dX3_layAll_59 : decode cX3_layAll 59 = .ok (.aload_n 0, 1) := by decide +kernel
theorem dX3_layAll_60 : decode cX3_layAll 60 = .ok (.getfield 27, 3) := by decide +kernel
theorem dX3_layAll_63 : decode cX3_layAll 63 = .ok (.iload 4, 2) := by decide +kernel
theorem dX3_layAll_65 : decode cX3_layAll 65 = .ok (.aload_n 0, 1) := by decide +kernel
theorem dX3_layAll_66 : decode cX3_layAll 66 = .ok (.getfield 18, 3) := by decide +kernel
theorem dX3_layAll_69 : decode cX3_layAll 69 = .ok (.iload_n 3, 1) := by decide +kernel
theorem dX3_layAll_70 : decode cX3_layAll 70 = .ok (.iaload, 1) := by decide +kernel
theorem dX3_layAll_71 : decode cX3_layAll 71 = .ok (.invokevirtual 90, 3) := by decide +kernel
theorem dX3_layAll_74 : decode cX3_layAll 74 = .ok (.ifCond .eq 7, 3) := by decide +kernel
theorem dX3_layAll_77 : decode cX3_layAll 77 = .ok (.iconst 1, 1) := by decide +kernel
theorem dX3_layAll_78 : decode cX3_layAll 78 = .ok (.goto 4, 3) := by decide +kernel
theorem dX3_layAll_81 : decode cX3_layAll 81 = .ok (.iconst 0, 1) := by decide +kernel
theorem dX3_layAll_82 : decode cX3_layAll 82 = .ok (.iadd, 1) := by decide +kernel
theorem dX3_layAll_83 : decode cX3_layAll 83 = .ok (.istore_n 1, 1) := by decide +kernel
theorem dX3_layAll_84 : decode cX3_layAll 84 = .ok (.iinc 3 1, 3) := by decide +kernel
theorem dX3_layAll_87 : decode cX3_layAll 87 = .ok (.goto (-68), 3) := by decide +kernel
theorem dX3_layAll_90 : decode cX3_layAll 90 = .ok (.iinc 2 1, 3) := by decide +kernel
theorem dX3_layAll_93 : decode cX3_layAll 93 = .ok (.goto (-89), 3) := by decide +kernel
theorem dX3_layAll_96 : decode cX3_layAll 96 = .ok (.aload_n 0, 1) := by decide +kernel
theorem dX3_layAll_97 : decode cX3_layAll 97 = .ok (.iconst 1, 1) := by decide +kernel
theorem dX3_layAll_98 : decode cX3_layAll 98 = .ok (.putfield 41, 3) := by decide +kernel
theorem dX3_layAll_101 : decode cX3_layAll 101 = .ok (.iload_n 1, 1) := by decide +kernel
theorem dX3_layAll_102 : decode cX3_layAll 102 = .ok (.ireturn, 1) := by decide +kernel
theorem dX3_meshProduct_0 : decode cX3_meshProduct 0 = .ok (.lconst 0, 1) := by decide +kernel
theorem dX3_meshProduct_1 : decode cX3_meshProduct 1 = .ok (.lstore_n 2, 1) := by decide +kernel
theorem dX3_meshProduct_2 : decode cX3_meshProduct 2 = .ok (.iconst 0, 1) := by decide +kernel
theorem dX3_meshProduct_3 : decode cX3_meshProduct 3 = .ok (.istore 4, 2) := by decide +kernel
theorem dX3_meshProduct_5 : decode cX3_meshProduct 5 = .ok (.iload 4, 2) := by decide +kernel
theorem dX3_meshProduct_7 : decode cX3_meshProduct 7 = .ok (.bipush 8, 2) := by decide +kernel
theorem dX3_meshProduct_9 : decode cX3_meshProduct 9 = .ok (.if_icmp .ge 107, 3) := by decide +kernel
theorem dX3_meshProduct_12 : decode cX3_meshProduct 12 = .ok (.lconst 1, 1) := by decide +kernel
theorem dX3_meshProduct_13 : decode cX3_meshProduct 13 = .ok (.iload 4, 2) := by decide +kernel
theorem dX3_meshProduct_15 : decode cX3_meshProduct 15 = .ok (.lshl, 1) := by decide +kernel
theorem dX3_meshProduct_16 : decode cX3_meshProduct 16 = .ok (.lstore 5, 2) := by decide +kernel
theorem dX3_meshProduct_18 : decode cX3_meshProduct 18 = .ok (.iconst 0, 1) := by decide +kernel
theorem dX3_meshProduct_19 : decode cX3_meshProduct 19 = .ok (.istore 7, 2) := by decide +kernel
theorem dX3_meshProduct_21 : decode cX3_meshProduct 21 = .ok (.iload 7, 2) := by decide +kernel
theorem dX3_meshProduct_23 : decode cX3_meshProduct 23 = .ok (.aload_n 0, 1) := by decide +kernel
theorem dX3_meshProduct_24 : decode cX3_meshProduct 24 = .ok (.getfield 38, 3) := by decide +kernel
theorem dX3_meshProduct_27 : decode cX3_meshProduct 27 = .ok (.if_icmp .ge 83, 3) := by decide +kernel
theorem dX3_meshProduct_30 : decode cX3_meshProduct 30 = .ok (.iconst 2, 1) := by decide +kernel
theorem dX3_meshProduct_31 : decode cX3_meshProduct 31 = .ok (.aload_n 0, 1) := by decide +kernel
theorem dX3_meshProduct_32 : decode cX3_meshProduct 32 = .ok (.getfield 38, 3) := by decide +kernel
theorem dX3_meshProduct_35 : decode cX3_meshProduct 35 = .ok (.imul, 1) := by decide +kernel
theorem dX3_meshProduct_36 : decode cX3_meshProduct 36 = .ok (.iload_n 1, 1) := by decide +kernel
theorem dX3_meshProduct_37 : decode cX3_meshProduct 37 = .ok (.imul, 1) := by decide +kernel
theorem dX3_meshProduct_38 : decode cX3_meshProduct 38 = .ok (.iload 7, 2) := by decide +kernel
theorem dX3_meshProduct_40 : decode cX3_meshProduct 40 = .ok (.iadd, 1) := by decide +kernel
theorem dX3_meshProduct_41 : decode cX3_meshProduct 41 = .ok (.istore 8, 2) := by decide +kernel
theorem dX3_meshProduct_43 : decode cX3_meshProduct 43 = .ok (.aload_n 0, 1) := by decide +kernel
theorem dX3_meshProduct_44 : decode cX3_meshProduct 44 = .ok (.getfield 27, 3) := by decide +kernel
theorem dX3_meshProduct_47 : decode cX3_meshProduct 47 = .ok (.aload_n 0, 1) := by decide +kernel
theorem dX3_meshProduct_48 : decode cX3_meshProduct 48 = .ok (.iload 8, 2) := by decide +kernel
theorem dX3_meshProduct_50 : decode cX3_meshProduct 50 = .ok (.iload 4, 2) := by decide +kernel
theorem dX3_meshProduct_52 : decode cX3_meshProduct 52 = .ok (.invokevirtual 94, 3) := by decide +kernel
theorem dX3_meshProduct_55 : decode cX3_meshProduct 55 = .ok (.invokevirtual 97, 3) := by decide +kernel
theorem dX3_meshProduct_58 : decode cX3_meshProduct 58 = .ok (.istore 9, 2) := by decide +kernel
theorem dX3_meshProduct_60 : decode cX3_meshProduct 60 = .ok (.aload_n 0, 1) := by decide +kernel
theorem dX3_meshProduct_61 : decode cX3_meshProduct 61 = .ok (.getfield 27, 3) := by decide +kernel
theorem dX3_meshProduct_64 : decode cX3_meshProduct 64 = .ok (.aload_n 0, 1) := by decide +kernel
theorem dX3_meshProduct_65 : decode cX3_meshProduct 65 = .ok (.iload 8, 2) := by decide +kernel
theorem dX3_meshProduct_67 : decode cX3_meshProduct 67 = .ok (.aload_n 0, 1) := by decide +kernel
theorem dX3_meshProduct_68 : decode cX3_meshProduct 68 = .ok (.getfield 38, 3) := by decide +kernel
theorem dX3_meshProduct_71 : decode cX3_meshProduct 71 = .ok (.iadd, 1) := by decide +kernel
theorem dX3_meshProduct_72 : decode cX3_meshProduct 72 = .ok (.iload 4, 2) := by decide +kernel
theorem dX3_meshProduct_74 : decode cX3_meshProduct 74 = .ok (.invokevirtual 94, 3) := by decide +kernel
theorem dX3_meshProduct_77 : decode cX3_meshProduct 77 = .ok (.invokevirtual 97, 3) := by decide +kernel
theorem dX3_meshProduct_80 : decode cX3_meshProduct 80 = .ok (.istore 10, 2) := by decide +kernel
theorem dX3_meshProduct_82 : decode cX3_meshProduct 82 = .ok (.lload_n 2, 1) := by decide +kernel
theorem dX3_meshProduct_83 : decode cX3_meshProduct 83 = .ok (.lload 5, 2) := by decide +kernel
theorem dX3_meshProduct_85 : decode cX3_meshProduct 85 = .ok (.iload 9, 2) := by decide +kernel
theorem dX3_meshProduct_87 : decode cX3_meshProduct 87 = .ok (.iload 10, 2) := by decide +kernel
theorem dX3_meshProduct_89 : decode cX3_meshProduct 89 = .ok (.isub, 1) := by decide +kernel
theorem dX3_meshProduct_90 : decode cX3_meshProduct 90 = .ok (.i2l, 1) := by decide +kernel
theorem dX3_meshProduct_91 : decode cX3_meshProduct 91 = .ok (.lmul, 1) := by decide +kernel
theorem dX3_meshProduct_92 : decode cX3_meshProduct 92 = .ok (.ladd, 1) := by decide +kernel
theorem dX3_meshProduct_93 : decode cX3_meshProduct 93 = .ok (.lstore_n 2, 1) := by decide +kernel
theorem dX3_meshProduct_94 : decode cX3_meshProduct 94 = .ok (.lload 5, 2) := by decide +kernel
theorem dX3_meshProduct_96 : decode cX3_meshProduct 96 = .ok (.aload_n 0, 1) := by decide +kernel
theorem dX3_meshProduct_97 : decode cX3_meshProduct 97 = .ok (.invokevirtual 45, 3) := by decide +kernel
theorem dX3_meshProduct_100 : decode cX3_meshProduct 100 = .ok (.i2l, 1) := by decide +kernel
theorem dX3_meshProduct_101 : decode cX3_meshProduct 101 = .ok (.lmul, 1) := by decide +kernel
theorem dX3_meshProduct_102 : decode cX3_meshProduct 102 = .ok (.lstore 5, 2) := by decide +kernel
theorem dX3_meshProduct_104 : decode cX3_meshProduct 104 = .ok (.iinc 7 1, 3) := by decide +kernel
theorem dX3_meshProduct_107 : decode cX3_meshProduct 107 = .ok (.goto (-86), 3) := by decide +kernel
theorem dX3_meshProduct_110 : decode cX3_meshProduct 110 = .ok (.iinc 4 1, 3) := by decide +kernel
theorem dX3_meshProduct_113 : decode cX3_meshProduct 113 = .ok (.goto (-108), 3) := by decide +kernel
theorem dX3_meshProduct_116 : decode cX3_meshProduct 116 = .ok (.lload_n 2, 1) := by decide +kernel
theorem dX3_meshProduct_117 : decode cX3_meshProduct 117 = .ok (.lreturn, 1) := by decide +kernel
theorem dX3_bitSum_0 : decode cX3_bitSum 0 = .ok (.iconst 0, 1) := by decide +kernel
theorem dX3_bitSum_1 : decode cX3_bitSum 1 = .ok (.istore_n 3, 1) := by decide +kernel
theorem dX3_bitSum_2 : decode cX3_bitSum 2 = .ok (.iconst 0, 1) := by decide +kernel
theorem dX3_bitSum_3 : decode cX3_bitSum 3 = .ok (.istore 4, 2) := by decide +kernel
theorem dX3_bitSum_5 : decode cX3_bitSum 5 = .ok (.iload 4, 2) := by decide +kernel
theorem dX3_bitSum_7 : decode cX3_bitSum 7 = .ok (.aload_n 0, 1) := by decide +kernel
theorem dX3_bitSum_8 : decode cX3_bitSum 8 = .ok (.getfield 31, 3) := by decide +kernel
theorem dX3_bitSum_11 : decode cX3_bitSum 11 = .ok (.if_icmp .ge 50, 3) := by decide +kernel
theorem dX3_bitSum_14 : decode cX3_bitSum 14 = .ok (.iload_n 3, 1) := by decide +kernel
theorem dX3_bitSum_15 : decode cX3_bitSum 15 = .ok (.aload_n 0, 1) := by decide +kernel
theorem dX3_bitSum_16 : decode cX3_bitSum 16 = .ok (.getfield 27, 3) := by decide +kernel
theorem dX3_bitSum_19 : decode cX3_bitSum 19 = .ok (.getfield 100, 3) := by decide +kernel
theorem dX3_bitSum_22 : decode cX3_bitSum 22 = .ok (.iload 4, 2) := by decide +kernel
theorem dX3_bitSum_24 : decode cX3_bitSum 24 = .ok (.iaload, 1) := by decide +kernel
theorem dX3_bitSum_25 : decode cX3_bitSum 25 = .ok (.iload_n 2, 1) := by decide +kernel
theorem dX3_bitSum_26 : decode cX3_bitSum 26 = .ok (.ishr, 1) := by decide +kernel
theorem dX3_bitSum_27 : decode cX3_bitSum 27 = .ok (.iconst 1, 1) := by decide +kernel
theorem dX3_bitSum_28 : decode cX3_bitSum 28 = .ok (.iand, 1) := by decide +kernel
theorem dX3_bitSum_29 : decode cX3_bitSum 29 = .ok (.aload_n 0, 1) := by decide +kernel
theorem dX3_bitSum_30 : decode cX3_bitSum 30 = .ok (.getfield 27, 3) := by decide +kernel
theorem dX3_bitSum_33 : decode cX3_bitSum 33 = .ok (.getfield 103, 3) := by decide +kernel
theorem dX3_bitSum_36 : decode cX3_bitSum 36 = .ok (.aload_n 0, 1) := by decide +kernel
theorem dX3_bitSum_37 : decode cX3_bitSum 37 = .ok (.getfield 27, 3) := by decide +kernel
theorem dX3_bitSum_40 : decode cX3_bitSum 40 = .ok (.aload_n 0, 1) := by decide +kernel
theorem dX3_bitSum_41 : decode cX3_bitSum 41 = .ok (.getfield 15, 3) := by decide +kernel
theorem dX3_bitSum_44 : decode cX3_bitSum 44 = .ok (.iload 4, 2) := by decide +kernel
theorem dX3_bitSum_46 : decode cX3_bitSum 46 = .ok (.iaload, 1) := by decide +kernel
theorem dX3_bitSum_47 : decode cX3_bitSum 47 = .ok (.iload_n 1, 1) := by decide +kernel
theorem dX3_bitSum_48 : decode cX3_bitSum 48 = .ok (.invokevirtual 83, 3) := by decide +kernel
theorem dX3_bitSum_51 : decode cX3_bitSum 51 = .ok (.iaload, 1) := by decide +kernel
theorem dX3_bitSum_52 : decode cX3_bitSum 52 = .ok (.imul, 1) := by decide +kernel
theorem dX3_bitSum_53 : decode cX3_bitSum 53 = .ok (.iadd, 1) := by decide +kernel
theorem dX3_bitSum_54 : decode cX3_bitSum 54 = .ok (.istore_n 3, 1) := by decide +kernel
theorem dX3_bitSum_55 : decode cX3_bitSum 55 = .ok (.iinc 4 1, 3) := by decide +kernel
theorem dX3_bitSum_58 : decode cX3_bitSum 58 = .ok (.goto (-53), 3) := by decide +kernel
theorem dX3_bitSum_61 : decode cX3_bitSum 61 = .ok (.iload_n 3, 1) := by decide +kernel
theorem dX3_bitSum_62 : decode cX3_bitSum 62 = .ok (.ireturn, 1) := by decide +kernel
theorem dX3_trueProduct_0 : decode cX3_trueProduct 0 = .ok (.lconst 0, 1) := by decide +kernel
theorem dX3_trueProduct_1 : decode cX3_trueProduct 1 = .ok (.lstore_n 2, 1) := by decide +kernel
theorem dX3_trueProduct_2 : decode cX3_trueProduct 2 = .ok (.iconst 0, 1) := by decide +kernel
theorem dX3_trueProduct_3 : decode cX3_trueProduct 3 = .ok (.istore 4, 2) := by decide +kernel
theorem dX3_trueProduct_5 : decode cX3_trueProduct 5 = .ok (.iload 4, 2) := by decide +kernel
theorem dX3_trueProduct_7 : decode cX3_trueProduct 7 = .ok (.aload_n 0, 1) := by decide +kernel
theorem dX3_trueProduct_8 : decode cX3_trueProduct 8 = .ok (.getfield 31, 3) := by decide +kernel
theorem dX3_trueProduct_11 : decode cX3_trueProduct 11 = .ok (.if_icmp .ge 32, 3) := by decide +kernel
theorem dX3_trueProduct_14 : decode cX3_trueProduct 14 = .ok (.lload_n 2, 1) := by decide +kernel
theorem dX3_trueProduct_15 : decode cX3_trueProduct 15 = .ok (.aload_n 0, 1) := by decide +kernel
theorem dX3_trueProduct_16 : decode cX3_trueProduct 16 = .ok (.getfield 27, 3) := by decide +kernel
theorem dX3_trueProduct_19 : decode cX3_trueProduct 19 = .ok (.getfield 100, 3) := by decide +kernel
theorem dX3_trueProduct_22 : decode cX3_trueProduct 22 = .ok (.iload 4, 2) := by decide +kernel
theorem dX3_trueProduct_24 : decode cX3_trueProduct 24 = .ok (.iaload, 1) := by decide +kernel
theorem dX3_trueProduct_25 : decode cX3_trueProduct 25 = .ok (.i2l, 1) := by decide +kernel
theorem dX3_trueProduct_26 : decode cX3_trueProduct 26 = .ok (.aload_n 0, 1) := by decide +kernel
theorem dX3_trueProduct_27 : decode cX3_trueProduct 27 = .ok (.iload 4, 2) := by decide +kernel
theorem dX3_trueProduct_29 : decode cX3_trueProduct 29 = .ok (.iload_n 1, 1) := by decide +kernel
theorem dX3_trueProduct_30 : decode cX3_trueProduct 30 = .ok (.invokevirtual 67, 3) := by decide +kernel
theorem dX3_trueProduct_33 : decode cX3_trueProduct 33 = .ok (.i2l, 1) := by decide +kernel
theorem dX3_trueProduct_34 : decode cX3_trueProduct 34 = .ok (.lmul, 1) := by decide +kernel
theorem dX3_trueProduct_35 : decode cX3_trueProduct 35 = .ok (.ladd, 1) := by decide +kernel
theorem dX3_trueProduct_36 : decode cX3_trueProduct 36 = .ok (.lstore_n 2, 1) := by decide +kernel
theorem dX3_trueProduct_37 : decode cX3_trueProduct 37 = .ok (.iinc 4 1, 3) := by decide +kernel
theorem dX3_trueProduct_40 : decode cX3_trueProduct 40 = .ok (.goto (-35), 3) := by decide +kernel
theorem dX3_trueProduct_43 : decode cX3_trueProduct 43 = .ok (.lload_n 2, 1) := by decide +kernel
theorem dX3_trueProduct_44 : decode cX3_trueProduct 44 = .ok (.lreturn, 1) := by decide +kernel
theorem dX3_bitsEnough_0 : decode cX3_bitsEnough 0 = .ok (.aload_n 0, 1) := by decide +kernel
theorem dX3_bitsEnough_1 : decode cX3_bitsEnough 1 = .ok (.getfield 31, 3) := by decide +kernel
theorem dX3_bitsEnough_4 : decode cX3_bitsEnough 4 = .ok (.aload_n 0, 1) := by decide +kernel
theorem dX3_bitsEnough_5 : decode cX3_bitsEnough 5 = .ok (.getfield 27, 3) := by decide +kernel
theorem dX3_bitsEnough_8 : decode cX3_bitsEnough 8 = .ok (.getfield 62, 3) := by decide +kernel
theorem dX3_bitsEnough_11 : decode cX3_bitsEnough 11 = .ok (.imul, 1) := by decide +kernel
theorem dX3_bitsEnough_12 : decode cX3_bitsEnough 12 = .ok (.istore_n 1, 1) := by decide +kernel
theorem dX3_bitsEnough_13 : decode cX3_bitsEnough 13 = .ok (.iconst 1, 1) := by decide +kernel
theorem dX3_bitsEnough_14 : decode cX3_bitsEnough 14 = .ok (.istore_n 2, 1) := by decide +kernel
theorem dX3_bitsEnough_15 : decode cX3_bitsEnough 15 = .ok (.iload_n 2, 1) := by decide +kernel
theorem dX3_bitsEnough_16 : decode cX3_bitsEnough 16 = .ok (.bipush 16, 2) := by decide +kernel
theorem dX3_bitsEnough_18 : decode cX3_bitsEnough 18 = .ok (.if_icmp .ge 18, 3) := by decide +kernel
theorem dX3_bitsEnough_21 : decode cX3_bitsEnough 21 = .ok (.iconst 1, 1) := by decide +kernel
theorem dX3_bitsEnough_22 : decode cX3_bitsEnough 22 = .ok (.iload_n 2, 1) := by decide +kernel
theorem dX3_bitsEnough_23 : decode cX3_bitsEnough 23 = .ok (.ishl, 1) := by decide +kernel
theorem dX3_bitsEnough_24 : decode cX3_bitsEnough 24 = .ok (.iconst 1, 1) := by decide +kernel
theorem dX3_bitsEnough_25 : decode cX3_bitsEnough 25 = .ok (.isub, 1) := by decide +kernel
theorem dX3_bitsEnough_26 : decode cX3_bitsEnough 26 = .ok (.iload_n 1, 1) := by decide +kernel
theorem dX3_bitsEnough_27 : decode cX3_bitsEnough 27 = .ok (.if_icmp .ge 9, 3) := by decide +kernel
theorem dX3_bitsEnough_30 : decode cX3_bitsEnough 30 = .ok (.iinc 2 1, 3) := by decide +kernel
theorem dX3_bitsEnough_33 : decode cX3_bitsEnough 33 = .ok (.goto (-18), 3) := by decide +kernel
theorem dX3_bitsEnough_36 : decode cX3_bitsEnough 36 = .ok (.iload_n 2, 1) := by decide +kernel
theorem dX3_bitsEnough_37 : decode cX3_bitsEnough 37 = .ok (.ireturn, 1) := by decide +kernel
theorem dX3_mapAnew_0 : decode cX3_mapAnew 0 = .ok (.aload_n 0, 1) := by decide +kernel
theorem dX3_mapAnew_1 : decode cX3_mapAnew 1 = .ok (.invokevirtual 106, 3) := by decide +kernel
theorem dX3_mapAnew_4 : decode cX3_mapAnew 4 = .ok (.iconst 1, 1) := by decide +kernel
theorem dX3_mapAnew_5 : decode cX3_mapAnew 5 = .ok (.aload_n 0, 1) := by decide +kernel
theorem dX3_mapAnew_6 : decode cX3_mapAnew 6 = .ok (.getfield 27, 3) := by decide +kernel
theorem dX3_mapAnew_9 : decode cX3_mapAnew 9 = .ok (.getfield 109, 3) := by decide +kernel
theorem dX3_mapAnew_12 : decode cX3_mapAnew 12 = .ok (.ishl, 1) := by decide +kernel
theorem dX3_mapAnew_13 : decode cX3_mapAnew 13 = .ok (.iconst 1, 1) := by decide +kernel
theorem dX3_mapAnew_14 : decode cX3_mapAnew 14 = .ok (.isub, 1) := by decide +kernel
theorem dX3_mapAnew_15 : decode cX3_mapAnew 15 = .ok (.istore_n 1, 1) := by decide +kernel
theorem dX3_mapAnew_16 : decode cX3_mapAnew 16 = .ok (.iload_n 1, 1) := by decide +kernel
theorem dX3_mapAnew_17 : decode cX3_mapAnew 17 = .ok (.ifCond .lt 38, 3) := by decide +kernel
theorem dX3_mapAnew_20 : decode cX3_mapAnew 20 = .ok (.iload_n 1, 1) := by decide +kernel
theorem dX3_mapAnew_21 : decode cX3_mapAnew 21 = .ok (.invokestatic 112, 3) := by decide +kernel
theorem dX3_mapAnew_24 : decode cX3_mapAnew 24 = .ok (.istore_n 2, 1) := by decide +kernel
theorem dX3_mapAnew_25 : decode cX3_mapAnew 25 = .ok (.aload_n 0, 1) := by decide +kernel
theorem dX3_mapAnew_26 : decode cX3_mapAnew 26 = .ok (.getfield 24, 3) := by decide +kernel
theorem dX3_mapAnew_29 : decode cX3_mapAnew 29 = .ok (.iload_n 1, 1) := by decide +kernel
theorem dX3_mapAnew_30 : decode cX3_mapAnew 30 = .ok (.iload_n 2, 1) := by decide +kernel
theorem dX3_mapAnew_31 : decode cX3_mapAnew 31 = .ok (.aload_n 0, 1) := by decide +kernel
theorem dX3_mapAnew_32 : decode cX3_mapAnew 32 = .ok (.getfield 31, 3) := by decide +kernel
theorem dX3_mapAnew_35 : decode cX3_mapAnew 35 = .ok (.if_icmp .ge 12, 3) := by decide +kernel
theorem dX3_mapAnew_38 : decode cX3_mapAnew 38 = .ok (.aload_n 0, 1) := by decide +kernel
theorem dX3_mapAnew_39 : decode cX3_mapAnew 39 = .ok (.iload_n 2, 1) := by decide +kernel
theorem dX3_mapAnew_40 : decode cX3_mapAnew 40 = .ok (.iload_n 1, 1) := by decide +kernel
theorem dX3_mapAnew_41 : decode cX3_mapAnew 41 = .ok (.invokevirtual 117, 3) := by decide +kernel
theorem dX3_mapAnew_44 : decode cX3_mapAnew 44 = .ok (.goto 4, 3) := by decide +kernel
theorem dX3_mapAnew_47 : decode cX3_mapAnew 47 = .ok (.iconst 0, 1) := by decide +kernel
theorem dX3_mapAnew_48 : decode cX3_mapAnew 48 = .ok (.iastore, 1) := by decide +kernel
theorem dX3_mapAnew_49 : decode cX3_mapAnew 49 = .ok (.iinc 1 (-1), 3) := by decide +kernel
theorem dX3_mapAnew_52 : decode cX3_mapAnew 52 = .ok (.goto (-36), 3) := by decide +kernel
theorem dX3_mapAnew_55 : decode cX3_mapAnew 55 = .ok (.aload_n 0, 1) := by decide +kernel
theorem dX3_mapAnew_56 : decode cX3_mapAnew 56 = .ok (.invokevirtual 120, 3) := by decide +kernel
theorem dX3_mapAnew_59 : decode cX3_mapAnew 59 = .ok (.aload_n 0, 1) := by decide +kernel
theorem dX3_mapAnew_60 : decode cX3_mapAnew 60 = .ok (.getfield 24, 3) := by decide +kernel
theorem dX3_mapAnew_63 : decode cX3_mapAnew 63 = .ok (.iconst 0, 1) := by decide +kernel
theorem dX3_mapAnew_64 : decode cX3_mapAnew 64 = .ok (.iaload, 1) := by decide +kernel
theorem dX3_mapAnew_65 : decode cX3_mapAnew 65 = .ok (.ireturn, 1) := by decide +kernel
theorem dX3_fillCosts_0 : decode cX3_fillCosts 0 = .ok (.iconst 0, 1) := by decide +kernel
theorem dX3_fillCosts_1 : decode cX3_fillCosts 1 = .ok (.istore_n 1, 1) := by decide +kernel
theorem dX3_fillCosts_2 : decode cX3_fillCosts 2 = .ok (.iload_n 1, 1) := by decide +kernel
theorem dX3_fillCosts_3 : decode cX3_fillCosts 3 = .ok (.aload_n 0, 1) := by decide +kernel
theorem dX3_fillCosts_4 : decode cX3_fillCosts 4 = .ok (.getfield 31, 3) := by decide +kernel
theorem dX3_fillCosts_7 : decode cX3_fillCosts 7 = .ok (.if_icmp .ge 49, 3) := by decide +kernel
theorem dX3_fillCosts_10 : decode cX3_fillCosts 10 = .ok (.aload_n 0, 1) := by decide +kernel
theorem dX3_fillCosts_11 : decode cX3_fillCosts 11 = .ok (.iload_n 1, 1) := by decide +kernel
theorem dX3_fillCosts_12 : decode cX3_fillCosts 12 = .ok (.invokevirtual 76, 3) := by decide +kernel
theorem dX3_fillCosts_15 : decode cX3_fillCosts 15 = .ok (.iconst 0, 1) := by decide +kernel
theorem dX3_fillCosts_16 : decode cX3_fillCosts 16 = .ok (.istore_n 2, 1) := by decide +kernel
theorem dX3_fillCosts_17 : decode cX3_fillCosts 17 = .ok (.iload_n 2, 1) := by decide +kernel
theorem dX3_fillCosts_18 : decode cX3_fillCosts 18 = .ok (.aload_n 0, 1) := by decide +kernel
theorem dX3_fillCosts_19 : decode cX3_fillCosts 19 = .ok (.getfield 27, 3) := by decide +kernel
theorem dX3_fillCosts_22 : decode cX3_fillCosts 22 = .ok (.getfield 109, 3) := by decide +kernel
theorem dX3_fillCosts_25 : decode cX3_fillCosts 25 = .ok (.if_icmp .ge 25, 3) := by decide +kernel
theorem dX3_fillCosts_28 : decode cX3_fillCosts 28 = .ok (.aload_n 0, 1) := by decide +kernel
theorem dX3_fillCosts_29 : decode cX3_fillCosts 29 = .ok (.getfield 21, 3) := by decide +kernel
theorem dX3_fillCosts_32 : decode cX3_fillCosts 32 = .ok (.iload_n 1, 1) := by decide +kernel
theorem dX3_fillCosts_33 : decode cX3_fillCosts 33 = .ok (.bipush 8, 2) := by decide +kernel
theorem dX3_fillCosts_35 : decode cX3_fillCosts 35 = .ok (.imul, 1) := by decide +kernel
theorem dX3_fillCosts_36 : decode cX3_fillCosts 36 = .ok (.iload_n 2, 1) := by decide +kernel
theorem dX3_fillCosts_37 : decode cX3_fillCosts 37 = .ok (.iadd, 1) := by decide +kernel
theorem dX3_fillCosts_38 : decode cX3_fillCosts 38 = .ok (.aload_n 0, 1) := by decide +kernel
theorem dX3_fillCosts_39 : decode cX3_fillCosts 39 = .ok (.iload_n 2, 1) := by decide +kernel
theorem dX3_fillCosts_40 : decode cX3_fillCosts 40 = .ok (.invokevirtual 123, 3) := by decide +kernel
theorem dX3_fillCosts_43 : decode cX3_fillCosts 43 = .ok (.iastore, 1) := by decide +kernel
theorem dX3_fillCosts_44 : decode cX3_fillCosts 44 = .ok (.iinc 2 1, 3) := by decide +kernel
theorem dX3_fillCosts_47 : decode cX3_fillCosts 47 = .ok (.goto (-30), 3) := by decide +kernel
theorem dX3_fillCosts_50 : decode cX3_fillCosts 50 = .ok (.iinc 1 1, 3) := by decide +kernel
theorem dX3_fillCosts_53 : decode cX3_fillCosts 53 = .ok (.goto (-51), 3) := by decide +kernel
theorem dX3_fillCosts_56 : decode cX3_fillCosts 56 = .ok (.return_, 1) := by decide +kernel
theorem dX3_costOn_0 : decode cX3_costOn 0 = .ok (.iconst 0, 1) := by decide +kernel
theorem dX3_costOn_1 : decode cX3_costOn 1 = .ok (.istore_n 2, 1) := by decide +kernel
theorem dX3_costOn_2 : decode cX3_costOn 2 = .ok (.iconst 0, 1) := by decide +kernel
theorem dX3_costOn_3 : decode cX3_costOn 3 = .ok (.istore_n 3, 1) := by decide +kernel
theorem dX3_costOn_4 : decode cX3_costOn 4 = .ok (.iload_n 3, 1) := by decide +kernel
theorem dX3_costOn_5 : decode cX3_costOn 5 = .ok (.aload_n 0, 1) := by decide +kernel
theorem dX3_costOn_6 : decode cX3_costOn 6 = .ok (.invokevirtual 80, 3) := by decide +kernel
theorem dX3_costOn_9 : decode cX3_costOn 9 = .ok (.if_icmp .ge 55, 3) := by decide +kernel
theorem dX3_costOn_12 : decode cX3_costOn 12 = .ok (.aload_n 0, 1) := by decide +kernel
theorem dX3_costOn_13 : decode cX3_costOn 13 = .ok (.getfield 27, 3) := by decide +kernel
theorem dX3_costOn_16 : decode cX3_costOn 16 = .ok (.iload_n 1, 1) := by decide +kernel
theorem dX3_costOn_17 : decode cX3_costOn 17 = .ok (.iload_n 3, 1) := by decide +kernel
theorem dX3_costOn_18 : decode cX3_costOn 18 = .ok (.invokevirtual 83, 3) := by decide +kernel
theorem dX3_costOn_21 : decode cX3_costOn 21 = .ok (.istore 4, 2) := by decide +kernel
theorem dX3_costOn_23 : decode cX3_costOn 23 = .ok (.aload_n 0, 1) := by decide +kernel
theorem dX3_costOn_24 : decode cX3_costOn 24 = .ok (.getfield 27, 3) := by decide +kernel
theorem dX3_costOn_27 : decode cX3_costOn 27 = .ok (.iload 4, 2) := by decide +kernel
theorem dX3_costOn_29 : decode cX3_costOn 29 = .ok (.invokevirtual 126, 3) := by decide +kernel
theorem dX3_costOn_32 : decode cX3_costOn 32 = .ok (.ifCond .eq 26, 3) := by decide +kernel
theorem dX3_costOn_35 : decode cX3_costOn 35 = .ok (.iload_n 2, 1) := by decide +kernel
theorem dX3_costOn_36 : decode cX3_costOn 36 = .ok (.aload_n 0, 1) := by decide +kernel
theorem dX3_costOn_37 : decode cX3_costOn 37 = .ok (.getfield 27, 3) := by decide +kernel
theorem dX3_costOn_40 : decode cX3_costOn 40 = .ok (.getfield 130, 3) := by decide +kernel
theorem dX3_costOn_43 : decode cX3_costOn 43 = .ok (.iload 4, 2) := by decide +kernel
theorem dX3_costOn_45 : decode cX3_costOn 45 = .ok (.iaload, 1) := by decide +kernel
theorem dX3_costOn_46 : decode cX3_costOn 46 = .ok (.aload_n 0, 1) := by decide +kernel
theorem dX3_costOn_47 : decode cX3_costOn 47 = .ok (.getfield 18, 3) := by decide +kernel
theorem dX3_costOn_50 : decode cX3_costOn 50 = .ok (.iload_n 3, 1) := by decide +kernel
theorem dX3_costOn_51 : decode cX3_costOn 51 = .ok (.iaload, 1) := by decide +kernel
theorem dX3_costOn_52 : decode cX3_costOn 52 = .ok (.isub, 1) := by decide +kernel
theorem dX3_costOn_53 : decode cX3_costOn 53 = .ok (.invokestatic 70, 3) := by decide +kernel
theorem dX3_costOn_56 : decode cX3_costOn 56 = .ok (.iadd, 1) := by decide +kernel
theorem dX3_costOn_57 : decode cX3_costOn 57 = .ok (.istore_n 2, 1) := by decide +kernel
theorem dX3_costOn_58 : decode cX3_costOn 58 = .ok (.iinc 3 1, 3) := by decide +kernel
theorem dX3_costOn_61 : decode cX3_costOn 61 = .ok (.goto (-57), 3) := by decide +kernel
theorem dX3_costOn_64 : decode cX3_costOn 64 = .ok (.iload_n 2, 1) := by decide +kernel
theorem dX3_costOn_65 : decode cX3_costOn 65 = .ok (.ireturn, 1) := by decide +kernel
theorem dX3_costWith_0 : decode cX3_costWith 0 = .ok (.aload_n 0, 1) := by decide +kernel
theorem dX3_costWith_1 : decode cX3_costWith 1 = .ok (.getfield 21, 3) := by decide +kernel
theorem dX3_costWith_4 : decode cX3_costWith 4 = .ok (.iload_n 1, 1) := by decide +kernel
theorem dX3_costWith_5 : decode cX3_costWith 5 = .ok (.bipush 8, 2) := by decide +kernel
theorem dX3_costWith_7 : decode cX3_costWith 7 = .ok (.imul, 1) := by decide +kernel
theorem dX3_costWith_8 : decode cX3_costWith 8 = .ok (.iload_n 3, 1) := by decide +kernel
theorem dX3_costWith_9 : decode cX3_costWith 9 = .ok (.iadd, 1) := by decide +kernel
theorem dX3_costWith_10 : decode cX3_costWith 10 = .ok (.iaload, 1) := by decide +kernel
theorem dX3_costWith_11 : decode cX3_costWith 11 = .ok (.aload_n 0, 1) := by decide +kernel
theorem dX3_costWith_12 : decode cX3_costWith 12 = .ok (.getfield 24, 3) := by decide +kernel
theorem dX3_costWith_15 : decode cX3_costWith 15 = .ok (.iload_n 2, 1) := by decide +kernel
theorem dX3_costWith_16 : decode cX3_costWith 16 = .ok (.iconst 1, 1) := by decide +kernel
theorem dX3_costWith_17 : decode cX3_costWith 17 = .ok (.iload_n 3, 1) := by decide +kernel
theorem dX3_costWith_18 : decode cX3_costWith 18 = .ok (.ishl, 1) := by decide +kernel
theorem dX3_costWith_19 : decode cX3_costWith 19 = .ok (.ior, 1) := by decide +kernel
theorem dX3_costWith_20 : decode cX3_costWith 20 = .ok (.iaload, 1) := by decide +kernel
theorem dX3_costWith_21 : decode cX3_costWith 21 = .ok (.iadd, 1) := by decide +kernel
theorem dX3_costWith_22 : decode cX3_costWith 22 = .ok (.ireturn, 1) := by decide +kernel
theorem dX3_leastFrom_0 : decode cX3_leastFrom 0 = .ok (.ldc 133, 2) := by decide +kernel
theorem dX3_leastFrom_2 : decode cX3_leastFrom 2 = .ok (.istore_n 3, 1) := by decide +kernel
theorem dX3_leastFrom_3 : decode cX3_leastFrom 3 = .ok (.iconst 0, 1) := by decide +kernel
theorem dX3_leastFrom_4 : decode cX3_leastFrom 4 = .ok (.istore 4, 2) := by decide +kernel
theorem dX3_leastFrom_6 : decode cX3_leastFrom 6 = .ok (.iload 4, 2) := by decide +kernel
theorem dX3_leastFrom_8 : decode cX3_leastFrom 8 = .ok (.aload_n 0, 1) := by decide +kernel
theorem dX3_leastFrom_9 : decode cX3_leastFrom 9 = .ok (.getfield 27, 3) := by decide +kernel
theorem dX3_leastFrom_12 : decode cX3_leastFrom 12 = .ok (.getfield 109, 3) := by decide +kernel
theorem dX3_leastFrom_15 : decode cX3_leastFrom 15 = .ok (.if_icmp .ge 31, 3) := by decide +kernel
theorem dX3_leastFrom_18 : decode cX3_leastFrom 18 = .ok (.iload_n 2, 1) := by decide +kernel
theorem dX3_leastFrom_19 : decode cX3_leastFrom 19 = .ok (.iload 4, 2) := by decide +kernel
theorem dX3_leastFrom_21 : decode cX3_leastFrom 21 = .ok (.ishr, 1) := by decide +kernel
theorem dX3_leastFrom_22 : decode cX3_leastFrom 22 = .ok (.iconst 1, 1) := by decide +kernel
theorem dX3_leastFrom_23 : decode cX3_leastFrom 23 = .ok (.iand, 1) := by decide +kernel
theorem dX3_leastFrom_24 : decode cX3_leastFrom 24 = .ok (.ifCond .ne 16, 3) := by decide +kernel
theorem dX3_leastFrom_27 : decode cX3_leastFrom 27 = .ok (.iload_n 3, 1) := by decide +kernel
theorem dX3_leastFrom_28 : decode cX3_leastFrom 28 = .ok (.aload_n 0, 1) := by decide +kernel
theorem dX3_leastFrom_29 : decode cX3_leastFrom 29 = .ok (.iload_n 1, 1) := by decide +kernel
theorem dX3_leastFrom_30 : decode cX3_leastFrom 30 = .ok (.iload_n 2, 1) := by decide +kernel
theorem dX3_leastFrom_31 : decode cX3_leastFrom 31 = .ok (.iload 4, 2) := by decide +kernel
theorem dX3_leastFrom_33 : decode cX3_leastFrom 33 = .ok (.invokevirtual 134, 3) := by decide +kernel
theorem dX3_leastFrom_36 : decode cX3_leastFrom 36 = .ok (.invokestatic 138, 3) := by decide +kernel
theorem dX3_leastFrom_39 : decode cX3_leastFrom 39 = .ok (.istore_n 3, 1) := by decide +kernel
theorem dX3_leastFrom_40 : decode cX3_leastFrom 40 = .ok (.iinc 4 1, 3) := by decide +kernel
theorem dX3_leastFrom_43 : decode cX3_leastFrom 43 = .ok (.goto (-37), 3) := by decide +kernel
theorem dX3_leastFrom_46 : decode cX3_leastFrom 46 = .ok (.iload_n 3, 1) := by decide +kernel
theorem dX3_leastFrom_47 : decode cX3_leastFrom 47 = .ok (.ireturn, 1) := by decide +kernel
theorem dX3_chooseFirstLeast_0 : decode cX3_chooseFirstLeast 0 = .ok (.iconst 0, 1) := by decide +kernel
theorem dX3_chooseFirstLeast_1 : decode cX3_chooseFirstLeast 1 = .ok (.istore_n 1, 1) := by decide +kernel
theorem dX3_chooseFirstLeast_2 : decode cX3_chooseFirstLeast 2 = .ok (.iconst 0, 1) := by decide +kernel
theorem dX3_chooseFirstLeast_3 : decode cX3_chooseFirstLeast 3 = .ok (.istore_n 2, 1) := by decide +kernel
theorem dX3_chooseFirstLeast_4 : decode cX3_chooseFirstLeast 4 = .ok (.iload_n 2, 1) := by decide +kernel
theorem dX3_chooseFirstLeast_5 : decode cX3_chooseFirstLeast 5 = .ok (.aload_n 0, 1) := by decide +kernel
theorem dX3_chooseFirstLeast_6 : decode cX3_chooseFirstLeast 6 = .ok (.getfield 31, 3) := by decide +kernel
theorem dX3_chooseFirstLeast_9 : decode cX3_chooseFirstLeast 9 = .ok (.if_icmp .ge 32, 3) := by decide +kernel
theorem dX3_chooseFirstLeast_12 : decode cX3_chooseFirstLeast 12 = .ok (.aload_n 0, 1) := by decide +kernel
theorem dX3_chooseFirstLeast_13 : decode cX3_chooseFirstLeast 13 = .ok (.getfield 15, 3) := by decide +kernel
theorem dX3_chooseFirstLeast_16 : decode cX3_chooseFirstLeast 16 = .ok (.iload_n 2, 1) := by decide +kernel
theorem dX3_chooseFirstLeast_17 : decode cX3_chooseFirstLeast 17 = .ok (.aload_n 0, 1) := by decide +kernel
theorem dX3_chooseFirstLeast_18 : decode cX3_chooseFirstLeast 18 = .ok (.iload_n 2, 1) := by decide +kernel
theorem dX3_chooseFirstLeast_19 : decode cX3_chooseFirstLeast 19 = .ok (.iload_n 1, 1) := by decide +kernel
theorem dX3_chooseFirstLeast_20 : decode cX3_chooseFirstLeast 20 = .ok (.invokevirtual 141, 3) := by decide +kernel
theorem dX3_chooseFirstLeast_23 : decode cX3_chooseFirstLeast 23 = .ok (.iastore, 1) := by decide +kernel
theorem dX3_chooseFirstLeast_24 : decode cX3_chooseFirstLeast 24 = .ok (.iload_n 1, 1) := by decide +kernel
theorem dX3_chooseFirstLeast_25 : decode cX3_chooseFirstLeast 25 = .ok (.iconst 1, 1) := by decide +kernel
theorem dX3_chooseFirstLeast_26 : decode cX3_chooseFirstLeast 26 = .ok (.aload_n 0, 1) := by decide +kernel
theorem dX3_chooseFirstLeast_27 : decode cX3_chooseFirstLeast 27 = .ok (.getfield 15, 3) := by decide +kernel
theorem dX3_chooseFirstLeast_30 : decode cX3_chooseFirstLeast 30 = .ok (.iload_n 2, 1) := by decide +kernel
theorem dX3_chooseFirstLeast_31 : decode cX3_chooseFirstLeast 31 = .ok (.iaload, 1) := by decide +kernel
theorem dX3_chooseFirstLeast_32 : decode cX3_chooseFirstLeast 32 = .ok (.ishl, 1) := by decide +kernel
theorem dX3_chooseFirstLeast_33 : decode cX3_chooseFirstLeast 33 = .ok (.ior, 1) := by decide +kernel
theorem dX3_chooseFirstLeast_34 : decode cX3_chooseFirstLeast 34 = .ok (.istore_n 1, 1) := by decide +kernel
theorem dX3_chooseFirstLeast_35 : decode cX3_chooseFirstLeast 35 = .ok (.iinc 2 1, 3) := by decide +kernel
theorem dX3_chooseFirstLeast_38 : decode cX3_chooseFirstLeast 38 = .ok (.goto (-34), 3) := by decide +kernel
theorem dX3_chooseFirstLeast_41 : decode cX3_chooseFirstLeast 41 = .ok (.return_, 1) := by decide +kernel
theorem dX3_firstLeastRow_0 : decode cX3_firstLeastRow 0 = .ok (.iconst 0, 1) := by decide +kernel
theorem dX3_firstLeastRow_1 : decode cX3_firstLeastRow 1 = .ok (.istore_n 3, 1) := by decide +kernel
theorem dX3_firstLeastRow_2 : decode cX3_firstLeastRow 2 = .ok (.iload_n 3, 1) := by decide +kernel
theorem dX3_firstLeastRow_3 : decode cX3_firstLeastRow 3 = .ok (.aload_n 0, 1) := by decide +kernel
theorem dX3_firstLeastRow_4 : decode cX3_firstLeastRow 4 = .ok (.getfield 27, 3) := by decide +kernel
theorem dX3_firstLeastRow_7 : decode cX3_firstLeastRow 7 = .ok (.getfield 109, 3) := by decide +kernel
theorem dX3_firstLeastRow_10 : decode cX3_firstLeastRow 10 = .ok (.iconst 1, 1) := by decide +kernel
theorem dX3_firstLeastRow_11 : decode cX3_firstLeastRow 11 = .ok (.isub, 1) := by decide +kernel
theorem dX3_firstLeastRow_12 : decode cX3_firstLeastRow 12 = .ok (.if_icmp .ge 34, 3) := by decide +kernel
theorem dX3_firstLeastRow_15 : decode cX3_firstLeastRow 15 = .ok (.iload_n 2, 1) := by decide +kernel
theorem dX3_firstLeastRow_16 : decode cX3_firstLeastRow 16 = .ok (.iload_n 3, 1) := by decide +kernel
theorem dX3_firstLeastRow_17 : decode cX3_firstLeastRow 17 = .ok (.ishr, 1) := by decide +kernel
theorem dX3_firstLeastRow_18 : decode cX3_firstLeastRow 18 = .ok (.iconst 1, 1) := by decide +kernel
theorem dX3_firstLeastRow_19 : decode cX3_firstLeastRow 19 = .ok (.iand, 1) := by decide +kernel
theorem dX3_firstLeastRow_20 : decode cX3_firstLeastRow 20 = .ok (.iconst 1, 1) := by decide +kernel
theorem dX3_firstLeastRow_21 : decode cX3_firstLeastRow 21 = .ok (.if_icmp .eq 19, 3) := by decide +kernel
theorem dX3_firstLeastRow_24 : decode cX3_firstLeastRow 24 = .ok (.aload_n 0, 1) := by decide +kernel
theorem dX3_firstLeastRow_25 : decode cX3_firstLeastRow 25 = .ok (.iload_n 1, 1) := by decide +kernel
theorem dX3_firstLeastRow_26 : decode cX3_firstLeastRow 26 = .ok (.iload_n 2, 1) := by decide +kernel
theorem dX3_firstLeastRow_27 : decode cX3_firstLeastRow 27 = .ok (.iload_n 3, 1) := by decide +kernel
theorem dX3_firstLeastRow_28 : decode cX3_firstLeastRow 28 = .ok (.invokevirtual 134, 3) := by decide +kernel
theorem dX3_firstLeastRow_31 : decode cX3_firstLeastRow 31 = .ok (.aload_n 0, 1) := by decide +kernel
theorem dX3_firstLeastRow_32 : decode cX3_firstLeastRow 32 = .ok (.getfield 24, 3) := by decide +kernel
theorem dX3_firstLeastRow_35 : decode cX3_firstLeastRow 35 = .ok (.iload_n 2, 1) := by decide +kernel
theorem dX3_firstLeastRow_36 : decode cX3_firstLeastRow 36 = .ok (.iaload, 1) := by decide +kernel
theorem dX3_firstLeastRow_37 : decode cX3_firstLeastRow 37 = .ok (.if_icmp .eq 9, 3) := by decide +kernel
theorem dX3_firstLeastRow_40 : decode cX3_firstLeastRow 40 = .ok (.iinc 3 1, 3) := by decide +kernel
theorem dX3_firstLeastRow_43 : decode cX3_firstLeastRow 43 = .ok (.goto (-41), 3) := by decide +kernel
theorem dX3_firstLeastRow_46 : decode cX3_firstLeastRow 46 = .ok (.iload_n 3, 1) := by decide +kernel
theorem dX3_firstLeastRow_47 : decode cX3_firstLeastRow 47 = .ok (.ireturn, 1) := by decide +kernel
theorem dX3_addTo_0 : decode cX3_addTo 0 = .ok (.lload_n 1, 1) := by decide +kernel
theorem dX3_addTo_1 : decode cX3_addTo 1 = .ok (.lstore_n 3, 1) := by decide +kernel
theorem dX3_addTo_2 : decode cX3_addTo 2 = .ok (.iconst 0, 1) := by decide +kernel
theorem dX3_addTo_3 : decode cX3_addTo 3 = .ok (.istore 5, 2) := by decide +kernel
theorem dX3_addTo_5 : decode cX3_addTo 5 = .ok (.iload 5, 2) := by decide +kernel
theorem dX3_addTo_7 : decode cX3_addTo 7 = .ok (.aload_n 0, 1) := by decide +kernel
theorem dX3_addTo_8 : decode cX3_addTo 8 = .ok (.getfield 31, 3) := by decide +kernel
theorem dX3_addTo_11 : decode cX3_addTo 11 = .ok (.if_icmp .ge 58, 3) := by decide +kernel
theorem dX3_addTo_14 : decode cX3_addTo 14 = .ok (.ldc2_w 144, 3) := by decide +kernel
theorem dX3_addTo_17 : decode cX3_addTo 17 = .ok (.lload_n 3, 1) := by decide +kernel
theorem dX3_addTo_18 : decode cX3_addTo 18 = .ok (.lmul, 1) := by decide +kernel
theorem dX3_addTo_19 : decode cX3_addTo 19 = .ok (.aload_n 0, 1) := by decide +kernel
theorem dX3_addTo_20 : decode cX3_addTo 20 = .ok (.getfield 15, 3) := by decide +kernel
theorem dX3_addTo_23 : decode cX3_addTo 23 = .ok (.iload 5, 2) := by decide +kernel
theorem dX3_addTo_25 : decode cX3_addTo 25 = .ok (.iaload, 1) := by decide +kernel
theorem dX3_addTo_26 : decode cX3_addTo 26 = .ok (.i2l, 1) := by decide +kernel
theorem dX3_addTo_27 : decode cX3_addTo 27 = .ok (.ladd, 1) := by decide +kernel
theorem dX3_addTo_28 : decode cX3_addTo 28 = .ok (.lstore_n 3, 1) := by decide +kernel
theorem dX3_addTo_29 : decode cX3_addTo 29 = .ok (.iconst 0, 1) := by decide +kernel
theorem dX3_addTo_30 : decode cX3_addTo 30 = .ok (.istore 6, 2) := by decide +kernel
theorem dX3_addTo_32 : decode cX3_addTo 32 = .ok (.iload 6, 2) := by decide +kernel
theorem dX3_addTo_34 : decode cX3_addTo 34 = .ok (.aload_n 0, 1) := by decide +kernel
theorem dX3_addTo_35 : decode cX3_addTo 35 = .ok (.getfield 35, 3) := by decide +kernel
theorem dX3_addTo_38 : decode cX3_addTo 38 = .ok (.if_icmp .ge 25, 3) := by decide +kernel
theorem dX3_addTo_41 : decode cX3_addTo 41 = .ok (.ldc2_w 144, 3) := by decide +kernel
theorem dX3_addTo_44 : decode cX3_addTo 44 = .ok (.lload_n 3, 1) := by decide +kernel
theorem dX3_addTo_45 : decode cX3_addTo 45 = .ok (.lmul, 1) := by decide +kernel
theorem dX3_addTo_46 : decode cX3_addTo 46 = .ok (.aload_n 0, 1) := by decide +kernel
theorem dX3_addTo_47 : decode cX3_addTo 47 = .ok (.iload 5, 2) := by decide +kernel
theorem dX3_addTo_49 : decode cX3_addTo 49 = .ok (.iload 6, 2) := by decide +kernel
theorem dX3_addTo_51 : decode cX3_addTo 51 = .ok (.invokevirtual 67, 3) := by decide +kernel
theorem dX3_addTo_54 : decode cX3_addTo 54 = .ok (.i2l, 1) := by decide +kernel
theorem dX3_addTo_55 : decode cX3_addTo 55 = .ok (.ladd, 1) := by decide +kernel
theorem dX3_addTo_56 : decode cX3_addTo 56 = .ok (.lstore_n 3, 1) := by decide +kernel
theorem dX3_addTo_57 : decode cX3_addTo 57 = .ok (.iinc 6 1, 3) := by decide +kernel
theorem dX3_addTo_60 : decode cX3_addTo 60 = .ok (.goto (-28), 3) := by decide +kernel
theorem dX3_addTo_63 : decode cX3_addTo 63 = .ok (.iinc 5 1, 3) := by decide +kernel
theorem dX3_addTo_66 : decode cX3_addTo 66 = .ok (.goto (-61), 3) := by decide +kernel
theorem dX3_addTo_69 : decode cX3_addTo 69 = .ok (.lload_n 3, 1) := by decide +kernel
theorem dX3_addTo_70 : decode cX3_addTo 70 = .ok (.lreturn, 1) := by decide +kernel
theorem dX4_init_0 : decode cX4_init 0 = .ok (.aload_n 0, 1) := by decide +kernel
theorem dX4_init_1 : decode cX4_init 1 = .ok (.invokespecial 1, 3) := by decide +kernel
theorem dX4_init_4 : decode cX4_init 4 = .ok (.aload_n 0, 1) := by decide +kernel
theorem dX4_init_5 : decode cX4_init 5 = .ok (.new 7, 3) := by decide +kernel
theorem dX4_init_8 : decode cX4_init 8 = .ok (.dup, 1) := by decide +kernel
theorem dX4_init_9 : decode cX4_init 9 = .ok (.invokespecial 9, 3) := by decide +kernel
theorem dX4_init_12 : decode cX4_init 12 = .ok (.putfield 10, 3) := by decide +kernel
theorem dX4_init_15 : decode cX4_init 15 = .ok (.aload_n 0, 1) := by decide +kernel
theorem dX4_init_16 : decode cX4_init 16 = .ok (.new 16, 3) := by decide +kernel
theorem dX4_init_19 : decode cX4_init 19 = .ok (.dup, 1) := by decide +kernel
theorem dX4_init_20 : decode cX4_init 20 = .ok (.aload_n 0, 1) := by decide +kernel
theorem dX4_init_21 : decode cX4_init 21 = .ok (.getfield 10, 3) := by decide +kernel
theorem dX4_init_24 : decode cX4_init 24 = .ok (.invokespecial 18, 3) := by decide +kernel
theorem dX4_init_27 : decode cX4_init 27 = .ok (.putfield 21, 3) := by decide +kernel
theorem dX4_init_30 : decode cX4_init 30 = .ok (.aload_n 0, 1) := by decide +kernel
theorem dX4_init_31 : decode cX4_init 31 = .ok (.new 25, 3) := by decide +kernel
theorem dX4_init_34 : decode cX4_init 34 = .ok (.dup, 1) := by decide +kernel
theorem dX4_init_35 : decode cX4_init 35 = .ok (.aload_n 0, 1) := by decide +kernel
theorem dX4_init_36 : decode cX4_init 36 = .ok (.getfield 10, 3) := by decide +kernel
theorem dX4_init_39 : decode cX4_init 39 = .ok (.invokespecial 27, 3) := by decide +kernel
theorem dX4_init_42 : decode cX4_init 42 = .ok (.putfield 28, 3) := by decide +kernel
theorem dX4_init_45 : decode cX4_init 45 = .ok (.aload_n 0, 1) := by decide +kernel
theorem dX4_init_46 : decode cX4_init 46 = .ok (.new 32, 3) := by decide +kernel
theorem dX4_init_49 : decode cX4_init 49 = .ok (.dup, 1) := by decide +kernel
theorem dX4_init_50 : decode cX4_init 50 = .ok (.invokespecial 34, 3) := by decide +kernel
theorem dX4_init_53 : decode cX4_init 53 = .ok (.putfield 35, 3) := by decide +kernel
theorem dX4_init_56 : decode cX4_init 56 = .ok (.return_, 1) := by decide +kernel
theorem dX4_mesh_0 : decode cX4_mesh 0 = .ok (.iload_n 1, 1) := by decide +kernel
theorem dX4_mesh_1 : decode cX4_mesh 1 = .ok (.iconst 1, 1) := by decide +kernel
theorem dX4_mesh_2 : decode cX4_mesh 2 = .ok (.bipush 8, 2) := by decide +kernel
theorem dX4_mesh_4 : decode cX4_mesh 4 = .ok (.invokestatic 39, 3) := by decide +kernel
theorem dX4_mesh_7 : decode cX4_mesh 7 = .ok (.ifCond .eq 23, 3) := by decide +kernel
theorem dX4_mesh_10 : decode cX4_mesh 10 = .ok (.iload_n 2, 1) := by decide +kernel
theorem dX4_mesh_11 : decode cX4_mesh 11 = .ok (.iconst 1, 1) := by decide +kernel
theorem dX4_mesh_12 : decode cX4_mesh 12 = .ok (.bipush 24, 2) := by decide +kernel
theorem dX4_mesh_14 : decode cX4_mesh 14 = .ok (.invokestatic 39, 3) := by decide +kernel
theorem dX4_mesh_17 : decode cX4_mesh 17 = .ok (.ifCond .eq 13, 3) := by decide +kernel
theorem dX4_mesh_20 : decode cX4_mesh 20 = .ok (.iload_n 3, 1) := by decide +kernel
theorem dX4_mesh_21 : decode cX4_mesh 21 = .ok (.iconst 1, 1) := by decide +kernel
theorem dX4_mesh_22 : decode cX4_mesh 22 = .ok (.bipush 15, 2) := by decide +kernel
theorem dX4_mesh_24 : decode cX4_mesh 24 = .ok (.invokestatic 39, 3) := by decide +kernel
theorem dX4_mesh_27 : decode cX4_mesh 27 = .ok (.ifCond .ne 6, 3) := by decide +kernel
theorem dX4_mesh_30 : decode cX4_mesh 30 = .ok (.bipush (-2), 2) := by decide +kernel
theorem dX4_mesh_32 : decode cX4_mesh 32 = .ok (.ireturn, 1) := by decide +kernel
theorem dX4_mesh_33 : decode cX4_mesh 33 = .ok (.aload_n 0, 1) := by decide +kernel
theorem dX4_mesh_34 : decode cX4_mesh 34 = .ok (.getfield 10, 3) := by decide +kernel
theorem dX4_mesh_37 : decode cX4_mesh 37 = .ok (.iload_n 1, 1) := by decide +kernel
theorem dX4_mesh_38 : decode cX4_mesh 38 = .ok (.iload_n 2, 1) := by decide +kernel
theorem dX4_mesh_39 : decode cX4_mesh 39 = .ok (.iload_n 3, 1) := by decide +kernel
theorem dX4_mesh_40 : decode cX4_mesh 40 = .ok (.invokevirtual 43, 3) := by decide +kernel
theorem dX4_mesh_43 : decode cX4_mesh 43 = .ok (.aload_n 0, 1) := by decide +kernel
theorem dX4_mesh_44 : decode cX4_mesh 44 = .ok (.getfield 21, 3) := by decide +kernel
theorem dX4_mesh_47 : decode cX4_mesh 47 = .ok (.invokevirtual 47, 3) := by decide +kernel
theorem dX4_mesh_50 : decode cX4_mesh 50 = .ok (.aload_n 0, 1) := by decide +kernel
theorem dX4_mesh_51 : decode cX4_mesh 51 = .ok (.getfield 28, 3) := by decide +kernel
theorem dX4_mesh_54 : decode cX4_mesh 54 = .ok (.iconst 0, 1) := by decide +kernel
theorem dX4_mesh_55 : decode cX4_mesh 55 = .ok (.putfield 50, 3) := by decide +kernel
theorem dX4_mesh_58 : decode cX4_mesh 58 = .ok (.iconst 1, 1) := by decide +kernel
theorem dX4_mesh_59 : decode cX4_mesh 59 = .ok (.ireturn, 1) := by decide +kernel
theorem dX4_write_0 : decode cX4_write 0 = .ok (.aload_n 0, 1) := by decide +kernel
theorem dX4_write_1 : decode cX4_write 1 = .ok (.getfield 10, 3) := by decide +kernel
theorem dX4_write_4 : decode cX4_write 4 = .ok (.iload_n 1, 1) := by decide +kernel
theorem dX4_write_5 : decode cX4_write 5 = .ok (.iload_n 2, 1) := by decide +kernel
theorem dX4_write_6 : decode cX4_write 6 = .ok (.invokevirtual 54, 3) := by decide +kernel
theorem dX4_write_9 : decode cX4_write 9 = .ok (.ifCond .eq 18, 3) := by decide +kernel
theorem dX4_write_12 : decode cX4_write 12 = .ok (.iload_n 3, 1) := by decide +kernel
theorem dX4_write_13 : decode cX4_write 13 = .ok (.iconst 0, 1) := by decide +kernel
theorem dX4_write_14 : decode cX4_write 14 = .ok (.aload_n 0, 1) := by decide +kernel
theorem dX4_write_15 : decode cX4_write 15 = .ok (.getfield 10, 3) := by decide +kernel
theorem dX4_write_18 : decode cX4_write 18 = .ok (.getfield 58, 3) := by decide +kernel
theorem dX4_write_21 : decode cX4_write 21 = .ok (.invokestatic 39, 3) := by decide +kernel
theorem dX4_write_24 : decode cX4_write 24 = .ok (.ifCond .ne 6, 3) := by decide +kernel
theorem dX4_write_27 : decode cX4_write 27 = .ok (.bipush (-2), 2) := by decide +kernel
theorem dX4_write_29 : decode cX4_write 29 = .ok (.ireturn, 1) := by decide +kernel
theorem dX4_write_30 : decode cX4_write 30 = .ok (.aload_n 0, 1) := by decide +kernel
theorem dX4_write_31 : decode cX4_write 31 = .ok (.getfield 10, 3) := by decide +kernel
theorem dX4_write_34 : decode cX4_write 34 = .ok (.iload_n 1, 1) := by decide +kernel
theorem dX4_write_35 : decode cX4_write 35 = .ok (.iload_n 2, 1) := by decide +kernel
theorem dX4_write_36 : decode cX4_write 36 = .ok (.invokevirtual 62, 3) := by decide +kernel
theorem dX4_write_39 : decode cX4_write 39 = .ok (.istore 4, 2) := by decide +kernel
theorem dX4_write_41 : decode cX4_write 41 = .ok (.aload_n 0, 1) := by decide +kernel
theorem dX4_write_42 : decode cX4_write 42 = .ok (.getfield 10, 3) := by decide +kernel
theorem dX4_write_45 : decode cX4_write 45 = .ok (.iload 4, 2) := by decide +kernel
theorem dX4_write_47 : decode cX4_write 47 = .ok (.iload_n 3, 1) := by decide +kernel
theorem dX4_write_48 : decode cX4_write 48 = .ok (.invokevirtual 66, 3) := by decide +kernel
theorem dX4_write_51 : decode cX4_write 51 = .ok (.ifCond .eq 6, 3) := by decide +kernel
theorem dX4_write_54 : decode cX4_write 54 = .ok (.bipush (-3), 2) := by decide +kernel
theorem dX4_write_56 : decode cX4_write 56 = .ok (.ireturn, 1) := by decide +kernel
theorem dX4_write_57 : decode cX4_write 57 = .ok (.aload_n 0, 1) := by decide +kernel
theorem dX4_write_58 : decode cX4_write 58 = .ok (.getfield 10, 3) := by decide +kernel
theorem dX4_write_61 : decode cX4_write 61 = .ok (.iload 4, 2) := by decide +kernel
theorem dX4_write_63 : decode cX4_write 63 = .ok (.iload_n 3, 1) := by decide +kernel
theorem dX4_write_64 : decode cX4_write 64 = .ok (.invokevirtual 69, 3) := by decide +kernel
theorem dX4_write_67 : decode cX4_write 67 = .ok (.iconst 1, 1) := by decide +kernel
theorem dX4_write_68 : decode cX4_write 68 = .ok (.ireturn, 1) := by decide +kernel
theorem dX4_stick_0 : decode cX4_stick 0 = .ok (.aload_n 0, 1) := by decide +kernel
theorem dX4_stick_1 : decode cX4_stick 1 = .ok (.getfield 10, 3) := by decide +kernel
theorem dX4_stick_4 : decode cX4_stick 4 = .ok (.iload_n 1, 1) := by decide +kernel
theorem dX4_stick_5 : decode cX4_stick 5 = .ok (.iload_n 2, 1) := by decide +kernel
theorem dX4_stick_6 : decode cX4_stick 6 = .ok (.invokevirtual 54, 3) := by decide +kernel
theorem dX4_stick_9 : decode cX4_stick 9 = .ok (.ifCond .eq 18, 3) := by decide +kernel
theorem dX4_stick_12 : decode cX4_stick 12 = .ok (.iload_n 3, 1) := by decide +kernel
theorem dX4_stick_13 : decode cX4_stick 13 = .ok (.iconst (-1), 1) := by decide +kernel
theorem dX4_stick_14 : decode cX4_stick 14 = .ok (.aload_n 0, 1) := by decide +kernel
theorem dX4_stick_15 : decode cX4_stick 15 = .ok (.getfield 10, 3) := by decide +kernel
theorem dX4_stick_18 : decode cX4_stick 18 = .ok (.getfield 58, 3) := by decide +kernel
theorem dX4_stick_21 : decode cX4_stick 21 = .ok (.invokestatic 39, 3) := by decide +kernel
theorem dX4_stick_24 : decode cX4_stick 24 = .ok (.ifCond .ne 6, 3) := by decide +kernel
theorem dX4_stick_27 : decode cX4_stick 27 = .ok (.bipush (-2), 2) := by decide +kernel
theorem dX4_stick_29 : decode cX4_stick 29 = .ok (.ireturn, 1) := by decide +kernel
theorem dX4_stick_30 : decode cX4_stick 30 = .ok (.aload_n 0, 1) := by decide +kernel
theorem dX4_stick_31 : decode cX4_stick 31 = .ok (.getfield 10, 3) := by decide +kernel
theorem dX4_stick_34 : decode cX4_stick 34 = .ok (.aload_n 0, 1) := by decide +kernel
theorem dX4_stick_35 : decode cX4_stick 35 = .ok (.getfield 10, 3) := by decide +kernel
theorem dX4_stick_38 : decode cX4_stick 38 = .ok (.iload_n 1, 1) := by decide +kernel
theorem dX4_stick_39 : decode cX4_stick 39 = .ok (.iload_n 2, 1) := by decide +kernel
theorem dX4_stick_40 : decode cX4_stick 40 = .ok (.invokevirtual 62, 3) := by decide +kernel
theorem dX4_stick_43 : decode cX4_stick 43 = .ok (.iload_n 3, 1) := by decide +kernel
theorem dX4_stick_44 : decode cX4_stick 44 = .ok (.invokevirtual 73, 3) := by decide +kernel
theorem dX4_stick_47 : decode cX4_stick 47 = .ok (.iconst 1, 1) := by decide +kernel
theorem dX4_stick_48 : decode cX4_stick 48 = .ok (.ireturn, 1) := by decide +kernel
theorem dX4_cell_0 : decode cX4_cell 0 = .ok (.aload_n 0, 1) := by decide +kernel
theorem dX4_cell_1 : decode cX4_cell 1 = .ok (.getfield 10, 3) := by decide +kernel
theorem dX4_cell_4 : decode cX4_cell 4 = .ok (.iload_n 1, 1) := by decide +kernel
theorem dX4_cell_5 : decode cX4_cell 5 = .ok (.iload_n 2, 1) := by decide +kernel
theorem dX4_cell_6 : decode cX4_cell 6 = .ok (.invokevirtual 54, 3) := by decide +kernel
theorem dX4_cell_9 : decode cX4_cell 9 = .ok (.ifCond .eq 12, 3) := by decide +kernel
theorem dX4_cell_12 : decode cX4_cell 12 = .ok (.iload_n 3, 1) := by decide +kernel
theorem dX4_cell_13 : decode cX4_cell 13 = .ok (.iconst 0, 1) := by decide +kernel
theorem dX4_cell_14 : decode cX4_cell 14 = .ok (.iconst 2, 1) := by decide +kernel
theorem dX4_cell_15 : decode cX4_cell 15 = .ok (.invokestatic 39, 3) := by decide +kernel
theorem dX4_cell_18 : decode cX4_cell 18 = .ok (.ifCond .ne 6, 3) := by decide +kernel
theorem dX4_cell_21 : decode cX4_cell 21 = .ok (.bipush (-2), 2) := by decide +kernel
theorem dX4_cell_23 : decode cX4_cell 23 = .ok (.ireturn, 1) := by decide +kernel
theorem dX4_cell_24 : decode cX4_cell 24 = .ok (.aload_n 0, 1) := by decide +kernel
theorem dX4_cell_25 : decode cX4_cell 25 = .ok (.getfield 10, 3) := by decide +kernel
theorem dX4_cell_28 : decode cX4_cell 28 = .ok (.aload_n 0, 1) := by decide +kernel
theorem dX4_cell_29 : decode cX4_cell 29 = .ok (.getfield 10, 3) := by decide +kernel
theorem dX4_cell_32 : decode cX4_cell 32 = .ok (.iload_n 1, 1) := by decide +kernel
theorem dX4_cell_33 : decode cX4_cell 33 = .ok (.iload_n 2, 1) := by decide +kernel
theorem dX4_cell_34 : decode cX4_cell 34 = .ok (.invokevirtual 62, 3) := by decide +kernel
theorem dX4_cell_37 : decode cX4_cell 37 = .ok (.iload_n 3, 1) := by decide +kernel
theorem dX4_cell_38 : decode cX4_cell 38 = .ok (.invokevirtual 76, 3) := by decide +kernel
theorem dX4_cell_41 : decode cX4_cell 41 = .ok (.ireturn, 1) := by decide +kernel
theorem dX4_input_0 : decode cX4_input 0 = .ok (.iload_n 1, 1) := by decide +kernel
theorem dX4_input_1 : decode cX4_input 1 = .ok (.iconst 0, 1) := by decide +kernel
theorem dX4_input_2 : decode cX4_input 2 = .ok (.aload_n 0, 1) := by decide +kernel
theorem dX4_input_3 : decode cX4_input 3 = .ok (.getfield 10, 3) := by decide +kernel
theorem dX4_input_6 : decode cX4_input 6 = .ok (.getfield 79, 3) := by decide +kernel
theorem dX4_input_9 : decode cX4_input 9 = .ok (.iconst 1, 1) := by decide +kernel
theorem dX4_input_10 : decode cX4_input 10 = .ok (.isub, 1) := by decide +kernel
theorem dX4_input_11 : decode cX4_input 11 = .ok (.invokestatic 39, 3) := by decide +kernel
theorem dX4_input_14 : decode cX4_input 14 = .ok (.ifCond .eq 14, 3) := by decide +kernel
theorem dX4_input_17 : decode cX4_input 17 = .ok (.iload_n 2, 1) := by decide +kernel
theorem dX4_input_18 : decode cX4_input 18 = .ok (.iconst 0, 1) := by decide +kernel
theorem dX4_input_19 : decode cX4_input 19 = .ok (.sipush 255, 3) := by decide +kernel
theorem dX4_input_22 : decode cX4_input 22 = .ok (.invokestatic 39, 3) := by decide +kernel
theorem dX4_input_25 : decode cX4_input 25 = .ok (.ifCond .ne 6, 3) := by decide +kernel
theorem dX4_input_28 : decode cX4_input 28 = .ok (.bipush (-2), 2) := by decide +kernel
theorem dX4_input_30 : decode cX4_input 30 = .ok (.ireturn, 1) := by decide +kernel
theorem dX4_input_31 : decode cX4_input 31 = .ok (.aload_n 0, 1) := by decide +kernel
theorem dX4_input_32 : decode cX4_input 32 = .ok (.getfield 10, 3) := by decide +kernel
theorem dX4_input_35 : decode cX4_input 35 = .ok (.getfield 82, 3) := by decide +kernel
theorem dX4_input_38 : decode cX4_input 38 = .ok (.iload_n 1, 1) := by decide +kernel
theorem dX4_input_39 : decode cX4_input 39 = .ok (.iaload, 1) := by decide +kernel
theorem dX4_input_40 : decode cX4_input 40 = .ok (.istore_n 3, 1) := by decide +kernel
theorem dX4_input_41 : decode cX4_input 41 = .ok (.aload_n 0, 1) := by decide +kernel
theorem dX4_input_42 : decode cX4_input 42 = .ok (.getfield 10, 3) := by decide +kernel
theorem dX4_input_45 : decode cX4_input 45 = .ok (.getfield 82, 3) := by decide +kernel
theorem dX4_input_48 : decode cX4_input 48 = .ok (.iload_n 1, 1) := by decide +kernel
theorem dX4_input_49 : decode cX4_input 49 = .ok (.iload_n 2, 1) := by decide +kernel
theorem dX4_input_50 : decode cX4_input 50 = .ok (.iastore, 1) := by decide +kernel
theorem dX4_input_51 : decode cX4_input 51 = .ok (.iload_n 3, 1) := by decide +kernel
theorem dX4_input_52 : decode cX4_input 52 = .ok (.ireturn, 1) := by decide +kernel
theorem dX4_bits_0 : decode cX4_bits 0 = .ok (.iload_n 1, 1) := by decide +kernel
theorem dX4_bits_1 : decode cX4_bits 1 = .ok (.iconst 1, 1) := by decide +kernel
theorem dX4_bits_2 : decode cX4_bits 2 = .ok (.bipush 16, 2) := by decide +kernel
theorem dX4_bits_4 : decode cX4_bits 4 = .ok (.invokestatic 39, 3) := by decide +kernel
theorem dX4_bits_7 : decode cX4_bits 7 = .ok (.ifCond .ne 6, 3) := by decide +kernel
theorem dX4_bits_10 : decode cX4_bits 10 = .ok (.bipush (-2), 2) := by decide +kernel
theorem dX4_bits_12 : decode cX4_bits 12 = .ok (.ireturn, 1) := by decide +kernel
theorem dX4_bits_13 : decode cX4_bits 13 = .ok (.aload_n 0, 1) := by decide +kernel
theorem dX4_bits_14 : decode cX4_bits 14 = .ok (.getfield 10, 3) := by decide +kernel
theorem dX4_bits_17 : decode cX4_bits 17 = .ok (.getfield 86, 3) := by decide +kernel
theorem dX4_bits_20 : decode cX4_bits 20 = .ok (.istore_n 2, 1) := by decide +kernel
theorem dX4_bits_21 : decode cX4_bits 21 = .ok (.aload_n 0, 1) := by decide +kernel
theorem dX4_bits_22 : decode cX4_bits 22 = .ok (.getfield 10, 3) := by decide +kernel
theorem dX4_bits_25 : decode cX4_bits 25 = .ok (.iload_n 1, 1) := by decide +kernel
theorem dX4_bits_26 : decode cX4_bits 26 = .ok (.putfield 86, 3) := by decide +kernel
theorem dX4_bits_29 : decode cX4_bits 29 = .ok (.iload_n 2, 1) := by decide +kernel
theorem dX4_bits_30 : decode cX4_bits 30 = .ok (.ireturn, 1) := by decide +kernel
theorem dX4_sum_0 : decode cX4_sum 0 = .ok (.iload_n 1, 1) := by decide +kernel
theorem dX4_sum_1 : decode cX4_sum 1 = .ok (.iconst 0, 1) := by decide +kernel
theorem dX4_sum_2 : decode cX4_sum 2 = .ok (.aload_n 0, 1) := by decide +kernel
theorem dX4_sum_3 : decode cX4_sum 3 = .ok (.getfield 10, 3) := by decide +kernel
theorem dX4_sum_6 : decode cX4_sum 6 = .ok (.getfield 89, 3) := by decide +kernel
theorem dX4_sum_9 : decode cX4_sum 9 = .ok (.iconst 1, 1) := by decide +kernel
theorem dX4_sum_10 : decode cX4_sum 10 = .ok (.isub, 1) := by decide +kernel
theorem dX4_sum_11 : decode cX4_sum 11 = .ok (.invokestatic 39, 3) := by decide +kernel
theorem dX4_sum_14 : decode cX4_sum 14 = .ok (.ifCond .ne 6, 3) := by decide +kernel
theorem dX4_sum_17 : decode cX4_sum 17 = .ok (.bipush (-2), 2) := by decide +kernel
theorem dX4_sum_19 : decode cX4_sum 19 = .ok (.ireturn, 1) := by decide +kernel
theorem dX4_sum_20 : decode cX4_sum 20 = .ok (.aload_n 0, 1) := by decide +kernel
theorem dX4_sum_21 : decode cX4_sum 21 = .ok (.getfield 10, 3) := by decide +kernel
theorem dX4_sum_24 : decode cX4_sum 24 = .ok (.aload_n 0, 1) := by decide +kernel
theorem dX4_sum_25 : decode cX4_sum 25 = .ok (.getfield 10, 3) := by decide +kernel
theorem dX4_sum_28 : decode cX4_sum 28 = .ok (.iload_n 1, 1) := by decide +kernel
theorem dX4_sum_29 : decode cX4_sum 29 = .ok (.invokevirtual 92, 3) := by decide +kernel
theorem dX4_sum_32 : decode cX4_sum 32 = .ok (.invokevirtual 96, 3) := by decide +kernel
theorem dX4_sum_35 : decode cX4_sum 35 = .ok (.ireturn, 1) := by decide +kernel
theorem dX4_table_0 : decode cX4_table 0 = .ok (.iload_n 1, 1) := by decide +kernel
theorem dX4_table_1 : decode cX4_table 1 = .ok (.iconst 1, 1) := by decide +kernel
theorem dX4_table_2 : decode cX4_table 2 = .ok (.aload_n 0, 1) := by decide +kernel
theorem dX4_table_3 : decode cX4_table 3 = .ok (.getfield 10, 3) := by decide +kernel
theorem dX4_table_6 : decode cX4_table 6 = .ok (.getfield 79, 3) := by decide +kernel
theorem dX4_table_9 : decode cX4_table 9 = .ok (.invokestatic 39, 3) := by decide +kernel
theorem dX4_table_12 : decode cX4_table 12 = .ok (.ifCond .eq 23, 3) := by decide +kernel
theorem dX4_table_15 : decode cX4_table 15 = .ok (.iload_n 2, 1) := by decide +kernel
theorem dX4_table_16 : decode cX4_table 16 = .ok (.iconst 1, 1) := by decide +kernel
theorem dX4_table_17 : decode cX4_table 17 = .ok (.bipush 12, 2) := by decide +kernel
theorem dX4_table_19 : decode cX4_table 19 = .ok (.invokestatic 39, 3) := by decide +kernel
theorem dX4_table_22 : decode cX4_table 22 = .ok (.ifCond .eq 13, 3) := by decide +kernel
theorem dX4_table_25 : decode cX4_table 25 = .ok (.iload_n 3, 1) := by decide +kernel
theorem dX4_table_26 : decode cX4_table 26 = .ok (.iconst 1, 1) := by decide +kernel
theorem dX4_table_27 : decode cX4_table 27 = .ok (.bipush 6, 2) := by decide +kernel
theorem dX4_table_29 : decode cX4_table 29 = .ok (.invokestatic 39, 3) := by decide +kernel
theorem dX4_table_32 : decode cX4_table 32 = .ok (.ifCond .ne 6, 3) := by decide +kernel
theorem dX4_table_35 : decode cX4_table 35 = .ok (.bipush (-2), 2) := by decide +kernel
theorem dX4_table_37 : decode cX4_table 37 = .ok (.ireturn, 1) := by decide +kernel
theorem dX4_table_38 : decode cX4_table 38 = .ok (.iconst 2, 1) := by decide +kernel
theorem dX4_table_39 : decode cX4_table 39 = .ok (.iload_n 3, 1) := by decide +kernel
theorem dX4_table_40 : decode cX4_table 40 = .ok (.imul, 1) := by decide +kernel
theorem dX4_table_41 : decode cX4_table 41 = .ok (.iload_n 2, 1) := by decide +kernel
theorem dX4_table_42 : decode cX4_table 42 = .ok (.imul, 1) := by decide +kernel
theorem dX4_table_43 : decode cX4_table 43 = .ok (.aload_n 0, 1) := by decide +kernel
theorem dX4_table_44 : decode cX4_table 44 = .ok (.getfield 10, 3) := by decide +kernel
theorem dX4_table_47 : decode cX4_table 47 = .ok (.getfield 89, 3) := by decide +kernel
theorem dX4_table_50 : decode cX4_table 50 = .ok (.if_icmp .le 6, 3) := by decide +kernel
theorem dX4_table_53 : decode cX4_table 53 = .ok (.bipush (-3), 2) := by decide +kernel
theorem dX4_table_55 : decode cX4_table 55 = .ok (.ireturn, 1) := by decide +kernel
theorem dX4_table_56 : decode cX4_table 56 = .ok (.aload_n 0, 1) := by decide +kernel
theorem dX4_table_57 : decode cX4_table 57 = .ok (.getfield 21, 3) := by decide +kernel
theorem dX4_table_60 : decode cX4_table 60 = .ok (.iload_n 1, 1) := by decide +kernel
theorem dX4_table_61 : decode cX4_table 61 = .ok (.iload_n 2, 1) := by decide +kernel
theorem dX4_table_62 : decode cX4_table 62 = .ok (.iload_n 3, 1) := by decide +kernel
theorem dX4_table_63 : decode cX4_table 63 = .ok (.invokevirtual 99, 3) := by decide +kernel
theorem dX4_table_66 : decode cX4_table 66 = .ok (.iconst 1, 1) := by decide +kernel
theorem dX4_table_67 : decode cX4_table 67 = .ok (.ireturn, 1) := by decide +kernel
theorem dX4_number_0 : decode cX4_number 0 = .ok (.iload_n 1, 1) := by decide +kernel
theorem dX4_number_1 : decode cX4_number 1 = .ok (.iconst 0, 1) := by decide +kernel
theorem dX4_number_2 : decode cX4_number 2 = .ok (.aload_n 0, 1) := by decide +kernel
theorem dX4_number_3 : decode cX4_number 3 = .ok (.getfield 21, 3) := by decide +kernel
theorem dX4_number_6 : decode cX4_number 6 = .ok (.getfield 102, 3) := by decide +kernel
theorem dX4_number_9 : decode cX4_number 9 = .ok (.iconst 1, 1) := by decide +kernel
theorem dX4_number_10 : decode cX4_number 10 = .ok (.isub, 1) := by decide +kernel
theorem dX4_number_11 : decode cX4_number 11 = .ok (.invokestatic 39, 3) := by decide +kernel
theorem dX4_number_14 : decode cX4_number 14 = .ok (.ifCond .eq 42, 3) := by decide +kernel
theorem dX4_number_17 : decode cX4_number 17 = .ok (.iload_n 2, 1) := by decide +kernel
theorem dX4_number_18 : decode cX4_number 18 = .ok (.iconst 0, 1) := by decide +kernel
theorem dX4_number_19 : decode cX4_number 19 = .ok (.aload_n 0, 1) := by decide +kernel
theorem dX4_number_20 : decode cX4_number 20 = .ok (.getfield 21, 3) := by decide +kernel
theorem dX4_number_23 : decode cX4_number 23 = .ok (.getfield 105, 3) := by decide +kernel
theorem dX4_number_26 : decode cX4_number 26 = .ok (.iconst 1, 1) := by decide +kernel
theorem dX4_number_27 : decode cX4_number 27 = .ok (.isub, 1) := by decide +kernel
theorem dX4_number_28 : decode cX4_number 28 = .ok (.invokestatic 39, 3) := by decide +kernel
theorem dX4_number_31 : decode cX4_number 31 = .ok (.ifCond .eq 25, 3) := by decide +kernel
theorem dX4_number_34 : decode cX4_number 34 = .ok (.iload_n 3, 1) := by decide +kernel
theorem dX4_number_35 : decode cX4_number 35 = .ok (.aload_n 0, 1) := by decide +kernel
theorem dX4_number_36 : decode cX4_number 36 = .ok (.getfield 21, 3) := by decide +kernel
theorem dX4_number_39 : decode cX4_number 39 = .ok (.getfield 108, 3) := by decide +kernel
theorem dX4_number_42 : decode cX4_number 42 = .ok (.ineg, 1) := by decide +kernel
theorem dX4_number_43 : decode cX4_number 43 = .ok (.aload_n 0, 1) := by decide +kernel
theorem dX4_number_44 : decode cX4_number 44 = .ok (.getfield 21, 3) := by decide +kernel
theorem dX4_number_47 : decode cX4_number 47 = .ok (.getfield 108, 3) := by decide +kernel
theorem dX4_number_50 : decode cX4_number 50 = .ok (.invokestatic 39, 3) := by decide +kernel
theorem dX4_number_53 : decode cX4_number 53 = .ok (.ifCond .ne 6, 3) := by decide +kernel
theorem dX4_number_56 : decode cX4_number 56 = .ok (.ldc 111, 2) := by decide +kernel
theorem dX4_number_58 : decode cX4_number 58 = .ok (.ireturn, 1) := by decide +kernel
theorem dX4_number_59 : decode cX4_number 59 = .ok (.aload_n 0, 1) := by decide +kernel
theorem dX4_number_60 : decode cX4_number 60 = .ok (.getfield 21, 3) := by decide +kernel
theorem dX4_number_63 : decode cX4_number 63 = .ok (.iload_n 1, 1) := by decide +kernel
theorem dX4_number_64 : decode cX4_number 64 = .ok (.iload_n 2, 1) := by decide +kernel
theorem dX4_number_65 : decode cX4_number 65 = .ok (.iload_n 3, 1) := by decide +kernel
theorem dX4_number_66 : decode cX4_number 66 = .ok (.invokevirtual 112, 3) := by decide +kernel
theorem dX4_number_69 : decode cX4_number 69 = .ok (.ireturn, 1) := by decide +kernel
theorem dX4_lay_0 : decode cX4_lay 0 = .ok (.aload_n 0, 1) := by decide +kernel
theorem dX4_lay_1 : decode cX4_lay 1 = .ok (.getfield 21, 3) := by decide +kernel
theorem dX4_lay_4 : decode cX4_lay 4 = .ok (.invokevirtual 116, 3) := by decide +kernel
theorem dX4_lay_7 : decode cX4_lay 7 = .ok (.ifCond .eq 13, 3) := by decide +kernel
theorem dX4_lay_10 : decode cX4_lay 10 = .ok (.aload_n 0, 1) := by decide +kernel
theorem dX4_lay_11 : decode cX4_lay 11 = .ok (.getfield 21, 3) := by decide +kernel
theorem dX4_lay_14 : decode cX4_lay 14 = .ok (.invokevirtual 120, 3) := by decide +kernel
theorem dX4_lay_17 : decode cX4_lay 17 = .ok (.goto 5, 3) := by decide +kernel
theorem dX4_lay_20 : decode cX4_lay 20 = .ok (.bipush (-3), 2) := by decide +kernel
theorem dX4_lay_22 : decode cX4_lay 22 = .ok (.ireturn, 1) := by decide +kernel
theorem dX4_product_0 : decode cX4_product 0 = .ok (.aload_n 0, 1) := by decide +kernel
theorem dX4_product_1 : decode cX4_product 1 = .ok (.getfield 21, 3) := by decide +kernel
theorem dX4_product_4 : decode cX4_product 4 = .ok (.getfield 124, 3) := by decide +kernel
theorem dX4_product_7 : decode cX4_product 7 = .ok (.ifCond .eq 20, 3) := by decide +kernel
theorem dX4_product_10 : decode cX4_product 10 = .ok (.iload_n 1, 1) := by decide +kernel
theorem dX4_product_11 : decode cX4_product 11 = .ok (.iconst 0, 1) := by decide +kernel
theorem dX4_product_12 : decode cX4_product 12 = .ok (.aload_n 0, 1) := by decide +kernel
theorem dX4_product_13 : decode cX4_product 13 = .ok (.getfield 21, 3) := by decide +kernel
theorem dX4_product_16 : decode cX4_product 16 = .ok (.getfield 105, 3) := by decide +kernel
theorem dX4_product_19 : decode cX4_product 19 = .ok (.iconst 1, 1) := by decide +kernel
theorem dX4_product_20 : decode cX4_product 20 = .ok (.isub, 1) := by decide +kernel
theorem dX4_product_21 : decode cX4_product 21 = .ok (.invokestatic 39, 3) := by decide +kernel
theorem dX4_product_24 : decode cX4_product 24 = .ok (.ifCond .ne 7, 3) := by decide +kernel
theorem dX4_product_27 : decode cX4_product 27 = .ok (.ldc2_w 127, 3) := by decide +kernel
theorem dX4_product_30 : decode cX4_product 30 = .ok (.lreturn, 1) := by decide +kernel
theorem dX4_product_31 : decode cX4_product 31 = .ok (.aload_n 0, 1) := by decide +kernel
theorem dX4_product_32 : decode cX4_product 32 = .ok (.getfield 21, 3) := by decide +kernel
theorem dX4_product_35 : decode cX4_product 35 = .ok (.iload_n 1, 1) := by decide +kernel
theorem dX4_product_36 : decode cX4_product 36 = .ok (.invokevirtual 129, 3) := by decide +kernel
theorem dX4_product_39 : decode cX4_product 39 = .ok (.lreturn, 1) := by decide +kernel
theorem dX4_due_0 : decode cX4_due 0 = .ok (.iload_n 1, 1) := by decide +kernel
theorem dX4_due_1 : decode cX4_due 1 = .ok (.iconst 0, 1) := by decide +kernel
theorem dX4_due_2 : decode cX4_due 2 = .ok (.aload_n 0, 1) := by decide +kernel
theorem dX4_due_3 : decode cX4_due 3 = .ok (.getfield 21, 3) := by decide +kernel
theorem dX4_due_6 : decode cX4_due 6 = .ok (.getfield 105, 3) := by decide +kernel
theorem dX4_due_9 : decode cX4_due 9 = .ok (.iconst 1, 1) := by decide +kernel
theorem dX4_due_10 : decode cX4_due 10 = .ok (.isub, 1) := by decide +kernel
theorem dX4_due_11 : decode cX4_due 11 = .ok (.invokestatic 39, 3) := by decide +kernel
theorem dX4_due_14 : decode cX4_due 14 = .ok (.ifCond .ne 7, 3) := by decide +kernel
theorem dX4_due_17 : decode cX4_due 17 = .ok (.ldc2_w 127, 3) := by decide +kernel
theorem dX4_due_20 : decode cX4_due 20 = .ok (.lreturn, 1) := by decide +kernel
theorem dX4_due_21 : decode cX4_due 21 = .ok (.aload_n 0, 1) := by decide +kernel
theorem dX4_due_22 : decode cX4_due 22 = .ok (.getfield 21, 3) := by decide +kernel
theorem dX4_due_25 : decode cX4_due 25 = .ok (.iload_n 1, 1) := by decide +kernel
theorem dX4_due_26 : decode cX4_due 26 = .ok (.invokevirtual 133, 3) := by decide +kernel
theorem dX4_due_29 : decode cX4_due 29 = .ok (.lreturn, 1) := by decide +kernel
theorem dX4_enough_0 : decode cX4_enough 0 = .ok (.aload_n 0, 1) := by decide +kernel
theorem dX4_enough_1 : decode cX4_enough 1 = .ok (.getfield 21, 3) := by decide +kernel
theorem dX4_enough_4 : decode cX4_enough 4 = .ok (.invokevirtual 116, 3) := by decide +kernel
theorem dX4_enough_7 : decode cX4_enough 7 = .ok (.ifCond .eq 13, 3) := by decide +kernel
theorem dX4_enough_10 : decode cX4_enough 10 = .ok (.aload_n 0, 1) := by decide +kernel
theorem dX4_enough_11 : decode cX4_enough 11 = .ok (.getfield 21, 3) := by decide +kernel
theorem dX4_enough_14 : decode cX4_enough 14 = .ok (.invokevirtual 136, 3) := by decide +kernel
theorem dX4_enough_17 : decode cX4_enough 17 = .ok (.goto 5, 3) := by decide +kernel
theorem dX4_enough_20 : decode cX4_enough 20 = .ok (.bipush (-3), 2) := by decide +kernel
theorem dX4_enough_22 : decode cX4_enough 22 = .ok (.ireturn, 1) := by decide +kernel
theorem dX4_map_0 : decode cX4_map 0 = .ok (.aload_n 0, 1) := by decide +kernel
theorem dX4_map_1 : decode cX4_map 1 = .ok (.getfield 21, 3) := by decide +kernel
theorem dX4_map_4 : decode cX4_map 4 = .ok (.invokevirtual 116, 3) := by decide +kernel
theorem dX4_map_7 : decode cX4_map 7 = .ok (.ifCond .eq 13, 3) := by decide +kernel
theorem dX4_map_10 : decode cX4_map 10 = .ok (.aload_n 0, 1) := by decide +kernel
theorem dX4_map_11 : decode cX4_map 11 = .ok (.getfield 21, 3) := by decide +kernel
theorem dX4_map_14 : decode cX4_map 14 = .ok (.invokevirtual 139, 3) := by decide +kernel
theorem dX4_map_17 : decode cX4_map 17 = .ok (.goto 5, 3) := by decide +kernel
theorem dX4_map_20 : decode cX4_map 20 = .ok (.bipush (-3), 2) := by decide +kernel
theorem dX4_map_22 : decode cX4_map 22 = .ok (.ireturn, 1) := by decide +kernel
theorem dX4_mapped_0 : decode cX4_mapped 0 = .ok (.iload_n 1, 1) := by decide +kernel
theorem dX4_mapped_1 : decode cX4_mapped 1 = .ok (.ifCond .ge 6, 3) := by decide +kernel
theorem dX4_mapped_4 : decode cX4_mapped 4 = .ok (.bipush (-2), 2) := by decide +kernel
theorem dX4_mapped_6 : decode cX4_mapped 6 = .ok (.ireturn, 1) := by decide +kernel
theorem dX4_mapped_7 : decode cX4_mapped 7 = .ok (.aload_n 0, 1) := by decide +kernel
theorem dX4_mapped_8 : decode cX4_mapped 8 = .ok (.getfield 21, 3) := by decide +kernel
theorem dX4_mapped_11 : decode cX4_mapped 11 = .ok (.invokevirtual 116, 3) := by decide +kernel
theorem dX4_mapped_14 : decode cX4_mapped 14 = .ok (.ifCond .ne 6, 3) := by decide +kernel
theorem dX4_mapped_17 : decode cX4_mapped 17 = .ok (.bipush (-3), 2) := by decide +kernel
theorem dX4_mapped_19 : decode cX4_mapped 19 = .ok (.ireturn, 1) := by decide +kernel
theorem dX4_mapped_20 : decode cX4_mapped 20 = .ok (.iload_n 1, 1) := by decide +kernel
theorem dX4_mapped_21 : decode cX4_mapped 21 = .ok (.iconst 0, 1) := by decide +kernel
theorem dX4_mapped_22 : decode cX4_mapped 22 = .ok (.aload_n 0, 1) := by decide +kernel
theorem dX4_mapped_23 : decode cX4_mapped 23 = .ok (.getfield 21, 3) := by decide +kernel
theorem dX4_mapped_26 : decode cX4_mapped 26 = .ok (.getfield 102, 3) := by decide +kernel
theorem dX4_mapped_29 : decode cX4_mapped 29 = .ok (.iconst 1, 1) := by decide +kernel
theorem dX4_mapped_30 : decode cX4_mapped 30 = .ok (.isub, 1) := by decide +kernel
theorem dX4_mapped_31 : decode cX4_mapped 31 = .ok (.invokestatic 39, 3) := by decide +kernel
theorem dX4_mapped_34 : decode cX4_mapped 34 = .ok (.ifCond .eq 15, 3) := by decide +kernel
theorem dX4_mapped_37 : decode cX4_mapped 37 = .ok (.aload_n 0, 1) := by decide +kernel
theorem dX4_mapped_38 : decode cX4_mapped 38 = .ok (.getfield 21, 3) := by decide +kernel
theorem dX4_mapped_41 : decode cX4_mapped 41 = .ok (.getfield 142, 3) := by decide +kernel
theorem dX4_mapped_44 : decode cX4_mapped 44 = .ok (.iload_n 1, 1) := by decide +kernel
theorem dX4_mapped_45 : decode cX4_mapped 45 = .ok (.iaload, 1) := by decide +kernel
theorem dX4_mapped_46 : decode cX4_mapped 46 = .ok (.goto 5, 3) := by decide +kernel
theorem dX4_mapped_49 : decode cX4_mapped 49 = .ok (.bipush (-2), 2) := by decide +kernel
theorem dX4_mapped_51 : decode cX4_mapped 51 = .ok (.ireturn, 1) := by decide +kernel
theorem dX4_seal_0 : decode cX4_seal 0 = .ok (.aload_n 0, 1) := by decide +kernel
theorem dX4_seal_1 : decode cX4_seal 1 = .ok (.getfield 28, 3) := by decide +kernel
theorem dX4_seal_4 : decode cX4_seal 4 = .ok (.invokevirtual 145, 3) := by decide +kernel
theorem dX4_seal_7 : decode cX4_seal 7 = .ok (.iconst 1, 1) := by decide +kernel
theorem dX4_seal_8 : decode cX4_seal 8 = .ok (.ireturn, 1) := by decide +kernel
theorem dX4_look_0 : decode cX4_look 0 = .ok (.aload_n 0, 1) := by decide +kernel
theorem dX4_look_1 : decode cX4_look 1 = .ok (.getfield 28, 3) := by decide +kernel
theorem dX4_look_4 : decode cX4_look 4 = .ok (.getfield 50, 3) := by decide +kernel
theorem dX4_look_7 : decode cX4_look 7 = .ok (.ifCond .eq 13, 3) := by decide +kernel
theorem dX4_look_10 : decode cX4_look 10 = .ok (.aload_n 0, 1) := by decide +kernel
theorem dX4_look_11 : decode cX4_look 11 = .ok (.getfield 28, 3) := by decide +kernel
theorem dX4_look_14 : decode cX4_look 14 = .ok (.invokevirtual 148, 3) := by decide +kernel
theorem dX4_look_17 : decode cX4_look 17 = .ok (.goto 5, 3) := by decide +kernel
theorem dX4_look_20 : decode cX4_look 20 = .ok (.bipush (-3), 2) := by decide +kernel
theorem dX4_look_22 : decode cX4_look 22 = .ok (.ireturn, 1) := by decide +kernel
theorem dX4_fade_0 : decode cX4_fade 0 = .ok (.iload_n 1, 1) := by decide +kernel
theorem dX4_fade_1 : decode cX4_fade 1 = .ok (.iconst 1, 1) := by decide +kernel
theorem dX4_fade_2 : decode cX4_fade 2 = .ok (.bipush 100, 2) := by decide +kernel
theorem dX4_fade_4 : decode cX4_fade 4 = .ok (.invokestatic 39, 3) := by decide +kernel
theorem dX4_fade_7 : decode cX4_fade 7 = .ok (.ifCond .ne 6, 3) := by decide +kernel
theorem dX4_fade_10 : decode cX4_fade 10 = .ok (.bipush (-2), 2) := by decide +kernel
theorem dX4_fade_12 : decode cX4_fade 12 = .ok (.ireturn, 1) := by decide +kernel
theorem dX4_fade_13 : decode cX4_fade 13 = .ok (.iconst 0, 1) := by decide +kernel
theorem dX4_fade_14 : decode cX4_fade 14 = .ok (.istore_n 2, 1) := by decide +kernel
end
section
theorem dX4_fade_15 : decode cX4_fade 15 = .ok (.iconst 0, 1) := by decide +kernel
theorem dX4_fade_16 : decode cX4_fade 16 = .ok (.istore_n 3, 1) := by decide +kernel
theorem dX4_fade_17 : decode cX4_fade 17 = .ok (.iload_n 3, 1) := by decide +kernel
theorem dX4_fade_18 : decode cX4_fade 18 = .ok (.iload_n 1, 1) := by decide +kernel
theorem dX4_fade_19 : decode cX4_fade 19 = .ok (.if_icmp .ge 19, 3) := by decide +kernel
theorem dX4_fade_22 : decode cX4_fade 22 = .ok (.iload_n 2, 1) := by decide +kernel
theorem dX4_fade_23 : decode cX4_fade 23 = .ok (.aload_n 0, 1) := by decide +kernel
theorem dX4_fade_24 : decode cX4_fade 24 = .ok (.getfield 10, 3) := by decide +kernel
theorem dX4_fade_27 : decode cX4_fade 27 = .ok (.invokevirtual 151, 3) := by decide +kernel
theorem dX4_fade_30 : decode cX4_fade 30 = .ok (.iadd, 1) := by decide +kernel
theorem dX4_fade_31 : decode cX4_fade 31 = .ok (.istore_n 2, 1) := by decide +kernel
theorem dX4_fade_32 : decode cX4_fade 32 = .ok (.iinc 3 1, 3) := by decide +kernel
theorem dX4_fade_35 : decode cX4_fade 35 = .ok (.goto (-18), 3) := by decide +kernel
theorem dX4_fade_38 : decode cX4_fade 38 = .ok (.iload_n 2, 1) := by decide +kernel
theorem dX4_fade_39 : decode cX4_fade 39 = .ok (.ireturn, 1) := by decide +kernel
theorem dX4_pulse_0 : decode cX4_pulse 0 = .ok (.aload_n 0, 1) := by decide +kernel
theorem dX4_pulse_1 : decode cX4_pulse 1 = .ok (.getfield 10, 3) := by decide +kernel
theorem dX4_pulse_4 : decode cX4_pulse 4 = .ok (.iload_n 1, 1) := by decide +kernel
theorem dX4_pulse_5 : decode cX4_pulse 5 = .ok (.iload_n 2, 1) := by decide +kernel
theorem dX4_pulse_6 : decode cX4_pulse 6 = .ok (.invokevirtual 54, 3) := by decide +kernel
theorem dX4_pulse_9 : decode cX4_pulse 9 = .ok (.ifCond .eq 18, 3) := by decide +kernel
theorem dX4_pulse_12 : decode cX4_pulse 12 = .ok (.iload_n 3, 1) := by decide +kernel
theorem dX4_pulse_13 : decode cX4_pulse 13 = .ok (.iconst 0, 1) := by decide +kernel
theorem dX4_pulse_14 : decode cX4_pulse 14 = .ok (.aload_n 0, 1) := by decide +kernel
theorem dX4_pulse_15 : decode cX4_pulse 15 = .ok (.getfield 10, 3) := by decide +kernel
theorem dX4_pulse_18 : decode cX4_pulse 18 = .ok (.getfield 58, 3) := by decide +kernel
theorem dX4_pulse_21 : decode cX4_pulse 21 = .ok (.invokestatic 39, 3) := by decide +kernel
theorem dX4_pulse_24 : decode cX4_pulse 24 = .ok (.ifCond .ne 6, 3) := by decide +kernel
theorem dX4_pulse_27 : decode cX4_pulse 27 = .ok (.bipush (-2), 2) := by decide +kernel
theorem dX4_pulse_29 : decode cX4_pulse 29 = .ok (.ireturn, 1) := by decide +kernel
theorem dX4_pulse_30 : decode cX4_pulse 30 = .ok (.aload_n 0, 1) := by decide +kernel
theorem dX4_pulse_31 : decode cX4_pulse 31 = .ok (.getfield 10, 3) := by decide +kernel
theorem dX4_pulse_34 : decode cX4_pulse 34 = .ok (.iload_n 1, 1) := by decide +kernel
theorem dX4_pulse_35 : decode cX4_pulse 35 = .ok (.iload_n 2, 1) := by decide +kernel
theorem dX4_pulse_36 : decode cX4_pulse 36 = .ok (.invokevirtual 62, 3) := by decide +kernel
theorem dX4_pulse_39 : decode cX4_pulse 39 = .ok (.istore 4, 2) := by decide +kernel
theorem dX4_pulse_41 : decode cX4_pulse 41 = .ok (.aload_n 0, 1) := by decide +kernel
theorem dX4_pulse_42 : decode cX4_pulse 42 = .ok (.getfield 10, 3) := by decide +kernel
theorem dX4_pulse_45 : decode cX4_pulse 45 = .ok (.iload 4, 2) := by decide +kernel
theorem dX4_pulse_47 : decode cX4_pulse 47 = .ok (.invokevirtual 154, 3) := by decide +kernel
theorem dX4_pulse_50 : decode cX4_pulse 50 = .ok (.ifCond .eq 8, 3) := by decide +kernel
theorem dX4_pulse_53 : decode cX4_pulse 53 = .ok (.bipush (-3), 2) := by decide +kernel
theorem dX4_pulse_55 : decode cX4_pulse 55 = .ok (.goto 13, 3) := by decide +kernel
theorem dX4_pulse_58 : decode cX4_pulse 58 = .ok (.aload_n 0, 1) := by decide +kernel
theorem dX4_pulse_59 : decode cX4_pulse 59 = .ok (.getfield 10, 3) := by decide +kernel
theorem dX4_pulse_62 : decode cX4_pulse 62 = .ok (.iload 4, 2) := by decide +kernel
theorem dX4_pulse_64 : decode cX4_pulse 64 = .ok (.iload_n 3, 1) := by decide +kernel
theorem dX4_pulse_65 : decode cX4_pulse 65 = .ok (.invokevirtual 158, 3) := by decide +kernel
theorem dX4_pulse_68 : decode cX4_pulse 68 = .ok (.ireturn, 1) := by decide +kernel
theorem dX4_find_0 : decode cX4_find 0 = .ok (.iload_n 1, 1) := by decide +kernel
theorem dX4_find_1 : decode cX4_find 1 = .ok (.iconst 1, 1) := by decide +kernel
theorem dX4_find_2 : decode cX4_find 2 = .ok (.iconst 3, 1) := by decide +kernel
theorem dX4_find_3 : decode cX4_find 3 = .ok (.invokestatic 39, 3) := by decide +kernel
theorem dX4_find_6 : decode cX4_find 6 = .ok (.ifCond .eq 24, 3) := by decide +kernel
theorem dX4_find_9 : decode cX4_find 9 = .ok (.iload_n 2, 1) := by decide +kernel
theorem dX4_find_10 : decode cX4_find 10 = .ok (.iload_n 1, 1) := by decide +kernel
theorem dX4_find_11 : decode cX4_find 11 = .ok (.iconst 5, 1) := by decide +kernel
theorem dX4_find_12 : decode cX4_find 12 = .ok (.invokestatic 39, 3) := by decide +kernel
theorem dX4_find_15 : decode cX4_find 15 = .ok (.ifCond .eq 15, 3) := by decide +kernel
theorem dX4_find_18 : decode cX4_find 18 = .ok (.iload_n 3, 1) := by decide +kernel
theorem dX4_find_19 : decode cX4_find 19 = .ok (.iconst 0, 1) := by decide +kernel
theorem dX4_find_20 : decode cX4_find 20 = .ok (.iload_n 1, 1) := by decide +kernel
theorem dX4_find_21 : decode cX4_find 21 = .ok (.invokestatic 161, 3) := by decide +kernel
theorem dX4_find_24 : decode cX4_find 24 = .ok (.invokestatic 39, 3) := by decide +kernel
theorem dX4_find_27 : decode cX4_find 27 = .ok (.ifCond .ne 6, 3) := by decide +kernel
theorem dX4_find_30 : decode cX4_find 30 = .ok (.bipush (-2), 2) := by decide +kernel
theorem dX4_find_32 : decode cX4_find 32 = .ok (.ireturn, 1) := by decide +kernel
theorem dX4_find_33 : decode cX4_find 33 = .ok (.aload_n 0, 1) := by decide +kernel
theorem dX4_find_34 : decode cX4_find 34 = .ok (.getfield 35, 3) := by decide +kernel
theorem dX4_find_37 : decode cX4_find 37 = .ok (.iload_n 1, 1) := by decide +kernel
theorem dX4_find_38 : decode cX4_find 38 = .ok (.iload_n 2, 1) := by decide +kernel
theorem dX4_find_39 : decode cX4_find 39 = .ok (.iload_n 3, 1) := by decide +kernel
theorem dX4_find_40 : decode cX4_find 40 = .ok (.invokevirtual 164, 3) := by decide +kernel
theorem dX4_find_43 : decode cX4_find 43 = .ok (.ireturn, 1) := by decide +kernel
theorem dX4_actAt_0 : decode cX4_actAt 0 = .ok (.iload_n 2, 1) := by decide +kernel
theorem dX4_actAt_1 : decode cX4_actAt 1 = .ok (.iconst 0, 1) := by decide +kernel
theorem dX4_actAt_2 : decode cX4_actAt 2 = .ok (.iconst 2, 1) := by decide +kernel
theorem dX4_actAt_3 : decode cX4_actAt 3 = .ok (.invokestatic 39, 3) := by decide +kernel
theorem dX4_actAt_6 : decode cX4_actAt 6 = .ok (.ifCond .ne 6, 3) := by decide +kernel
theorem dX4_actAt_9 : decode cX4_actAt 9 = .ok (.bipush (-2), 2) := by decide +kernel
theorem dX4_actAt_11 : decode cX4_actAt 11 = .ok (.ireturn, 1) := by decide +kernel
theorem dX4_actAt_12 : decode cX4_actAt 12 = .ok (.iload_n 1, 1) := by decide +kernel
theorem dX4_actAt_13 : decode cX4_actAt 13 = .ok (.iconst 0, 1) := by decide +kernel
theorem dX4_actAt_14 : decode cX4_actAt 14 = .ok (.aload_n 0, 1) := by decide +kernel
theorem dX4_actAt_15 : decode cX4_actAt 15 = .ok (.getfield 35, 3) := by decide +kernel
theorem dX4_actAt_18 : decode cX4_actAt 18 = .ok (.getfield 167, 3) := by decide +kernel
theorem dX4_actAt_21 : decode cX4_actAt 21 = .ok (.iconst 1, 1) := by decide +kernel
theorem dX4_actAt_22 : decode cX4_actAt 22 = .ok (.isub, 1) := by decide +kernel
theorem dX4_actAt_23 : decode cX4_actAt 23 = .ok (.invokestatic 39, 3) := by decide +kernel
theorem dX4_actAt_26 : decode cX4_actAt 26 = .ok (.ifCond .eq 19, 3) := by decide +kernel
theorem dX4_actAt_29 : decode cX4_actAt 29 = .ok (.aload_n 0, 1) := by decide +kernel
theorem dX4_actAt_30 : decode cX4_actAt 30 = .ok (.getfield 35, 3) := by decide +kernel
theorem dX4_actAt_33 : decode cX4_actAt 33 = .ok (.getfield 170, 3) := by decide +kernel
theorem dX4_actAt_36 : decode cX4_actAt 36 = .ok (.iload_n 1, 1) := by decide +kernel
theorem dX4_actAt_37 : decode cX4_actAt 37 = .ok (.iaload, 1) := by decide +kernel
theorem dX4_actAt_38 : decode cX4_actAt 38 = .ok (.iload_n 2, 1) := by decide +kernel
theorem dX4_actAt_39 : decode cX4_actAt 39 = .ok (.invokestatic 173, 3) := by decide +kernel
theorem dX4_actAt_42 : decode cX4_actAt 42 = .ok (.goto 4, 3) := by decide +kernel
theorem dX4_actAt_45 : decode cX4_actAt 45 = .ok (.iconst (-1), 1) := by decide +kernel
theorem dX4_actAt_46 : decode cX4_actAt 46 = .ok (.ireturn, 1) := by decide +kernel
theorem dX4_where_0 : decode cX4_where 0 = .ok (.aload_n 0, 1) := by decide +kernel
theorem dX4_where_1 : decode cX4_where 1 = .ok (.getfield 35, 3) := by decide +kernel
theorem dX4_where_4 : decode cX4_where 4 = .ok (.getfield 176, 3) := by decide +kernel
theorem dX4_where_7 : decode cX4_where 7 = .ok (.ireturn, 1) := by decide +kernel
theorem dX4_met_0 : decode cX4_met 0 = .ok (.aload_n 0, 1) := by decide +kernel
theorem dX4_met_1 : decode cX4_met 1 = .ok (.getfield 35, 3) := by decide +kernel
theorem dX4_met_4 : decode cX4_met 4 = .ok (.getfield 179, 3) := by decide +kernel
theorem dX4_met_7 : decode cX4_met 7 = .ok (.ireturn, 1) := by decide +kernel
theorem dX4_count_0 : decode cX4_count 0 = .ok (.iload_n 1, 1) := by decide +kernel
theorem dX4_count_1 : decode cX4_count 1 = .ok (.tableswitch 139 0 8 #[51, 59, 67, 75, 83, 91, 99, 107, 123], 51) := by decide +kernel
theorem dX4_count_52 : decode cX4_count 52 = .ok (.aload_n 0, 1) := by decide +kernel
theorem dX4_count_53 : decode cX4_count 53 = .ok (.getfield 10, 3) := by decide +kernel
theorem dX4_count_56 : decode cX4_count 56 = .ok (.getfield 79, 3) := by decide +kernel
theorem dX4_count_59 : decode cX4_count 59 = .ok (.ireturn, 1) := by decide +kernel
theorem dX4_count_60 : decode cX4_count 60 = .ok (.aload_n 0, 1) := by decide +kernel
theorem dX4_count_61 : decode cX4_count 61 = .ok (.getfield 10, 3) := by decide +kernel
theorem dX4_count_64 : decode cX4_count 64 = .ok (.getfield 89, 3) := by decide +kernel
theorem dX4_count_67 : decode cX4_count 67 = .ok (.ireturn, 1) := by decide +kernel
theorem dX4_count_68 : decode cX4_count 68 = .ok (.aload_n 0, 1) := by decide +kernel
theorem dX4_count_69 : decode cX4_count 69 = .ok (.getfield 10, 3) := by decide +kernel
theorem dX4_count_72 : decode cX4_count 72 = .ok (.getfield 58, 3) := by decide +kernel
theorem dX4_count_75 : decode cX4_count 75 = .ok (.ireturn, 1) := by decide +kernel
theorem dX4_count_76 : decode cX4_count 76 = .ok (.aload_n 0, 1) := by decide +kernel
theorem dX4_count_77 : decode cX4_count 77 = .ok (.getfield 10, 3) := by decide +kernel
theorem dX4_count_80 : decode cX4_count 80 = .ok (.invokevirtual 182, 3) := by decide +kernel
theorem dX4_count_83 : decode cX4_count 83 = .ok (.ireturn, 1) := by decide +kernel
theorem dX4_count_84 : decode cX4_count 84 = .ok (.aload_n 0, 1) := by decide +kernel
theorem dX4_count_85 : decode cX4_count 85 = .ok (.getfield 21, 3) := by decide +kernel
theorem dX4_count_88 : decode cX4_count 88 = .ok (.getfield 102, 3) := by decide +kernel
theorem dX4_count_91 : decode cX4_count 91 = .ok (.ireturn, 1) := by decide +kernel
theorem dX4_count_92 : decode cX4_count 92 = .ok (.aload_n 0, 1) := by decide +kernel
theorem dX4_count_93 : decode cX4_count 93 = .ok (.getfield 21, 3) := by decide +kernel
theorem dX4_count_96 : decode cX4_count 96 = .ok (.getfield 105, 3) := by decide +kernel
theorem dX4_count_99 : decode cX4_count 99 = .ok (.ireturn, 1) := by decide +kernel
theorem dX4_count_100 : decode cX4_count 100 = .ok (.aload_n 0, 1) := by decide +kernel
theorem dX4_count_101 : decode cX4_count 101 = .ok (.getfield 21, 3) := by decide +kernel
theorem dX4_count_104 : decode cX4_count 104 = .ok (.getfield 185, 3) := by decide +kernel
theorem dX4_count_107 : decode cX4_count 107 = .ok (.ireturn, 1) := by decide +kernel
theorem dX4_count_108 : decode cX4_count 108 = .ok (.aload_n 0, 1) := by decide +kernel
theorem dX4_count_109 : decode cX4_count 109 = .ok (.getfield 21, 3) := by decide +kernel
theorem dX4_count_112 : decode cX4_count 112 = .ok (.getfield 124, 3) := by decide +kernel
theorem dX4_count_115 : decode cX4_count 115 = .ok (.ifCond .eq 7, 3) := by decide +kernel
theorem dX4_count_118 : decode cX4_count 118 = .ok (.iconst 1, 1) := by decide +kernel
theorem dX4_count_119 : decode cX4_count 119 = .ok (.goto 4, 3) := by decide +kernel
theorem dX4_count_122 : decode cX4_count 122 = .ok (.iconst 0, 1) := by decide +kernel
theorem dX4_count_123 : decode cX4_count 123 = .ok (.ireturn, 1) := by decide +kernel
theorem dX4_count_124 : decode cX4_count 124 = .ok (.aload_n 0, 1) := by decide +kernel
theorem dX4_count_125 : decode cX4_count 125 = .ok (.getfield 28, 3) := by decide +kernel
theorem dX4_count_128 : decode cX4_count 128 = .ok (.getfield 50, 3) := by decide +kernel
theorem dX4_count_131 : decode cX4_count 131 = .ok (.ifCond .eq 7, 3) := by decide +kernel
theorem dX4_count_134 : decode cX4_count 134 = .ok (.iconst 1, 1) := by decide +kernel
theorem dX4_count_135 : decode cX4_count 135 = .ok (.goto 4, 3) := by decide +kernel
theorem dX4_count_138 : decode cX4_count 138 = .ok (.iconst 0, 1) := by decide +kernel
theorem dX4_count_139 : decode cX4_count 139 = .ok (.ireturn, 1) := by decide +kernel
theorem dX4_count_140 : decode cX4_count 140 = .ok (.bipush (-2), 2) := by decide +kernel
theorem dX4_count_142 : decode cX4_count 142 = .ok (.ireturn, 1) := by decide +kernel
theorem dX4_digest_0 : decode cX4_digest 0 = .ok (.ldc2_w 188, 3) := by decide +kernel
theorem dX4_digest_3 : decode cX4_digest 3 = .ok (.lstore_n 1, 1) := by decide +kernel
theorem dX4_digest_4 : decode cX4_digest 4 = .ok (.iconst 0, 1) := by decide +kernel
theorem dX4_digest_5 : decode cX4_digest 5 = .ok (.istore_n 3, 1) := by decide +kernel
theorem dX4_digest_6 : decode cX4_digest 6 = .ok (.iload_n 3, 1) := by decide +kernel
theorem dX4_digest_7 : decode cX4_digest 7 = .ok (.bipush 9, 2) := by decide +kernel
theorem dX4_digest_9 : decode cX4_digest 9 = .ok (.if_icmp .ge 22, 3) := by decide +kernel
theorem dX4_digest_12 : decode cX4_digest 12 = .ok (.ldc2_w 190, 3) := by decide +kernel
theorem dX4_digest_15 : decode cX4_digest 15 = .ok (.lload_n 1, 1) := by decide +kernel
theorem dX4_digest_16 : decode cX4_digest 16 = .ok (.lmul, 1) := by decide +kernel
theorem dX4_digest_17 : decode cX4_digest 17 = .ok (.aload_n 0, 1) := by decide +kernel
theorem dX4_digest_18 : decode cX4_digest 18 = .ok (.iload_n 3, 1) := by decide +kernel
theorem dX4_digest_19 : decode cX4_digest 19 = .ok (.invokevirtual 192, 3) := by decide +kernel
theorem dX4_digest_22 : decode cX4_digest 22 = .ok (.i2l, 1) := by decide +kernel
theorem dX4_digest_23 : decode cX4_digest 23 = .ok (.ladd, 1) := by decide +kernel
theorem dX4_digest_24 : decode cX4_digest 24 = .ok (.lstore_n 1, 1) := by decide +kernel
theorem dX4_digest_25 : decode cX4_digest 25 = .ok (.iinc 3 1, 3) := by decide +kernel
theorem dX4_digest_28 : decode cX4_digest 28 = .ok (.goto (-22), 3) := by decide +kernel
theorem dX4_digest_31 : decode cX4_digest 31 = .ok (.aload_n 0, 1) := by decide +kernel
theorem dX4_digest_32 : decode cX4_digest 32 = .ok (.getfield 10, 3) := by decide +kernel
theorem dX4_digest_35 : decode cX4_digest 35 = .ok (.lload_n 1, 1) := by decide +kernel
theorem dX4_digest_36 : decode cX4_digest 36 = .ok (.invokevirtual 195, 3) := by decide +kernel
theorem dX4_digest_39 : decode cX4_digest 39 = .ok (.lstore_n 1, 1) := by decide +kernel
theorem dX4_digest_40 : decode cX4_digest 40 = .ok (.aload_n 0, 1) := by decide +kernel
theorem dX4_digest_41 : decode cX4_digest 41 = .ok (.getfield 21, 3) := by decide +kernel
theorem dX4_digest_44 : decode cX4_digest 44 = .ok (.lload_n 1, 1) := by decide +kernel
theorem dX4_digest_45 : decode cX4_digest 45 = .ok (.invokevirtual 199, 3) := by decide +kernel
theorem dX4_digest_48 : decode cX4_digest 48 = .ok (.lstore_n 1, 1) := by decide +kernel
theorem dX4_digest_49 : decode cX4_digest 49 = .ok (.aload_n 0, 1) := by decide +kernel
theorem dX4_digest_50 : decode cX4_digest 50 = .ok (.getfield 35, 3) := by decide +kernel
theorem dX4_digest_53 : decode cX4_digest 53 = .ok (.lload_n 1, 1) := by decide +kernel
theorem dX4_digest_54 : decode cX4_digest 54 = .ok (.invokevirtual 200, 3) := by decide +kernel
theorem dX4_digest_57 : decode cX4_digest 57 = .ok (.lreturn, 1) := by decide +kernel
theorem dX4_within_0 : decode cX4_within 0 = .ok (.iload_n 0, 1) := by decide +kernel
theorem dX4_within_1 : decode cX4_within 1 = .ok (.iload_n 1, 1) := by decide +kernel
theorem dX4_within_2 : decode cX4_within 2 = .ok (.if_icmp .lt 12, 3) := by decide +kernel
theorem dX4_within_5 : decode cX4_within 5 = .ok (.iload_n 0, 1) := by decide +kernel
theorem dX4_within_6 : decode cX4_within 6 = .ok (.iload_n 2, 1) := by decide +kernel
theorem dX4_within_7 : decode cX4_within 7 = .ok (.if_icmp .gt 7, 3) := by decide +kernel
theorem dX4_within_10 : decode cX4_within 10 = .ok (.iconst 1, 1) := by decide +kernel
theorem dX4_within_11 : decode cX4_within 11 = .ok (.goto 4, 3) := by decide +kernel
theorem dX4_within_14 : decode cX4_within 14 = .ok (.iconst 0, 1) := by decide +kernel
theorem dX4_within_15 : decode cX4_within 15 = .ok (.ireturn, 1) := by decide +kernel
theorem dX4_fullTable_0 : decode cX4_fullTable 0 = .ok (.iconst 1, 1) := by decide +kernel
theorem dX4_fullTable_1 : decode cX4_fullTable 1 = .ok (.iconst 1, 1) := by decide +kernel
theorem dX4_fullTable_2 : decode cX4_fullTable 2 = .ok (.iload_n 0, 1) := by decide +kernel
theorem dX4_fullTable_3 : decode cX4_fullTable 3 = .ok (.ishl, 1) := by decide +kernel
theorem dX4_fullTable_4 : decode cX4_fullTable 4 = .ok (.ishl, 1) := by decide +kernel
theorem dX4_fullTable_5 : decode cX4_fullTable 5 = .ok (.iconst 1, 1) := by decide +kernel
theorem dX4_fullTable_6 : decode cX4_fullTable 6 = .ok (.isub, 1) := by decide +kernel
theorem dX4_fullTable_7 : decode cX4_fullTable 7 = .ok (.ireturn, 1) := by decide +kernel
theorem dX4_packAct_0 : decode cX4_packAct 0 = .ok (.iload_n 0, 1) := by decide +kernel
theorem dX4_packAct_1 : decode cX4_packAct 1 = .ok (.bipush 6, 2) := by decide +kernel
theorem dX4_packAct_3 : decode cX4_packAct 3 = .ok (.ishl, 1) := by decide +kernel
theorem dX4_packAct_4 : decode cX4_packAct 4 = .ok (.iload_n 1, 1) := by decide +kernel
theorem dX4_packAct_5 : decode cX4_packAct 5 = .ok (.iconst 3, 1) := by decide +kernel
theorem dX4_packAct_6 : decode cX4_packAct 6 = .ok (.ishl, 1) := by decide +kernel
theorem dX4_packAct_7 : decode cX4_packAct 7 = .ok (.ior, 1) := by decide +kernel
theorem dX4_packAct_8 : decode cX4_packAct 8 = .ok (.iload_n 2, 1) := by decide +kernel
theorem dX4_packAct_9 : decode cX4_packAct 9 = .ok (.ior, 1) := by decide +kernel
theorem dX4_packAct_10 : decode cX4_packAct 10 = .ok (.ireturn, 1) := by decide +kernel
theorem dX4_actPart_0 : decode cX4_actPart 0 = .ok (.iload_n 0, 1) := by decide +kernel
theorem dX4_actPart_1 : decode cX4_actPart 1 = .ok (.bipush 6, 2) := by decide +kernel
theorem dX4_actPart_3 : decode cX4_actPart 3 = .ok (.iconst 3, 1) := by decide +kernel
theorem dX4_actPart_4 : decode cX4_actPart 4 = .ok (.iload_n 1, 1) := by decide +kernel
theorem dX4_actPart_5 : decode cX4_actPart 5 = .ok (.imul, 1) := by decide +kernel
theorem dX4_actPart_6 : decode cX4_actPart 6 = .ok (.isub, 1) := by decide +kernel
theorem dX4_actPart_7 : decode cX4_actPart 7 = .ok (.ishr, 1) := by decide +kernel
theorem dX4_actPart_8 : decode cX4_actPart 8 = .ok (.bipush 7, 2) := by decide +kernel
theorem dX4_actPart_10 : decode cX4_actPart 10 = .ok (.iand, 1) := by decide +kernel
theorem dX4_actPart_11 : decode cX4_actPart 11 = .ok (.ireturn, 1) := by decide +kernel
theorem dX4_packVisit_0 : decode cX4_packVisit 0 = .ok (.iload_n 1, 1) := by decide +kernel
theorem dX4_packVisit_1 : decode cX4_packVisit 1 = .ok (.i2l, 1) := by decide +kernel
theorem dX4_packVisit_2 : decode cX4_packVisit 2 = .ok (.bipush 32, 2) := by decide +kernel
theorem dX4_packVisit_4 : decode cX4_packVisit 4 = .ok (.lshl, 1) := by decide +kernel
theorem dX4_packVisit_5 : decode cX4_packVisit 5 = .ok (.iload_n 2, 1) := by decide +kernel
theorem dX4_packVisit_6 : decode cX4_packVisit 6 = .ok (.bipush 16, 2) := by decide +kernel
theorem dX4_packVisit_8 : decode cX4_packVisit 8 = .ok (.ishl, 1) := by decide +kernel
theorem dX4_packVisit_9 : decode cX4_packVisit 9 = .ok (.i2l, 1) := by decide +kernel
theorem dX4_packVisit_10 : decode cX4_packVisit 10 = .ok (.lor, 1) := by decide +kernel
theorem dX4_packVisit_11 : decode cX4_packVisit 11 = .ok (.iload_n 0, 1) := by decide +kernel
theorem dX4_packVisit_12 : decode cX4_packVisit 12 = .ok (.i2l, 1) := by decide +kernel
theorem dX4_packVisit_13 : decode cX4_packVisit 13 = .ok (.lor, 1) := by decide +kernel
theorem dX4_packVisit_14 : decode cX4_packVisit 14 = .ok (.lreturn, 1) := by decide +kernel
theorem dX4_stateOf_0 : decode cX4_stateOf 0 = .ok (.lload_n 0, 1) := by decide +kernel
theorem dX4_stateOf_1 : decode cX4_stateOf 1 = .ok (.l2i, 1) := by decide +kernel
theorem dX4_stateOf_2 : decode cX4_stateOf 2 = .ok (.ldc 201, 2) := by decide +kernel
theorem dX4_stateOf_4 : decode cX4_stateOf 4 = .ok (.iand, 1) := by decide +kernel
theorem dX4_stateOf_5 : decode cX4_stateOf 5 = .ok (.ireturn, 1) := by decide +kernel
theorem dX4_cameBy_0 : decode cX4_cameBy 0 = .ok (.lload_n 0, 1) := by decide +kernel
theorem dX4_cameBy_1 : decode cX4_cameBy 1 = .ok (.l2i, 1) := by decide +kernel
theorem dX4_cameBy_2 : decode cX4_cameBy 2 = .ok (.bipush 16, 2) := by decide +kernel
theorem dX4_cameBy_4 : decode cX4_cameBy 4 = .ok (.ishr, 1) := by decide +kernel
theorem dX4_cameBy_5 : decode cX4_cameBy 5 = .ok (.ireturn, 1) := by decide +kernel
theorem dX4_cameFrom_0 : decode cX4_cameFrom 0 = .ok (.lload_n 0, 1) := by decide +kernel
theorem dX4_cameFrom_1 : decode cX4_cameFrom 1 = .ok (.bipush 32, 2) := by decide +kernel
theorem dX4_cameFrom_3 : decode cX4_cameFrom 3 = .ok (.lshr, 1) := by decide +kernel
theorem dX4_cameFrom_4 : decode cX4_cameFrom 4 = .ok (.l2i, 1) := by decide +kernel
theorem dX4_cameFrom_5 : decode cX4_cameFrom 5 = .ok (.ireturn, 1) := by decide +kernel
theorem dX5_in_0 : decode cX5_in 0 = .ok (.iload_n 0, 1) := by decide +kernel
theorem dX5_in_1 : decode cX5_in 1 = .ok (.iload_n 1, 1) := by decide +kernel
theorem dX5_in_2 : decode cX5_in 2 = .ok (.if_icmp .lt 12, 3) := by decide +kernel
theorem dX5_in_5 : decode cX5_in 5 = .ok (.iload_n 0, 1) := by decide +kernel
theorem dX5_in_6 : decode cX5_in 6 = .ok (.iload_n 2, 1) := by decide +kernel
theorem dX5_in_7 : decode cX5_in 7 = .ok (.if_icmp .gt 7, 3) := by decide +kernel
theorem dX5_in_10 : decode cX5_in 10 = .ok (.iconst 1, 1) := by decide +kernel
theorem dX5_in_11 : decode cX5_in 11 = .ok (.goto 4, 3) := by decide +kernel
theorem dX5_in_14 : decode cX5_in 14 = .ok (.iconst 0, 1) := by decide +kernel
theorem dX5_in_15 : decode cX5_in 15 = .ok (.ireturn, 1) := by decide +kernel
theorem dX5_init_0 : decode cX5_init 0 = .ok (.aload_n 0, 1) := by decide +kernel
theorem dX5_init_1 : decode cX5_init 1 = .ok (.invokespecial 1, 3) := by decide +kernel
theorem dX5_init_4 : decode cX5_init 4 = .ok (.aload_n 0, 1) := by decide +kernel
theorem dX5_init_5 : decode cX5_init 5 = .ok (.iconst 1, 1) := by decide +kernel
theorem dX5_init_6 : decode cX5_init 6 = .ok (.putfield 7, 3) := by decide +kernel
theorem dX5_init_9 : decode cX5_init 9 = .ok (.aload_n 0, 1) := by decide +kernel
theorem dX5_init_10 : decode cX5_init 10 = .ok (.iconst 1, 1) := by decide +kernel
theorem dX5_init_11 : decode cX5_init 11 = .ok (.putfield 13, 3) := by decide +kernel
theorem dX5_init_14 : decode cX5_init 14 = .ok (.aload_n 0, 1) := by decide +kernel
theorem dX5_init_15 : decode cX5_init 15 = .ok (.iconst 1, 1) := by decide +kernel
theorem dX5_init_16 : decode cX5_init 16 = .ok (.putfield 16, 3) := by decide +kernel
theorem dX5_init_19 : decode cX5_init 19 = .ok (.aload_n 0, 1) := by decide +kernel
theorem dX5_init_20 : decode cX5_init 20 = .ok (.sipush 192, 3) := by decide +kernel
theorem dX5_init_23 : decode cX5_init 23 = .ok (.newarray .int, 2) := by decide +kernel
theorem dX5_init_25 : decode cX5_init 25 = .ok (.putfield 19, 3) := by decide +kernel
theorem dX5_init_28 : decode cX5_init 28 = .ok (.aload_n 0, 1) := by decide +kernel
theorem dX5_init_29 : decode cX5_init 29 = .ok (.sipush 192, 3) := by decide +kernel
theorem dX5_init_32 : decode cX5_init 32 = .ok (.newarray .int, 2) := by decide +kernel
theorem dX5_init_34 : decode cX5_init 34 = .ok (.putfield 23, 3) := by decide +kernel
theorem dX5_init_37 : decode cX5_init 37 = .ok (.aload_n 0, 1) := by decide +kernel
theorem dX5_init_38 : decode cX5_init 38 = .ok (.sipush 192, 3) := by decide +kernel
theorem dX5_init_41 : decode cX5_init 41 = .ok (.newarray .int, 2) := by decide +kernel
theorem dX5_init_43 : decode cX5_init 43 = .ok (.putfield 26, 3) := by decide +kernel
theorem dX5_init_46 : decode cX5_init 46 = .ok (.aload_n 0, 1) := by decide +kernel
theorem dX5_init_47 : decode cX5_init 47 = .ok (.bipush 8, 2) := by decide +kernel
theorem dX5_init_49 : decode cX5_init 49 = .ok (.newarray .int, 2) := by decide +kernel
theorem dX5_init_51 : decode cX5_init 51 = .ok (.putfield 29, 3) := by decide +kernel
theorem dX5_init_54 : decode cX5_init 54 = .ok (.aload_n 0, 1) := by decide +kernel
theorem dX5_init_55 : decode cX5_init 55 = .ok (.bipush 16, 2) := by decide +kernel
theorem dX5_init_57 : decode cX5_init 57 = .ok (.putfield 32, 3) := by decide +kernel
theorem dX5_init_60 : decode cX5_init 60 = .ok (.aload_n 0, 1) := by decide +kernel
theorem dX5_init_61 : decode cX5_init 61 = .ok (.bipush 96, 2) := by decide +kernel
theorem dX5_init_63 : decode cX5_init 63 = .ok (.newarray .int, 2) := by decide +kernel
theorem dX5_init_65 : decode cX5_init 65 = .ok (.putfield 35, 3) := by decide +kernel
theorem dX5_init_68 : decode cX5_init 68 = .ok (.aload_n 0, 1) := by decide +kernel
theorem dX5_init_69 : decode cX5_init 69 = .ok (.bipush 8, 2) := by decide +kernel
theorem dX5_init_71 : decode cX5_init 71 = .ok (.newarray .int, 2) := by decide +kernel
theorem dX5_init_73 : decode cX5_init 73 = .ok (.putfield 38, 3) := by decide +kernel
theorem dX5_init_76 : decode cX5_init 76 = .ok (.aload_n 0, 1) := by decide +kernel
theorem dX5_init_77 : decode cX5_init 77 = .ok (.bipush 8, 2) := by decide +kernel
theorem dX5_init_79 : decode cX5_init 79 = .ok (.newarray .int, 2) := by decide +kernel
theorem dX5_init_81 : decode cX5_init 81 = .ok (.putfield 41, 3) := by decide +kernel
theorem dX5_init_84 : decode cX5_init 84 = .ok (.aload_n 0, 1) := by decide +kernel
theorem dX5_init_85 : decode cX5_init 85 = .ok (.bipush 8, 2) := by decide +kernel
theorem dX5_init_87 : decode cX5_init 87 = .ok (.newarray .int, 2) := by decide +kernel
theorem dX5_init_89 : decode cX5_init 89 = .ok (.putfield 44, 3) := by decide +kernel
theorem dX5_init_92 : decode cX5_init 92 = .ok (.aload_n 0, 1) := by decide +kernel
theorem dX5_init_93 : decode cX5_init 93 = .ok (.bipush 64, 2) := by decide +kernel
theorem dX5_init_95 : decode cX5_init 95 = .ok (.newarray .int, 2) := by decide +kernel
theorem dX5_init_97 : decode cX5_init 97 = .ok (.putfield 47, 3) := by decide +kernel
theorem dX5_init_100 : decode cX5_init 100 = .ok (.aload_n 0, 1) := by decide +kernel
theorem dX5_init_101 : decode cX5_init 101 = .ok (.bipush 8, 2) := by decide +kernel
theorem dX5_init_103 : decode cX5_init 103 = .ok (.newarray .int, 2) := by decide +kernel
theorem dX5_init_105 : decode cX5_init 105 = .ok (.putfield 50, 3) := by decide +kernel
theorem dX5_init_108 : decode cX5_init 108 = .ok (.aload_n 0, 1) := by decide +kernel
theorem dX5_init_109 : decode cX5_init 109 = .ok (.bipush 8, 2) := by decide +kernel
theorem dX5_init_111 : decode cX5_init 111 = .ok (.newarray .int, 2) := by decide +kernel
theorem dX5_init_113 : decode cX5_init 113 = .ok (.putfield 53, 3) := by decide +kernel
theorem dX5_init_116 : decode cX5_init 116 = .ok (.aload_n 0, 1) := by decide +kernel
theorem dX5_init_117 : decode cX5_init 117 = .ok (.bipush 9, 2) := by decide +kernel
theorem dX5_init_119 : decode cX5_init 119 = .ok (.newarray .int, 2) := by decide +kernel
theorem dX5_init_121 : decode cX5_init 121 = .ok (.putfield 56, 3) := by decide +kernel
theorem dX5_init_124 : decode cX5_init 124 = .ok (.aload_n 0, 1) := by decide +kernel
theorem dX5_init_125 : decode cX5_init 125 = .ok (.sipush 8000, 3) := by decide +kernel
theorem dX5_init_128 : decode cX5_init 128 = .ok (.newarray .long, 2) := by decide +kernel
theorem dX5_init_130 : decode cX5_init 130 = .ok (.putfield 59, 3) := by decide +kernel
theorem dX5_init_133 : decode cX5_init 133 = .ok (.aload_n 0, 1) := by decide +kernel
theorem dX5_init_134 : decode cX5_init 134 = .ok (.sipush 8000, 3) := by decide +kernel
theorem dX5_init_137 : decode cX5_init 137 = .ok (.newarray .int, 2) := by decide +kernel
theorem dX5_init_139 : decode cX5_init 139 = .ok (.putfield 63, 3) := by decide +kernel
theorem dX5_init_142 : decode cX5_init 142 = .ok (.aload_n 0, 1) := by decide +kernel
theorem dX5_init_143 : decode cX5_init 143 = .ok (.sipush 8000, 3) := by decide +kernel
theorem dX5_init_146 : decode cX5_init 146 = .ok (.newarray .int, 2) := by decide +kernel
theorem dX5_init_148 : decode cX5_init 148 = .ok (.putfield 66, 3) := by decide +kernel
theorem dX5_init_151 : decode cX5_init 151 = .ok (.aload_n 0, 1) := by decide +kernel
theorem dX5_init_152 : decode cX5_init 152 = .ok (.sipush 16384, 3) := by decide +kernel
theorem dX5_init_155 : decode cX5_init 155 = .ok (.newarray .int, 2) := by decide +kernel
theorem dX5_init_157 : decode cX5_init 157 = .ok (.putfield 69, 3) := by decide +kernel
theorem dX5_init_160 : decode cX5_init 160 = .ok (.aload_n 0, 1) := by decide +kernel
theorem dX5_init_161 : decode cX5_init 161 = .ok (.sipush 8000, 3) := by decide +kernel
theorem dX5_init_164 : decode cX5_init 164 = .ok (.newarray .int, 2) := by decide +kernel
theorem dX5_init_166 : decode cX5_init 166 = .ok (.putfield 72, 3) := by decide +kernel
theorem dX5_init_169 : decode cX5_init 169 = .ok (.aload_n 0, 1) := by decide +kernel
theorem dX5_init_170 : decode cX5_init 170 = .ok (.iconst (-1), 1) := by decide +kernel
theorem dX5_init_171 : decode cX5_init 171 = .ok (.putfield 75, 3) := by decide +kernel
theorem dX5_init_174 : decode cX5_init 174 = .ok (.aload_n 0, 1) := by decide +kernel
theorem dX5_init_175 : decode cX5_init 175 = .ok (.iconst 1, 1) := by decide +kernel
theorem dX5_init_176 : decode cX5_init 176 = .ok (.iconst 1, 1) := by decide +kernel
theorem dX5_init_177 : decode cX5_init 177 = .ok (.iconst 1, 1) := by decide +kernel
theorem dX5_init_178 : decode cX5_init 178 = .ok (.invokevirtual 78, 3) := by decide +kernel
theorem dX5_init_181 : decode cX5_init 181 = .ok (.return_, 1) := by decide +kernel
theorem dX5_begins_0 : decode cX5_begins 0 = .ok (.aload_n 0, 1) := by decide +kernel
theorem dX5_begins_1 : decode cX5_begins 1 = .ok (.iload_n 1, 1) := by decide +kernel
theorem dX5_begins_2 : decode cX5_begins 2 = .ok (.putfield 7, 3) := by decide +kernel
theorem dX5_begins_5 : decode cX5_begins 5 = .ok (.aload_n 0, 1) := by decide +kernel
theorem dX5_begins_6 : decode cX5_begins 6 = .ok (.iload_n 2, 1) := by decide +kernel
theorem dX5_begins_7 : decode cX5_begins 7 = .ok (.putfield 13, 3) := by decide +kernel
theorem dX5_begins_10 : decode cX5_begins 10 = .ok (.aload_n 0, 1) := by decide +kernel
theorem dX5_begins_11 : decode cX5_begins 11 = .ok (.iload_n 3, 1) := by decide +kernel
theorem dX5_begins_12 : decode cX5_begins 12 = .ok (.putfield 16, 3) := by decide +kernel
theorem dX5_begins_15 : decode cX5_begins 15 = .ok (.aload_n 0, 1) := by decide +kernel
theorem dX5_begins_16 : decode cX5_begins 16 = .ok (.bipush 16, 2) := by decide +kernel
theorem dX5_begins_18 : decode cX5_begins 18 = .ok (.putfield 32, 3) := by decide +kernel
theorem dX5_begins_21 : decode cX5_begins 21 = .ok (.aload_n 0, 1) := by decide +kernel
theorem dX5_begins_22 : decode cX5_begins 22 = .ok (.iconst 0, 1) := by decide +kernel
theorem dX5_begins_23 : decode cX5_begins 23 = .ok (.putfield 82, 3) := by decide +kernel
theorem dX5_begins_26 : decode cX5_begins 26 = .ok (.aload_n 0, 1) := by decide +kernel
theorem dX5_begins_27 : decode cX5_begins 27 = .ok (.iconst 0, 1) := by decide +kernel
theorem dX5_begins_28 : decode cX5_begins 28 = .ok (.putfield 85, 3) := by decide +kernel
theorem dX5_begins_31 : decode cX5_begins 31 = .ok (.aload_n 0, 1) := by decide +kernel
theorem dX5_begins_32 : decode cX5_begins 32 = .ok (.iconst 0, 1) := by decide +kernel
theorem dX5_begins_33 : decode cX5_begins 33 = .ok (.putfield 88, 3) := by decide +kernel
theorem dX5_begins_36 : decode cX5_begins 36 = .ok (.aload_n 0, 1) := by decide +kernel
theorem dX5_begins_37 : decode cX5_begins 37 = .ok (.iconst 0, 1) := by decide +kernel
theorem dX5_begins_38 : decode cX5_begins 38 = .ok (.putfield 91, 3) := by decide +kernel
theorem dX5_begins_41 : decode cX5_begins 41 = .ok (.aload_n 0, 1) := by decide +kernel
theorem dX5_begins_42 : decode cX5_begins 42 = .ok (.iconst 0, 1) := by decide +kernel
theorem dX5_begins_43 : decode cX5_begins 43 = .ok (.putfield 95, 3) := by decide +kernel
theorem dX5_begins_46 : decode cX5_begins 46 = .ok (.iconst 0, 1) := by decide +kernel
theorem dX5_begins_47 : decode cX5_begins 47 = .ok (.istore 4, 2) := by decide +kernel
theorem dX5_begins_49 : decode cX5_begins 49 = .ok (.iload 4, 2) := by decide +kernel
theorem dX5_begins_51 : decode cX5_begins 51 = .ok (.sipush 192, 3) := by decide +kernel
theorem dX5_begins_54 : decode cX5_begins 54 = .ok (.if_icmp .ge 33, 3) := by decide +kernel
theorem dX5_begins_57 : decode cX5_begins 57 = .ok (.aload_n 0, 1) := by decide +kernel
theorem dX5_begins_58 : decode cX5_begins 58 = .ok (.getfield 19, 3) := by decide +kernel
theorem dX5_begins_61 : decode cX5_begins 61 = .ok (.iload 4, 2) := by decide +kernel
theorem dX5_begins_63 : decode cX5_begins 63 = .ok (.iconst 0, 1) := by decide +kernel
theorem dX5_begins_64 : decode cX5_begins 64 = .ok (.iastore, 1) := by decide +kernel
theorem dX5_begins_65 : decode cX5_begins 65 = .ok (.aload_n 0, 1) := by decide +kernel
theorem dX5_begins_66 : decode cX5_begins 66 = .ok (.getfield 23, 3) := by decide +kernel
theorem dX5_begins_69 : decode cX5_begins 69 = .ok (.iload 4, 2) := by decide +kernel
theorem dX5_begins_71 : decode cX5_begins 71 = .ok (.iconst (-1), 1) := by decide +kernel
theorem dX5_begins_72 : decode cX5_begins 72 = .ok (.iastore, 1) := by decide +kernel
theorem dX5_begins_73 : decode cX5_begins 73 = .ok (.aload_n 0, 1) := by decide +kernel
theorem dX5_begins_74 : decode cX5_begins 74 = .ok (.getfield 26, 3) := by decide +kernel
theorem dX5_begins_77 : decode cX5_begins 77 = .ok (.iload 4, 2) := by decide +kernel
theorem dX5_begins_79 : decode cX5_begins 79 = .ok (.iconst 0, 1) := by decide +kernel
theorem dX5_begins_80 : decode cX5_begins 80 = .ok (.iastore, 1) := by decide +kernel
theorem dX5_begins_81 : decode cX5_begins 81 = .ok (.iinc 4 1, 3) := by decide +kernel
theorem dX5_begins_84 : decode cX5_begins 84 = .ok (.goto (-35), 3) := by decide +kernel
theorem dX5_begins_87 : decode cX5_begins 87 = .ok (.iconst 0, 1) := by decide +kernel
theorem dX5_begins_88 : decode cX5_begins 88 = .ok (.istore 4, 2) := by decide +kernel
theorem dX5_begins_90 : decode cX5_begins 90 = .ok (.iload 4, 2) := by decide +kernel
theorem dX5_begins_92 : decode cX5_begins 92 = .ok (.bipush 8, 2) := by decide +kernel
theorem dX5_begins_94 : decode cX5_begins 94 = .ok (.if_icmp .ge 17, 3) := by decide +kernel
theorem dX5_begins_97 : decode cX5_begins 97 = .ok (.aload_n 0, 1) := by decide +kernel
theorem dX5_begins_98 : decode cX5_begins 98 = .ok (.getfield 29, 3) := by decide +kernel
theorem dX5_begins_101 : decode cX5_begins 101 = .ok (.iload 4, 2) := by decide +kernel
theorem dX5_begins_103 : decode cX5_begins 103 = .ok (.iconst 0, 1) := by decide +kernel
theorem dX5_begins_104 : decode cX5_begins 104 = .ok (.iastore, 1) := by decide +kernel
theorem dX5_begins_105 : decode cX5_begins 105 = .ok (.iinc 4 1, 3) := by decide +kernel
theorem dX5_begins_108 : decode cX5_begins 108 = .ok (.goto (-18), 3) := by decide +kernel
theorem dX5_begins_111 : decode cX5_begins 111 = .ok (.return_, 1) := by decide +kernel
theorem dX5_mesh_0 : decode cX5_mesh 0 = .ok (.iload_n 1, 1) := by decide +kernel
theorem dX5_mesh_1 : decode cX5_mesh 1 = .ok (.iconst 1, 1) := by decide +kernel
theorem dX5_mesh_2 : decode cX5_mesh 2 = .ok (.bipush 8, 2) := by decide +kernel
theorem dX5_mesh_4 : decode cX5_mesh 4 = .ok (.invokestatic 98, 3) := by decide +kernel
theorem dX5_mesh_7 : decode cX5_mesh 7 = .ok (.ifCond .eq 23, 3) := by decide +kernel
theorem dX5_mesh_10 : decode cX5_mesh 10 = .ok (.iload_n 2, 1) := by decide +kernel
theorem dX5_mesh_11 : decode cX5_mesh 11 = .ok (.iconst 1, 1) := by decide +kernel
theorem dX5_mesh_12 : decode cX5_mesh 12 = .ok (.bipush 24, 2) := by decide +kernel
theorem dX5_mesh_14 : decode cX5_mesh 14 = .ok (.invokestatic 98, 3) := by decide +kernel
theorem dX5_mesh_17 : decode cX5_mesh 17 = .ok (.ifCond .eq 13, 3) := by decide +kernel
theorem dX5_mesh_20 : decode cX5_mesh 20 = .ok (.iload_n 3, 1) := by decide +kernel
theorem dX5_mesh_21 : decode cX5_mesh 21 = .ok (.iconst 1, 1) := by decide +kernel
theorem dX5_mesh_22 : decode cX5_mesh 22 = .ok (.bipush 15, 2) := by decide +kernel
theorem dX5_mesh_24 : decode cX5_mesh 24 = .ok (.invokestatic 98, 3) := by decide +kernel
theorem dX5_mesh_27 : decode cX5_mesh 27 = .ok (.ifCond .ne 6, 3) := by decide +kernel
theorem dX5_mesh_30 : decode cX5_mesh 30 = .ok (.bipush (-2), 2) := by decide +kernel
theorem dX5_mesh_32 : decode cX5_mesh 32 = .ok (.ireturn, 1) := by decide +kernel
theorem dX5_mesh_33 : decode cX5_mesh 33 = .ok (.aload_n 0, 1) := by decide +kernel
theorem dX5_mesh_34 : decode cX5_mesh 34 = .ok (.iload_n 1, 1) := by decide +kernel
theorem dX5_mesh_35 : decode cX5_mesh 35 = .ok (.iload_n 2, 1) := by decide +kernel
theorem dX5_mesh_36 : decode cX5_mesh 36 = .ok (.iload_n 3, 1) := by decide +kernel
theorem dX5_mesh_37 : decode cX5_mesh 37 = .ok (.invokevirtual 78, 3) := by decide +kernel
theorem dX5_mesh_40 : decode cX5_mesh 40 = .ok (.iconst 1, 1) := by decide +kernel
theorem dX5_mesh_41 : decode cX5_mesh 41 = .ok (.ireturn, 1) := by decide +kernel
theorem dX5_isCell_0 : decode cX5_isCell 0 = .ok (.iload_n 1, 1) := by decide +kernel
theorem dX5_isCell_1 : decode cX5_isCell 1 = .ok (.iconst 0, 1) := by decide +kernel
theorem dX5_isCell_2 : decode cX5_isCell 2 = .ok (.aload_n 0, 1) := by decide +kernel
theorem dX5_isCell_3 : decode cX5_isCell 3 = .ok (.getfield 7, 3) := by decide +kernel
theorem dX5_isCell_6 : decode cX5_isCell 6 = .ok (.iconst 1, 1) := by decide +kernel
theorem dX5_isCell_7 : decode cX5_isCell 7 = .ok (.isub, 1) := by decide +kernel
theorem dX5_isCell_8 : decode cX5_isCell 8 = .ok (.invokestatic 98, 3) := by decide +kernel
theorem dX5_isCell_11 : decode cX5_isCell 11 = .ok (.ifCond .eq 21, 3) := by decide +kernel
theorem dX5_isCell_14 : decode cX5_isCell 14 = .ok (.iload_n 2, 1) := by decide +kernel
theorem dX5_isCell_15 : decode cX5_isCell 15 = .ok (.iconst 0, 1) := by decide +kernel
theorem dX5_isCell_16 : decode cX5_isCell 16 = .ok (.aload_n 0, 1) := by decide +kernel
theorem dX5_isCell_17 : decode cX5_isCell 17 = .ok (.getfield 13, 3) := by decide +kernel
theorem dX5_isCell_20 : decode cX5_isCell 20 = .ok (.iconst 1, 1) := by decide +kernel
theorem dX5_isCell_21 : decode cX5_isCell 21 = .ok (.isub, 1) := by decide +kernel
theorem dX5_isCell_22 : decode cX5_isCell 22 = .ok (.invokestatic 98, 3) := by decide +kernel
theorem dX5_isCell_25 : decode cX5_isCell 25 = .ok (.ifCond .eq 7, 3) := by decide +kernel
theorem dX5_isCell_28 : decode cX5_isCell 28 = .ok (.iconst 1, 1) := by decide +kernel
theorem dX5_isCell_29 : decode cX5_isCell 29 = .ok (.goto 4, 3) := by decide +kernel
theorem dX5_isCell_32 : decode cX5_isCell 32 = .ok (.iconst 0, 1) := by decide +kernel
theorem dX5_isCell_33 : decode cX5_isCell 33 = .ok (.ireturn, 1) := by decide +kernel
theorem dX5_writes_0 : decode cX5_writes 0 = .ok (.aload_n 0, 1) := by decide +kernel
theorem dX5_writes_1 : decode cX5_writes 1 = .ok (.getfield 23, 3) := by decide +kernel
theorem dX5_writes_4 : decode cX5_writes 4 = .ok (.iload_n 1, 1) := by decide +kernel
theorem dX5_writes_5 : decode cX5_writes 5 = .ok (.iaload, 1) := by decide +kernel
theorem dX5_writes_6 : decode cX5_writes 6 = .ok (.iconst (-1), 1) := by decide +kernel
theorem dX5_writes_7 : decode cX5_writes 7 = .ok (.if_icmp .eq 15, 3) := by decide +kernel
theorem dX5_writes_10 : decode cX5_writes 10 = .ok (.aload_n 0, 1) := by decide +kernel
theorem dX5_writes_11 : decode cX5_writes 11 = .ok (.getfield 23, 3) := by decide +kernel
theorem dX5_writes_14 : decode cX5_writes 14 = .ok (.iload_n 1, 1) := by decide +kernel
theorem dX5_writes_15 : decode cX5_writes 15 = .ok (.iaload, 1) := by decide +kernel
theorem dX5_writes_16 : decode cX5_writes 16 = .ok (.iload_n 2, 1) := by decide +kernel
theorem dX5_writes_17 : decode cX5_writes 17 = .ok (.if_icmp .eq 5, 3) := by decide +kernel
theorem dX5_writes_20 : decode cX5_writes 20 = .ok (.iconst 0, 1) := by decide +kernel
theorem dX5_writes_21 : decode cX5_writes 21 = .ok (.ireturn, 1) := by decide +kernel
theorem dX5_writes_22 : decode cX5_writes 22 = .ok (.aload_n 0, 1) := by decide +kernel
theorem dX5_writes_23 : decode cX5_writes 23 = .ok (.getfield 19, 3) := by decide +kernel
theorem dX5_writes_26 : decode cX5_writes 26 = .ok (.iload_n 1, 1) := by decide +kernel
theorem dX5_writes_27 : decode cX5_writes 27 = .ok (.iload_n 2, 1) := by decide +kernel
theorem dX5_writes_28 : decode cX5_writes 28 = .ok (.iastore, 1) := by decide +kernel
theorem dX5_writes_29 : decode cX5_writes 29 = .ok (.aload_n 0, 1) := by decide +kernel
theorem dX5_writes_30 : decode cX5_writes 30 = .ok (.getfield 26, 3) := by decide +kernel
theorem dX5_writes_33 : decode cX5_writes 33 = .ok (.iload_n 1, 1) := by decide +kernel
theorem dX5_writes_34 : decode cX5_writes 34 = .ok (.iconst 0, 1) := by decide +kernel
theorem dX5_writes_35 : decode cX5_writes 35 = .ok (.iastore, 1) := by decide +kernel
theorem dX5_writes_36 : decode cX5_writes 36 = .ok (.iconst 1, 1) := by decide +kernel
theorem dX5_writes_37 : decode cX5_writes 37 = .ok (.ireturn, 1) := by decide +kernel
theorem dX5_write_0 : decode cX5_write 0 = .ok (.aload_n 0, 1) := by decide +kernel
theorem dX5_write_1 : decode cX5_write 1 = .ok (.iload_n 1, 1) := by decide +kernel
theorem dX5_write_2 : decode cX5_write 2 = .ok (.iload_n 2, 1) := by decide +kernel
theorem dX5_write_3 : decode cX5_write 3 = .ok (.invokevirtual 102, 3) := by decide +kernel
theorem dX5_write_6 : decode cX5_write 6 = .ok (.ifCond .eq 15, 3) := by decide +kernel
theorem dX5_write_9 : decode cX5_write 9 = .ok (.iload_n 3, 1) := by decide +kernel
theorem dX5_write_10 : decode cX5_write 10 = .ok (.iconst 0, 1) := by decide +kernel
theorem dX5_write_11 : decode cX5_write 11 = .ok (.aload_n 0, 1) := by decide +kernel
theorem dX5_write_12 : decode cX5_write 12 = .ok (.getfield 16, 3) := by decide +kernel
theorem dX5_write_15 : decode cX5_write 15 = .ok (.invokestatic 98, 3) := by decide +kernel
theorem dX5_write_18 : decode cX5_write 18 = .ok (.ifCond .ne 6, 3) := by decide +kernel
theorem dX5_write_21 : decode cX5_write 21 = .ok (.bipush (-2), 2) := by decide +kernel
theorem dX5_write_23 : decode cX5_write 23 = .ok (.ireturn, 1) := by decide +kernel
theorem dX5_write_24 : decode cX5_write 24 = .ok (.aload_n 0, 1) := by decide +kernel
theorem dX5_write_25 : decode cX5_write 25 = .ok (.bipush 24, 2) := by decide +kernel
theorem dX5_write_27 : decode cX5_write 27 = .ok (.iload_n 1, 1) := by decide +kernel
theorem dX5_write_28 : decode cX5_write 28 = .ok (.imul, 1) := by decide +kernel
theorem dX5_write_29 : decode cX5_write 29 = .ok (.iload_n 2, 1) := by decide +kernel
theorem dX5_write_30 : decode cX5_write 30 = .ok (.iadd, 1) := by decide +kernel
theorem dX5_write_31 : decode cX5_write 31 = .ok (.iload_n 3, 1) := by decide +kernel
theorem dX5_write_32 : decode cX5_write 32 = .ok (.invokevirtual 106, 3) := by decide +kernel
theorem dX5_write_35 : decode cX5_write 35 = .ok (.ifCond .eq 7, 3) := by decide +kernel
theorem dX5_write_38 : decode cX5_write 38 = .ok (.iconst 1, 1) := by decide +kernel
theorem dX5_write_39 : decode cX5_write 39 = .ok (.goto 5, 3) := by decide +kernel
theorem dX5_write_42 : decode cX5_write 42 = .ok (.bipush (-3), 2) := by decide +kernel
theorem dX5_write_44 : decode cX5_write 44 = .ok (.ireturn, 1) := by decide +kernel
theorem dX5_stick_0 : decode cX5_stick 0 = .ok (.aload_n 0, 1) := by decide +kernel
theorem dX5_stick_1 : decode cX5_stick 1 = .ok (.iload_n 1, 1) := by decide +kernel
theorem dX5_stick_2 : decode cX5_stick 2 = .ok (.iload_n 2, 1) := by decide +kernel
theorem dX5_stick_3 : decode cX5_stick 3 = .ok (.invokevirtual 102, 3) := by decide +kernel
theorem dX5_stick_6 : decode cX5_stick 6 = .ok (.ifCond .eq 15, 3) := by decide +kernel
theorem dX5_stick_9 : decode cX5_stick 9 = .ok (.iload_n 3, 1) := by decide +kernel
theorem dX5_stick_10 : decode cX5_stick 10 = .ok (.iconst (-1), 1) := by decide +kernel
theorem dX5_stick_11 : decode cX5_stick 11 = .ok (.aload_n 0, 1) := by decide +kernel
theorem dX5_stick_12 : decode cX5_stick 12 = .ok (.getfield 16, 3) := by decide +kernel
theorem dX5_stick_15 : decode cX5_stick 15 = .ok (.invokestatic 98, 3) := by decide +kernel
theorem dX5_stick_18 : decode cX5_stick 18 = .ok (.ifCond .ne 6, 3) := by decide +kernel
theorem dX5_stick_21 : decode cX5_stick 21 = .ok (.bipush (-2), 2) := by decide +kernel
theorem dX5_stick_23 : decode cX5_stick 23 = .ok (.ireturn, 1) := by decide +kernel
theorem dX5_stick_24 : decode cX5_stick 24 = .ok (.bipush 24, 2) := by decide +kernel
theorem dX5_stick_26 : decode cX5_stick 26 = .ok (.iload_n 1, 1) := by decide +kernel
theorem dX5_stick_27 : decode cX5_stick 27 = .ok (.imul, 1) := by decide +kernel
theorem dX5_stick_28 : decode cX5_stick 28 = .ok (.iload_n 2, 1) := by decide +kernel
theorem dX5_stick_29 : decode cX5_stick 29 = .ok (.iadd, 1) := by decide +kernel
theorem dX5_stick_30 : decode cX5_stick 30 = .ok (.istore 4, 2) := by decide +kernel
theorem dX5_stick_32 : decode cX5_stick 32 = .ok (.aload_n 0, 1) := by decide +kernel
theorem dX5_stick_33 : decode cX5_stick 33 = .ok (.getfield 23, 3) := by decide +kernel
theorem dX5_stick_36 : decode cX5_stick 36 = .ok (.iload 4, 2) := by decide +kernel
theorem dX5_stick_38 : decode cX5_stick 38 = .ok (.iload_n 3, 1) := by decide +kernel
theorem dX5_stick_39 : decode cX5_stick 39 = .ok (.iastore, 1) := by decide +kernel
theorem dX5_stick_40 : decode cX5_stick 40 = .ok (.aload_n 0, 1) := by decide +kernel
theorem dX5_stick_41 : decode cX5_stick 41 = .ok (.getfield 19, 3) := by decide +kernel
theorem dX5_stick_44 : decode cX5_stick 44 = .ok (.iload 4, 2) := by decide +kernel
theorem dX5_stick_46 : decode cX5_stick 46 = .ok (.iload_n 3, 1) := by decide +kernel
theorem dX5_stick_47 : decode cX5_stick 47 = .ok (.iconst (-1), 1) := by decide +kernel
theorem dX5_stick_48 : decode cX5_stick 48 = .ok (.if_icmp .ne 13, 3) := by decide +kernel
theorem dX5_stick_51 : decode cX5_stick 51 = .ok (.aload_n 0, 1) := by decide +kernel
theorem dX5_stick_52 : decode cX5_stick 52 = .ok (.getfield 19, 3) := by decide +kernel
theorem dX5_stick_55 : decode cX5_stick 55 = .ok (.iload 4, 2) := by decide +kernel
theorem dX5_stick_57 : decode cX5_stick 57 = .ok (.iaload, 1) := by decide +kernel
theorem dX5_stick_58 : decode cX5_stick 58 = .ok (.goto 4, 3) := by decide +kernel
theorem dX5_stick_61 : decode cX5_stick 61 = .ok (.iload_n 3, 1) := by decide +kernel
theorem dX5_stick_62 : decode cX5_stick 62 = .ok (.iastore, 1) := by decide +kernel
theorem dX5_stick_63 : decode cX5_stick 63 = .ok (.iconst 1, 1) := by decide +kernel
theorem dX5_stick_64 : decode cX5_stick 64 = .ok (.ireturn, 1) := by decide +kernel
theorem dX5_cellAt_0 : decode cX5_cellAt 0 = .ok (.iload_n 2, 1) := by decide +kernel
theorem dX5_cellAt_1 : decode cX5_cellAt 1 = .ok (.ifCond .ne 12, 3) := by decide +kernel
theorem dX5_cellAt_4 : decode cX5_cellAt 4 = .ok (.aload_n 0, 1) := by decide +kernel
theorem dX5_cellAt_5 : decode cX5_cellAt 5 = .ok (.getfield 19, 3) := by decide +kernel
theorem dX5_cellAt_8 : decode cX5_cellAt 8 = .ok (.iload_n 1, 1) := by decide +kernel
theorem dX5_cellAt_9 : decode cX5_cellAt 9 = .ok (.iaload, 1) := by decide +kernel
theorem dX5_cellAt_10 : decode cX5_cellAt 10 = .ok (.goto 23, 3) := by decide +kernel
theorem dX5_cellAt_13 : decode cX5_cellAt 13 = .ok (.iload_n 2, 1) := by decide +kernel
theorem dX5_cellAt_14 : decode cX5_cellAt 14 = .ok (.iconst 1, 1) := by decide +kernel
theorem dX5_cellAt_15 : decode cX5_cellAt 15 = .ok (.if_icmp .ne 12, 3) := by decide +kernel
theorem dX5_cellAt_18 : decode cX5_cellAt 18 = .ok (.aload_n 0, 1) := by decide +kernel
theorem dX5_cellAt_19 : decode cX5_cellAt 19 = .ok (.getfield 23, 3) := by decide +kernel
theorem dX5_cellAt_22 : decode cX5_cellAt 22 = .ok (.iload_n 1, 1) := by decide +kernel
theorem dX5_cellAt_23 : decode cX5_cellAt 23 = .ok (.iaload, 1) := by decide +kernel
theorem dX5_cellAt_24 : decode cX5_cellAt 24 = .ok (.goto 9, 3) := by decide +kernel
theorem dX5_cellAt_27 : decode cX5_cellAt 27 = .ok (.aload_n 0, 1) := by decide +kernel
theorem dX5_cellAt_28 : decode cX5_cellAt 28 = .ok (.getfield 26, 3) := by decide +kernel
theorem dX5_cellAt_31 : decode cX5_cellAt 31 = .ok (.iload_n 1, 1) := by decide +kernel
theorem dX5_cellAt_32 : decode cX5_cellAt 32 = .ok (.iaload, 1) := by decide +kernel
theorem dX5_cellAt_33 : decode cX5_cellAt 33 = .ok (.ireturn, 1) := by decide +kernel
theorem dX5_cell_0 : decode cX5_cell 0 = .ok (.aload_n 0, 1) := by decide +kernel
theorem dX5_cell_1 : decode cX5_cell 1 = .ok (.iload_n 1, 1) := by decide +kernel
theorem dX5_cell_2 : decode cX5_cell 2 = .ok (.iload_n 2, 1) := by decide +kernel
theorem dX5_cell_3 : decode cX5_cell 3 = .ok (.invokevirtual 102, 3) := by decide +kernel
theorem dX5_cell_6 : decode cX5_cell 6 = .ok (.ifCond .eq 26, 3) := by decide +kernel
theorem dX5_cell_9 : decode cX5_cell 9 = .ok (.iload_n 3, 1) := by decide +kernel
theorem dX5_cell_10 : decode cX5_cell 10 = .ok (.iconst 0, 1) := by decide +kernel
theorem dX5_cell_11 : decode cX5_cell 11 = .ok (.iconst 2, 1) := by decide +kernel
theorem dX5_cell_12 : decode cX5_cell 12 = .ok (.invokestatic 98, 3) := by decide +kernel
theorem dX5_cell_15 : decode cX5_cell 15 = .ok (.ifCond .eq 17, 3) := by decide +kernel
theorem dX5_cell_18 : decode cX5_cell 18 = .ok (.aload_n 0, 1) := by decide +kernel
theorem dX5_cell_19 : decode cX5_cell 19 = .ok (.bipush 24, 2) := by decide +kernel
theorem dX5_cell_21 : decode cX5_cell 21 = .ok (.iload_n 1, 1) := by decide +kernel
theorem dX5_cell_22 : decode cX5_cell 22 = .ok (.imul, 1) := by decide +kernel
theorem dX5_cell_23 : decode cX5_cell 23 = .ok (.iload_n 2, 1) := by decide +kernel
theorem dX5_cell_24 : decode cX5_cell 24 = .ok (.iadd, 1) := by decide +kernel
theorem dX5_cell_25 : decode cX5_cell 25 = .ok (.iload_n 3, 1) := by decide +kernel
theorem dX5_cell_26 : decode cX5_cell 26 = .ok (.invokevirtual 109, 3) := by decide +kernel
theorem dX5_cell_29 : decode cX5_cell 29 = .ok (.goto 5, 3) := by decide +kernel
theorem dX5_cell_32 : decode cX5_cell 32 = .ok (.bipush (-2), 2) := by decide +kernel
theorem dX5_cell_34 : decode cX5_cell 34 = .ok (.ireturn, 1) := by decide +kernel
theorem dX5_input_0 : decode cX5_input 0 = .ok (.iload_n 1, 1) := by decide +kernel
theorem dX5_input_1 : decode cX5_input 1 = .ok (.iconst 0, 1) := by decide +kernel
theorem dX5_input_2 : decode cX5_input 2 = .ok (.aload_n 0, 1) := by decide +kernel
theorem dX5_input_3 : decode cX5_input 3 = .ok (.getfield 7, 3) := by decide +kernel
theorem dX5_input_6 : decode cX5_input 6 = .ok (.iconst 1, 1) := by decide +kernel
theorem dX5_input_7 : decode cX5_input 7 = .ok (.isub, 1) := by decide +kernel
theorem dX5_input_8 : decode cX5_input 8 = .ok (.invokestatic 98, 3) := by decide +kernel
theorem dX5_input_11 : decode cX5_input 11 = .ok (.ifCond .eq 14, 3) := by decide +kernel
theorem dX5_input_14 : decode cX5_input 14 = .ok (.iload_n 2, 1) := by decide +kernel
theorem dX5_input_15 : decode cX5_input 15 = .ok (.iconst 0, 1) := by decide +kernel
theorem dX5_input_16 : decode cX5_input 16 = .ok (.sipush 255, 3) := by decide +kernel
theorem dX5_input_19 : decode cX5_input 19 = .ok (.invokestatic 98, 3) := by decide +kernel
theorem dX5_input_22 : decode cX5_input 22 = .ok (.ifCond .ne 6, 3) := by decide +kernel
theorem dX5_input_25 : decode cX5_input 25 = .ok (.bipush (-2), 2) := by decide +kernel
theorem dX5_input_27 : decode cX5_input 27 = .ok (.ireturn, 1) := by decide +kernel
theorem dX5_input_28 : decode cX5_input 28 = .ok (.aload_n 0, 1) := by decide +kernel
theorem dX5_input_29 : decode cX5_input 29 = .ok (.getfield 29, 3) := by decide +kernel
theorem dX5_input_32 : decode cX5_input 32 = .ok (.iload_n 1, 1) := by decide +kernel
theorem dX5_input_33 : decode cX5_input 33 = .ok (.iaload, 1) := by decide +kernel
theorem dX5_input_34 : decode cX5_input 34 = .ok (.istore_n 3, 1) := by decide +kernel
theorem dX5_input_35 : decode cX5_input 35 = .ok (.aload_n 0, 1) := by decide +kernel
theorem dX5_input_36 : decode cX5_input 36 = .ok (.getfield 29, 3) := by decide +kernel
theorem dX5_input_39 : decode cX5_input 39 = .ok (.iload_n 1, 1) := by decide +kernel
theorem dX5_input_40 : decode cX5_input 40 = .ok (.iload_n 2, 1) := by decide +kernel
theorem dX5_input_41 : decode cX5_input 41 = .ok (.iastore, 1) := by decide +kernel
theorem dX5_input_42 : decode cX5_input 42 = .ok (.iload_n 3, 1) := by decide +kernel
theorem dX5_input_43 : decode cX5_input 43 = .ok (.ireturn, 1) := by decide +kernel
theorem dX5_bits_0 : decode cX5_bits 0 = .ok (.iload_n 1, 1) := by decide +kernel
theorem dX5_bits_1 : decode cX5_bits 1 = .ok (.iconst 1, 1) := by decide +kernel
theorem dX5_bits_2 : decode cX5_bits 2 = .ok (.bipush 16, 2) := by decide +kernel
theorem dX5_bits_4 : decode cX5_bits 4 = .ok (.invokestatic 98, 3) := by decide +kernel
theorem dX5_bits_7 : decode cX5_bits 7 = .ok (.ifCond .ne 6, 3) := by decide +kernel
theorem dX5_bits_10 : decode cX5_bits 10 = .ok (.bipush (-2), 2) := by decide +kernel
theorem dX5_bits_12 : decode cX5_bits 12 = .ok (.ireturn, 1) := by decide +kernel
theorem dX5_bits_13 : decode cX5_bits 13 = .ok (.aload_n 0, 1) := by decide +kernel
theorem dX5_bits_14 : decode cX5_bits 14 = .ok (.getfield 32, 3) := by decide +kernel
theorem dX5_bits_17 : decode cX5_bits 17 = .ok (.istore_n 2, 1) := by decide +kernel
theorem dX5_bits_18 : decode cX5_bits 18 = .ok (.aload_n 0, 1) := by decide +kernel
theorem dX5_bits_19 : decode cX5_bits 19 = .ok (.iload_n 1, 1) := by decide +kernel
theorem dX5_bits_20 : decode cX5_bits 20 = .ok (.putfield 32, 3) := by decide +kernel
theorem dX5_bits_23 : decode cX5_bits 23 = .ok (.iload_n 2, 1) := by decide +kernel
theorem dX5_bits_24 : decode cX5_bits 24 = .ok (.ireturn, 1) := by decide +kernel
theorem dX5_converted_0 : decode cX5_converted 0 = .ok (.iconst 1, 1) := by decide +kernel
theorem dX5_converted_1 : decode cX5_converted 1 = .ok (.aload_n 0, 1) := by decide +kernel
theorem dX5_converted_2 : decode cX5_converted 2 = .ok (.getfield 32, 3) := by decide +kernel
theorem dX5_converted_5 : decode cX5_converted 5 = .ok (.ishl, 1) := by decide +kernel
theorem dX5_converted_6 : decode cX5_converted 6 = .ok (.iconst 1, 1) := by decide +kernel
theorem dX5_converted_7 : decode cX5_converted 7 = .ok (.isub, 1) := by decide +kernel
theorem dX5_converted_8 : decode cX5_converted 8 = .ok (.istore_n 2, 1) := by decide +kernel
theorem dX5_converted_9 : decode cX5_converted 9 = .ok (.iload_n 1, 1) := by decide +kernel
theorem dX5_converted_10 : decode cX5_converted 10 = .ok (.iload_n 2, 1) := by decide +kernel
theorem dX5_converted_11 : decode cX5_converted 11 = .ok (.if_icmp .le 7, 3) := by decide +kernel
theorem dX5_converted_14 : decode cX5_converted 14 = .ok (.iload_n 2, 1) := by decide +kernel
theorem dX5_converted_15 : decode cX5_converted 15 = .ok (.goto 4, 3) := by decide +kernel
theorem dX5_converted_18 : decode cX5_converted 18 = .ok (.iload_n 1, 1) := by decide +kernel
theorem dX5_converted_19 : decode cX5_converted 19 = .ok (.ireturn, 1) := by decide +kernel
theorem dX5_sumOf_0 : decode cX5_sumOf 0 = .ok (.iconst 0, 1) := by decide +kernel
theorem dX5_sumOf_1 : decode cX5_sumOf 1 = .ok (.istore_n 2, 1) := by decide +kernel
theorem dX5_sumOf_2 : decode cX5_sumOf 2 = .ok (.iconst 0, 1) := by decide +kernel
theorem dX5_sumOf_3 : decode cX5_sumOf 3 = .ok (.istore_n 3, 1) := by decide +kernel
theorem dX5_sumOf_4 : decode cX5_sumOf 4 = .ok (.iload_n 3, 1) := by decide +kernel
theorem dX5_sumOf_5 : decode cX5_sumOf 5 = .ok (.aload_n 0, 1) := by decide +kernel
theorem dX5_sumOf_6 : decode cX5_sumOf 6 = .ok (.getfield 7, 3) := by decide +kernel
theorem dX5_sumOf_9 : decode cX5_sumOf 9 = .ok (.if_icmp .ge 30, 3) := by decide +kernel
theorem dX5_sumOf_12 : decode cX5_sumOf 12 = .ok (.iload_n 2, 1) := by decide +kernel
theorem dX5_sumOf_13 : decode cX5_sumOf 13 = .ok (.aload_n 0, 1) := by decide +kernel
theorem dX5_sumOf_14 : decode cX5_sumOf 14 = .ok (.getfield 29, 3) := by decide +kernel
theorem dX5_sumOf_17 : decode cX5_sumOf 17 = .ok (.iload_n 3, 1) := by decide +kernel
theorem dX5_sumOf_18 : decode cX5_sumOf 18 = .ok (.iaload, 1) := by decide +kernel
theorem dX5_sumOf_19 : decode cX5_sumOf 19 = .ok (.aload_n 0, 1) := by decide +kernel
theorem dX5_sumOf_20 : decode cX5_sumOf 20 = .ok (.getfield 19, 3) := by decide +kernel
theorem dX5_sumOf_23 : decode cX5_sumOf 23 = .ok (.bipush 24, 2) := by decide +kernel
theorem dX5_sumOf_25 : decode cX5_sumOf 25 = .ok (.iload_n 3, 1) := by decide +kernel
theorem dX5_sumOf_26 : decode cX5_sumOf 26 = .ok (.imul, 1) := by decide +kernel
theorem dX5_sumOf_27 : decode cX5_sumOf 27 = .ok (.iload_n 1, 1) := by decide +kernel
theorem dX5_sumOf_28 : decode cX5_sumOf 28 = .ok (.iadd, 1) := by decide +kernel
theorem dX5_sumOf_29 : decode cX5_sumOf 29 = .ok (.iaload, 1) := by decide +kernel
theorem dX5_sumOf_30 : decode cX5_sumOf 30 = .ok (.imul, 1) := by decide +kernel
theorem dX5_sumOf_31 : decode cX5_sumOf 31 = .ok (.iadd, 1) := by decide +kernel
theorem dX5_sumOf_32 : decode cX5_sumOf 32 = .ok (.istore_n 2, 1) := by decide +kernel
theorem dX5_sumOf_33 : decode cX5_sumOf 33 = .ok (.iinc 3 1, 3) := by decide +kernel
theorem dX5_sumOf_36 : decode cX5_sumOf 36 = .ok (.goto (-32), 3) := by decide +kernel
theorem dX5_sumOf_39 : decode cX5_sumOf 39 = .ok (.iload_n 2, 1) := by decide +kernel
theorem dX5_sumOf_40 : decode cX5_sumOf 40 = .ok (.ireturn, 1) := by decide +kernel
theorem dX5_sum_0 : decode cX5_sum 0 = .ok (.iload_n 1, 1) := by decide +kernel
theorem dX5_sum_1 : decode cX5_sum 1 = .ok (.iconst 0, 1) := by decide +kernel
theorem dX5_sum_2 : decode cX5_sum 2 = .ok (.aload_n 0, 1) := by decide +kernel
theorem dX5_sum_3 : decode cX5_sum 3 = .ok (.getfield 13, 3) := by decide +kernel
theorem dX5_sum_6 : decode cX5_sum 6 = .ok (.iconst 1, 1) := by decide +kernel
theorem dX5_sum_7 : decode cX5_sum 7 = .ok (.isub, 1) := by decide +kernel
theorem dX5_sum_8 : decode cX5_sum 8 = .ok (.invokestatic 98, 3) := by decide +kernel
theorem dX5_sum_11 : decode cX5_sum 11 = .ok (.ifCond .eq 15, 3) := by decide +kernel
theorem dX5_sum_14 : decode cX5_sum 14 = .ok (.aload_n 0, 1) := by decide +kernel
theorem dX5_sum_15 : decode cX5_sum 15 = .ok (.aload_n 0, 1) := by decide +kernel
theorem dX5_sum_16 : decode cX5_sum 16 = .ok (.iload_n 1, 1) := by decide +kernel
theorem dX5_sum_17 : decode cX5_sum 17 = .ok (.invokevirtual 113, 3) := by decide +kernel
theorem dX5_sum_20 : decode cX5_sum 20 = .ok (.invokevirtual 117, 3) := by decide +kernel
theorem dX5_sum_23 : decode cX5_sum 23 = .ok (.goto 5, 3) := by decide +kernel
theorem dX5_sum_26 : decode cX5_sum 26 = .ok (.bipush (-2), 2) := by decide +kernel
theorem dX5_sum_28 : decode cX5_sum 28 = .ok (.ireturn, 1) := by decide +kernel
theorem dX5_hasTable_0 : decode cX5_hasTable 0 = .ok (.aload_n 0, 1) := by decide +kernel
theorem dX5_hasTable_1 : decode cX5_hasTable 1 = .ok (.getfield 82, 3) := by decide +kernel
theorem dX5_hasTable_4 : decode cX5_hasTable 4 = .ok (.ifCond .le 7, 3) := by decide +kernel
theorem dX5_hasTable_7 : decode cX5_hasTable 7 = .ok (.iconst 1, 1) := by decide +kernel
theorem dX5_hasTable_8 : decode cX5_hasTable 8 = .ok (.goto 4, 3) := by decide +kernel
theorem dX5_hasTable_11 : decode cX5_hasTable 11 = .ok (.iconst 0, 1) := by decide +kernel
theorem dX5_hasTable_12 : decode cX5_hasTable 12 = .ok (.ireturn, 1) := by decide +kernel
theorem dX5_table_0 : decode cX5_table 0 = .ok (.iload_n 1, 1) := by decide +kernel
theorem dX5_table_1 : decode cX5_table 1 = .ok (.iconst 1, 1) := by decide +kernel
theorem dX5_table_2 : decode cX5_table 2 = .ok (.aload_n 0, 1) := by decide +kernel
theorem dX5_table_3 : decode cX5_table 3 = .ok (.getfield 7, 3) := by decide +kernel
theorem dX5_table_6 : decode cX5_table 6 = .ok (.invokestatic 98, 3) := by decide +kernel
theorem dX5_table_9 : decode cX5_table 9 = .ok (.ifCond .eq 23, 3) := by decide +kernel
theorem dX5_table_12 : decode cX5_table 12 = .ok (.iload_n 2, 1) := by decide +kernel
theorem dX5_table_13 : decode cX5_table 13 = .ok (.iconst 1, 1) := by decide +kernel
theorem dX5_table_14 : decode cX5_table 14 = .ok (.bipush 12, 2) := by decide +kernel
theorem dX5_table_16 : decode cX5_table 16 = .ok (.invokestatic 98, 3) := by decide +kernel
theorem dX5_table_19 : decode cX5_table 19 = .ok (.ifCond .eq 13, 3) := by decide +kernel
theorem dX5_table_22 : decode cX5_table 22 = .ok (.iload_n 3, 1) := by decide +kernel
theorem dX5_table_23 : decode cX5_table 23 = .ok (.iconst 1, 1) := by decide +kernel
theorem dX5_table_24 : decode cX5_table 24 = .ok (.bipush 6, 2) := by decide +kernel
theorem dX5_table_26 : decode cX5_table 26 = .ok (.invokestatic 98, 3) := by decide +kernel
theorem dX5_table_29 : decode cX5_table 29 = .ok (.ifCond .ne 6, 3) := by decide +kernel
theorem dX5_table_32 : decode cX5_table 32 = .ok (.bipush (-2), 2) := by decide +kernel
theorem dX5_table_34 : decode cX5_table 34 = .ok (.ireturn, 1) := by decide +kernel
theorem dX5_table_35 : decode cX5_table 35 = .ok (.iconst 2, 1) := by decide +kernel
theorem dX5_table_36 : decode cX5_table 36 = .ok (.iload_n 3, 1) := by decide +kernel
theorem dX5_table_37 : decode cX5_table 37 = .ok (.imul, 1) := by decide +kernel
theorem dX5_table_38 : decode cX5_table 38 = .ok (.iload_n 2, 1) := by decide +kernel
theorem dX5_table_39 : decode cX5_table 39 = .ok (.imul, 1) := by decide +kernel
theorem dX5_table_40 : decode cX5_table 40 = .ok (.aload_n 0, 1) := by decide +kernel
theorem dX5_table_41 : decode cX5_table 41 = .ok (.getfield 13, 3) := by decide +kernel
theorem dX5_table_44 : decode cX5_table 44 = .ok (.if_icmp .le 6, 3) := by decide +kernel
theorem dX5_table_47 : decode cX5_table 47 = .ok (.bipush (-3), 2) := by decide +kernel
theorem dX5_table_49 : decode cX5_table 49 = .ok (.ireturn, 1) := by decide +kernel
theorem dX5_table_50 : decode cX5_table 50 = .ok (.aload_n 0, 1) := by decide +kernel
theorem dX5_table_51 : decode cX5_table 51 = .ok (.iload_n 1, 1) := by decide +kernel
theorem dX5_table_52 : decode cX5_table 52 = .ok (.putfield 82, 3) := by decide +kernel
theorem dX5_table_55 : decode cX5_table 55 = .ok (.aload_n 0, 1) := by decide +kernel
theorem dX5_table_56 : decode cX5_table 56 = .ok (.iload_n 2, 1) := by decide +kernel
theorem dX5_table_57 : decode cX5_table 57 = .ok (.putfield 85, 3) := by decide +kernel
theorem dX5_table_60 : decode cX5_table 60 = .ok (.aload_n 0, 1) := by decide +kernel
theorem dX5_table_61 : decode cX5_table 61 = .ok (.iload_n 3, 1) := by decide +kernel
theorem dX5_table_62 : decode cX5_table 62 = .ok (.putfield 88, 3) := by decide +kernel
theorem dX5_table_65 : decode cX5_table 65 = .ok (.aload_n 0, 1) := by decide +kernel
theorem dX5_table_66 : decode cX5_table 66 = .ok (.iconst 0, 1) := by decide +kernel
theorem dX5_table_67 : decode cX5_table 67 = .ok (.putfield 91, 3) := by decide +kernel
theorem dX5_table_70 : decode cX5_table 70 = .ok (.iconst 0, 1) := by decide +kernel
theorem dX5_table_71 : decode cX5_table 71 = .ok (.istore 4, 2) := by decide +kernel
theorem dX5_table_73 : decode cX5_table 73 = .ok (.iload 4, 2) := by decide +kernel
theorem dX5_table_75 : decode cX5_table 75 = .ok (.bipush 96, 2) := by decide +kernel
theorem dX5_table_77 : decode cX5_table 77 = .ok (.if_icmp .ge 17, 3) := by decide +kernel
theorem dX5_table_80 : decode cX5_table 80 = .ok (.aload_n 0, 1) := by decide +kernel
theorem dX5_table_81 : decode cX5_table 81 = .ok (.getfield 35, 3) := by decide +kernel
theorem dX5_table_84 : decode cX5_table 84 = .ok (.iload 4, 2) := by decide +kernel
theorem dX5_table_86 : decode cX5_table 86 = .ok (.iconst 0, 1) := by decide +kernel
theorem dX5_table_87 : decode cX5_table 87 = .ok (.iastore, 1) := by decide +kernel
theorem dX5_table_88 : decode cX5_table 88 = .ok (.iinc 4 1, 3) := by decide +kernel
theorem dX5_table_91 : decode cX5_table 91 = .ok (.goto (-18), 3) := by decide +kernel
theorem dX5_table_94 : decode cX5_table 94 = .ok (.iconst 0, 1) := by decide +kernel
theorem dX5_table_95 : decode cX5_table 95 = .ok (.istore 4, 2) := by decide +kernel
theorem dX5_table_97 : decode cX5_table 97 = .ok (.iload 4, 2) := by decide +kernel
theorem dX5_table_99 : decode cX5_table 99 = .ok (.bipush 8, 2) := by decide +kernel
theorem dX5_table_101 : decode cX5_table 101 = .ok (.if_icmp .ge 18, 3) := by decide +kernel
theorem dX5_table_104 : decode cX5_table 104 = .ok (.aload_n 0, 1) := by decide +kernel
theorem dX5_table_105 : decode cX5_table 105 = .ok (.getfield 38, 3) := by decide +kernel
theorem dX5_table_108 : decode cX5_table 108 = .ok (.iload 4, 2) := by decide +kernel
theorem dX5_table_110 : decode cX5_table 110 = .ok (.iload 4, 2) := by decide +kernel
theorem dX5_table_112 : decode cX5_table 112 = .ok (.iastore, 1) := by decide +kernel
theorem dX5_table_113 : decode cX5_table 113 = .ok (.iinc 4 1, 3) := by decide +kernel
theorem dX5_table_116 : decode cX5_table 116 = .ok (.goto (-19), 3) := by decide +kernel
theorem dX5_table_119 : decode cX5_table 119 = .ok (.iconst 1, 1) := by decide +kernel
theorem dX5_table_120 : decode cX5_table 120 = .ok (.ireturn, 1) := by decide +kernel
theorem dX5_greatest_0 : decode cX5_greatest 0 = .ok (.iconst 1, 1) := by decide +kernel
theorem dX5_greatest_1 : decode cX5_greatest 1 = .ok (.istore_n 1, 1) := by decide +kernel
theorem dX5_greatest_2 : decode cX5_greatest 2 = .ok (.iconst 0, 1) := by decide +kernel
theorem dX5_greatest_3 : decode cX5_greatest 3 = .ok (.istore_n 2, 1) := by decide +kernel
theorem dX5_greatest_4 : decode cX5_greatest 4 = .ok (.iload_n 2, 1) := by decide +kernel
theorem dX5_greatest_5 : decode cX5_greatest 5 = .ok (.aload_n 0, 1) := by decide +kernel
theorem dX5_greatest_6 : decode cX5_greatest 6 = .ok (.getfield 88, 3) := by decide +kernel
theorem dX5_greatest_9 : decode cX5_greatest 9 = .ok (.if_icmp .ge 18, 3) := by decide +kernel
theorem dX5_greatest_12 : decode cX5_greatest 12 = .ok (.iload_n 1, 1) := by decide +kernel
theorem dX5_greatest_13 : decode cX5_greatest 13 = .ok (.aload_n 0, 1) := by decide +kernel
theorem dX5_greatest_14 : decode cX5_greatest 14 = .ok (.getfield 16, 3) := by decide +kernel
theorem dX5_greatest_17 : decode cX5_greatest 17 = .ok (.iconst 1, 1) := by decide +kernel
theorem dX5_greatest_18 : decode cX5_greatest 18 = .ok (.iadd, 1) := by decide +kernel
theorem dX5_greatest_19 : decode cX5_greatest 19 = .ok (.imul, 1) := by decide +kernel
theorem dX5_greatest_20 : decode cX5_greatest 20 = .ok (.istore_n 1, 1) := by decide +kernel
theorem dX5_greatest_21 : decode cX5_greatest 21 = .ok (.iinc 2 1, 3) := by decide +kernel
theorem dX5_greatest_24 : decode cX5_greatest 24 = .ok (.goto (-20), 3) := by decide +kernel
theorem dX5_greatest_27 : decode cX5_greatest 27 = .ok (.iload_n 1, 1) := by decide +kernel
theorem dX5_greatest_28 : decode cX5_greatest 28 = .ok (.iconst 1, 1) := by decide +kernel
theorem dX5_greatest_29 : decode cX5_greatest 29 = .ok (.isub, 1) := by decide +kernel
theorem dX5_greatest_30 : decode cX5_greatest 30 = .ok (.ireturn, 1) := by decide +kernel
theorem dX5_number_0 : decode cX5_number 0 = .ok (.iload_n 1, 1) := by decide +kernel
theorem dX5_number_1 : decode cX5_number 1 = .ok (.iconst 0, 1) := by decide +kernel
theorem dX5_number_2 : decode cX5_number 2 = .ok (.aload_n 0, 1) := by decide +kernel
theorem dX5_number_3 : decode cX5_number 3 = .ok (.getfield 82, 3) := by decide +kernel
theorem dX5_number_6 : decode cX5_number 6 = .ok (.iconst 1, 1) := by decide +kernel
theorem dX5_number_7 : decode cX5_number 7 = .ok (.isub, 1) := by decide +kernel
theorem dX5_number_8 : decode cX5_number 8 = .ok (.invokestatic 98, 3) := by decide +kernel
theorem dX5_number_11 : decode cX5_number 11 = .ok (.ifCond .eq 33, 3) := by decide +kernel
theorem dX5_number_14 : decode cX5_number 14 = .ok (.iload_n 2, 1) := by decide +kernel
theorem dX5_number_15 : decode cX5_number 15 = .ok (.iconst 0, 1) := by decide +kernel
theorem dX5_number_16 : decode cX5_number 16 = .ok (.aload_n 0, 1) := by decide +kernel
theorem dX5_number_17 : decode cX5_number 17 = .ok (.getfield 85, 3) := by decide +kernel
theorem dX5_number_20 : decode cX5_number 20 = .ok (.iconst 1, 1) := by decide +kernel
theorem dX5_number_21 : decode cX5_number 21 = .ok (.isub, 1) := by decide +kernel
theorem dX5_number_22 : decode cX5_number 22 = .ok (.invokestatic 98, 3) := by decide +kernel
theorem dX5_number_25 : decode cX5_number 25 = .ok (.ifCond .eq 19, 3) := by decide +kernel
theorem dX5_number_28 : decode cX5_number 28 = .ok (.iload_n 3, 1) := by decide +kernel
theorem dX5_number_29 : decode cX5_number 29 = .ok (.aload_n 0, 1) := by decide +kernel
theorem dX5_number_30 : decode cX5_number 30 = .ok (.invokevirtual 120, 3) := by decide +kernel
theorem dX5_number_33 : decode cX5_number 33 = .ok (.ineg, 1) := by decide +kernel
theorem dX5_number_34 : decode cX5_number 34 = .ok (.aload_n 0, 1) := by decide +kernel
theorem dX5_number_35 : decode cX5_number 35 = .ok (.invokevirtual 120, 3) := by decide +kernel
theorem dX5_number_38 : decode cX5_number 38 = .ok (.invokestatic 98, 3) := by decide +kernel
theorem dX5_number_41 : decode cX5_number 41 = .ok (.ifCond .ne 6, 3) := by decide +kernel
theorem dX5_number_44 : decode cX5_number 44 = .ok (.ldc 124, 2) := by decide +kernel
theorem dX5_number_46 : decode cX5_number 46 = .ok (.ireturn, 1) := by decide +kernel
theorem dX5_number_47 : decode cX5_number 47 = .ok (.aload_n 0, 1) := by decide +kernel
theorem dX5_number_48 : decode cX5_number 48 = .ok (.getfield 35, 3) := by decide +kernel
theorem dX5_number_51 : decode cX5_number 51 = .ok (.bipush 12, 2) := by decide +kernel
theorem dX5_number_53 : decode cX5_number 53 = .ok (.iload_n 1, 1) := by decide +kernel
theorem dX5_number_54 : decode cX5_number 54 = .ok (.imul, 1) := by decide +kernel
theorem dX5_number_55 : decode cX5_number 55 = .ok (.iload_n 2, 1) := by decide +kernel
theorem dX5_number_56 : decode cX5_number 56 = .ok (.iadd, 1) := by decide +kernel
theorem dX5_number_57 : decode cX5_number 57 = .ok (.iaload, 1) := by decide +kernel
theorem dX5_number_58 : decode cX5_number 58 = .ok (.istore 4, 2) := by decide +kernel
theorem dX5_number_60 : decode cX5_number 60 = .ok (.aload_n 0, 1) := by decide +kernel
theorem dX5_number_61 : decode cX5_number 61 = .ok (.getfield 35, 3) := by decide +kernel
theorem dX5_number_64 : decode cX5_number 64 = .ok (.bipush 12, 2) := by decide +kernel
theorem dX5_number_66 : decode cX5_number 66 = .ok (.iload_n 1, 1) := by decide +kernel
theorem dX5_number_67 : decode cX5_number 67 = .ok (.imul, 1) := by decide +kernel
theorem dX5_number_68 : decode cX5_number 68 = .ok (.iload_n 2, 1) := by decide +kernel
theorem dX5_number_69 : decode cX5_number 69 = .ok (.iadd, 1) := by decide +kernel
theorem dX5_number_70 : decode cX5_number 70 = .ok (.iload_n 3, 1) := by decide +kernel
theorem dX5_number_71 : decode cX5_number 71 = .ok (.iastore, 1) := by decide +kernel
theorem dX5_number_72 : decode cX5_number 72 = .ok (.iload 4, 2) := by decide +kernel
theorem dX5_number_74 : decode cX5_number 74 = .ok (.ireturn, 1) := by decide +kernel
theorem dX5_wanted_0 : decode cX5_wanted 0 = .ok (.aload_n 0, 1) := by decide +kernel
theorem dX5_wanted_1 : decode cX5_wanted 1 = .ok (.getfield 35, 3) := by decide +kernel
theorem dX5_wanted_4 : decode cX5_wanted 4 = .ok (.bipush 12, 2) := by decide +kernel
theorem dX5_wanted_6 : decode cX5_wanted 6 = .ok (.iload_n 1, 1) := by decide +kernel
theorem dX5_wanted_7 : decode cX5_wanted 7 = .ok (.imul, 1) := by decide +kernel
theorem dX5_wanted_8 : decode cX5_wanted 8 = .ok (.iload_n 2, 1) := by decide +kernel
theorem dX5_wanted_9 : decode cX5_wanted 9 = .ok (.iconst 2, 1) := by decide +kernel
theorem dX5_wanted_10 : decode cX5_wanted 10 = .ok (.aload_n 0, 1) := by decide +kernel
theorem dX5_wanted_11 : decode cX5_wanted 11 = .ok (.getfield 88, 3) := by decide +kernel
theorem dX5_wanted_14 : decode cX5_wanted 14 = .ok (.imul, 1) := by decide +kernel
theorem dX5_wanted_15 : decode cX5_wanted 15 = .ok (.idiv, 1) := by decide +kernel
theorem dX5_wanted_16 : decode cX5_wanted 16 = .ok (.iadd, 1) := by decide +kernel
theorem dX5_wanted_17 : decode cX5_wanted 17 = .ok (.iaload, 1) := by decide +kernel
theorem dX5_wanted_18 : decode cX5_wanted 18 = .ok (.istore_n 3, 1) := by decide +kernel
theorem dX5_wanted_19 : decode cX5_wanted 19 = .ok (.iload_n 2, 1) := by decide +kernel
theorem dX5_wanted_20 : decode cX5_wanted 20 = .ok (.iconst 2, 1) := by decide +kernel
theorem dX5_wanted_21 : decode cX5_wanted 21 = .ok (.aload_n 0, 1) := by decide +kernel
theorem dX5_wanted_22 : decode cX5_wanted 22 = .ok (.getfield 88, 3) := by decide +kernel
theorem dX5_wanted_25 : decode cX5_wanted 25 = .ok (.imul, 1) := by decide +kernel
theorem dX5_wanted_26 : decode cX5_wanted 26 = .ok (.irem, 1) := by decide +kernel
theorem dX5_wanted_27 : decode cX5_wanted 27 = .ok (.istore 4, 2) := by decide +kernel
theorem dX5_wanted_29 : decode cX5_wanted 29 = .ok (.iload 4, 2) := by decide +kernel
theorem dX5_wanted_31 : decode cX5_wanted 31 = .ok (.aload_n 0, 1) := by decide +kernel
theorem dX5_wanted_32 : decode cX5_wanted 32 = .ok (.getfield 88, 3) := by decide +kernel
theorem dX5_wanted_35 : decode cX5_wanted 35 = .ok (.if_icmp .lt 7, 3) := by decide +kernel
theorem dX5_wanted_38 : decode cX5_wanted 38 = .ok (.iconst 1, 1) := by decide +kernel
theorem dX5_wanted_39 : decode cX5_wanted 39 = .ok (.goto 4, 3) := by decide +kernel
theorem dX5_wanted_42 : decode cX5_wanted 42 = .ok (.iconst 0, 1) := by decide +kernel
theorem dX5_wanted_43 : decode cX5_wanted 43 = .ok (.istore 5, 2) := by decide +kernel
theorem dX5_wanted_45 : decode cX5_wanted 45 = .ok (.iload_n 3, 1) := by decide +kernel
theorem dX5_wanted_46 : decode cX5_wanted 46 = .ok (.ifCond .ge 7, 3) := by decide +kernel
theorem dX5_wanted_49 : decode cX5_wanted 49 = .ok (.iconst 1, 1) := by decide +kernel
theorem dX5_wanted_50 : decode cX5_wanted 50 = .ok (.goto 4, 3) := by decide +kernel
theorem dX5_wanted_53 : decode cX5_wanted 53 = .ok (.iconst 0, 1) := by decide +kernel
theorem dX5_wanted_54 : decode cX5_wanted 54 = .ok (.iload 5, 2) := by decide +kernel
theorem dX5_wanted_56 : decode cX5_wanted 56 = .ok (.if_icmp .eq 5, 3) := by decide +kernel
theorem dX5_wanted_59 : decode cX5_wanted 59 = .ok (.iconst 0, 1) := by decide +kernel
theorem dX5_wanted_60 : decode cX5_wanted 60 = .ok (.ireturn, 1) := by decide +kernel
theorem dX5_wanted_61 : decode cX5_wanted 61 = .ok (.iload_n 3, 1) := by decide +kernel
theorem dX5_wanted_62 : decode cX5_wanted 62 = .ok (.ifCond .ge 8, 3) := by decide +kernel
theorem dX5_wanted_65 : decode cX5_wanted 65 = .ok (.iload_n 3, 1) := by decide +kernel
theorem dX5_wanted_66 : decode cX5_wanted 66 = .ok (.ineg, 1) := by decide +kernel
theorem dX5_wanted_67 : decode cX5_wanted 67 = .ok (.goto 4, 3) := by decide +kernel
theorem dX5_wanted_70 : decode cX5_wanted 70 = .ok (.iload_n 3, 1) := by decide +kernel
theorem dX5_wanted_71 : decode cX5_wanted 71 = .ok (.istore 6, 2) := by decide +kernel
theorem dX5_wanted_73 : decode cX5_wanted 73 = .ok (.iload 4, 2) := by decide +kernel
theorem dX5_wanted_75 : decode cX5_wanted 75 = .ok (.aload_n 0, 1) := by decide +kernel
theorem dX5_wanted_76 : decode cX5_wanted 76 = .ok (.getfield 88, 3) := by decide +kernel
theorem dX5_wanted_79 : decode cX5_wanted 79 = .ok (.irem, 1) := by decide +kernel
theorem dX5_wanted_80 : decode cX5_wanted 80 = .ok (.istore 7, 2) := by decide +kernel
theorem dX5_wanted_82 : decode cX5_wanted 82 = .ok (.iload 7, 2) := by decide +kernel
theorem dX5_wanted_84 : decode cX5_wanted 84 = .ok (.ifCond .le 20, 3) := by decide +kernel
theorem dX5_wanted_87 : decode cX5_wanted 87 = .ok (.iload 6, 2) := by decide +kernel
theorem dX5_wanted_89 : decode cX5_wanted 89 = .ok (.aload_n 0, 1) := by decide +kernel
theorem dX5_wanted_90 : decode cX5_wanted 90 = .ok (.getfield 16, 3) := by decide +kernel
theorem dX5_wanted_93 : decode cX5_wanted 93 = .ok (.iconst 1, 1) := by decide +kernel
theorem dX5_wanted_94 : decode cX5_wanted 94 = .ok (.iadd, 1) := by decide +kernel
theorem dX5_wanted_95 : decode cX5_wanted 95 = .ok (.idiv, 1) := by decide +kernel
theorem dX5_wanted_96 : decode cX5_wanted 96 = .ok (.istore 6, 2) := by decide +kernel
theorem dX5_wanted_98 : decode cX5_wanted 98 = .ok (.iinc 7 (-1), 3) := by decide +kernel
theorem dX5_wanted_101 : decode cX5_wanted 101 = .ok (.goto (-19), 3) := by decide +kernel
theorem dX5_wanted_104 : decode cX5_wanted 104 = .ok (.iload 6, 2) := by decide +kernel
theorem dX5_wanted_106 : decode cX5_wanted 106 = .ok (.aload_n 0, 1) := by decide +kernel
theorem dX5_wanted_107 : decode cX5_wanted 107 = .ok (.getfield 16, 3) := by decide +kernel
theorem dX5_wanted_110 : decode cX5_wanted 110 = .ok (.iconst 1, 1) := by decide +kernel
theorem dX5_wanted_111 : decode cX5_wanted 111 = .ok (.iadd, 1) := by decide +kernel
end
section
theorem dX5_wanted_112 : decode cX5_wanted 112 = .ok (.irem, 1) := by decide +kernel
theorem dX5_wanted_113 : decode cX5_wanted 113 = .ok (.ireturn, 1) := by decide +kernel
theorem dX5_lay_0 : decode cX5_lay 0 = .ok (.aload_n 0, 1) := by decide +kernel
theorem dX5_lay_1 : decode cX5_lay 1 = .ok (.invokevirtual 125, 3) := by decide +kernel
theorem dX5_lay_4 : decode cX5_lay 4 = .ok (.ifCond .ne 6, 3) := by decide +kernel
theorem dX5_lay_7 : decode cX5_lay 7 = .ok (.bipush (-3), 2) := by decide +kernel
theorem dX5_lay_9 : decode cX5_lay 9 = .ok (.ireturn, 1) := by decide +kernel
theorem dX5_lay_10 : decode cX5_lay 10 = .ok (.iconst 0, 1) := by decide +kernel
theorem dX5_lay_11 : decode cX5_lay 11 = .ok (.istore_n 1, 1) := by decide +kernel
theorem dX5_lay_12 : decode cX5_lay 12 = .ok (.iconst 0, 1) := by decide +kernel
theorem dX5_lay_13 : decode cX5_lay 13 = .ok (.istore_n 2, 1) := by decide +kernel
theorem dX5_lay_14 : decode cX5_lay 14 = .ok (.iload_n 2, 1) := by decide +kernel
theorem dX5_lay_15 : decode cX5_lay 15 = .ok (.aload_n 0, 1) := by decide +kernel
theorem dX5_lay_16 : decode cX5_lay 16 = .ok (.getfield 82, 3) := by decide +kernel
theorem dX5_lay_19 : decode cX5_lay 19 = .ok (.if_icmp .ge 64, 3) := by decide +kernel
theorem dX5_lay_22 : decode cX5_lay 22 = .ok (.iconst 0, 1) := by decide +kernel
theorem dX5_lay_23 : decode cX5_lay 23 = .ok (.istore_n 3, 1) := by decide +kernel
theorem dX5_lay_24 : decode cX5_lay 24 = .ok (.iload_n 3, 1) := by decide +kernel
theorem dX5_lay_25 : decode cX5_lay 25 = .ok (.iconst 2, 1) := by decide +kernel
theorem dX5_lay_26 : decode cX5_lay 26 = .ok (.aload_n 0, 1) := by decide +kernel
theorem dX5_lay_27 : decode cX5_lay 27 = .ok (.getfield 88, 3) := by decide +kernel
theorem dX5_lay_30 : decode cX5_lay 30 = .ok (.imul, 1) := by decide +kernel
theorem dX5_lay_31 : decode cX5_lay 31 = .ok (.aload_n 0, 1) := by decide +kernel
theorem dX5_lay_32 : decode cX5_lay 32 = .ok (.getfield 85, 3) := by decide +kernel
theorem dX5_lay_35 : decode cX5_lay 35 = .ok (.imul, 1) := by decide +kernel
theorem dX5_lay_36 : decode cX5_lay 36 = .ok (.if_icmp .ge 41, 3) := by decide +kernel
theorem dX5_lay_39 : decode cX5_lay 39 = .ok (.iload_n 1, 1) := by decide +kernel
theorem dX5_lay_40 : decode cX5_lay 40 = .ok (.aload_n 0, 1) := by decide +kernel
theorem dX5_lay_41 : decode cX5_lay 41 = .ok (.bipush 24, 2) := by decide +kernel
theorem dX5_lay_43 : decode cX5_lay 43 = .ok (.aload_n 0, 1) := by decide +kernel
theorem dX5_lay_44 : decode cX5_lay 44 = .ok (.getfield 38, 3) := by decide +kernel
theorem dX5_lay_47 : decode cX5_lay 47 = .ok (.iload_n 2, 1) := by decide +kernel
theorem dX5_lay_48 : decode cX5_lay 48 = .ok (.iaload, 1) := by decide +kernel
theorem dX5_lay_49 : decode cX5_lay 49 = .ok (.imul, 1) := by decide +kernel
theorem dX5_lay_50 : decode cX5_lay 50 = .ok (.iload_n 3, 1) := by decide +kernel
theorem dX5_lay_51 : decode cX5_lay 51 = .ok (.iadd, 1) := by decide +kernel
theorem dX5_lay_52 : decode cX5_lay 52 = .ok (.aload_n 0, 1) := by decide +kernel
theorem dX5_lay_53 : decode cX5_lay 53 = .ok (.iload_n 2, 1) := by decide +kernel
theorem dX5_lay_54 : decode cX5_lay 54 = .ok (.iload_n 3, 1) := by decide +kernel
theorem dX5_lay_55 : decode cX5_lay 55 = .ok (.invokevirtual 129, 3) := by decide +kernel
theorem dX5_lay_58 : decode cX5_lay 58 = .ok (.invokevirtual 106, 3) := by decide +kernel
theorem dX5_lay_61 : decode cX5_lay 61 = .ok (.ifCond .eq 7, 3) := by decide +kernel
theorem dX5_lay_64 : decode cX5_lay 64 = .ok (.iconst 0, 1) := by decide +kernel
theorem dX5_lay_65 : decode cX5_lay 65 = .ok (.goto 4, 3) := by decide +kernel
theorem dX5_lay_68 : decode cX5_lay 68 = .ok (.iconst 1, 1) := by decide +kernel
theorem dX5_lay_69 : decode cX5_lay 69 = .ok (.iadd, 1) := by decide +kernel
theorem dX5_lay_70 : decode cX5_lay 70 = .ok (.istore_n 1, 1) := by decide +kernel
theorem dX5_lay_71 : decode cX5_lay 71 = .ok (.iinc 3 1, 3) := by decide +kernel
theorem dX5_lay_74 : decode cX5_lay 74 = .ok (.goto (-50), 3) := by decide +kernel
theorem dX5_lay_77 : decode cX5_lay 77 = .ok (.iinc 2 1, 3) := by decide +kernel
theorem dX5_lay_80 : decode cX5_lay 80 = .ok (.goto (-66), 3) := by decide +kernel
theorem dX5_lay_83 : decode cX5_lay 83 = .ok (.aload_n 0, 1) := by decide +kernel
theorem dX5_lay_84 : decode cX5_lay 84 = .ok (.iconst 1, 1) := by decide +kernel
theorem dX5_lay_85 : decode cX5_lay 85 = .ok (.putfield 91, 3) := by decide +kernel
theorem dX5_lay_88 : decode cX5_lay 88 = .ok (.iload_n 1, 1) := by decide +kernel
theorem dX5_lay_89 : decode cX5_lay 89 = .ok (.ireturn, 1) := by decide +kernel
theorem dX5_bitSum_0 : decode cX5_bitSum 0 = .ok (.iconst 0, 1) := by decide +kernel
theorem dX5_bitSum_1 : decode cX5_bitSum 1 = .ok (.istore_n 3, 1) := by decide +kernel
theorem dX5_bitSum_2 : decode cX5_bitSum 2 = .ok (.iconst 0, 1) := by decide +kernel
theorem dX5_bitSum_3 : decode cX5_bitSum 3 = .ok (.istore 4, 2) := by decide +kernel
theorem dX5_bitSum_5 : decode cX5_bitSum 5 = .ok (.iload 4, 2) := by decide +kernel
theorem dX5_bitSum_7 : decode cX5_bitSum 7 = .ok (.aload_n 0, 1) := by decide +kernel
theorem dX5_bitSum_8 : decode cX5_bitSum 8 = .ok (.getfield 82, 3) := by decide +kernel
theorem dX5_bitSum_11 : decode cX5_bitSum 11 = .ok (.if_icmp .ge 41, 3) := by decide +kernel
theorem dX5_bitSum_14 : decode cX5_bitSum 14 = .ok (.iload_n 3, 1) := by decide +kernel
theorem dX5_bitSum_15 : decode cX5_bitSum 15 = .ok (.aload_n 0, 1) := by decide +kernel
theorem dX5_bitSum_16 : decode cX5_bitSum 16 = .ok (.getfield 29, 3) := by decide +kernel
theorem dX5_bitSum_19 : decode cX5_bitSum 19 = .ok (.iload 4, 2) := by decide +kernel
theorem dX5_bitSum_21 : decode cX5_bitSum 21 = .ok (.iaload, 1) := by decide +kernel
theorem dX5_bitSum_22 : decode cX5_bitSum 22 = .ok (.iload_n 2, 1) := by decide +kernel
theorem dX5_bitSum_23 : decode cX5_bitSum 23 = .ok (.ishr, 1) := by decide +kernel
theorem dX5_bitSum_24 : decode cX5_bitSum 24 = .ok (.iconst 1, 1) := by decide +kernel
theorem dX5_bitSum_25 : decode cX5_bitSum 25 = .ok (.iand, 1) := by decide +kernel
theorem dX5_bitSum_26 : decode cX5_bitSum 26 = .ok (.aload_n 0, 1) := by decide +kernel
theorem dX5_bitSum_27 : decode cX5_bitSum 27 = .ok (.getfield 19, 3) := by decide +kernel
theorem dX5_bitSum_30 : decode cX5_bitSum 30 = .ok (.bipush 24, 2) := by decide +kernel
theorem dX5_bitSum_32 : decode cX5_bitSum 32 = .ok (.aload_n 0, 1) := by decide +kernel
theorem dX5_bitSum_33 : decode cX5_bitSum 33 = .ok (.getfield 38, 3) := by decide +kernel
theorem dX5_bitSum_36 : decode cX5_bitSum 36 = .ok (.iload 4, 2) := by decide +kernel
theorem dX5_bitSum_38 : decode cX5_bitSum 38 = .ok (.iaload, 1) := by decide +kernel
theorem dX5_bitSum_39 : decode cX5_bitSum 39 = .ok (.imul, 1) := by decide +kernel
theorem dX5_bitSum_40 : decode cX5_bitSum 40 = .ok (.iload_n 1, 1) := by decide +kernel
theorem dX5_bitSum_41 : decode cX5_bitSum 41 = .ok (.iadd, 1) := by decide +kernel
theorem dX5_bitSum_42 : decode cX5_bitSum 42 = .ok (.iaload, 1) := by decide +kernel
theorem dX5_bitSum_43 : decode cX5_bitSum 43 = .ok (.imul, 1) := by decide +kernel
theorem dX5_bitSum_44 : decode cX5_bitSum 44 = .ok (.iadd, 1) := by decide +kernel
theorem dX5_bitSum_45 : decode cX5_bitSum 45 = .ok (.istore_n 3, 1) := by decide +kernel
theorem dX5_bitSum_46 : decode cX5_bitSum 46 = .ok (.iinc 4 1, 3) := by decide +kernel
theorem dX5_bitSum_49 : decode cX5_bitSum 49 = .ok (.goto (-44), 3) := by decide +kernel
theorem dX5_bitSum_52 : decode cX5_bitSum 52 = .ok (.aload_n 0, 1) := by decide +kernel
theorem dX5_bitSum_53 : decode cX5_bitSum 53 = .ok (.iload_n 3, 1) := by decide +kernel
theorem dX5_bitSum_54 : decode cX5_bitSum 54 = .ok (.invokevirtual 117, 3) := by decide +kernel
theorem dX5_bitSum_57 : decode cX5_bitSum 57 = .ok (.i2l, 1) := by decide +kernel
theorem dX5_bitSum_58 : decode cX5_bitSum 58 = .ok (.lreturn, 1) := by decide +kernel
theorem dX5_product_0 : decode cX5_product 0 = .ok (.iload_n 1, 1) := by decide +kernel
theorem dX5_product_1 : decode cX5_product 1 = .ok (.iconst 0, 1) := by decide +kernel
theorem dX5_product_2 : decode cX5_product 2 = .ok (.aload_n 0, 1) := by decide +kernel
theorem dX5_product_3 : decode cX5_product 3 = .ok (.getfield 85, 3) := by decide +kernel
theorem dX5_product_6 : decode cX5_product 6 = .ok (.iconst 1, 1) := by decide +kernel
theorem dX5_product_7 : decode cX5_product 7 = .ok (.isub, 1) := by decide +kernel
theorem dX5_product_8 : decode cX5_product 8 = .ok (.invokestatic 98, 3) := by decide +kernel
theorem dX5_product_11 : decode cX5_product 11 = .ok (.ifCond .eq 10, 3) := by decide +kernel
theorem dX5_product_14 : decode cX5_product 14 = .ok (.aload_n 0, 1) := by decide +kernel
theorem dX5_product_15 : decode cX5_product 15 = .ok (.getfield 91, 3) := by decide +kernel
theorem dX5_product_18 : decode cX5_product 18 = .ok (.ifCond .ne 7, 3) := by decide +kernel
theorem dX5_product_21 : decode cX5_product 21 = .ok (.ldc2_w 132, 3) := by decide +kernel
theorem dX5_product_24 : decode cX5_product 24 = .ok (.lreturn, 1) := by decide +kernel
theorem dX5_product_25 : decode cX5_product 25 = .ok (.lconst 0, 1) := by decide +kernel
theorem dX5_product_26 : decode cX5_product 26 = .ok (.lstore_n 2, 1) := by decide +kernel
theorem dX5_product_27 : decode cX5_product 27 = .ok (.iconst 0, 1) := by decide +kernel
theorem dX5_product_28 : decode cX5_product 28 = .ok (.istore 4, 2) := by decide +kernel
theorem dX5_product_30 : decode cX5_product 30 = .ok (.iload 4, 2) := by decide +kernel
theorem dX5_product_32 : decode cX5_product 32 = .ok (.bipush 8, 2) := by decide +kernel
theorem dX5_product_34 : decode cX5_product 34 = .ok (.if_icmp .ge 86, 3) := by decide +kernel
theorem dX5_product_37 : decode cX5_product 37 = .ok (.lconst 1, 1) := by decide +kernel
theorem dX5_product_38 : decode cX5_product 38 = .ok (.iload 4, 2) := by decide +kernel
theorem dX5_product_40 : decode cX5_product 40 = .ok (.lshl, 1) := by decide +kernel
theorem dX5_product_41 : decode cX5_product 41 = .ok (.lstore 5, 2) := by decide +kernel
theorem dX5_product_43 : decode cX5_product 43 = .ok (.iconst 0, 1) := by decide +kernel
theorem dX5_product_44 : decode cX5_product 44 = .ok (.istore 7, 2) := by decide +kernel
theorem dX5_product_46 : decode cX5_product 46 = .ok (.iload 7, 2) := by decide +kernel
theorem dX5_product_48 : decode cX5_product 48 = .ok (.aload_n 0, 1) := by decide +kernel
theorem dX5_product_49 : decode cX5_product 49 = .ok (.getfield 88, 3) := by decide +kernel
theorem dX5_product_52 : decode cX5_product 52 = .ok (.if_icmp .ge 62, 3) := by decide +kernel
theorem dX5_product_55 : decode cX5_product 55 = .ok (.iconst 2, 1) := by decide +kernel
theorem dX5_product_56 : decode cX5_product 56 = .ok (.aload_n 0, 1) := by decide +kernel
theorem dX5_product_57 : decode cX5_product 57 = .ok (.getfield 88, 3) := by decide +kernel
theorem dX5_product_60 : decode cX5_product 60 = .ok (.imul, 1) := by decide +kernel
theorem dX5_product_61 : decode cX5_product 61 = .ok (.iload_n 1, 1) := by decide +kernel
theorem dX5_product_62 : decode cX5_product 62 = .ok (.imul, 1) := by decide +kernel
theorem dX5_product_63 : decode cX5_product 63 = .ok (.iload 7, 2) := by decide +kernel
theorem dX5_product_65 : decode cX5_product 65 = .ok (.iadd, 1) := by decide +kernel
theorem dX5_product_66 : decode cX5_product 66 = .ok (.istore 8, 2) := by decide +kernel
theorem dX5_product_68 : decode cX5_product 68 = .ok (.lload_n 2, 1) := by decide +kernel
theorem dX5_product_69 : decode cX5_product 69 = .ok (.lload 5, 2) := by decide +kernel
theorem dX5_product_71 : decode cX5_product 71 = .ok (.aload_n 0, 1) := by decide +kernel
theorem dX5_product_72 : decode cX5_product 72 = .ok (.iload 8, 2) := by decide +kernel
theorem dX5_product_74 : decode cX5_product 74 = .ok (.iload 4, 2) := by decide +kernel
theorem dX5_product_76 : decode cX5_product 76 = .ok (.invokevirtual 134, 3) := by decide +kernel
theorem dX5_product_79 : decode cX5_product 79 = .ok (.aload_n 0, 1) := by decide +kernel
theorem dX5_product_80 : decode cX5_product 80 = .ok (.iload 8, 2) := by decide +kernel
theorem dX5_product_82 : decode cX5_product 82 = .ok (.aload_n 0, 1) := by decide +kernel
theorem dX5_product_83 : decode cX5_product 83 = .ok (.getfield 88, 3) := by decide +kernel
theorem dX5_product_86 : decode cX5_product 86 = .ok (.iadd, 1) := by decide +kernel
theorem dX5_product_87 : decode cX5_product 87 = .ok (.iload 4, 2) := by decide +kernel
theorem dX5_product_89 : decode cX5_product 89 = .ok (.invokevirtual 134, 3) := by decide +kernel
theorem dX5_product_92 : decode cX5_product 92 = .ok (.lsub, 1) := by decide +kernel
theorem dX5_product_93 : decode cX5_product 93 = .ok (.lmul, 1) := by decide +kernel
theorem dX5_product_94 : decode cX5_product 94 = .ok (.ladd, 1) := by decide +kernel
theorem dX5_product_95 : decode cX5_product 95 = .ok (.lstore_n 2, 1) := by decide +kernel
theorem dX5_product_96 : decode cX5_product 96 = .ok (.lload 5, 2) := by decide +kernel
theorem dX5_product_98 : decode cX5_product 98 = .ok (.aload_n 0, 1) := by decide +kernel
theorem dX5_product_99 : decode cX5_product 99 = .ok (.getfield 16, 3) := by decide +kernel
theorem dX5_product_102 : decode cX5_product 102 = .ok (.iconst 1, 1) := by decide +kernel
theorem dX5_product_103 : decode cX5_product 103 = .ok (.iadd, 1) := by decide +kernel
theorem dX5_product_104 : decode cX5_product 104 = .ok (.i2l, 1) := by decide +kernel
theorem dX5_product_105 : decode cX5_product 105 = .ok (.lmul, 1) := by decide +kernel
theorem dX5_product_106 : decode cX5_product 106 = .ok (.lstore 5, 2) := by decide +kernel
theorem dX5_product_108 : decode cX5_product 108 = .ok (.iinc 7 1, 3) := by decide +kernel
theorem dX5_product_111 : decode cX5_product 111 = .ok (.goto (-65), 3) := by decide +kernel
theorem dX5_product_114 : decode cX5_product 114 = .ok (.iinc 4 1, 3) := by decide +kernel
theorem dX5_product_117 : decode cX5_product 117 = .ok (.goto (-87), 3) := by decide +kernel
theorem dX5_product_120 : decode cX5_product 120 = .ok (.lload_n 2, 1) := by decide +kernel
theorem dX5_product_121 : decode cX5_product 121 = .ok (.lreturn, 1) := by decide +kernel
theorem dX5_due_0 : decode cX5_due 0 = .ok (.iload_n 1, 1) := by decide +kernel
theorem dX5_due_1 : decode cX5_due 1 = .ok (.iconst 0, 1) := by decide +kernel
theorem dX5_due_2 : decode cX5_due 2 = .ok (.aload_n 0, 1) := by decide +kernel
theorem dX5_due_3 : decode cX5_due 3 = .ok (.getfield 85, 3) := by decide +kernel
theorem dX5_due_6 : decode cX5_due 6 = .ok (.iconst 1, 1) := by decide +kernel
theorem dX5_due_7 : decode cX5_due 7 = .ok (.isub, 1) := by decide +kernel
theorem dX5_due_8 : decode cX5_due 8 = .ok (.invokestatic 98, 3) := by decide +kernel
theorem dX5_due_11 : decode cX5_due 11 = .ok (.ifCond .ne 7, 3) := by decide +kernel
theorem dX5_due_14 : decode cX5_due 14 = .ok (.ldc2_w 132, 3) := by decide +kernel
theorem dX5_due_17 : decode cX5_due 17 = .ok (.lreturn, 1) := by decide +kernel
theorem dX5_due_18 : decode cX5_due 18 = .ok (.lconst 0, 1) := by decide +kernel
theorem dX5_due_19 : decode cX5_due 19 = .ok (.lstore_n 2, 1) := by decide +kernel
theorem dX5_due_20 : decode cX5_due 20 = .ok (.iconst 0, 1) := by decide +kernel
theorem dX5_due_21 : decode cX5_due 21 = .ok (.istore 4, 2) := by decide +kernel
theorem dX5_due_23 : decode cX5_due 23 = .ok (.iload 4, 2) := by decide +kernel
theorem dX5_due_25 : decode cX5_due 25 = .ok (.aload_n 0, 1) := by decide +kernel
theorem dX5_due_26 : decode cX5_due 26 = .ok (.getfield 82, 3) := by decide +kernel
theorem dX5_due_29 : decode cX5_due 29 = .ok (.if_icmp .ge 34, 3) := by decide +kernel
theorem dX5_due_32 : decode cX5_due 32 = .ok (.lload_n 2, 1) := by decide +kernel
theorem dX5_due_33 : decode cX5_due 33 = .ok (.aload_n 0, 1) := by decide +kernel
theorem dX5_due_34 : decode cX5_due 34 = .ok (.getfield 29, 3) := by decide +kernel
theorem dX5_due_37 : decode cX5_due 37 = .ok (.iload 4, 2) := by decide +kernel
theorem dX5_due_39 : decode cX5_due 39 = .ok (.iaload, 1) := by decide +kernel
theorem dX5_due_40 : decode cX5_due 40 = .ok (.i2l, 1) := by decide +kernel
theorem dX5_due_41 : decode cX5_due 41 = .ok (.aload_n 0, 1) := by decide +kernel
theorem dX5_due_42 : decode cX5_due 42 = .ok (.getfield 35, 3) := by decide +kernel
theorem dX5_due_45 : decode cX5_due 45 = .ok (.bipush 12, 2) := by decide +kernel
theorem dX5_due_47 : decode cX5_due 47 = .ok (.iload 4, 2) := by decide +kernel
theorem dX5_due_49 : decode cX5_due 49 = .ok (.imul, 1) := by decide +kernel
theorem dX5_due_50 : decode cX5_due 50 = .ok (.iload_n 1, 1) := by decide +kernel
theorem dX5_due_51 : decode cX5_due 51 = .ok (.iadd, 1) := by decide +kernel
theorem dX5_due_52 : decode cX5_due 52 = .ok (.iaload, 1) := by decide +kernel
theorem dX5_due_53 : decode cX5_due 53 = .ok (.i2l, 1) := by decide +kernel
theorem dX5_due_54 : decode cX5_due 54 = .ok (.lmul, 1) := by decide +kernel
theorem dX5_due_55 : decode cX5_due 55 = .ok (.ladd, 1) := by decide +kernel
theorem dX5_due_56 : decode cX5_due 56 = .ok (.lstore_n 2, 1) := by decide +kernel
theorem dX5_due_57 : decode cX5_due 57 = .ok (.iinc 4 1, 3) := by decide +kernel
theorem dX5_due_60 : decode cX5_due 60 = .ok (.goto (-37), 3) := by decide +kernel
theorem dX5_due_63 : decode cX5_due 63 = .ok (.lload_n 2, 1) := by decide +kernel
theorem dX5_due_64 : decode cX5_due 64 = .ok (.lreturn, 1) := by decide +kernel
theorem dX5_enough_0 : decode cX5_enough 0 = .ok (.aload_n 0, 1) := by decide +kernel
theorem dX5_enough_1 : decode cX5_enough 1 = .ok (.invokevirtual 125, 3) := by decide +kernel
theorem dX5_enough_4 : decode cX5_enough 4 = .ok (.ifCond .ne 6, 3) := by decide +kernel
theorem dX5_enough_7 : decode cX5_enough 7 = .ok (.bipush (-3), 2) := by decide +kernel
theorem dX5_enough_9 : decode cX5_enough 9 = .ok (.ireturn, 1) := by decide +kernel
theorem dX5_enough_10 : decode cX5_enough 10 = .ok (.iconst 1, 1) := by decide +kernel
theorem dX5_enough_11 : decode cX5_enough 11 = .ok (.istore_n 1, 1) := by decide +kernel
theorem dX5_enough_12 : decode cX5_enough 12 = .ok (.iconst 1, 1) := by decide +kernel
theorem dX5_enough_13 : decode cX5_enough 13 = .ok (.iload_n 1, 1) := by decide +kernel
theorem dX5_enough_14 : decode cX5_enough 14 = .ok (.ishl, 1) := by decide +kernel
theorem dX5_enough_15 : decode cX5_enough 15 = .ok (.iconst 1, 1) := by decide +kernel
theorem dX5_enough_16 : decode cX5_enough 16 = .ok (.isub, 1) := by decide +kernel
theorem dX5_enough_17 : decode cX5_enough 17 = .ok (.aload_n 0, 1) := by decide +kernel
theorem dX5_enough_18 : decode cX5_enough 18 = .ok (.getfield 82, 3) := by decide +kernel
theorem dX5_enough_21 : decode cX5_enough 21 = .ok (.aload_n 0, 1) := by decide +kernel
theorem dX5_enough_22 : decode cX5_enough 22 = .ok (.getfield 16, 3) := by decide +kernel
theorem dX5_enough_25 : decode cX5_enough 25 = .ok (.imul, 1) := by decide +kernel
theorem dX5_enough_26 : decode cX5_enough 26 = .ok (.if_icmp .ge 9, 3) := by decide +kernel
theorem dX5_enough_29 : decode cX5_enough 29 = .ok (.iinc 1 1, 3) := by decide +kernel
theorem dX5_enough_32 : decode cX5_enough 32 = .ok (.goto (-20), 3) := by decide +kernel
theorem dX5_enough_35 : decode cX5_enough 35 = .ok (.iload_n 1, 1) := by decide +kernel
theorem dX5_enough_36 : decode cX5_enough 36 = .ok (.ireturn, 1) := by decide +kernel
theorem dX5_findCosts_0 : decode cX5_findCosts 0 = .ok (.iconst 0, 1) := by decide +kernel
theorem dX5_findCosts_1 : decode cX5_findCosts 1 = .ok (.istore_n 1, 1) := by decide +kernel
theorem dX5_findCosts_2 : decode cX5_findCosts 2 = .ok (.iload_n 1, 1) := by decide +kernel
theorem dX5_findCosts_3 : decode cX5_findCosts 3 = .ok (.aload_n 0, 1) := by decide +kernel
theorem dX5_findCosts_4 : decode cX5_findCosts 4 = .ok (.getfield 82, 3) := by decide +kernel
theorem dX5_findCosts_7 : decode cX5_findCosts 7 = .ok (.if_icmp .ge 116, 3) := by decide +kernel
theorem dX5_findCosts_10 : decode cX5_findCosts 10 = .ok (.iconst 0, 1) := by decide +kernel
theorem dX5_findCosts_11 : decode cX5_findCosts 11 = .ok (.istore_n 2, 1) := by decide +kernel
theorem dX5_findCosts_12 : decode cX5_findCosts 12 = .ok (.iload_n 2, 1) := by decide +kernel
theorem dX5_findCosts_13 : decode cX5_findCosts 13 = .ok (.aload_n 0, 1) := by decide +kernel
theorem dX5_findCosts_14 : decode cX5_findCosts 14 = .ok (.getfield 7, 3) := by decide +kernel
theorem dX5_findCosts_17 : decode cX5_findCosts 17 = .ok (.if_icmp .ge 100, 3) := by decide +kernel
theorem dX5_findCosts_20 : decode cX5_findCosts 20 = .ok (.iconst 0, 1) := by decide +kernel
theorem dX5_findCosts_21 : decode cX5_findCosts 21 = .ok (.istore_n 3, 1) := by decide +kernel
theorem dX5_findCosts_22 : decode cX5_findCosts 22 = .ok (.iconst 0, 1) := by decide +kernel
theorem dX5_findCosts_23 : decode cX5_findCosts 23 = .ok (.istore 4, 2) := by decide +kernel
theorem dX5_findCosts_25 : decode cX5_findCosts 25 = .ok (.iload 4, 2) := by decide +kernel
theorem dX5_findCosts_27 : decode cX5_findCosts 27 = .ok (.iconst 2, 1) := by decide +kernel
theorem dX5_findCosts_28 : decode cX5_findCosts 28 = .ok (.aload_n 0, 1) := by decide +kernel
theorem dX5_findCosts_29 : decode cX5_findCosts 29 = .ok (.getfield 88, 3) := by decide +kernel
theorem dX5_findCosts_32 : decode cX5_findCosts 32 = .ok (.imul, 1) := by decide +kernel
theorem dX5_findCosts_33 : decode cX5_findCosts 33 = .ok (.aload_n 0, 1) := by decide +kernel
theorem dX5_findCosts_34 : decode cX5_findCosts 34 = .ok (.getfield 85, 3) := by decide +kernel
theorem dX5_findCosts_37 : decode cX5_findCosts 37 = .ok (.imul, 1) := by decide +kernel
theorem dX5_findCosts_38 : decode cX5_findCosts 38 = .ok (.if_icmp .ge 61, 3) := by decide +kernel
theorem dX5_findCosts_41 : decode cX5_findCosts 41 = .ok (.aload_n 0, 1) := by decide +kernel
theorem dX5_findCosts_42 : decode cX5_findCosts 42 = .ok (.getfield 23, 3) := by decide +kernel
theorem dX5_findCosts_45 : decode cX5_findCosts 45 = .ok (.bipush 24, 2) := by decide +kernel
theorem dX5_findCosts_47 : decode cX5_findCosts 47 = .ok (.iload_n 2, 1) := by decide +kernel
theorem dX5_findCosts_48 : decode cX5_findCosts 48 = .ok (.imul, 1) := by decide +kernel
theorem dX5_findCosts_49 : decode cX5_findCosts 49 = .ok (.iload 4, 2) := by decide +kernel
theorem dX5_findCosts_51 : decode cX5_findCosts 51 = .ok (.iadd, 1) := by decide +kernel
theorem dX5_findCosts_52 : decode cX5_findCosts 52 = .ok (.iaload, 1) := by decide +kernel
theorem dX5_findCosts_53 : decode cX5_findCosts 53 = .ok (.istore 5, 2) := by decide +kernel
theorem dX5_findCosts_55 : decode cX5_findCosts 55 = .ok (.iload 5, 2) := by decide +kernel
theorem dX5_findCosts_57 : decode cX5_findCosts 57 = .ok (.iconst (-1), 1) := by decide +kernel
theorem dX5_findCosts_58 : decode cX5_findCosts 58 = .ok (.if_icmp .ne 7, 3) := by decide +kernel
theorem dX5_findCosts_61 : decode cX5_findCosts 61 = .ok (.iconst 0, 1) := by decide +kernel
theorem dX5_findCosts_62 : decode cX5_findCosts 62 = .ok (.goto 13, 3) := by decide +kernel
theorem dX5_findCosts_65 : decode cX5_findCosts 65 = .ok (.iload 5, 2) := by decide +kernel
theorem dX5_findCosts_67 : decode cX5_findCosts 67 = .ok (.aload_n 0, 1) := by decide +kernel
theorem dX5_findCosts_68 : decode cX5_findCosts 68 = .ok (.iload_n 1, 1) := by decide +kernel
theorem dX5_findCosts_69 : decode cX5_findCosts 69 = .ok (.iload 4, 2) := by decide +kernel
theorem dX5_findCosts_71 : decode cX5_findCosts 71 = .ok (.invokevirtual 129, 3) := by decide +kernel
theorem dX5_findCosts_74 : decode cX5_findCosts 74 = .ok (.isub, 1) := by decide +kernel
theorem dX5_findCosts_75 : decode cX5_findCosts 75 = .ok (.istore 6, 2) := by decide +kernel
theorem dX5_findCosts_77 : decode cX5_findCosts 77 = .ok (.iload_n 3, 1) := by decide +kernel
theorem dX5_findCosts_78 : decode cX5_findCosts 78 = .ok (.iload 6, 2) := by decide +kernel
theorem dX5_findCosts_80 : decode cX5_findCosts 80 = .ok (.ifCond .ge 9, 3) := by decide +kernel
theorem dX5_findCosts_83 : decode cX5_findCosts 83 = .ok (.iload 6, 2) := by decide +kernel
theorem dX5_findCosts_85 : decode cX5_findCosts 85 = .ok (.ineg, 1) := by decide +kernel
theorem dX5_findCosts_86 : decode cX5_findCosts 86 = .ok (.goto 5, 3) := by decide +kernel
theorem dX5_findCosts_89 : decode cX5_findCosts 89 = .ok (.iload 6, 2) := by decide +kernel
theorem dX5_findCosts_91 : decode cX5_findCosts 91 = .ok (.iadd, 1) := by decide +kernel
theorem dX5_findCosts_92 : decode cX5_findCosts 92 = .ok (.istore_n 3, 1) := by decide +kernel
theorem dX5_findCosts_93 : decode cX5_findCosts 93 = .ok (.iinc 4 1, 3) := by decide +kernel
theorem dX5_findCosts_96 : decode cX5_findCosts 96 = .ok (.goto (-71), 3) := by decide +kernel
theorem dX5_findCosts_99 : decode cX5_findCosts 99 = .ok (.aload_n 0, 1) := by decide +kernel
theorem dX5_findCosts_100 : decode cX5_findCosts 100 = .ok (.getfield 47, 3) := by decide +kernel
theorem dX5_findCosts_103 : decode cX5_findCosts 103 = .ok (.bipush 8, 2) := by decide +kernel
theorem dX5_findCosts_105 : decode cX5_findCosts 105 = .ok (.iload_n 1, 1) := by decide +kernel
theorem dX5_findCosts_106 : decode cX5_findCosts 106 = .ok (.imul, 1) := by decide +kernel
theorem dX5_findCosts_107 : decode cX5_findCosts 107 = .ok (.iload_n 2, 1) := by decide +kernel
theorem dX5_findCosts_108 : decode cX5_findCosts 108 = .ok (.iadd, 1) := by decide +kernel
theorem dX5_findCosts_109 : decode cX5_findCosts 109 = .ok (.iload_n 3, 1) := by decide +kernel
theorem dX5_findCosts_110 : decode cX5_findCosts 110 = .ok (.iastore, 1) := by decide +kernel
theorem dX5_findCosts_111 : decode cX5_findCosts 111 = .ok (.iinc 2 1, 3) := by decide +kernel
theorem dX5_findCosts_114 : decode cX5_findCosts 114 = .ok (.goto (-102), 3) := by decide +kernel
theorem dX5_findCosts_117 : decode cX5_findCosts 117 = .ok (.iinc 1 1, 3) := by decide +kernel
theorem dX5_findCosts_120 : decode cX5_findCosts 120 = .ok (.goto (-118), 3) := by decide +kernel
theorem dX5_findCosts_123 : decode cX5_findCosts 123 = .ok (.return_, 1) := by decide +kernel
theorem dX5_isUsed_0 : decode cX5_isUsed 0 = .ok (.iconst 0, 1) := by decide +kernel
theorem dX5_isUsed_1 : decode cX5_isUsed 1 = .ok (.istore_n 3, 1) := by decide +kernel
theorem dX5_isUsed_2 : decode cX5_isUsed 2 = .ok (.iload_n 3, 1) := by decide +kernel
theorem dX5_isUsed_3 : decode cX5_isUsed 3 = .ok (.iload_n 2, 1) := by decide +kernel
theorem dX5_isUsed_4 : decode cX5_isUsed 4 = .ok (.if_icmp .ge 21, 3) := by decide +kernel
theorem dX5_isUsed_7 : decode cX5_isUsed 7 = .ok (.aload_n 0, 1) := by decide +kernel
theorem dX5_isUsed_8 : decode cX5_isUsed 8 = .ok (.getfield 50, 3) := by decide +kernel
theorem dX5_isUsed_11 : decode cX5_isUsed 11 = .ok (.iload_n 3, 1) := by decide +kernel
theorem dX5_isUsed_12 : decode cX5_isUsed 12 = .ok (.iaload, 1) := by decide +kernel
theorem dX5_isUsed_13 : decode cX5_isUsed 13 = .ok (.iload_n 1, 1) := by decide +kernel
theorem dX5_isUsed_14 : decode cX5_isUsed 14 = .ok (.if_icmp .ne 5, 3) := by decide +kernel
theorem dX5_isUsed_17 : decode cX5_isUsed 17 = .ok (.iconst 1, 1) := by decide +kernel
theorem dX5_isUsed_18 : decode cX5_isUsed 18 = .ok (.ireturn, 1) := by decide +kernel
theorem dX5_isUsed_19 : decode cX5_isUsed 19 = .ok (.iinc 3 1, 3) := by decide +kernel
theorem dX5_isUsed_22 : decode cX5_isUsed 22 = .ok (.goto (-20), 3) := by decide +kernel
theorem dX5_isUsed_25 : decode cX5_isUsed 25 = .ok (.iconst 0, 1) := by decide +kernel
theorem dX5_isUsed_26 : decode cX5_isUsed 26 = .ok (.ireturn, 1) := by decide +kernel
theorem dX5_map_0 : decode cX5_map 0 = .ok (.aload_n 0, 1) := by decide +kernel
theorem dX5_map_1 : decode cX5_map 1 = .ok (.invokevirtual 125, 3) := by decide +kernel
theorem dX5_map_4 : decode cX5_map 4 = .ok (.ifCond .ne 6, 3) := by decide +kernel
theorem dX5_map_7 : decode cX5_map 7 = .ok (.bipush (-3), 2) := by decide +kernel
theorem dX5_map_9 : decode cX5_map 9 = .ok (.ireturn, 1) := by decide +kernel
theorem dX5_map_10 : decode cX5_map 10 = .ok (.aload_n 0, 1) := by decide +kernel
theorem dX5_map_11 : decode cX5_map 11 = .ok (.invokevirtual 138, 3) := by decide +kernel
theorem dX5_map_14 : decode cX5_map 14 = .ok (.iconst (-1), 1) := by decide +kernel
theorem dX5_map_15 : decode cX5_map 15 = .ok (.istore_n 1, 1) := by decide +kernel
theorem dX5_map_16 : decode cX5_map 16 = .ok (.iconst 0, 1) := by decide +kernel
theorem dX5_map_17 : decode cX5_map 17 = .ok (.istore_n 2, 1) := by decide +kernel
theorem dX5_map_18 : decode cX5_map 18 = .ok (.aload_n 0, 1) := by decide +kernel
theorem dX5_map_19 : decode cX5_map 19 = .ok (.getfield 50, 3) := by decide +kernel
theorem dX5_map_22 : decode cX5_map 22 = .ok (.iconst 0, 1) := by decide +kernel
theorem dX5_map_23 : decode cX5_map 23 = .ok (.iconst (-1), 1) := by decide +kernel
theorem dX5_map_24 : decode cX5_map 24 = .ok (.iastore, 1) := by decide +kernel
theorem dX5_map_25 : decode cX5_map 25 = .ok (.iload_n 2, 1) := by decide +kernel
theorem dX5_map_26 : decode cX5_map 26 = .ok (.ifCond .lt 183, 3) := by decide +kernel
theorem dX5_map_29 : decode cX5_map 29 = .ok (.aload_n 0, 1) := by decide +kernel
theorem dX5_map_30 : decode cX5_map 30 = .ok (.getfield 50, 3) := by decide +kernel
theorem dX5_map_33 : decode cX5_map 33 = .ok (.iload_n 2, 1) := by decide +kernel
theorem dX5_map_34 : decode cX5_map 34 = .ok (.dup2, 1) := by decide +kernel
theorem dX5_map_35 : decode cX5_map 35 = .ok (.iaload, 1) := by decide +kernel
theorem dX5_map_36 : decode cX5_map 36 = .ok (.iconst 1, 1) := by decide +kernel
theorem dX5_map_37 : decode cX5_map 37 = .ok (.iadd, 1) := by decide +kernel
theorem dX5_map_38 : decode cX5_map 38 = .ok (.iastore, 1) := by decide +kernel
theorem dX5_map_39 : decode cX5_map 39 = .ok (.aload_n 0, 1) := by decide +kernel
theorem dX5_map_40 : decode cX5_map 40 = .ok (.getfield 50, 3) := by decide +kernel
theorem dX5_map_43 : decode cX5_map 43 = .ok (.iload_n 2, 1) := by decide +kernel
theorem dX5_map_44 : decode cX5_map 44 = .ok (.iaload, 1) := by decide +kernel
theorem dX5_map_45 : decode cX5_map 45 = .ok (.aload_n 0, 1) := by decide +kernel
theorem dX5_map_46 : decode cX5_map 46 = .ok (.getfield 7, 3) := by decide +kernel
theorem dX5_map_49 : decode cX5_map 49 = .ok (.if_icmp .ge 30, 3) := by decide +kernel
theorem dX5_map_52 : decode cX5_map 52 = .ok (.aload_n 0, 1) := by decide +kernel
theorem dX5_map_53 : decode cX5_map 53 = .ok (.aload_n 0, 1) := by decide +kernel
theorem dX5_map_54 : decode cX5_map 54 = .ok (.getfield 50, 3) := by decide +kernel
theorem dX5_map_57 : decode cX5_map 57 = .ok (.iload_n 2, 1) := by decide +kernel
theorem dX5_map_58 : decode cX5_map 58 = .ok (.iaload, 1) := by decide +kernel
theorem dX5_map_59 : decode cX5_map 59 = .ok (.iload_n 2, 1) := by decide +kernel
theorem dX5_map_60 : decode cX5_map 60 = .ok (.invokevirtual 141, 3) := by decide +kernel
theorem dX5_map_63 : decode cX5_map 63 = .ok (.ifCond .eq 16, 3) := by decide +kernel
theorem dX5_map_66 : decode cX5_map 66 = .ok (.aload_n 0, 1) := by decide +kernel
theorem dX5_map_67 : decode cX5_map 67 = .ok (.getfield 50, 3) := by decide +kernel
theorem dX5_map_70 : decode cX5_map 70 = .ok (.iload_n 2, 1) := by decide +kernel
theorem dX5_map_71 : decode cX5_map 71 = .ok (.dup2, 1) := by decide +kernel
theorem dX5_map_72 : decode cX5_map 72 = .ok (.iaload, 1) := by decide +kernel
theorem dX5_map_73 : decode cX5_map 73 = .ok (.iconst 1, 1) := by decide +kernel
theorem dX5_map_74 : decode cX5_map 74 = .ok (.iadd, 1) := by decide +kernel
theorem dX5_map_75 : decode cX5_map 75 = .ok (.iastore, 1) := by decide +kernel
theorem dX5_map_76 : decode cX5_map 76 = .ok (.goto (-37), 3) := by decide +kernel
theorem dX5_map_79 : decode cX5_map 79 = .ok (.aload_n 0, 1) := by decide +kernel
theorem dX5_map_80 : decode cX5_map 80 = .ok (.getfield 50, 3) := by decide +kernel
theorem dX5_map_83 : decode cX5_map 83 = .ok (.iload_n 2, 1) := by decide +kernel
theorem dX5_map_84 : decode cX5_map 84 = .ok (.iaload, 1) := by decide +kernel
theorem dX5_map_85 : decode cX5_map 85 = .ok (.aload_n 0, 1) := by decide +kernel
theorem dX5_map_86 : decode cX5_map 86 = .ok (.getfield 7, 3) := by decide +kernel
theorem dX5_map_89 : decode cX5_map 89 = .ok (.if_icmp .lt 9, 3) := by decide +kernel
theorem dX5_map_92 : decode cX5_map 92 = .ok (.iinc 2 (-1), 3) := by decide +kernel
theorem dX5_map_95 : decode cX5_map 95 = .ok (.goto (-70), 3) := by decide +kernel
theorem dX5_map_98 : decode cX5_map 98 = .ok (.aload_n 0, 1) := by decide +kernel
theorem dX5_map_99 : decode cX5_map 99 = .ok (.getfield 56, 3) := by decide +kernel
theorem dX5_map_102 : decode cX5_map 102 = .ok (.iload_n 2, 1) := by decide +kernel
theorem dX5_map_103 : decode cX5_map 103 = .ok (.iconst 1, 1) := by decide +kernel
theorem dX5_map_104 : decode cX5_map 104 = .ok (.iadd, 1) := by decide +kernel
theorem dX5_map_105 : decode cX5_map 105 = .ok (.aload_n 0, 1) := by decide +kernel
theorem dX5_map_106 : decode cX5_map 106 = .ok (.getfield 56, 3) := by decide +kernel
theorem dX5_map_109 : decode cX5_map 109 = .ok (.iload_n 2, 1) := by decide +kernel
theorem dX5_map_110 : decode cX5_map 110 = .ok (.iaload, 1) := by decide +kernel
theorem dX5_map_111 : decode cX5_map 111 = .ok (.aload_n 0, 1) := by decide +kernel
theorem dX5_map_112 : decode cX5_map 112 = .ok (.getfield 47, 3) := by decide +kernel
theorem dX5_map_115 : decode cX5_map 115 = .ok (.bipush 8, 2) := by decide +kernel
theorem dX5_map_117 : decode cX5_map 117 = .ok (.iload_n 2, 1) := by decide +kernel
theorem dX5_map_118 : decode cX5_map 118 = .ok (.imul, 1) := by decide +kernel
theorem dX5_map_119 : decode cX5_map 119 = .ok (.aload_n 0, 1) := by decide +kernel
theorem dX5_map_120 : decode cX5_map 120 = .ok (.getfield 50, 3) := by decide +kernel
theorem dX5_map_123 : decode cX5_map 123 = .ok (.iload_n 2, 1) := by decide +kernel
theorem dX5_map_124 : decode cX5_map 124 = .ok (.iaload, 1) := by decide +kernel
theorem dX5_map_125 : decode cX5_map 125 = .ok (.iadd, 1) := by decide +kernel
theorem dX5_map_126 : decode cX5_map 126 = .ok (.iaload, 1) := by decide +kernel
theorem dX5_map_127 : decode cX5_map 127 = .ok (.iadd, 1) := by decide +kernel
theorem dX5_map_128 : decode cX5_map 128 = .ok (.iastore, 1) := by decide +kernel
theorem dX5_map_129 : decode cX5_map 129 = .ok (.iload_n 1, 1) := by decide +kernel
theorem dX5_map_130 : decode cX5_map 130 = .ok (.iconst (-1), 1) := by decide +kernel
theorem dX5_map_131 : decode cX5_map 131 = .ok (.if_icmp .eq 15, 3) := by decide +kernel
theorem dX5_map_134 : decode cX5_map 134 = .ok (.aload_n 0, 1) := by decide +kernel
theorem dX5_map_135 : decode cX5_map 135 = .ok (.getfield 56, 3) := by decide +kernel
theorem dX5_map_138 : decode cX5_map 138 = .ok (.iload_n 2, 1) := by decide +kernel
theorem dX5_map_139 : decode cX5_map 139 = .ok (.iconst 1, 1) := by decide +kernel
theorem dX5_map_140 : decode cX5_map 140 = .ok (.iadd, 1) := by decide +kernel
theorem dX5_map_141 : decode cX5_map 141 = .ok (.iaload, 1) := by decide +kernel
theorem dX5_map_142 : decode cX5_map 142 = .ok (.iload_n 1, 1) := by decide +kernel
theorem dX5_map_143 : decode cX5_map 143 = .ok (.if_icmp .ge (-118), 3) := by decide +kernel
theorem dX5_map_146 : decode cX5_map 146 = .ok (.iload_n 2, 1) := by decide +kernel
theorem dX5_map_147 : decode cX5_map 147 = .ok (.aload_n 0, 1) := by decide +kernel
theorem dX5_map_148 : decode cX5_map 148 = .ok (.getfield 82, 3) := by decide +kernel
theorem dX5_map_151 : decode cX5_map 151 = .ok (.iconst 1, 1) := by decide +kernel
theorem dX5_map_152 : decode cX5_map 152 = .ok (.isub, 1) := by decide +kernel
theorem dX5_map_153 : decode cX5_map 153 = .ok (.if_icmp .ne 43, 3) := by decide +kernel
theorem dX5_map_156 : decode cX5_map 156 = .ok (.aload_n 0, 1) := by decide +kernel
theorem dX5_map_157 : decode cX5_map 157 = .ok (.getfield 56, 3) := by decide +kernel
theorem dX5_map_160 : decode cX5_map 160 = .ok (.iload_n 2, 1) := by decide +kernel
theorem dX5_map_161 : decode cX5_map 161 = .ok (.iconst 1, 1) := by decide +kernel
theorem dX5_map_162 : decode cX5_map 162 = .ok (.iadd, 1) := by decide +kernel
theorem dX5_map_163 : decode cX5_map 163 = .ok (.iaload, 1) := by decide +kernel
theorem dX5_map_164 : decode cX5_map 164 = .ok (.istore_n 1, 1) := by decide +kernel
theorem dX5_map_165 : decode cX5_map 165 = .ok (.iconst 0, 1) := by decide +kernel
theorem dX5_map_166 : decode cX5_map 166 = .ok (.istore_n 3, 1) := by decide +kernel
theorem dX5_map_167 : decode cX5_map 167 = .ok (.iload_n 3, 1) := by decide +kernel
theorem dX5_map_168 : decode cX5_map 168 = .ok (.aload_n 0, 1) := by decide +kernel
theorem dX5_map_169 : decode cX5_map 169 = .ok (.getfield 82, 3) := by decide +kernel
theorem dX5_map_172 : decode cX5_map 172 = .ok (.if_icmp .ge 21, 3) := by decide +kernel
theorem dX5_map_175 : decode cX5_map 175 = .ok (.aload_n 0, 1) := by decide +kernel
theorem dX5_map_176 : decode cX5_map 176 = .ok (.getfield 53, 3) := by decide +kernel
theorem dX5_map_179 : decode cX5_map 179 = .ok (.iload_n 3, 1) := by decide +kernel
theorem dX5_map_180 : decode cX5_map 180 = .ok (.aload_n 0, 1) := by decide +kernel
theorem dX5_map_181 : decode cX5_map 181 = .ok (.getfield 50, 3) := by decide +kernel
theorem dX5_map_184 : decode cX5_map 184 = .ok (.iload_n 3, 1) := by decide +kernel
theorem dX5_map_185 : decode cX5_map 185 = .ok (.iaload, 1) := by decide +kernel
theorem dX5_map_186 : decode cX5_map 186 = .ok (.iastore, 1) := by decide +kernel
theorem dX5_map_187 : decode cX5_map 187 = .ok (.iinc 3 1, 3) := by decide +kernel
theorem dX5_map_190 : decode cX5_map 190 = .ok (.goto (-23), 3) := by decide +kernel
theorem dX5_map_193 : decode cX5_map 193 = .ok (.goto (-168), 3) := by decide +kernel
theorem dX5_map_196 : decode cX5_map 196 = .ok (.iinc 2 1, 3) := by decide +kernel
theorem dX5_map_199 : decode cX5_map 199 = .ok (.aload_n 0, 1) := by decide +kernel
theorem dX5_map_200 : decode cX5_map 200 = .ok (.getfield 50, 3) := by decide +kernel
theorem dX5_map_203 : decode cX5_map 203 = .ok (.iload_n 2, 1) := by decide +kernel
theorem dX5_map_204 : decode cX5_map 204 = .ok (.iconst (-1), 1) := by decide +kernel
theorem dX5_map_205 : decode cX5_map 205 = .ok (.iastore, 1) := by decide +kernel
theorem dX5_map_206 : decode cX5_map 206 = .ok (.goto (-181), 3) := by decide +kernel
theorem dX5_map_209 : decode cX5_map 209 = .ok (.iconst 0, 1) := by decide +kernel
theorem dX5_map_210 : decode cX5_map 210 = .ok (.istore_n 3, 1) := by decide +kernel
theorem dX5_map_211 : decode cX5_map 211 = .ok (.iload_n 3, 1) := by decide +kernel
theorem dX5_map_212 : decode cX5_map 212 = .ok (.aload_n 0, 1) := by decide +kernel
theorem dX5_map_213 : decode cX5_map 213 = .ok (.getfield 82, 3) := by decide +kernel
theorem dX5_map_216 : decode cX5_map 216 = .ok (.if_icmp .ge 21, 3) := by decide +kernel
theorem dX5_map_219 : decode cX5_map 219 = .ok (.aload_n 0, 1) := by decide +kernel
theorem dX5_map_220 : decode cX5_map 220 = .ok (.getfield 38, 3) := by decide +kernel
theorem dX5_map_223 : decode cX5_map 223 = .ok (.iload_n 3, 1) := by decide +kernel
theorem dX5_map_224 : decode cX5_map 224 = .ok (.aload_n 0, 1) := by decide +kernel
theorem dX5_map_225 : decode cX5_map 225 = .ok (.getfield 53, 3) := by decide +kernel
theorem dX5_map_228 : decode cX5_map 228 = .ok (.iload_n 3, 1) := by decide +kernel
theorem dX5_map_229 : decode cX5_map 229 = .ok (.iaload, 1) := by decide +kernel
theorem dX5_map_230 : decode cX5_map 230 = .ok (.iastore, 1) := by decide +kernel
theorem dX5_map_231 : decode cX5_map 231 = .ok (.iinc 3 1, 3) := by decide +kernel
theorem dX5_map_234 : decode cX5_map 234 = .ok (.goto (-23), 3) := by decide +kernel
theorem dX5_map_237 : decode cX5_map 237 = .ok (.iload_n 1, 1) := by decide +kernel
theorem dX5_map_238 : decode cX5_map 238 = .ok (.ireturn, 1) := by decide +kernel
theorem dX5_mapped_0 : decode cX5_mapped 0 = .ok (.aload_n 0, 1) := by decide +kernel
theorem dX5_mapped_1 : decode cX5_mapped 1 = .ok (.invokevirtual 125, 3) := by decide +kernel
theorem dX5_mapped_4 : decode cX5_mapped 4 = .ok (.ifCond .ne 17, 3) := by decide +kernel
theorem dX5_mapped_7 : decode cX5_mapped 7 = .ok (.iload_n 1, 1) := by decide +kernel
theorem dX5_mapped_8 : decode cX5_mapped 8 = .ok (.ifCond .ge 8, 3) := by decide +kernel
theorem dX5_mapped_11 : decode cX5_mapped 11 = .ok (.bipush (-2), 2) := by decide +kernel
theorem dX5_mapped_13 : decode cX5_mapped 13 = .ok (.goto 33, 3) := by decide +kernel
theorem dX5_mapped_16 : decode cX5_mapped 16 = .ok (.bipush (-3), 2) := by decide +kernel
theorem dX5_mapped_18 : decode cX5_mapped 18 = .ok (.goto 28, 3) := by decide +kernel
theorem dX5_mapped_21 : decode cX5_mapped 21 = .ok (.iload_n 1, 1) := by decide +kernel
theorem dX5_mapped_22 : decode cX5_mapped 22 = .ok (.iconst 0, 1) := by decide +kernel
theorem dX5_mapped_23 : decode cX5_mapped 23 = .ok (.aload_n 0, 1) := by decide +kernel
theorem dX5_mapped_24 : decode cX5_mapped 24 = .ok (.getfield 82, 3) := by decide +kernel
theorem dX5_mapped_27 : decode cX5_mapped 27 = .ok (.iconst 1, 1) := by decide +kernel
theorem dX5_mapped_28 : decode cX5_mapped 28 = .ok (.isub, 1) := by decide +kernel
theorem dX5_mapped_29 : decode cX5_mapped 29 = .ok (.invokestatic 98, 3) := by decide +kernel
theorem dX5_mapped_32 : decode cX5_mapped 32 = .ok (.ifCond .eq 12, 3) := by decide +kernel
theorem dX5_mapped_35 : decode cX5_mapped 35 = .ok (.aload_n 0, 1) := by decide +kernel
theorem dX5_mapped_36 : decode cX5_mapped 36 = .ok (.getfield 38, 3) := by decide +kernel
theorem dX5_mapped_39 : decode cX5_mapped 39 = .ok (.iload_n 1, 1) := by decide +kernel
theorem dX5_mapped_40 : decode cX5_mapped 40 = .ok (.iaload, 1) := by decide +kernel
theorem dX5_mapped_41 : decode cX5_mapped 41 = .ok (.goto 5, 3) := by decide +kernel
theorem dX5_mapped_44 : decode cX5_mapped 44 = .ok (.bipush (-2), 2) := by decide +kernel
theorem dX5_mapped_46 : decode cX5_mapped 46 = .ok (.ireturn, 1) := by decide +kernel
theorem dX5_seal_0 : decode cX5_seal 0 = .ok (.iconst 0, 1) := by decide +kernel
theorem dX5_seal_1 : decode cX5_seal 1 = .ok (.istore_n 1, 1) := by decide +kernel
theorem dX5_seal_2 : decode cX5_seal 2 = .ok (.iload_n 1, 1) := by decide +kernel
theorem dX5_seal_3 : decode cX5_seal 3 = .ok (.aload_n 0, 1) := by decide +kernel
theorem dX5_seal_4 : decode cX5_seal 4 = .ok (.getfield 7, 3) := by decide +kernel
theorem dX5_seal_7 : decode cX5_seal 7 = .ok (.if_icmp .ge 86, 3) := by decide +kernel
theorem dX5_seal_10 : decode cX5_seal 10 = .ok (.iconst 0, 1) := by decide +kernel
theorem dX5_seal_11 : decode cX5_seal 11 = .ok (.istore_n 2, 1) := by decide +kernel
theorem dX5_seal_12 : decode cX5_seal 12 = .ok (.iconst 0, 1) := by decide +kernel
theorem dX5_seal_13 : decode cX5_seal 13 = .ok (.istore_n 3, 1) := by decide +kernel
theorem dX5_seal_14 : decode cX5_seal 14 = .ok (.iconst 0, 1) := by decide +kernel
theorem dX5_seal_15 : decode cX5_seal 15 = .ok (.istore 4, 2) := by decide +kernel
theorem dX5_seal_17 : decode cX5_seal 17 = .ok (.iload 4, 2) := by decide +kernel
theorem dX5_seal_19 : decode cX5_seal 19 = .ok (.aload_n 0, 1) := by decide +kernel
theorem dX5_seal_20 : decode cX5_seal 20 = .ok (.getfield 13, 3) := by decide +kernel
theorem dX5_seal_23 : decode cX5_seal 23 = .ok (.if_icmp .ge 44, 3) := by decide +kernel
theorem dX5_seal_26 : decode cX5_seal 26 = .ok (.iload_n 2, 1) := by decide +kernel
theorem dX5_seal_27 : decode cX5_seal 27 = .ok (.aload_n 0, 1) := by decide +kernel
theorem dX5_seal_28 : decode cX5_seal 28 = .ok (.getfield 19, 3) := by decide +kernel
theorem dX5_seal_31 : decode cX5_seal 31 = .ok (.bipush 24, 2) := by decide +kernel
theorem dX5_seal_33 : decode cX5_seal 33 = .ok (.iload_n 1, 1) := by decide +kernel
theorem dX5_seal_34 : decode cX5_seal 34 = .ok (.imul, 1) := by decide +kernel
theorem dX5_seal_35 : decode cX5_seal 35 = .ok (.iload 4, 2) := by decide +kernel
theorem dX5_seal_37 : decode cX5_seal 37 = .ok (.iadd, 1) := by decide +kernel
theorem dX5_seal_38 : decode cX5_seal 38 = .ok (.iaload, 1) := by decide +kernel
theorem dX5_seal_39 : decode cX5_seal 39 = .ok (.iadd, 1) := by decide +kernel
theorem dX5_seal_40 : decode cX5_seal 40 = .ok (.istore_n 2, 1) := by decide +kernel
theorem dX5_seal_41 : decode cX5_seal 41 = .ok (.iload_n 3, 1) := by decide +kernel
theorem dX5_seal_42 : decode cX5_seal 42 = .ok (.iload 4, 2) := by decide +kernel
theorem dX5_seal_44 : decode cX5_seal 44 = .ok (.iconst 1, 1) := by decide +kernel
theorem dX5_seal_45 : decode cX5_seal 45 = .ok (.iadd, 1) := by decide +kernel
theorem dX5_seal_46 : decode cX5_seal 46 = .ok (.aload_n 0, 1) := by decide +kernel
theorem dX5_seal_47 : decode cX5_seal 47 = .ok (.getfield 19, 3) := by decide +kernel
theorem dX5_seal_50 : decode cX5_seal 50 = .ok (.bipush 24, 2) := by decide +kernel
theorem dX5_seal_52 : decode cX5_seal 52 = .ok (.iload_n 1, 1) := by decide +kernel
theorem dX5_seal_53 : decode cX5_seal 53 = .ok (.imul, 1) := by decide +kernel
theorem dX5_seal_54 : decode cX5_seal 54 = .ok (.iload 4, 2) := by decide +kernel
theorem dX5_seal_56 : decode cX5_seal 56 = .ok (.iadd, 1) := by decide +kernel
theorem dX5_seal_57 : decode cX5_seal 57 = .ok (.iaload, 1) := by decide +kernel
theorem dX5_seal_58 : decode cX5_seal 58 = .ok (.imul, 1) := by decide +kernel
theorem dX5_seal_59 : decode cX5_seal 59 = .ok (.iadd, 1) := by decide +kernel
theorem dX5_seal_60 : decode cX5_seal 60 = .ok (.istore_n 3, 1) := by decide +kernel
theorem dX5_seal_61 : decode cX5_seal 61 = .ok (.iinc 4 1, 3) := by decide +kernel
theorem dX5_seal_64 : decode cX5_seal 64 = .ok (.goto (-47), 3) := by decide +kernel
theorem dX5_seal_67 : decode cX5_seal 67 = .ok (.aload_n 0, 1) := by decide +kernel
theorem dX5_seal_68 : decode cX5_seal 68 = .ok (.getfield 41, 3) := by decide +kernel
theorem dX5_seal_71 : decode cX5_seal 71 = .ok (.iload_n 1, 1) := by decide +kernel
theorem dX5_seal_72 : decode cX5_seal 72 = .ok (.iload_n 2, 1) := by decide +kernel
theorem dX5_seal_73 : decode cX5_seal 73 = .ok (.bipush 97, 2) := by decide +kernel
theorem dX5_seal_75 : decode cX5_seal 75 = .ok (.irem, 1) := by decide +kernel
theorem dX5_seal_76 : decode cX5_seal 76 = .ok (.iastore, 1) := by decide +kernel
theorem dX5_seal_77 : decode cX5_seal 77 = .ok (.aload_n 0, 1) := by decide +kernel
theorem dX5_seal_78 : decode cX5_seal 78 = .ok (.getfield 44, 3) := by decide +kernel
theorem dX5_seal_81 : decode cX5_seal 81 = .ok (.iload_n 1, 1) := by decide +kernel
theorem dX5_seal_82 : decode cX5_seal 82 = .ok (.iload_n 3, 1) := by decide +kernel
theorem dX5_seal_83 : decode cX5_seal 83 = .ok (.bipush 97, 2) := by decide +kernel
theorem dX5_seal_85 : decode cX5_seal 85 = .ok (.irem, 1) := by decide +kernel
theorem dX5_seal_86 : decode cX5_seal 86 = .ok (.iastore, 1) := by decide +kernel
theorem dX5_seal_87 : decode cX5_seal 87 = .ok (.iinc 1 1, 3) := by decide +kernel
theorem dX5_seal_90 : decode cX5_seal 90 = .ok (.goto (-88), 3) := by decide +kernel
theorem dX5_seal_93 : decode cX5_seal 93 = .ok (.aload_n 0, 1) := by decide +kernel
theorem dX5_seal_94 : decode cX5_seal 94 = .ok (.iconst 1, 1) := by decide +kernel
theorem dX5_seal_95 : decode cX5_seal 95 = .ok (.putfield 95, 3) := by decide +kernel
theorem dX5_seal_98 : decode cX5_seal 98 = .ok (.iconst 1, 1) := by decide +kernel
theorem dX5_seal_99 : decode cX5_seal 99 = .ok (.ireturn, 1) := by decide +kernel
theorem dX5_rest_0 : decode cX5_rest 0 = .ok (.iload_n 0, 1) := by decide +kernel
theorem dX5_rest_1 : decode cX5_rest 1 = .ok (.bipush 97, 2) := by decide +kernel
theorem dX5_rest_3 : decode cX5_rest 3 = .ok (.irem, 1) := by decide +kernel
theorem dX5_rest_4 : decode cX5_rest 4 = .ok (.bipush 97, 2) := by decide +kernel
theorem dX5_rest_6 : decode cX5_rest 6 = .ok (.iadd, 1) := by decide +kernel
theorem dX5_rest_7 : decode cX5_rest 7 = .ok (.bipush 97, 2) := by decide +kernel
theorem dX5_rest_9 : decode cX5_rest 9 = .ok (.irem, 1) := by decide +kernel
theorem dX5_rest_10 : decode cX5_rest 10 = .ok (.ireturn, 1) := by decide +kernel
theorem dX5_look_0 : decode cX5_look 0 = .ok (.aload_n 0, 1) := by decide +kernel
theorem dX5_look_1 : decode cX5_look 1 = .ok (.getfield 95, 3) := by decide +kernel
theorem dX5_look_4 : decode cX5_look 4 = .ok (.ifCond .ne 6, 3) := by decide +kernel
theorem dX5_look_7 : decode cX5_look 7 = .ok (.bipush (-3), 2) := by decide +kernel
theorem dX5_look_9 : decode cX5_look 9 = .ok (.ireturn, 1) := by decide +kernel
theorem dX5_look_10 : decode cX5_look 10 = .ok (.iconst 0, 1) := by decide +kernel
theorem dX5_look_11 : decode cX5_look 11 = .ok (.istore_n 1, 1) := by decide +kernel
theorem dX5_look_12 : decode cX5_look 12 = .ok (.iconst 0, 1) := by decide +kernel
theorem dX5_look_13 : decode cX5_look 13 = .ok (.istore_n 2, 1) := by decide +kernel
theorem dX5_look_14 : decode cX5_look 14 = .ok (.iconst 0, 1) := by decide +kernel
theorem dX5_look_15 : decode cX5_look 15 = .ok (.istore_n 3, 1) := by decide +kernel
theorem dX5_look_16 : decode cX5_look 16 = .ok (.iload_n 3, 1) := by decide +kernel
theorem dX5_look_17 : decode cX5_look 17 = .ok (.aload_n 0, 1) := by decide +kernel
theorem dX5_look_18 : decode cX5_look 18 = .ok (.getfield 13, 3) := by decide +kernel
theorem dX5_look_21 : decode cX5_look 21 = .ok (.if_icmp .ge 29, 3) := by decide +kernel
theorem dX5_look_24 : decode cX5_look 24 = .ok (.iload_n 1, 1) := by decide +kernel
theorem dX5_look_25 : decode cX5_look 25 = .ok (.aload_n 0, 1) := by decide +kernel
theorem dX5_look_26 : decode cX5_look 26 = .ok (.iload_n 3, 1) := by decide +kernel
theorem dX5_look_27 : decode cX5_look 27 = .ok (.invokevirtual 113, 3) := by decide +kernel
theorem dX5_look_30 : decode cX5_look 30 = .ok (.iadd, 1) := by decide +kernel
theorem dX5_look_31 : decode cX5_look 31 = .ok (.istore_n 1, 1) := by decide +kernel
theorem dX5_look_32 : decode cX5_look 32 = .ok (.iload_n 2, 1) := by decide +kernel
theorem dX5_look_33 : decode cX5_look 33 = .ok (.iload_n 3, 1) := by decide +kernel
theorem dX5_look_34 : decode cX5_look 34 = .ok (.iconst 1, 1) := by decide +kernel
theorem dX5_look_35 : decode cX5_look 35 = .ok (.iadd, 1) := by decide +kernel
theorem dX5_look_36 : decode cX5_look 36 = .ok (.aload_n 0, 1) := by decide +kernel
theorem dX5_look_37 : decode cX5_look 37 = .ok (.iload_n 3, 1) := by decide +kernel
theorem dX5_look_38 : decode cX5_look 38 = .ok (.invokevirtual 113, 3) := by decide +kernel
theorem dX5_look_41 : decode cX5_look 41 = .ok (.imul, 1) := by decide +kernel
theorem dX5_look_42 : decode cX5_look 42 = .ok (.iadd, 1) := by decide +kernel
theorem dX5_look_43 : decode cX5_look 43 = .ok (.istore_n 2, 1) := by decide +kernel
theorem dX5_look_44 : decode cX5_look 44 = .ok (.iinc 3 1, 3) := by decide +kernel
theorem dX5_look_47 : decode cX5_look 47 = .ok (.goto (-31), 3) := by decide +kernel
theorem dX5_look_50 : decode cX5_look 50 = .ok (.iconst 0, 1) := by decide +kernel
theorem dX5_look_51 : decode cX5_look 51 = .ok (.istore_n 3, 1) := by decide +kernel
theorem dX5_look_52 : decode cX5_look 52 = .ok (.iload_n 3, 1) := by decide +kernel
theorem dX5_look_53 : decode cX5_look 53 = .ok (.aload_n 0, 1) := by decide +kernel
theorem dX5_look_54 : decode cX5_look 54 = .ok (.getfield 7, 3) := by decide +kernel
theorem dX5_look_57 : decode cX5_look 57 = .ok (.if_icmp .ge 41, 3) := by decide +kernel
theorem dX5_look_60 : decode cX5_look 60 = .ok (.iload_n 1, 1) := by decide +kernel
theorem dX5_look_61 : decode cX5_look 61 = .ok (.aload_n 0, 1) := by decide +kernel
theorem dX5_look_62 : decode cX5_look 62 = .ok (.getfield 29, 3) := by decide +kernel
theorem dX5_look_65 : decode cX5_look 65 = .ok (.iload_n 3, 1) := by decide +kernel
theorem dX5_look_66 : decode cX5_look 66 = .ok (.iaload, 1) := by decide +kernel
theorem dX5_look_67 : decode cX5_look 67 = .ok (.aload_n 0, 1) := by decide +kernel
theorem dX5_look_68 : decode cX5_look 68 = .ok (.getfield 41, 3) := by decide +kernel
theorem dX5_look_71 : decode cX5_look 71 = .ok (.iload_n 3, 1) := by decide +kernel
theorem dX5_look_72 : decode cX5_look 72 = .ok (.iaload, 1) := by decide +kernel
theorem dX5_look_73 : decode cX5_look 73 = .ok (.imul, 1) := by decide +kernel
theorem dX5_look_74 : decode cX5_look 74 = .ok (.isub, 1) := by decide +kernel
theorem dX5_look_75 : decode cX5_look 75 = .ok (.istore_n 1, 1) := by decide +kernel
theorem dX5_look_76 : decode cX5_look 76 = .ok (.iload_n 2, 1) := by decide +kernel
theorem dX5_look_77 : decode cX5_look 77 = .ok (.aload_n 0, 1) := by decide +kernel
theorem dX5_look_78 : decode cX5_look 78 = .ok (.getfield 29, 3) := by decide +kernel
theorem dX5_look_81 : decode cX5_look 81 = .ok (.iload_n 3, 1) := by decide +kernel
theorem dX5_look_82 : decode cX5_look 82 = .ok (.iaload, 1) := by decide +kernel
theorem dX5_look_83 : decode cX5_look 83 = .ok (.aload_n 0, 1) := by decide +kernel
theorem dX5_look_84 : decode cX5_look 84 = .ok (.getfield 44, 3) := by decide +kernel
theorem dX5_look_87 : decode cX5_look 87 = .ok (.iload_n 3, 1) := by decide +kernel
theorem dX5_look_88 : decode cX5_look 88 = .ok (.iaload, 1) := by decide +kernel
theorem dX5_look_89 : decode cX5_look 89 = .ok (.imul, 1) := by decide +kernel
theorem dX5_look_90 : decode cX5_look 90 = .ok (.isub, 1) := by decide +kernel
theorem dX5_look_91 : decode cX5_look 91 = .ok (.istore_n 2, 1) := by decide +kernel
theorem dX5_look_92 : decode cX5_look 92 = .ok (.iinc 3 1, 3) := by decide +kernel
theorem dX5_look_95 : decode cX5_look 95 = .ok (.goto (-43), 3) := by decide +kernel
theorem dX5_look_98 : decode cX5_look 98 = .ok (.iload_n 1, 1) := by decide +kernel
theorem dX5_look_99 : decode cX5_look 99 = .ok (.invokestatic 144, 3) := by decide +kernel
theorem dX5_look_102 : decode cX5_look 102 = .ok (.istore_n 3, 1) := by decide +kernel
theorem dX5_look_103 : decode cX5_look 103 = .ok (.iload_n 2, 1) := by decide +kernel
theorem dX5_look_104 : decode cX5_look 104 = .ok (.invokestatic 144, 3) := by decide +kernel
theorem dX5_look_107 : decode cX5_look 107 = .ok (.istore 4, 2) := by decide +kernel
theorem dX5_look_109 : decode cX5_look 109 = .ok (.iload_n 3, 1) := by decide +kernel
theorem dX5_look_110 : decode cX5_look 110 = .ok (.ifCond .ne 10, 3) := by decide +kernel
theorem dX5_look_113 : decode cX5_look 113 = .ok (.iload 4, 2) := by decide +kernel
theorem dX5_look_115 : decode cX5_look 115 = .ok (.ifCond .ne 5, 3) := by decide +kernel
theorem dX5_look_118 : decode cX5_look 118 = .ok (.iconst (-1), 1) := by decide +kernel
theorem dX5_look_119 : decode cX5_look 119 = .ok (.ireturn, 1) := by decide +kernel
theorem dX5_look_120 : decode cX5_look 120 = .ok (.iconst 0, 1) := by decide +kernel
theorem dX5_look_121 : decode cX5_look 121 = .ok (.istore 5, 2) := by decide +kernel
theorem dX5_look_123 : decode cX5_look 123 = .ok (.iload 5, 2) := by decide +kernel
theorem dX5_look_125 : decode cX5_look 125 = .ok (.aload_n 0, 1) := by decide +kernel
theorem dX5_look_126 : decode cX5_look 126 = .ok (.getfield 13, 3) := by decide +kernel
theorem dX5_look_129 : decode cX5_look 129 = .ok (.if_icmp .ge 30, 3) := by decide +kernel
theorem dX5_look_132 : decode cX5_look 132 = .ok (.iload_n 3, 1) := by decide +kernel
theorem dX5_look_133 : decode cX5_look 133 = .ok (.ifCond .le 26, 3) := by decide +kernel
theorem dX5_look_136 : decode cX5_look 136 = .ok (.iload 4, 2) := by decide +kernel
theorem dX5_look_138 : decode cX5_look 138 = .ok (.iload_n 3, 1) := by decide +kernel
theorem dX5_look_139 : decode cX5_look 139 = .ok (.iload 5, 2) := by decide +kernel
theorem dX5_look_141 : decode cX5_look 141 = .ok (.iconst 1, 1) := by decide +kernel
theorem dX5_look_142 : decode cX5_look 142 = .ok (.iadd, 1) := by decide +kernel
theorem dX5_look_143 : decode cX5_look 143 = .ok (.imul, 1) := by decide +kernel
theorem dX5_look_144 : decode cX5_look 144 = .ok (.bipush 97, 2) := by decide +kernel
theorem dX5_look_146 : decode cX5_look 146 = .ok (.irem, 1) := by decide +kernel
theorem dX5_look_147 : decode cX5_look 147 = .ok (.if_icmp .ne 6, 3) := by decide +kernel
theorem dX5_look_150 : decode cX5_look 150 = .ok (.iload 5, 2) := by decide +kernel
theorem dX5_look_152 : decode cX5_look 152 = .ok (.ireturn, 1) := by decide +kernel
theorem dX5_look_153 : decode cX5_look 153 = .ok (.iinc 5 1, 3) := by decide +kernel
theorem dX5_look_156 : decode cX5_look 156 = .ok (.goto (-33), 3) := by decide +kernel
theorem dX5_look_159 : decode cX5_look 159 = .ok (.bipush 100, 2) := by decide +kernel
theorem dX5_look_161 : decode cX5_look 161 = .ok (.ireturn, 1) := by decide +kernel
theorem dX5_fade_0 : decode cX5_fade 0 = .ok (.iload_n 1, 1) := by decide +kernel
theorem dX5_fade_1 : decode cX5_fade 1 = .ok (.iconst 1, 1) := by decide +kernel
theorem dX5_fade_2 : decode cX5_fade 2 = .ok (.bipush 100, 2) := by decide +kernel
theorem dX5_fade_4 : decode cX5_fade 4 = .ok (.invokestatic 98, 3) := by decide +kernel
theorem dX5_fade_7 : decode cX5_fade 7 = .ok (.ifCond .ne 6, 3) := by decide +kernel
theorem dX5_fade_10 : decode cX5_fade 10 = .ok (.bipush (-2), 2) := by decide +kernel
theorem dX5_fade_12 : decode cX5_fade 12 = .ok (.ireturn, 1) := by decide +kernel
theorem dX5_fade_13 : decode cX5_fade 13 = .ok (.iconst 0, 1) := by decide +kernel
theorem dX5_fade_14 : decode cX5_fade 14 = .ok (.istore_n 2, 1) := by decide +kernel
theorem dX5_fade_15 : decode cX5_fade 15 = .ok (.iconst 0, 1) := by decide +kernel
theorem dX5_fade_16 : decode cX5_fade 16 = .ok (.istore_n 3, 1) := by decide +kernel
theorem dX5_fade_17 : decode cX5_fade 17 = .ok (.iload_n 3, 1) := by decide +kernel
theorem dX5_fade_18 : decode cX5_fade 18 = .ok (.iload_n 1, 1) := by decide +kernel
theorem dX5_fade_19 : decode cX5_fade 19 = .ok (.if_icmp .ge 116, 3) := by decide +kernel
theorem dX5_fade_22 : decode cX5_fade 22 = .ok (.iconst 0, 1) := by decide +kernel
theorem dX5_fade_23 : decode cX5_fade 23 = .ok (.istore 4, 2) := by decide +kernel
theorem dX5_fade_25 : decode cX5_fade 25 = .ok (.iload 4, 2) := by decide +kernel
theorem dX5_fade_27 : decode cX5_fade 27 = .ok (.bipush 24, 2) := by decide +kernel
theorem dX5_fade_29 : decode cX5_fade 29 = .ok (.aload_n 0, 1) := by decide +kernel
theorem dX5_fade_30 : decode cX5_fade 30 = .ok (.getfield 7, 3) := by decide +kernel
theorem dX5_fade_33 : decode cX5_fade 33 = .ok (.imul, 1) := by decide +kernel
theorem dX5_fade_34 : decode cX5_fade 34 = .ok (.if_icmp .ge 95, 3) := by decide +kernel
theorem dX5_fade_37 : decode cX5_fade 37 = .ok (.iload 4, 2) := by decide +kernel
theorem dX5_fade_39 : decode cX5_fade 39 = .ok (.bipush 24, 2) := by decide +kernel
theorem dX5_fade_41 : decode cX5_fade 41 = .ok (.irem, 1) := by decide +kernel
theorem dX5_fade_42 : decode cX5_fade 42 = .ok (.aload_n 0, 1) := by decide +kernel
theorem dX5_fade_43 : decode cX5_fade 43 = .ok (.getfield 13, 3) := by decide +kernel
theorem dX5_fade_46 : decode cX5_fade 46 = .ok (.if_icmp .ge 77, 3) := by decide +kernel
theorem dX5_fade_49 : decode cX5_fade 49 = .ok (.aload_n 0, 1) := by decide +kernel
theorem dX5_fade_50 : decode cX5_fade 50 = .ok (.getfield 23, 3) := by decide +kernel
theorem dX5_fade_53 : decode cX5_fade 53 = .ok (.iload 4, 2) := by decide +kernel
theorem dX5_fade_55 : decode cX5_fade 55 = .ok (.iaload, 1) := by decide +kernel
theorem dX5_fade_56 : decode cX5_fade 56 = .ok (.iconst (-1), 1) := by decide +kernel
theorem dX5_fade_57 : decode cX5_fade 57 = .ok (.if_icmp .ne 66, 3) := by decide +kernel
theorem dX5_fade_60 : decode cX5_fade 60 = .ok (.aload_n 0, 1) := by decide +kernel
theorem dX5_fade_61 : decode cX5_fade 61 = .ok (.getfield 26, 3) := by decide +kernel
theorem dX5_fade_64 : decode cX5_fade 64 = .ok (.iload 4, 2) := by decide +kernel
theorem dX5_fade_66 : decode cX5_fade 66 = .ok (.dup2, 1) := by decide +kernel
theorem dX5_fade_67 : decode cX5_fade 67 = .ok (.iaload, 1) := by decide +kernel
theorem dX5_fade_68 : decode cX5_fade 68 = .ok (.iconst 1, 1) := by decide +kernel
theorem dX5_fade_69 : decode cX5_fade 69 = .ok (.iadd, 1) := by decide +kernel
theorem dX5_fade_70 : decode cX5_fade 70 = .ok (.iastore, 1) := by decide +kernel
theorem dX5_fade_71 : decode cX5_fade 71 = .ok (.aload_n 0, 1) := by decide +kernel
theorem dX5_fade_72 : decode cX5_fade 72 = .ok (.getfield 19, 3) := by decide +kernel
theorem dX5_fade_75 : decode cX5_fade 75 = .ok (.iload 4, 2) := by decide +kernel
theorem dX5_fade_77 : decode cX5_fade 77 = .ok (.iaload, 1) := by decide +kernel
theorem dX5_fade_78 : decode cX5_fade 78 = .ok (.ifCond .le 45, 3) := by decide +kernel
theorem dX5_fade_81 : decode cX5_fade 81 = .ok (.aload_n 0, 1) := by decide +kernel
theorem dX5_fade_82 : decode cX5_fade 82 = .ok (.getfield 26, 3) := by decide +kernel
theorem dX5_fade_85 : decode cX5_fade 85 = .ok (.iload 4, 2) := by decide +kernel
theorem dX5_fade_87 : decode cX5_fade 87 = .ok (.iaload, 1) := by decide +kernel
theorem dX5_fade_88 : decode cX5_fade 88 = .ok (.bipush 16, 2) := by decide +kernel
theorem dX5_fade_90 : decode cX5_fade 90 = .ok (.aload_n 0, 1) := by decide +kernel
theorem dX5_fade_91 : decode cX5_fade 91 = .ok (.getfield 19, 3) := by decide +kernel
theorem dX5_fade_94 : decode cX5_fade 94 = .ok (.iload 4, 2) := by decide +kernel
theorem dX5_fade_96 : decode cX5_fade 96 = .ok (.iaload, 1) := by decide +kernel
theorem dX5_fade_97 : decode cX5_fade 97 = .ok (.isub, 1) := by decide +kernel
theorem dX5_fade_98 : decode cX5_fade 98 = .ok (.if_icmp .lt 25, 3) := by decide +kernel
theorem dX5_fade_101 : decode cX5_fade 101 = .ok (.aload_n 0, 1) := by decide +kernel
theorem dX5_fade_102 : decode cX5_fade 102 = .ok (.getfield 19, 3) := by decide +kernel
theorem dX5_fade_105 : decode cX5_fade 105 = .ok (.iload 4, 2) := by decide +kernel
theorem dX5_fade_107 : decode cX5_fade 107 = .ok (.dup2, 1) := by decide +kernel
theorem dX5_fade_108 : decode cX5_fade 108 = .ok (.iaload, 1) := by decide +kernel
theorem dX5_fade_109 : decode cX5_fade 109 = .ok (.iconst 1, 1) := by decide +kernel
theorem dX5_fade_110 : decode cX5_fade 110 = .ok (.isub, 1) := by decide +kernel
theorem dX5_fade_111 : decode cX5_fade 111 = .ok (.iastore, 1) := by decide +kernel
theorem dX5_fade_112 : decode cX5_fade 112 = .ok (.aload_n 0, 1) := by decide +kernel
theorem dX5_fade_113 : decode cX5_fade 113 = .ok (.getfield 26, 3) := by decide +kernel
theorem dX5_fade_116 : decode cX5_fade 116 = .ok (.iload 4, 2) := by decide +kernel
theorem dX5_fade_118 : decode cX5_fade 118 = .ok (.iconst 0, 1) := by decide +kernel
theorem dX5_fade_119 : decode cX5_fade 119 = .ok (.iastore, 1) := by decide +kernel
theorem dX5_fade_120 : decode cX5_fade 120 = .ok (.iinc 2 1, 3) := by decide +kernel
theorem dX5_fade_123 : decode cX5_fade 123 = .ok (.iinc 4 1, 3) := by decide +kernel
theorem dX5_fade_126 : decode cX5_fade 126 = .ok (.goto (-101), 3) := by decide +kernel
theorem dX5_fade_129 : decode cX5_fade 129 = .ok (.iinc 3 1, 3) := by decide +kernel
theorem dX5_fade_132 : decode cX5_fade 132 = .ok (.goto (-115), 3) := by decide +kernel
theorem dX5_fade_135 : decode cX5_fade 135 = .ok (.iload_n 2, 1) := by decide +kernel
theorem dX5_fade_136 : decode cX5_fade 136 = .ok (.ireturn, 1) := by decide +kernel
theorem dX5_pulse_0 : decode cX5_pulse 0 = .ok (.aload_n 0, 1) := by decide +kernel
theorem dX5_pulse_1 : decode cX5_pulse 1 = .ok (.iload_n 1, 1) := by decide +kernel
theorem dX5_pulse_2 : decode cX5_pulse 2 = .ok (.iload_n 2, 1) := by decide +kernel
theorem dX5_pulse_3 : decode cX5_pulse 3 = .ok (.invokevirtual 102, 3) := by decide +kernel
theorem dX5_pulse_6 : decode cX5_pulse 6 = .ok (.ifCond .eq 15, 3) := by decide +kernel
theorem dX5_pulse_9 : decode cX5_pulse 9 = .ok (.iload_n 3, 1) := by decide +kernel
theorem dX5_pulse_10 : decode cX5_pulse 10 = .ok (.iconst 0, 1) := by decide +kernel
theorem dX5_pulse_11 : decode cX5_pulse 11 = .ok (.aload_n 0, 1) := by decide +kernel
theorem dX5_pulse_12 : decode cX5_pulse 12 = .ok (.getfield 16, 3) := by decide +kernel
theorem dX5_pulse_15 : decode cX5_pulse 15 = .ok (.invokestatic 98, 3) := by decide +kernel
theorem dX5_pulse_18 : decode cX5_pulse 18 = .ok (.ifCond .ne 6, 3) := by decide +kernel
theorem dX5_pulse_21 : decode cX5_pulse 21 = .ok (.bipush (-2), 2) := by decide +kernel
theorem dX5_pulse_23 : decode cX5_pulse 23 = .ok (.ireturn, 1) := by decide +kernel
theorem dX5_pulse_24 : decode cX5_pulse 24 = .ok (.bipush 24, 2) := by decide +kernel
theorem dX5_pulse_26 : decode cX5_pulse 26 = .ok (.iload_n 1, 1) := by decide +kernel
theorem dX5_pulse_27 : decode cX5_pulse 27 = .ok (.imul, 1) := by decide +kernel
theorem dX5_pulse_28 : decode cX5_pulse 28 = .ok (.iload_n 2, 1) := by decide +kernel
theorem dX5_pulse_29 : decode cX5_pulse 29 = .ok (.iadd, 1) := by decide +kernel
theorem dX5_pulse_30 : decode cX5_pulse 30 = .ok (.istore 4, 2) := by decide +kernel
theorem dX5_pulse_32 : decode cX5_pulse 32 = .ok (.aload_n 0, 1) := by decide +kernel
theorem dX5_pulse_33 : decode cX5_pulse 33 = .ok (.getfield 23, 3) := by decide +kernel
theorem dX5_pulse_36 : decode cX5_pulse 36 = .ok (.iload 4, 2) := by decide +kernel
theorem dX5_pulse_38 : decode cX5_pulse 38 = .ok (.iaload, 1) := by decide +kernel
theorem dX5_pulse_39 : decode cX5_pulse 39 = .ok (.iconst (-1), 1) := by decide +kernel
theorem dX5_pulse_40 : decode cX5_pulse 40 = .ok (.if_icmp .eq 6, 3) := by decide +kernel
theorem dX5_pulse_43 : decode cX5_pulse 43 = .ok (.bipush (-3), 2) := by decide +kernel
theorem dX5_pulse_45 : decode cX5_pulse 45 = .ok (.ireturn, 1) := by decide +kernel
theorem dX5_pulse_46 : decode cX5_pulse 46 = .ok (.iconst 0, 1) := by decide +kernel
theorem dX5_pulse_47 : decode cX5_pulse 47 = .ok (.istore 5, 2) := by decide +kernel
theorem dX5_pulse_49 : decode cX5_pulse 49 = .ok (.aload_n 0, 1) := by decide +kernel
theorem dX5_pulse_50 : decode cX5_pulse 50 = .ok (.getfield 19, 3) := by decide +kernel
theorem dX5_pulse_53 : decode cX5_pulse 53 = .ok (.iload 4, 2) := by decide +kernel
theorem dX5_pulse_55 : decode cX5_pulse 55 = .ok (.iaload, 1) := by decide +kernel
theorem dX5_pulse_56 : decode cX5_pulse 56 = .ok (.iload_n 3, 1) := by decide +kernel
theorem dX5_pulse_57 : decode cX5_pulse 57 = .ok (.if_icmp .eq 82, 3) := by decide +kernel
theorem dX5_pulse_60 : decode cX5_pulse 60 = .ok (.iload 5, 2) := by decide +kernel
theorem dX5_pulse_62 : decode cX5_pulse 62 = .ok (.bipush 40, 2) := by decide +kernel
theorem dX5_pulse_64 : decode cX5_pulse 64 = .ok (.if_icmp .ge 75, 3) := by decide +kernel
theorem dX5_pulse_67 : decode cX5_pulse 67 = .ok (.aload_n 0, 1) := by decide +kernel
theorem dX5_pulse_68 : decode cX5_pulse 68 = .ok (.getfield 19, 3) := by decide +kernel
theorem dX5_pulse_71 : decode cX5_pulse 71 = .ok (.iload 4, 2) := by decide +kernel
theorem dX5_pulse_73 : decode cX5_pulse 73 = .ok (.iaload, 1) := by decide +kernel
theorem dX5_pulse_74 : decode cX5_pulse 74 = .ok (.iconst 2, 1) := by decide +kernel
theorem dX5_pulse_75 : decode cX5_pulse 75 = .ok (.iadd, 1) := by decide +kernel
theorem dX5_pulse_76 : decode cX5_pulse 76 = .ok (.aload_n 0, 1) := by decide +kernel
theorem dX5_pulse_77 : decode cX5_pulse 77 = .ok (.getfield 16, 3) := by decide +kernel
theorem dX5_pulse_80 : decode cX5_pulse 80 = .ok (.if_icmp .le 10, 3) := by decide +kernel
theorem dX5_pulse_83 : decode cX5_pulse 83 = .ok (.aload_n 0, 1) := by decide +kernel
theorem dX5_pulse_84 : decode cX5_pulse 84 = .ok (.getfield 16, 3) := by decide +kernel
theorem dX5_pulse_87 : decode cX5_pulse 87 = .ok (.goto 12, 3) := by decide +kernel
theorem dX5_pulse_90 : decode cX5_pulse 90 = .ok (.aload_n 0, 1) := by decide +kernel
theorem dX5_pulse_91 : decode cX5_pulse 91 = .ok (.getfield 19, 3) := by decide +kernel
theorem dX5_pulse_94 : decode cX5_pulse 94 = .ok (.iload 4, 2) := by decide +kernel
theorem dX5_pulse_96 : decode cX5_pulse 96 = .ok (.iaload, 1) := by decide +kernel
theorem dX5_pulse_97 : decode cX5_pulse 97 = .ok (.iconst 2, 1) := by decide +kernel
theorem dX5_pulse_98 : decode cX5_pulse 98 = .ok (.iadd, 1) := by decide +kernel
theorem dX5_pulse_99 : decode cX5_pulse 99 = .ok (.istore 6, 2) := by decide +kernel
theorem dX5_pulse_101 : decode cX5_pulse 101 = .ok (.aload_n 0, 1) := by decide +kernel
theorem dX5_pulse_102 : decode cX5_pulse 102 = .ok (.getfield 19, 3) := by decide +kernel
theorem dX5_pulse_105 : decode cX5_pulse 105 = .ok (.iload 4, 2) := by decide +kernel
theorem dX5_pulse_107 : decode cX5_pulse 107 = .ok (.aload_n 0, 1) := by decide +kernel
theorem dX5_pulse_108 : decode cX5_pulse 108 = .ok (.getfield 19, 3) := by decide +kernel
theorem dX5_pulse_111 : decode cX5_pulse 111 = .ok (.iload 4, 2) := by decide +kernel
theorem dX5_pulse_113 : decode cX5_pulse 113 = .ok (.iaload, 1) := by decide +kernel
theorem dX5_pulse_114 : decode cX5_pulse 114 = .ok (.iload_n 3, 1) := by decide +kernel
theorem dX5_pulse_115 : decode cX5_pulse 115 = .ok (.if_icmp .ge 8, 3) := by decide +kernel
theorem dX5_pulse_118 : decode cX5_pulse 118 = .ok (.iload 6, 2) := by decide +kernel
theorem dX5_pulse_120 : decode cX5_pulse 120 = .ok (.goto 12, 3) := by decide +kernel
theorem dX5_pulse_123 : decode cX5_pulse 123 = .ok (.aload_n 0, 1) := by decide +kernel
theorem dX5_pulse_124 : decode cX5_pulse 124 = .ok (.getfield 19, 3) := by decide +kernel
theorem dX5_pulse_127 : decode cX5_pulse 127 = .ok (.iload 4, 2) := by decide +kernel
theorem dX5_pulse_129 : decode cX5_pulse 129 = .ok (.iaload, 1) := by decide +kernel
theorem dX5_pulse_130 : decode cX5_pulse 130 = .ok (.iconst 1, 1) := by decide +kernel
theorem dX5_pulse_131 : decode cX5_pulse 131 = .ok (.isub, 1) := by decide +kernel
theorem dX5_pulse_132 : decode cX5_pulse 132 = .ok (.iastore, 1) := by decide +kernel
theorem dX5_pulse_133 : decode cX5_pulse 133 = .ok (.iinc 5 1, 3) := by decide +kernel
theorem dX5_pulse_136 : decode cX5_pulse 136 = .ok (.goto (-87), 3) := by decide +kernel
theorem dX5_pulse_139 : decode cX5_pulse 139 = .ok (.aload_n 0, 1) := by decide +kernel
theorem dX5_pulse_140 : decode cX5_pulse 140 = .ok (.getfield 26, 3) := by decide +kernel
theorem dX5_pulse_143 : decode cX5_pulse 143 = .ok (.iload 4, 2) := by decide +kernel
theorem dX5_pulse_145 : decode cX5_pulse 145 = .ok (.iload 5, 2) := by decide +kernel
theorem dX5_pulse_147 : decode cX5_pulse 147 = .ok (.ifCond .le 7, 3) := by decide +kernel
theorem dX5_pulse_150 : decode cX5_pulse 150 = .ok (.iconst 0, 1) := by decide +kernel
theorem dX5_pulse_151 : decode cX5_pulse 151 = .ok (.goto 10, 3) := by decide +kernel
theorem dX5_pulse_154 : decode cX5_pulse 154 = .ok (.aload_n 0, 1) := by decide +kernel
theorem dX5_pulse_155 : decode cX5_pulse 155 = .ok (.getfield 26, 3) := by decide +kernel
theorem dX5_pulse_158 : decode cX5_pulse 158 = .ok (.iload 4, 2) := by decide +kernel
theorem dX5_pulse_160 : decode cX5_pulse 160 = .ok (.iaload, 1) := by decide +kernel
theorem dX5_pulse_161 : decode cX5_pulse 161 = .ok (.iastore, 1) := by decide +kernel
theorem dX5_pulse_162 : decode cX5_pulse 162 = .ok (.iload 5, 2) := by decide +kernel
theorem dX5_pulse_164 : decode cX5_pulse 164 = .ok (.ireturn, 1) := by decide +kernel
theorem dX5_isNew_0 : decode cX5_isNew 0 = .ok (.lload_n 1, 1) := by decide +kernel
theorem dX5_isNew_1 : decode cX5_isNew 1 = .ok (.ldc2_w 147, 3) := by decide +kernel
theorem dX5_isNew_4 : decode cX5_isNew 4 = .ok (.lmul, 1) := by decide +kernel
theorem dX5_isNew_5 : decode cX5_isNew 5 = .ok (.lstore_n 3, 1) := by decide +kernel
theorem dX5_isNew_6 : decode cX5_isNew 6 = .ok (.lload_n 3, 1) := by decide +kernel
theorem dX5_isNew_7 : decode cX5_isNew 7 = .ok (.bipush 50, 2) := by decide +kernel
theorem dX5_isNew_9 : decode cX5_isNew 9 = .ok (.lushr, 1) := by decide +kernel
theorem dX5_isNew_10 : decode cX5_isNew 10 = .ok (.l2i, 1) := by decide +kernel
theorem dX5_isNew_11 : decode cX5_isNew 11 = .ok (.istore 5, 2) := by decide +kernel
theorem dX5_isNew_13 : decode cX5_isNew 13 = .ok (.aload_n 0, 1) := by decide +kernel
theorem dX5_isNew_14 : decode cX5_isNew 14 = .ok (.getfield 69, 3) := by decide +kernel
theorem dX5_isNew_17 : decode cX5_isNew 17 = .ok (.iload 5, 2) := by decide +kernel
theorem dX5_isNew_19 : decode cX5_isNew 19 = .ok (.iaload, 1) := by decide +kernel
theorem dX5_isNew_20 : decode cX5_isNew 20 = .ok (.ifCond .eq 37, 3) := by decide +kernel
theorem dX5_isNew_23 : decode cX5_isNew 23 = .ok (.aload_n 0, 1) := by decide +kernel
theorem dX5_isNew_24 : decode cX5_isNew 24 = .ok (.getfield 59, 3) := by decide +kernel
theorem dX5_isNew_27 : decode cX5_isNew 27 = .ok (.aload_n 0, 1) := by decide +kernel
theorem dX5_isNew_28 : decode cX5_isNew 28 = .ok (.getfield 69, 3) := by decide +kernel
theorem dX5_isNew_31 : decode cX5_isNew 31 = .ok (.iload 5, 2) := by decide +kernel
theorem dX5_isNew_33 : decode cX5_isNew 33 = .ok (.iaload, 1) := by decide +kernel
theorem dX5_isNew_34 : decode cX5_isNew 34 = .ok (.iconst 1, 1) := by decide +kernel
theorem dX5_isNew_35 : decode cX5_isNew 35 = .ok (.isub, 1) := by decide +kernel
theorem dX5_isNew_36 : decode cX5_isNew 36 = .ok (.laload, 1) := by decide +kernel
theorem dX5_isNew_37 : decode cX5_isNew 37 = .ok (.lload_n 1, 1) := by decide +kernel
theorem dX5_isNew_38 : decode cX5_isNew 38 = .ok (.lcmp, 1) := by decide +kernel
theorem dX5_isNew_39 : decode cX5_isNew 39 = .ok (.ifCond .ne 5, 3) := by decide +kernel
theorem dX5_isNew_42 : decode cX5_isNew 42 = .ok (.iconst 0, 1) := by decide +kernel
theorem dX5_isNew_43 : decode cX5_isNew 43 = .ok (.ireturn, 1) := by decide +kernel
theorem dX5_isNew_44 : decode cX5_isNew 44 = .ok (.iload 5, 2) := by decide +kernel
theorem dX5_isNew_46 : decode cX5_isNew 46 = .ok (.iconst 1, 1) := by decide +kernel
theorem dX5_isNew_47 : decode cX5_isNew 47 = .ok (.iadd, 1) := by decide +kernel
theorem dX5_isNew_48 : decode cX5_isNew 48 = .ok (.sipush 16384, 3) := by decide +kernel
theorem dX5_isNew_51 : decode cX5_isNew 51 = .ok (.irem, 1) := by decide +kernel
theorem dX5_isNew_52 : decode cX5_isNew 52 = .ok (.istore 5, 2) := by decide +kernel
theorem dX5_isNew_54 : decode cX5_isNew 54 = .ok (.goto (-41), 3) := by decide +kernel
theorem dX5_isNew_57 : decode cX5_isNew 57 = .ok (.aload_n 0, 1) := by decide +kernel
theorem dX5_isNew_58 : decode cX5_isNew 58 = .ok (.getfield 149, 3) := by decide +kernel
theorem dX5_isNew_61 : decode cX5_isNew 61 = .ok (.sipush 8000, 3) := by decide +kernel
theorem dX5_isNew_64 : decode cX5_isNew 64 = .ok (.if_icmp .ge 16, 3) := by decide +kernel
theorem dX5_isNew_67 : decode cX5_isNew 67 = .ok (.aload_n 0, 1) := by decide +kernel
theorem dX5_isNew_68 : decode cX5_isNew 68 = .ok (.getfield 69, 3) := by decide +kernel
theorem dX5_isNew_71 : decode cX5_isNew 71 = .ok (.iload 5, 2) := by decide +kernel
theorem dX5_isNew_73 : decode cX5_isNew 73 = .ok (.aload_n 0, 1) := by decide +kernel
theorem dX5_isNew_74 : decode cX5_isNew 74 = .ok (.getfield 149, 3) := by decide +kernel
theorem dX5_isNew_77 : decode cX5_isNew 77 = .ok (.iconst 1, 1) := by decide +kernel
theorem dX5_isNew_78 : decode cX5_isNew 78 = .ok (.iadd, 1) := by decide +kernel
theorem dX5_isNew_79 : decode cX5_isNew 79 = .ok (.iastore, 1) := by decide +kernel
theorem dX5_isNew_80 : decode cX5_isNew 80 = .ok (.iconst 1, 1) := by decide +kernel
theorem dX5_isNew_81 : decode cX5_isNew 81 = .ok (.ireturn, 1) := by decide +kernel
theorem dX5_meets_0 : decode cX5_meets 0 = .ok (.aload_n 0, 1) := by decide +kernel
theorem dX5_meets_1 : decode cX5_meets 1 = .ok (.lload_n 1, 1) := by decide +kernel
theorem dX5_meets_2 : decode cX5_meets 2 = .ok (.invokevirtual 152, 3) := by decide +kernel
theorem dX5_meets_5 : decode cX5_meets 5 = .ok (.ifCond .ne 5, 3) := by decide +kernel
theorem dX5_meets_8 : decode cX5_meets 8 = .ok (.iconst 1, 1) := by decide +kernel
theorem dX5_meets_9 : decode cX5_meets 9 = .ok (.ireturn, 1) := by decide +kernel
theorem dX5_meets_10 : decode cX5_meets 10 = .ok (.aload_n 0, 1) := by decide +kernel
theorem dX5_meets_11 : decode cX5_meets 11 = .ok (.getfield 149, 3) := by decide +kernel
theorem dX5_meets_14 : decode cX5_meets 14 = .ok (.sipush 8000, 3) := by decide +kernel
theorem dX5_meets_17 : decode cX5_meets 17 = .ok (.if_icmp .ne 5, 3) := by decide +kernel
theorem dX5_meets_20 : decode cX5_meets 20 = .ok (.iconst 0, 1) := by decide +kernel
theorem dX5_meets_21 : decode cX5_meets 21 = .ok (.ireturn, 1) := by decide +kernel
theorem dX5_meets_22 : decode cX5_meets 22 = .ok (.aload_n 0, 1) := by decide +kernel
theorem dX5_meets_23 : decode cX5_meets 23 = .ok (.getfield 59, 3) := by decide +kernel
theorem dX5_meets_26 : decode cX5_meets 26 = .ok (.aload_n 0, 1) := by decide +kernel
theorem dX5_meets_27 : decode cX5_meets 27 = .ok (.getfield 149, 3) := by decide +kernel
theorem dX5_meets_30 : decode cX5_meets 30 = .ok (.lload_n 1, 1) := by decide +kernel
theorem dX5_meets_31 : decode cX5_meets 31 = .ok (.lastore, 1) := by decide +kernel
theorem dX5_meets_32 : decode cX5_meets 32 = .ok (.aload_n 0, 1) := by decide +kernel
theorem dX5_meets_33 : decode cX5_meets 33 = .ok (.getfield 63, 3) := by decide +kernel
theorem dX5_meets_36 : decode cX5_meets 36 = .ok (.aload_n 0, 1) := by decide +kernel
theorem dX5_meets_37 : decode cX5_meets 37 = .ok (.getfield 149, 3) := by decide +kernel
theorem dX5_meets_40 : decode cX5_meets 40 = .ok (.iload_n 3, 1) := by decide +kernel
theorem dX5_meets_41 : decode cX5_meets 41 = .ok (.iastore, 1) := by decide +kernel
end
section
theorem dX5_meets_42 : decode cX5_meets 42 = .ok (.aload_n 0, 1) := by decide +kernel
theorem dX5_meets_43 : decode cX5_meets 43 = .ok (.getfield 66, 3) := by decide +kernel
theorem dX5_meets_46 : decode cX5_meets 46 = .ok (.aload_n 0, 1) := by decide +kernel
theorem dX5_meets_47 : decode cX5_meets 47 = .ok (.getfield 149, 3) := by decide +kernel
theorem dX5_meets_50 : decode cX5_meets 50 = .ok (.iload 4, 2) := by decide +kernel
theorem dX5_meets_52 : decode cX5_meets 52 = .ok (.iastore, 1) := by decide +kernel
theorem dX5_meets_53 : decode cX5_meets 53 = .ok (.aload_n 0, 1) := by decide +kernel
theorem dX5_meets_54 : decode cX5_meets 54 = .ok (.dup, 1) := by decide +kernel
theorem dX5_meets_55 : decode cX5_meets 55 = .ok (.getfield 149, 3) := by decide +kernel
theorem dX5_meets_58 : decode cX5_meets 58 = .ok (.iconst 1, 1) := by decide +kernel
theorem dX5_meets_59 : decode cX5_meets 59 = .ok (.iadd, 1) := by decide +kernel
theorem dX5_meets_60 : decode cX5_meets 60 = .ok (.putfield 149, 3) := by decide +kernel
theorem dX5_meets_63 : decode cX5_meets 63 = .ok (.iconst 1, 1) := by decide +kernel
theorem dX5_meets_64 : decode cX5_meets 64 = .ok (.ireturn, 1) := by decide +kernel
theorem dX5_tableOf_0 : decode cX5_tableOf 0 = .ok (.lload_n 0, 1) := by decide +kernel
theorem dX5_tableOf_1 : decode cX5_tableOf 1 = .ok (.bipush 8, 2) := by decide +kernel
theorem dX5_tableOf_3 : decode cX5_tableOf 3 = .ok (.iload_n 2, 1) := by decide +kernel
theorem dX5_tableOf_4 : decode cX5_tableOf 4 = .ok (.imul, 1) := by decide +kernel
theorem dX5_tableOf_5 : decode cX5_tableOf 5 = .ok (.lshr, 1) := by decide +kernel
theorem dX5_tableOf_6 : decode cX5_tableOf 6 = .ok (.l2i, 1) := by decide +kernel
theorem dX5_tableOf_7 : decode cX5_tableOf 7 = .ok (.sipush 255, 3) := by decide +kernel
theorem dX5_tableOf_10 : decode cX5_tableOf 10 = .ok (.iand, 1) := by decide +kernel
theorem dX5_tableOf_11 : decode cX5_tableOf 11 = .ok (.ireturn, 1) := by decide +kernel
theorem dX5_whereIs_0 : decode cX5_whereIs 0 = .ok (.iconst 0, 1) := by decide +kernel
theorem dX5_whereIs_1 : decode cX5_whereIs 1 = .ok (.istore 4, 2) := by decide +kernel
theorem dX5_whereIs_3 : decode cX5_whereIs 3 = .ok (.iload 4, 2) := by decide +kernel
theorem dX5_whereIs_5 : decode cX5_whereIs 5 = .ok (.iload_n 2, 1) := by decide +kernel
theorem dX5_whereIs_6 : decode cX5_whereIs 6 = .ok (.if_icmp .ge 22, 3) := by decide +kernel
theorem dX5_whereIs_9 : decode cX5_whereIs 9 = .ok (.lload_n 0, 1) := by decide +kernel
theorem dX5_whereIs_10 : decode cX5_whereIs 10 = .ok (.iload 4, 2) := by decide +kernel
theorem dX5_whereIs_12 : decode cX5_whereIs 12 = .ok (.invokestatic 156, 3) := by decide +kernel
theorem dX5_whereIs_15 : decode cX5_whereIs 15 = .ok (.iload_n 3, 1) := by decide +kernel
theorem dX5_whereIs_16 : decode cX5_whereIs 16 = .ok (.if_icmp .ne 6, 3) := by decide +kernel
theorem dX5_whereIs_19 : decode cX5_whereIs 19 = .ok (.iload 4, 2) := by decide +kernel
theorem dX5_whereIs_21 : decode cX5_whereIs 21 = .ok (.ireturn, 1) := by decide +kernel
theorem dX5_whereIs_22 : decode cX5_whereIs 22 = .ok (.iinc 4 1, 3) := by decide +kernel
theorem dX5_whereIs_25 : decode cX5_whereIs 25 = .ok (.goto (-22), 3) := by decide +kernel
theorem dX5_whereIs_28 : decode cX5_whereIs 28 = .ok (.iconst (-1), 1) := by decide +kernel
theorem dX5_whereIs_29 : decode cX5_whereIs 29 = .ok (.ireturn, 1) := by decide +kernel
theorem dX5_becomesFound_0 : decode cX5_becomesFound 0 = .ok (.aload_n 0, 1) := by decide +kernel
theorem dX5_becomesFound_1 : decode cX5_becomesFound 1 = .ok (.iload_n 2, 1) := by decide +kernel
theorem dX5_becomesFound_2 : decode cX5_becomesFound 2 = .ok (.putfield 75, 3) := by decide +kernel
theorem dX5_becomesFound_5 : decode cX5_becomesFound 5 = .ok (.aload_n 0, 1) := by decide +kernel
theorem dX5_becomesFound_6 : decode cX5_becomesFound 6 = .ok (.iconst 0, 1) := by decide +kernel
theorem dX5_becomesFound_7 : decode cX5_becomesFound 7 = .ok (.putfield 160, 3) := by decide +kernel
theorem dX5_becomesFound_10 : decode cX5_becomesFound 10 = .ok (.iload_n 1, 1) := by decide +kernel
theorem dX5_becomesFound_11 : decode cX5_becomesFound 11 = .ok (.istore_n 3, 1) := by decide +kernel
theorem dX5_becomesFound_12 : decode cX5_becomesFound 12 = .ok (.iload_n 3, 1) := by decide +kernel
theorem dX5_becomesFound_13 : decode cX5_becomesFound 13 = .ok (.ifCond .le 23, 3) := by decide +kernel
theorem dX5_becomesFound_16 : decode cX5_becomesFound 16 = .ok (.aload_n 0, 1) := by decide +kernel
theorem dX5_becomesFound_17 : decode cX5_becomesFound 17 = .ok (.dup, 1) := by decide +kernel
theorem dX5_becomesFound_18 : decode cX5_becomesFound 18 = .ok (.getfield 160, 3) := by decide +kernel
theorem dX5_becomesFound_21 : decode cX5_becomesFound 21 = .ok (.iconst 1, 1) := by decide +kernel
theorem dX5_becomesFound_22 : decode cX5_becomesFound 22 = .ok (.iadd, 1) := by decide +kernel
theorem dX5_becomesFound_23 : decode cX5_becomesFound 23 = .ok (.putfield 160, 3) := by decide +kernel
theorem dX5_becomesFound_26 : decode cX5_becomesFound 26 = .ok (.aload_n 0, 1) := by decide +kernel
theorem dX5_becomesFound_27 : decode cX5_becomesFound 27 = .ok (.getfield 63, 3) := by decide +kernel
theorem dX5_becomesFound_30 : decode cX5_becomesFound 30 = .ok (.iload_n 3, 1) := by decide +kernel
theorem dX5_becomesFound_31 : decode cX5_becomesFound 31 = .ok (.iaload, 1) := by decide +kernel
theorem dX5_becomesFound_32 : decode cX5_becomesFound 32 = .ok (.istore_n 3, 1) := by decide +kernel
theorem dX5_becomesFound_33 : decode cX5_becomesFound 33 = .ok (.goto (-21), 3) := by decide +kernel
theorem dX5_becomesFound_36 : decode cX5_becomesFound 36 = .ok (.aload_n 0, 1) := by decide +kernel
theorem dX5_becomesFound_37 : decode cX5_becomesFound 37 = .ok (.getfield 160, 3) := by decide +kernel
theorem dX5_becomesFound_40 : decode cX5_becomesFound 40 = .ok (.istore_n 3, 1) := by decide +kernel
theorem dX5_becomesFound_41 : decode cX5_becomesFound 41 = .ok (.iload_n 1, 1) := by decide +kernel
theorem dX5_becomesFound_42 : decode cX5_becomesFound 42 = .ok (.istore 4, 2) := by decide +kernel
theorem dX5_becomesFound_44 : decode cX5_becomesFound 44 = .ok (.iload 4, 2) := by decide +kernel
theorem dX5_becomesFound_46 : decode cX5_becomesFound 46 = .ok (.ifCond .le 31, 3) := by decide +kernel
theorem dX5_becomesFound_49 : decode cX5_becomesFound 49 = .ok (.iinc 3 (-1), 3) := by decide +kernel
theorem dX5_becomesFound_52 : decode cX5_becomesFound 52 = .ok (.aload_n 0, 1) := by decide +kernel
theorem dX5_becomesFound_53 : decode cX5_becomesFound 53 = .ok (.getfield 72, 3) := by decide +kernel
theorem dX5_becomesFound_56 : decode cX5_becomesFound 56 = .ok (.iload_n 3, 1) := by decide +kernel
theorem dX5_becomesFound_57 : decode cX5_becomesFound 57 = .ok (.aload_n 0, 1) := by decide +kernel
theorem dX5_becomesFound_58 : decode cX5_becomesFound 58 = .ok (.getfield 66, 3) := by decide +kernel
theorem dX5_becomesFound_61 : decode cX5_becomesFound 61 = .ok (.iload 4, 2) := by decide +kernel
theorem dX5_becomesFound_63 : decode cX5_becomesFound 63 = .ok (.iaload, 1) := by decide +kernel
theorem dX5_becomesFound_64 : decode cX5_becomesFound 64 = .ok (.iastore, 1) := by decide +kernel
theorem dX5_becomesFound_65 : decode cX5_becomesFound 65 = .ok (.aload_n 0, 1) := by decide +kernel
theorem dX5_becomesFound_66 : decode cX5_becomesFound 66 = .ok (.getfield 63, 3) := by decide +kernel
theorem dX5_becomesFound_69 : decode cX5_becomesFound 69 = .ok (.iload 4, 2) := by decide +kernel
theorem dX5_becomesFound_71 : decode cX5_becomesFound 71 = .ok (.iaload, 1) := by decide +kernel
theorem dX5_becomesFound_72 : decode cX5_becomesFound 72 = .ok (.istore 4, 2) := by decide +kernel
theorem dX5_becomesFound_74 : decode cX5_becomesFound 74 = .ok (.goto (-30), 3) := by decide +kernel
theorem dX5_becomesFound_77 : decode cX5_becomesFound 77 = .ok (.return_, 1) := by decide +kernel
theorem dX5_goesOn_0 : decode cX5_goesOn 0 = .ok (.iconst 0, 1) := by decide +kernel
theorem dX5_goesOn_1 : decode cX5_goesOn 1 = .ok (.istore 5, 2) := by decide +kernel
theorem dX5_goesOn_3 : decode cX5_goesOn 3 = .ok (.iload 5, 2) := by decide +kernel
theorem dX5_goesOn_5 : decode cX5_goesOn 5 = .ok (.iload_n 3, 1) := by decide +kernel
theorem dX5_goesOn_6 : decode cX5_goesOn 6 = .ok (.if_icmp .ge 142, 3) := by decide +kernel
theorem dX5_goesOn_9 : decode cX5_goesOn 9 = .ok (.iload 5, 2) := by decide +kernel
theorem dX5_goesOn_11 : decode cX5_goesOn 11 = .ok (.istore 6, 2) := by decide +kernel
theorem dX5_goesOn_13 : decode cX5_goesOn 13 = .ok (.iload 6, 2) := by decide +kernel
theorem dX5_goesOn_15 : decode cX5_goesOn 15 = .ok (.iload_n 3, 1) := by decide +kernel
theorem dX5_goesOn_16 : decode cX5_goesOn 16 = .ok (.if_icmp .ge 126, 3) := by decide +kernel
theorem dX5_goesOn_19 : decode cX5_goesOn 19 = .ok (.iload_n 2, 1) := by decide +kernel
theorem dX5_goesOn_20 : decode cX5_goesOn 20 = .ok (.istore 7, 2) := by decide +kernel
theorem dX5_goesOn_22 : decode cX5_goesOn 22 = .ok (.iload 7, 2) := by decide +kernel
theorem dX5_goesOn_24 : decode cX5_goesOn 24 = .ok (.iload_n 3, 1) := by decide +kernel
theorem dX5_goesOn_25 : decode cX5_goesOn 25 = .ok (.if_icmp .ge 111, 3) := by decide +kernel
theorem dX5_goesOn_28 : decode cX5_goesOn 28 = .ok (.iload 7, 2) := by decide +kernel
theorem dX5_goesOn_30 : decode cX5_goesOn 30 = .ok (.iload 5, 2) := by decide +kernel
theorem dX5_goesOn_32 : decode cX5_goesOn 32 = .ok (.if_icmp .eq 98, 3) := by decide +kernel
theorem dX5_goesOn_35 : decode cX5_goesOn 35 = .ok (.iload 7, 2) := by decide +kernel
theorem dX5_goesOn_37 : decode cX5_goesOn 37 = .ok (.iload 6, 2) := by decide +kernel
theorem dX5_goesOn_39 : decode cX5_goesOn 39 = .ok (.if_icmp .eq 91, 3) := by decide +kernel
theorem dX5_goesOn_42 : decode cX5_goesOn 42 = .ok (.iload 4, 2) := by decide +kernel
theorem dX5_goesOn_44 : decode cX5_goesOn 44 = .ok (.aload_n 0, 1) := by decide +kernel
theorem dX5_goesOn_45 : decode cX5_goesOn 45 = .ok (.getfield 59, 3) := by decide +kernel
theorem dX5_goesOn_48 : decode cX5_goesOn 48 = .ok (.iload_n 1, 1) := by decide +kernel
theorem dX5_goesOn_49 : decode cX5_goesOn 49 = .ok (.laload, 1) := by decide +kernel
theorem dX5_goesOn_50 : decode cX5_goesOn 50 = .ok (.iload 5, 2) := by decide +kernel
theorem dX5_goesOn_52 : decode cX5_goesOn 52 = .ok (.invokestatic 156, 3) := by decide +kernel
theorem dX5_goesOn_55 : decode cX5_goesOn 55 = .ok (.aload_n 0, 1) := by decide +kernel
theorem dX5_goesOn_56 : decode cX5_goesOn 56 = .ok (.getfield 59, 3) := by decide +kernel
theorem dX5_goesOn_59 : decode cX5_goesOn 59 = .ok (.iload_n 1, 1) := by decide +kernel
theorem dX5_goesOn_60 : decode cX5_goesOn 60 = .ok (.laload, 1) := by decide +kernel
theorem dX5_goesOn_61 : decode cX5_goesOn 61 = .ok (.iload 6, 2) := by decide +kernel
theorem dX5_goesOn_63 : decode cX5_goesOn 63 = .ok (.invokestatic 156, 3) := by decide +kernel
theorem dX5_goesOn_66 : decode cX5_goesOn 66 = .ok (.ior, 1) := by decide +kernel
theorem dX5_goesOn_67 : decode cX5_goesOn 67 = .ok (.iconst (-1), 1) := by decide +kernel
theorem dX5_goesOn_68 : decode cX5_goesOn 68 = .ok (.ixor, 1) := by decide +kernel
theorem dX5_goesOn_69 : decode cX5_goesOn 69 = .ok (.iand, 1) := by decide +kernel
theorem dX5_goesOn_70 : decode cX5_goesOn 70 = .ok (.i2l, 1) := by decide +kernel
theorem dX5_goesOn_71 : decode cX5_goesOn 71 = .ok (.lstore 8, 2) := by decide +kernel
theorem dX5_goesOn_73 : decode cX5_goesOn 73 = .ok (.aload_n 0, 1) := by decide +kernel
theorem dX5_goesOn_74 : decode cX5_goesOn 74 = .ok (.getfield 59, 3) := by decide +kernel
theorem dX5_goesOn_77 : decode cX5_goesOn 77 = .ok (.iload_n 1, 1) := by decide +kernel
theorem dX5_goesOn_78 : decode cX5_goesOn 78 = .ok (.laload, 1) := by decide +kernel
theorem dX5_goesOn_79 : decode cX5_goesOn 79 = .ok (.ldc2_w 163, 3) := by decide +kernel
theorem dX5_goesOn_82 : decode cX5_goesOn 82 = .ok (.bipush 8, 2) := by decide +kernel
theorem dX5_goesOn_84 : decode cX5_goesOn 84 = .ok (.iload 7, 2) := by decide +kernel
theorem dX5_goesOn_86 : decode cX5_goesOn 86 = .ok (.imul, 1) := by decide +kernel
theorem dX5_goesOn_87 : decode cX5_goesOn 87 = .ok (.lshl, 1) := by decide +kernel
theorem dX5_goesOn_88 : decode cX5_goesOn 88 = .ok (.ldc2_w 165, 3) := by decide +kernel
theorem dX5_goesOn_91 : decode cX5_goesOn 91 = .ok (.lxor, 1) := by decide +kernel
theorem dX5_goesOn_92 : decode cX5_goesOn 92 = .ok (.land, 1) := by decide +kernel
theorem dX5_goesOn_93 : decode cX5_goesOn 93 = .ok (.lload 8, 2) := by decide +kernel
theorem dX5_goesOn_95 : decode cX5_goesOn 95 = .ok (.bipush 8, 2) := by decide +kernel
theorem dX5_goesOn_97 : decode cX5_goesOn 97 = .ok (.iload 7, 2) := by decide +kernel
theorem dX5_goesOn_99 : decode cX5_goesOn 99 = .ok (.imul, 1) := by decide +kernel
theorem dX5_goesOn_100 : decode cX5_goesOn 100 = .ok (.lshl, 1) := by decide +kernel
theorem dX5_goesOn_101 : decode cX5_goesOn 101 = .ok (.lor, 1) := by decide +kernel
theorem dX5_goesOn_102 : decode cX5_goesOn 102 = .ok (.lstore 10, 2) := by decide +kernel
theorem dX5_goesOn_104 : decode cX5_goesOn 104 = .ok (.aload_n 0, 1) := by decide +kernel
theorem dX5_goesOn_105 : decode cX5_goesOn 105 = .ok (.lload 10, 2) := by decide +kernel
theorem dX5_goesOn_107 : decode cX5_goesOn 107 = .ok (.iload_n 1, 1) := by decide +kernel
theorem dX5_goesOn_108 : decode cX5_goesOn 108 = .ok (.bipush 64, 2) := by decide +kernel
theorem dX5_goesOn_110 : decode cX5_goesOn 110 = .ok (.iload 5, 2) := by decide +kernel
theorem dX5_goesOn_112 : decode cX5_goesOn 112 = .ok (.imul, 1) := by decide +kernel
theorem dX5_goesOn_113 : decode cX5_goesOn 113 = .ok (.bipush 8, 2) := by decide +kernel
theorem dX5_goesOn_115 : decode cX5_goesOn 115 = .ok (.iload 6, 2) := by decide +kernel
theorem dX5_goesOn_117 : decode cX5_goesOn 117 = .ok (.imul, 1) := by decide +kernel
theorem dX5_goesOn_118 : decode cX5_goesOn 118 = .ok (.iadd, 1) := by decide +kernel
theorem dX5_goesOn_119 : decode cX5_goesOn 119 = .ok (.iload 7, 2) := by decide +kernel
theorem dX5_goesOn_121 : decode cX5_goesOn 121 = .ok (.iadd, 1) := by decide +kernel
theorem dX5_goesOn_122 : decode cX5_goesOn 122 = .ok (.invokevirtual 167, 3) := by decide +kernel
theorem dX5_goesOn_125 : decode cX5_goesOn 125 = .ok (.ifCond .ne 5, 3) := by decide +kernel
theorem dX5_goesOn_128 : decode cX5_goesOn 128 = .ok (.iconst 0, 1) := by decide +kernel
theorem dX5_goesOn_129 : decode cX5_goesOn 129 = .ok (.ireturn, 1) := by decide +kernel
theorem dX5_goesOn_130 : decode cX5_goesOn 130 = .ok (.iinc 7 1, 3) := by decide +kernel
theorem dX5_goesOn_133 : decode cX5_goesOn 133 = .ok (.goto (-111), 3) := by decide +kernel
theorem dX5_goesOn_136 : decode cX5_goesOn 136 = .ok (.iinc 6 1, 3) := by decide +kernel
theorem dX5_goesOn_139 : decode cX5_goesOn 139 = .ok (.goto (-126), 3) := by decide +kernel
theorem dX5_goesOn_142 : decode cX5_goesOn 142 = .ok (.iinc 5 1, 3) := by decide +kernel
theorem dX5_goesOn_145 : decode cX5_goesOn 145 = .ok (.goto (-142), 3) := by decide +kernel
theorem dX5_goesOn_148 : decode cX5_goesOn 148 = .ok (.iconst 1, 1) := by decide +kernel
theorem dX5_goesOn_149 : decode cX5_goesOn 149 = .ok (.ireturn, 1) := by decide +kernel
theorem dX5_find_0 : decode cX5_find 0 = .ok (.iload_n 1, 1) := by decide +kernel
theorem dX5_find_1 : decode cX5_find 1 = .ok (.iconst 1, 1) := by decide +kernel
theorem dX5_find_2 : decode cX5_find 2 = .ok (.iconst 3, 1) := by decide +kernel
theorem dX5_find_3 : decode cX5_find 3 = .ok (.invokestatic 98, 3) := by decide +kernel
theorem dX5_find_6 : decode cX5_find 6 = .ok (.ifCond .eq 27, 3) := by decide +kernel
theorem dX5_find_9 : decode cX5_find 9 = .ok (.iload_n 2, 1) := by decide +kernel
theorem dX5_find_10 : decode cX5_find 10 = .ok (.iload_n 1, 1) := by decide +kernel
theorem dX5_find_11 : decode cX5_find 11 = .ok (.iconst 5, 1) := by decide +kernel
theorem dX5_find_12 : decode cX5_find 12 = .ok (.invokestatic 98, 3) := by decide +kernel
theorem dX5_find_15 : decode cX5_find 15 = .ok (.ifCond .eq 18, 3) := by decide +kernel
theorem dX5_find_18 : decode cX5_find 18 = .ok (.iload_n 3, 1) := by decide +kernel
theorem dX5_find_19 : decode cX5_find 19 = .ok (.iconst 0, 1) := by decide +kernel
theorem dX5_find_20 : decode cX5_find 20 = .ok (.iconst 1, 1) := by decide +kernel
theorem dX5_find_21 : decode cX5_find 21 = .ok (.iconst 1, 1) := by decide +kernel
theorem dX5_find_22 : decode cX5_find 22 = .ok (.iload_n 1, 1) := by decide +kernel
theorem dX5_find_23 : decode cX5_find 23 = .ok (.ishl, 1) := by decide +kernel
theorem dX5_find_24 : decode cX5_find 24 = .ok (.ishl, 1) := by decide +kernel
theorem dX5_find_25 : decode cX5_find 25 = .ok (.iconst 1, 1) := by decide +kernel
theorem dX5_find_26 : decode cX5_find 26 = .ok (.isub, 1) := by decide +kernel
theorem dX5_find_27 : decode cX5_find 27 = .ok (.invokestatic 98, 3) := by decide +kernel
theorem dX5_find_30 : decode cX5_find 30 = .ok (.ifCond .ne 6, 3) := by decide +kernel
theorem dX5_find_33 : decode cX5_find 33 = .ok (.bipush (-2), 2) := by decide +kernel
theorem dX5_find_35 : decode cX5_find 35 = .ok (.ireturn, 1) := by decide +kernel
theorem dX5_find_36 : decode cX5_find 36 = .ok (.iconst 1, 1) := by decide +kernel
theorem dX5_find_37 : decode cX5_find 37 = .ok (.iconst 1, 1) := by decide +kernel
theorem dX5_find_38 : decode cX5_find 38 = .ok (.iload_n 1, 1) := by decide +kernel
theorem dX5_find_39 : decode cX5_find 39 = .ok (.ishl, 1) := by decide +kernel
theorem dX5_find_40 : decode cX5_find 40 = .ok (.ishl, 1) := by decide +kernel
theorem dX5_find_41 : decode cX5_find 41 = .ok (.iconst 1, 1) := by decide +kernel
theorem dX5_find_42 : decode cX5_find 42 = .ok (.isub, 1) := by decide +kernel
theorem dX5_find_43 : decode cX5_find 43 = .ok (.istore 4, 2) := by decide +kernel
theorem dX5_find_45 : decode cX5_find 45 = .ok (.iconst 0, 1) := by decide +kernel
theorem dX5_find_46 : decode cX5_find 46 = .ok (.istore 5, 2) := by decide +kernel
theorem dX5_find_48 : decode cX5_find 48 = .ok (.iload 5, 2) := by decide +kernel
theorem dX5_find_50 : decode cX5_find 50 = .ok (.sipush 16384, 3) := by decide +kernel
theorem dX5_find_53 : decode cX5_find 53 = .ok (.if_icmp .ge 17, 3) := by decide +kernel
theorem dX5_find_56 : decode cX5_find 56 = .ok (.aload_n 0, 1) := by decide +kernel
theorem dX5_find_57 : decode cX5_find 57 = .ok (.getfield 69, 3) := by decide +kernel
theorem dX5_find_60 : decode cX5_find 60 = .ok (.iload 5, 2) := by decide +kernel
theorem dX5_find_62 : decode cX5_find 62 = .ok (.iconst 0, 1) := by decide +kernel
theorem dX5_find_63 : decode cX5_find 63 = .ok (.iastore, 1) := by decide +kernel
theorem dX5_find_64 : decode cX5_find 64 = .ok (.iinc 5 1, 3) := by decide +kernel
theorem dX5_find_67 : decode cX5_find 67 = .ok (.goto (-19), 3) := by decide +kernel
theorem dX5_find_70 : decode cX5_find 70 = .ok (.aload_n 0, 1) := by decide +kernel
theorem dX5_find_71 : decode cX5_find 71 = .ok (.iconst 0, 1) := by decide +kernel
theorem dX5_find_72 : decode cX5_find 72 = .ok (.putfield 149, 3) := by decide +kernel
theorem dX5_find_75 : decode cX5_find 75 = .ok (.lconst 0, 1) := by decide +kernel
theorem dX5_find_76 : decode cX5_find 76 = .ok (.lstore 5, 2) := by decide +kernel
theorem dX5_find_78 : decode cX5_find 78 = .ok (.iconst 0, 1) := by decide +kernel
theorem dX5_find_79 : decode cX5_find 79 = .ok (.istore 7, 2) := by decide +kernel
theorem dX5_find_81 : decode cX5_find 81 = .ok (.iload 7, 2) := by decide +kernel
theorem dX5_find_83 : decode cX5_find 83 = .ok (.iconst 1, 1) := by decide +kernel
theorem dX5_find_84 : decode cX5_find 84 = .ok (.iload_n 1, 1) := by decide +kernel
theorem dX5_find_85 : decode cX5_find 85 = .ok (.ishl, 1) := by decide +kernel
theorem dX5_find_86 : decode cX5_find 86 = .ok (.if_icmp .ge 54, 3) := by decide +kernel
theorem dX5_find_89 : decode cX5_find 89 = .ok (.iconst 0, 1) := by decide +kernel
theorem dX5_find_90 : decode cX5_find 90 = .ok (.istore 8, 2) := by decide +kernel
theorem dX5_find_92 : decode cX5_find 92 = .ok (.iload 8, 2) := by decide +kernel
theorem dX5_find_94 : decode cX5_find 94 = .ok (.iload_n 1, 1) := by decide +kernel
theorem dX5_find_95 : decode cX5_find 95 = .ok (.if_icmp .ge 39, 3) := by decide +kernel
theorem dX5_find_98 : decode cX5_find 98 = .ok (.lload 5, 2) := by decide +kernel
theorem dX5_find_100 : decode cX5_find 100 = .ok (.iload 7, 2) := by decide +kernel
theorem dX5_find_102 : decode cX5_find 102 = .ok (.iload 8, 2) := by decide +kernel
theorem dX5_find_104 : decode cX5_find 104 = .ok (.ishr, 1) := by decide +kernel
theorem dX5_find_105 : decode cX5_find 105 = .ok (.iconst 1, 1) := by decide +kernel
theorem dX5_find_106 : decode cX5_find 106 = .ok (.iand, 1) := by decide +kernel
theorem dX5_find_107 : decode cX5_find 107 = .ok (.iconst 1, 1) := by decide +kernel
theorem dX5_find_108 : decode cX5_find 108 = .ok (.if_icmp .ne 16, 3) := by decide +kernel
theorem dX5_find_111 : decode cX5_find 111 = .ok (.lconst 1, 1) := by decide +kernel
theorem dX5_find_112 : decode cX5_find 112 = .ok (.bipush 8, 2) := by decide +kernel
theorem dX5_find_114 : decode cX5_find 114 = .ok (.iload 8, 2) := by decide +kernel
theorem dX5_find_116 : decode cX5_find 116 = .ok (.imul, 1) := by decide +kernel
theorem dX5_find_117 : decode cX5_find 117 = .ok (.iload 7, 2) := by decide +kernel
theorem dX5_find_119 : decode cX5_find 119 = .ok (.iadd, 1) := by decide +kernel
theorem dX5_find_120 : decode cX5_find 120 = .ok (.lshl, 1) := by decide +kernel
theorem dX5_find_121 : decode cX5_find 121 = .ok (.goto 4, 3) := by decide +kernel
theorem dX5_find_124 : decode cX5_find 124 = .ok (.lconst 0, 1) := by decide +kernel
theorem dX5_find_125 : decode cX5_find 125 = .ok (.lor, 1) := by decide +kernel
theorem dX5_find_126 : decode cX5_find 126 = .ok (.lstore 5, 2) := by decide +kernel
theorem dX5_find_128 : decode cX5_find 128 = .ok (.iinc 8 1, 3) := by decide +kernel
theorem dX5_find_131 : decode cX5_find 131 = .ok (.goto (-39), 3) := by decide +kernel
theorem dX5_find_134 : decode cX5_find 134 = .ok (.iinc 7 1, 3) := by decide +kernel
theorem dX5_find_137 : decode cX5_find 137 = .ok (.goto (-56), 3) := by decide +kernel
theorem dX5_find_140 : decode cX5_find 140 = .ok (.aload_n 0, 1) := by decide +kernel
theorem dX5_find_141 : decode cX5_find 141 = .ok (.lload 5, 2) := by decide +kernel
theorem dX5_find_143 : decode cX5_find 143 = .ok (.iconst 0, 1) := by decide +kernel
theorem dX5_find_144 : decode cX5_find 144 = .ok (.iconst 0, 1) := by decide +kernel
theorem dX5_find_145 : decode cX5_find 145 = .ok (.invokevirtual 167, 3) := by decide +kernel
theorem dX5_find_148 : decode cX5_find 148 = .ok (.pop, 1) := by decide +kernel
theorem dX5_find_149 : decode cX5_find 149 = .ok (.iconst 0, 1) := by decide +kernel
theorem dX5_find_150 : decode cX5_find 150 = .ok (.istore 7, 2) := by decide +kernel
theorem dX5_find_152 : decode cX5_find 152 = .ok (.iload 7, 2) := by decide +kernel
theorem dX5_find_154 : decode cX5_find 154 = .ok (.aload_n 0, 1) := by decide +kernel
theorem dX5_find_155 : decode cX5_find 155 = .ok (.getfield 149, 3) := by decide +kernel
theorem dX5_find_158 : decode cX5_find 158 = .ok (.if_icmp .ge 58, 3) := by decide +kernel
theorem dX5_find_161 : decode cX5_find 161 = .ok (.aload_n 0, 1) := by decide +kernel
theorem dX5_find_162 : decode cX5_find 162 = .ok (.getfield 59, 3) := by decide +kernel
theorem dX5_find_165 : decode cX5_find 165 = .ok (.iload 7, 2) := by decide +kernel
theorem dX5_find_167 : decode cX5_find 167 = .ok (.laload, 1) := by decide +kernel
theorem dX5_find_168 : decode cX5_find 168 = .ok (.iload_n 2, 1) := by decide +kernel
theorem dX5_find_169 : decode cX5_find 169 = .ok (.iload_n 3, 1) := by decide +kernel
theorem dX5_find_170 : decode cX5_find 170 = .ok (.invokestatic 171, 3) := by decide +kernel
theorem dX5_find_173 : decode cX5_find 173 = .ok (.istore 8, 2) := by decide +kernel
theorem dX5_find_175 : decode cX5_find 175 = .ok (.iload 8, 2) := by decide +kernel
theorem dX5_find_177 : decode cX5_find 177 = .ok (.iconst (-1), 1) := by decide +kernel
theorem dX5_find_178 : decode cX5_find 178 = .ok (.if_icmp .eq 16, 3) := by decide +kernel
theorem dX5_find_181 : decode cX5_find 181 = .ok (.aload_n 0, 1) := by decide +kernel
theorem dX5_find_182 : decode cX5_find 182 = .ok (.iload 7, 2) := by decide +kernel
theorem dX5_find_184 : decode cX5_find 184 = .ok (.iload 8, 2) := by decide +kernel
theorem dX5_find_186 : decode cX5_find 186 = .ok (.invokevirtual 175, 3) := by decide +kernel
theorem dX5_find_189 : decode cX5_find 189 = .ok (.aload_n 0, 1) := by decide +kernel
theorem dX5_find_190 : decode cX5_find 190 = .ok (.getfield 160, 3) := by decide +kernel
theorem dX5_find_193 : decode cX5_find 193 = .ok (.ireturn, 1) := by decide +kernel
theorem dX5_find_194 : decode cX5_find 194 = .ok (.aload_n 0, 1) := by decide +kernel
theorem dX5_find_195 : decode cX5_find 195 = .ok (.iload 7, 2) := by decide +kernel
theorem dX5_find_197 : decode cX5_find 197 = .ok (.iload_n 1, 1) := by decide +kernel
theorem dX5_find_198 : decode cX5_find 198 = .ok (.iload_n 2, 1) := by decide +kernel
theorem dX5_find_199 : decode cX5_find 199 = .ok (.iload 4, 2) := by decide +kernel
theorem dX5_find_201 : decode cX5_find 201 = .ok (.invokevirtual 179, 3) := by decide +kernel
theorem dX5_find_204 : decode cX5_find 204 = .ok (.ifCond .ne 6, 3) := by decide +kernel
theorem dX5_find_207 : decode cX5_find 207 = .ok (.bipush (-5), 2) := by decide +kernel
theorem dX5_find_209 : decode cX5_find 209 = .ok (.ireturn, 1) := by decide +kernel
theorem dX5_find_210 : decode cX5_find 210 = .ok (.iinc 7 1, 3) := by decide +kernel
theorem dX5_find_213 : decode cX5_find 213 = .ok (.goto (-61), 3) := by decide +kernel
theorem dX5_find_216 : decode cX5_find 216 = .ok (.iconst (-1), 1) := by decide +kernel
theorem dX5_find_217 : decode cX5_find 217 = .ok (.ireturn, 1) := by decide +kernel
theorem dX5_actAt_0 : decode cX5_actAt 0 = .ok (.iload_n 2, 1) := by decide +kernel
theorem dX5_actAt_1 : decode cX5_actAt 1 = .ok (.iconst 0, 1) := by decide +kernel
theorem dX5_actAt_2 : decode cX5_actAt 2 = .ok (.iconst 2, 1) := by decide +kernel
theorem dX5_actAt_3 : decode cX5_actAt 3 = .ok (.invokestatic 98, 3) := by decide +kernel
theorem dX5_actAt_6 : decode cX5_actAt 6 = .ok (.ifCond .ne 6, 3) := by decide +kernel
theorem dX5_actAt_9 : decode cX5_actAt 9 = .ok (.bipush (-2), 2) := by decide +kernel
theorem dX5_actAt_11 : decode cX5_actAt 11 = .ok (.ireturn, 1) := by decide +kernel
theorem dX5_actAt_12 : decode cX5_actAt 12 = .ok (.iload_n 1, 1) := by decide +kernel
theorem dX5_actAt_13 : decode cX5_actAt 13 = .ok (.iconst 0, 1) := by decide +kernel
theorem dX5_actAt_14 : decode cX5_actAt 14 = .ok (.aload_n 0, 1) := by decide +kernel
theorem dX5_actAt_15 : decode cX5_actAt 15 = .ok (.getfield 160, 3) := by decide +kernel
theorem dX5_actAt_18 : decode cX5_actAt 18 = .ok (.iconst 1, 1) := by decide +kernel
theorem dX5_actAt_19 : decode cX5_actAt 19 = .ok (.isub, 1) := by decide +kernel
theorem dX5_actAt_20 : decode cX5_actAt 20 = .ok (.invokestatic 98, 3) := by decide +kernel
theorem dX5_actAt_23 : decode cX5_actAt 23 = .ok (.ifCond .ne 7, 3) := by decide +kernel
theorem dX5_actAt_26 : decode cX5_actAt 26 = .ok (.iconst (-1), 1) := by decide +kernel
theorem dX5_actAt_27 : decode cX5_actAt 27 = .ok (.goto 48, 3) := by decide +kernel
theorem dX5_actAt_30 : decode cX5_actAt 30 = .ok (.iload_n 2, 1) := by decide +kernel
theorem dX5_actAt_31 : decode cX5_actAt 31 = .ok (.ifCond .ne 15, 3) := by decide +kernel
theorem dX5_actAt_34 : decode cX5_actAt 34 = .ok (.aload_n 0, 1) := by decide +kernel
theorem dX5_actAt_35 : decode cX5_actAt 35 = .ok (.getfield 72, 3) := by decide +kernel
theorem dX5_actAt_38 : decode cX5_actAt 38 = .ok (.iload_n 1, 1) := by decide +kernel
theorem dX5_actAt_39 : decode cX5_actAt 39 = .ok (.iaload, 1) := by decide +kernel
theorem dX5_actAt_40 : decode cX5_actAt 40 = .ok (.bipush 64, 2) := by decide +kernel
theorem dX5_actAt_42 : decode cX5_actAt 42 = .ok (.idiv, 1) := by decide +kernel
theorem dX5_actAt_43 : decode cX5_actAt 43 = .ok (.goto 32, 3) := by decide +kernel
theorem dX5_actAt_46 : decode cX5_actAt 46 = .ok (.iload_n 2, 1) := by decide +kernel
theorem dX5_actAt_47 : decode cX5_actAt 47 = .ok (.iconst 1, 1) := by decide +kernel
theorem dX5_actAt_48 : decode cX5_actAt 48 = .ok (.if_icmp .ne 18, 3) := by decide +kernel
theorem dX5_actAt_51 : decode cX5_actAt 51 = .ok (.aload_n 0, 1) := by decide +kernel
theorem dX5_actAt_52 : decode cX5_actAt 52 = .ok (.getfield 72, 3) := by decide +kernel
theorem dX5_actAt_55 : decode cX5_actAt 55 = .ok (.iload_n 1, 1) := by decide +kernel
theorem dX5_actAt_56 : decode cX5_actAt 56 = .ok (.iaload, 1) := by decide +kernel
theorem dX5_actAt_57 : decode cX5_actAt 57 = .ok (.bipush 8, 2) := by decide +kernel
theorem dX5_actAt_59 : decode cX5_actAt 59 = .ok (.idiv, 1) := by decide +kernel
theorem dX5_actAt_60 : decode cX5_actAt 60 = .ok (.bipush 8, 2) := by decide +kernel
theorem dX5_actAt_62 : decode cX5_actAt 62 = .ok (.irem, 1) := by decide +kernel
theorem dX5_actAt_63 : decode cX5_actAt 63 = .ok (.goto 12, 3) := by decide +kernel
theorem dX5_actAt_66 : decode cX5_actAt 66 = .ok (.aload_n 0, 1) := by decide +kernel
theorem dX5_actAt_67 : decode cX5_actAt 67 = .ok (.getfield 72, 3) := by decide +kernel
theorem dX5_actAt_70 : decode cX5_actAt 70 = .ok (.iload_n 1, 1) := by decide +kernel
theorem dX5_actAt_71 : decode cX5_actAt 71 = .ok (.iaload, 1) := by decide +kernel
theorem dX5_actAt_72 : decode cX5_actAt 72 = .ok (.bipush 8, 2) := by decide +kernel
theorem dX5_actAt_74 : decode cX5_actAt 74 = .ok (.irem, 1) := by decide +kernel
theorem dX5_actAt_75 : decode cX5_actAt 75 = .ok (.ireturn, 1) := by decide +kernel
theorem dX5_where_0 : decode cX5_where 0 = .ok (.aload_n 0, 1) := by decide +kernel
theorem dX5_where_1 : decode cX5_where 1 = .ok (.getfield 75, 3) := by decide +kernel
theorem dX5_where_4 : decode cX5_where 4 = .ok (.ireturn, 1) := by decide +kernel
theorem dX5_met_0 : decode cX5_met 0 = .ok (.aload_n 0, 1) := by decide +kernel
theorem dX5_met_1 : decode cX5_met 1 = .ok (.getfield 149, 3) := by decide +kernel
theorem dX5_met_4 : decode cX5_met 4 = .ok (.ireturn, 1) := by decide +kernel
theorem dX5_count_0 : decode cX5_count 0 = .ok (.iconst 0, 1) := by decide +kernel
theorem dX5_count_1 : decode cX5_count 1 = .ok (.istore_n 2, 1) := by decide +kernel
theorem dX5_count_2 : decode cX5_count 2 = .ok (.iload_n 1, 1) := by decide +kernel
theorem dX5_count_3 : decode cX5_count 3 = .ok (.tableswitch 140 0 8 #[49, 54, 59, 64, 99, 104, 109, 114, 127], 49) := by decide +kernel
theorem dX5_count_52 : decode cX5_count 52 = .ok (.aload_n 0, 1) := by decide +kernel
theorem dX5_count_53 : decode cX5_count 53 = .ok (.getfield 7, 3) := by decide +kernel
theorem dX5_count_56 : decode cX5_count 56 = .ok (.ireturn, 1) := by decide +kernel
theorem dX5_count_57 : decode cX5_count 57 = .ok (.aload_n 0, 1) := by decide +kernel
theorem dX5_count_58 : decode cX5_count 58 = .ok (.getfield 13, 3) := by decide +kernel
theorem dX5_count_61 : decode cX5_count 61 = .ok (.ireturn, 1) := by decide +kernel
theorem dX5_count_62 : decode cX5_count 62 = .ok (.aload_n 0, 1) := by decide +kernel
theorem dX5_count_63 : decode cX5_count 63 = .ok (.getfield 16, 3) := by decide +kernel
theorem dX5_count_66 : decode cX5_count 66 = .ok (.ireturn, 1) := by decide +kernel
theorem dX5_count_67 : decode cX5_count 67 = .ok (.iconst 0, 1) := by decide +kernel
theorem dX5_count_68 : decode cX5_count 68 = .ok (.istore_n 3, 1) := by decide +kernel
theorem dX5_count_69 : decode cX5_count 69 = .ok (.iload_n 3, 1) := by decide +kernel
theorem dX5_count_70 : decode cX5_count 70 = .ok (.sipush 192, 3) := by decide +kernel
theorem dX5_count_73 : decode cX5_count 73 = .ok (.if_icmp .ge 27, 3) := by decide +kernel
theorem dX5_count_76 : decode cX5_count 76 = .ok (.iload_n 2, 1) := by decide +kernel
theorem dX5_count_77 : decode cX5_count 77 = .ok (.aload_n 0, 1) := by decide +kernel
theorem dX5_count_78 : decode cX5_count 78 = .ok (.getfield 23, 3) := by decide +kernel
theorem dX5_count_81 : decode cX5_count 81 = .ok (.iload_n 3, 1) := by decide +kernel
theorem dX5_count_82 : decode cX5_count 82 = .ok (.iaload, 1) := by decide +kernel
theorem dX5_count_83 : decode cX5_count 83 = .ok (.iconst (-1), 1) := by decide +kernel
theorem dX5_count_84 : decode cX5_count 84 = .ok (.if_icmp .ne 7, 3) := by decide +kernel
theorem dX5_count_87 : decode cX5_count 87 = .ok (.iconst 0, 1) := by decide +kernel
theorem dX5_count_88 : decode cX5_count 88 = .ok (.goto 4, 3) := by decide +kernel
theorem dX5_count_91 : decode cX5_count 91 = .ok (.iconst 1, 1) := by decide +kernel
theorem dX5_count_92 : decode cX5_count 92 = .ok (.iadd, 1) := by decide +kernel
theorem dX5_count_93 : decode cX5_count 93 = .ok (.istore_n 2, 1) := by decide +kernel
theorem dX5_count_94 : decode cX5_count 94 = .ok (.iinc 3 1, 3) := by decide +kernel
theorem dX5_count_97 : decode cX5_count 97 = .ok (.goto (-28), 3) := by decide +kernel
theorem dX5_count_100 : decode cX5_count 100 = .ok (.iload_n 2, 1) := by decide +kernel
theorem dX5_count_101 : decode cX5_count 101 = .ok (.ireturn, 1) := by decide +kernel
theorem dX5_count_102 : decode cX5_count 102 = .ok (.aload_n 0, 1) := by decide +kernel
theorem dX5_count_103 : decode cX5_count 103 = .ok (.getfield 82, 3) := by decide +kernel
theorem dX5_count_106 : decode cX5_count 106 = .ok (.ireturn, 1) := by decide +kernel
theorem dX5_count_107 : decode cX5_count 107 = .ok (.aload_n 0, 1) := by decide +kernel
theorem dX5_count_108 : decode cX5_count 108 = .ok (.getfield 85, 3) := by decide +kernel
theorem dX5_count_111 : decode cX5_count 111 = .ok (.ireturn, 1) := by decide +kernel
theorem dX5_count_112 : decode cX5_count 112 = .ok (.aload_n 0, 1) := by decide +kernel
theorem dX5_count_113 : decode cX5_count 113 = .ok (.getfield 88, 3) := by decide +kernel
theorem dX5_count_116 : decode cX5_count 116 = .ok (.ireturn, 1) := by decide +kernel
theorem dX5_count_117 : decode cX5_count 117 = .ok (.aload_n 0, 1) := by decide +kernel
theorem dX5_count_118 : decode cX5_count 118 = .ok (.getfield 91, 3) := by decide +kernel
theorem dX5_count_121 : decode cX5_count 121 = .ok (.ifCond .eq 7, 3) := by decide +kernel
theorem dX5_count_124 : decode cX5_count 124 = .ok (.iconst 1, 1) := by decide +kernel
theorem dX5_count_125 : decode cX5_count 125 = .ok (.goto 4, 3) := by decide +kernel
theorem dX5_count_128 : decode cX5_count 128 = .ok (.iconst 0, 1) := by decide +kernel
theorem dX5_count_129 : decode cX5_count 129 = .ok (.ireturn, 1) := by decide +kernel
theorem dX5_count_130 : decode cX5_count 130 = .ok (.aload_n 0, 1) := by decide +kernel
theorem dX5_count_131 : decode cX5_count 131 = .ok (.getfield 95, 3) := by decide +kernel
theorem dX5_count_134 : decode cX5_count 134 = .ok (.ifCond .eq 7, 3) := by decide +kernel
theorem dX5_count_137 : decode cX5_count 137 = .ok (.iconst 1, 1) := by decide +kernel
theorem dX5_count_138 : decode cX5_count 138 = .ok (.goto 4, 3) := by decide +kernel
theorem dX5_count_141 : decode cX5_count 141 = .ok (.iconst 0, 1) := by decide +kernel
theorem dX5_count_142 : decode cX5_count 142 = .ok (.ireturn, 1) := by decide +kernel
theorem dX5_count_143 : decode cX5_count 143 = .ok (.bipush (-2), 2) := by decide +kernel
theorem dX5_count_145 : decode cX5_count 145 = .ok (.ireturn, 1) := by decide +kernel
theorem dX5_digest_0 : decode cX5_digest 0 = .ok (.ldc2_w 183, 3) := by decide +kernel
theorem dX5_digest_3 : decode cX5_digest 3 = .ok (.lstore_n 1, 1) := by decide +kernel
theorem dX5_digest_4 : decode cX5_digest 4 = .ok (.iconst 0, 1) := by decide +kernel
theorem dX5_digest_5 : decode cX5_digest 5 = .ok (.istore_n 3, 1) := by decide +kernel
theorem dX5_digest_6 : decode cX5_digest 6 = .ok (.iload_n 3, 1) := by decide +kernel
theorem dX5_digest_7 : decode cX5_digest 7 = .ok (.bipush 9, 2) := by decide +kernel
theorem dX5_digest_9 : decode cX5_digest 9 = .ok (.if_icmp .ge 22, 3) := by decide +kernel
theorem dX5_digest_12 : decode cX5_digest 12 = .ok (.ldc2_w 185, 3) := by decide +kernel
theorem dX5_digest_15 : decode cX5_digest 15 = .ok (.lload_n 1, 1) := by decide +kernel
theorem dX5_digest_16 : decode cX5_digest 16 = .ok (.lmul, 1) := by decide +kernel
theorem dX5_digest_17 : decode cX5_digest 17 = .ok (.aload_n 0, 1) := by decide +kernel
theorem dX5_digest_18 : decode cX5_digest 18 = .ok (.iload_n 3, 1) := by decide +kernel
theorem dX5_digest_19 : decode cX5_digest 19 = .ok (.invokevirtual 187, 3) := by decide +kernel
theorem dX5_digest_22 : decode cX5_digest 22 = .ok (.i2l, 1) := by decide +kernel
theorem dX5_digest_23 : decode cX5_digest 23 = .ok (.ladd, 1) := by decide +kernel
theorem dX5_digest_24 : decode cX5_digest 24 = .ok (.lstore_n 1, 1) := by decide +kernel
theorem dX5_digest_25 : decode cX5_digest 25 = .ok (.iinc 3 1, 3) := by decide +kernel
theorem dX5_digest_28 : decode cX5_digest 28 = .ok (.goto (-22), 3) := by decide +kernel
theorem dX5_digest_31 : decode cX5_digest 31 = .ok (.iconst 0, 1) := by decide +kernel
theorem dX5_digest_32 : decode cX5_digest 32 = .ok (.istore_n 3, 1) := by decide +kernel
theorem dX5_digest_33 : decode cX5_digest 33 = .ok (.iload_n 3, 1) := by decide +kernel
theorem dX5_digest_34 : decode cX5_digest 34 = .ok (.aload_n 0, 1) := by decide +kernel
theorem dX5_digest_35 : decode cX5_digest 35 = .ok (.getfield 7, 3) := by decide +kernel
theorem dX5_digest_38 : decode cX5_digest 38 = .ok (.if_icmp .ge 63, 3) := by decide +kernel
theorem dX5_digest_41 : decode cX5_digest 41 = .ok (.iconst 0, 1) := by decide +kernel
theorem dX5_digest_42 : decode cX5_digest 42 = .ok (.istore 4, 2) := by decide +kernel
theorem dX5_digest_44 : decode cX5_digest 44 = .ok (.iload 4, 2) := by decide +kernel
theorem dX5_digest_46 : decode cX5_digest 46 = .ok (.aload_n 0, 1) := by decide +kernel
theorem dX5_digest_47 : decode cX5_digest 47 = .ok (.getfield 13, 3) := by decide +kernel
theorem dX5_digest_50 : decode cX5_digest 50 = .ok (.if_icmp .ge 45, 3) := by decide +kernel
theorem dX5_digest_53 : decode cX5_digest 53 = .ok (.iconst 0, 1) := by decide +kernel
theorem dX5_digest_54 : decode cX5_digest 54 = .ok (.istore 5, 2) := by decide +kernel
theorem dX5_digest_56 : decode cX5_digest 56 = .ok (.iload 5, 2) := by decide +kernel
theorem dX5_digest_58 : decode cX5_digest 58 = .ok (.iconst 3, 1) := by decide +kernel
theorem dX5_digest_59 : decode cX5_digest 59 = .ok (.if_icmp .ge 30, 3) := by decide +kernel
theorem dX5_digest_62 : decode cX5_digest 62 = .ok (.ldc2_w 185, 3) := by decide +kernel
theorem dX5_digest_65 : decode cX5_digest 65 = .ok (.lload_n 1, 1) := by decide +kernel
theorem dX5_digest_66 : decode cX5_digest 66 = .ok (.lmul, 1) := by decide +kernel
theorem dX5_digest_67 : decode cX5_digest 67 = .ok (.aload_n 0, 1) := by decide +kernel
theorem dX5_digest_68 : decode cX5_digest 68 = .ok (.bipush 24, 2) := by decide +kernel
theorem dX5_digest_70 : decode cX5_digest 70 = .ok (.iload_n 3, 1) := by decide +kernel
theorem dX5_digest_71 : decode cX5_digest 71 = .ok (.imul, 1) := by decide +kernel
theorem dX5_digest_72 : decode cX5_digest 72 = .ok (.iload 4, 2) := by decide +kernel
theorem dX5_digest_74 : decode cX5_digest 74 = .ok (.iadd, 1) := by decide +kernel
theorem dX5_digest_75 : decode cX5_digest 75 = .ok (.iload 5, 2) := by decide +kernel
theorem dX5_digest_77 : decode cX5_digest 77 = .ok (.invokevirtual 109, 3) := by decide +kernel
theorem dX5_digest_80 : decode cX5_digest 80 = .ok (.i2l, 1) := by decide +kernel
theorem dX5_digest_81 : decode cX5_digest 81 = .ok (.ladd, 1) := by decide +kernel
theorem dX5_digest_82 : decode cX5_digest 82 = .ok (.lstore_n 1, 1) := by decide +kernel
theorem dX5_digest_83 : decode cX5_digest 83 = .ok (.iinc 5 1, 3) := by decide +kernel
theorem dX5_digest_86 : decode cX5_digest 86 = .ok (.goto (-30), 3) := by decide +kernel
theorem dX5_digest_89 : decode cX5_digest 89 = .ok (.iinc 4 1, 3) := by decide +kernel
theorem dX5_digest_92 : decode cX5_digest 92 = .ok (.goto (-48), 3) := by decide +kernel
theorem dX5_digest_95 : decode cX5_digest 95 = .ok (.iinc 3 1, 3) := by decide +kernel
theorem dX5_digest_98 : decode cX5_digest 98 = .ok (.goto (-65), 3) := by decide +kernel
theorem dX5_digest_101 : decode cX5_digest 101 = .ok (.iconst 0, 1) := by decide +kernel
theorem dX5_digest_102 : decode cX5_digest 102 = .ok (.istore_n 3, 1) := by decide +kernel
theorem dX5_digest_103 : decode cX5_digest 103 = .ok (.iload_n 3, 1) := by decide +kernel
theorem dX5_digest_104 : decode cX5_digest 104 = .ok (.aload_n 0, 1) := by decide +kernel
theorem dX5_digest_105 : decode cX5_digest 105 = .ok (.getfield 7, 3) := by decide +kernel
theorem dX5_digest_108 : decode cX5_digest 108 = .ok (.if_icmp .ge 23, 3) := by decide +kernel
theorem dX5_digest_111 : decode cX5_digest 111 = .ok (.ldc2_w 185, 3) := by decide +kernel
theorem dX5_digest_114 : decode cX5_digest 114 = .ok (.lload_n 1, 1) := by decide +kernel
theorem dX5_digest_115 : decode cX5_digest 115 = .ok (.lmul, 1) := by decide +kernel
theorem dX5_digest_116 : decode cX5_digest 116 = .ok (.aload_n 0, 1) := by decide +kernel
theorem dX5_digest_117 : decode cX5_digest 117 = .ok (.getfield 29, 3) := by decide +kernel
theorem dX5_digest_120 : decode cX5_digest 120 = .ok (.iload_n 3, 1) := by decide +kernel
theorem dX5_digest_121 : decode cX5_digest 121 = .ok (.iaload, 1) := by decide +kernel
theorem dX5_digest_122 : decode cX5_digest 122 = .ok (.i2l, 1) := by decide +kernel
theorem dX5_digest_123 : decode cX5_digest 123 = .ok (.ladd, 1) := by decide +kernel
theorem dX5_digest_124 : decode cX5_digest 124 = .ok (.lstore_n 1, 1) := by decide +kernel
theorem dX5_digest_125 : decode cX5_digest 125 = .ok (.iinc 3 1, 3) := by decide +kernel
theorem dX5_digest_128 : decode cX5_digest 128 = .ok (.goto (-25), 3) := by decide +kernel
theorem dX5_digest_131 : decode cX5_digest 131 = .ok (.iconst 0, 1) := by decide +kernel
theorem dX5_digest_132 : decode cX5_digest 132 = .ok (.istore_n 3, 1) := by decide +kernel
theorem dX5_digest_133 : decode cX5_digest 133 = .ok (.iload_n 3, 1) := by decide +kernel
theorem dX5_digest_134 : decode cX5_digest 134 = .ok (.aload_n 0, 1) := by decide +kernel
theorem dX5_digest_135 : decode cX5_digest 135 = .ok (.getfield 82, 3) := by decide +kernel
theorem dX5_digest_138 : decode cX5_digest 138 = .ok (.if_icmp .ge 61, 3) := by decide +kernel
theorem dX5_digest_141 : decode cX5_digest 141 = .ok (.ldc2_w 185, 3) := by decide +kernel
theorem dX5_digest_144 : decode cX5_digest 144 = .ok (.lload_n 1, 1) := by decide +kernel
theorem dX5_digest_145 : decode cX5_digest 145 = .ok (.lmul, 1) := by decide +kernel
theorem dX5_digest_146 : decode cX5_digest 146 = .ok (.aload_n 0, 1) := by decide +kernel
theorem dX5_digest_147 : decode cX5_digest 147 = .ok (.getfield 38, 3) := by decide +kernel
theorem dX5_digest_150 : decode cX5_digest 150 = .ok (.iload_n 3, 1) := by decide +kernel
theorem dX5_digest_151 : decode cX5_digest 151 = .ok (.iaload, 1) := by decide +kernel
theorem dX5_digest_152 : decode cX5_digest 152 = .ok (.i2l, 1) := by decide +kernel
theorem dX5_digest_153 : decode cX5_digest 153 = .ok (.ladd, 1) := by decide +kernel
theorem dX5_digest_154 : decode cX5_digest 154 = .ok (.lstore_n 1, 1) := by decide +kernel
theorem dX5_digest_155 : decode cX5_digest 155 = .ok (.iconst 0, 1) := by decide +kernel
theorem dX5_digest_156 : decode cX5_digest 156 = .ok (.istore 4, 2) := by decide +kernel
theorem dX5_digest_158 : decode cX5_digest 158 = .ok (.iload 4, 2) := by decide +kernel
theorem dX5_digest_160 : decode cX5_digest 160 = .ok (.aload_n 0, 1) := by decide +kernel
theorem dX5_digest_161 : decode cX5_digest 161 = .ok (.getfield 85, 3) := by decide +kernel
theorem dX5_digest_164 : decode cX5_digest 164 = .ok (.if_icmp .ge 29, 3) := by decide +kernel
theorem dX5_digest_167 : decode cX5_digest 167 = .ok (.ldc2_w 185, 3) := by decide +kernel
theorem dX5_digest_170 : decode cX5_digest 170 = .ok (.lload_n 1, 1) := by decide +kernel
theorem dX5_digest_171 : decode cX5_digest 171 = .ok (.lmul, 1) := by decide +kernel
theorem dX5_digest_172 : decode cX5_digest 172 = .ok (.aload_n 0, 1) := by decide +kernel
theorem dX5_digest_173 : decode cX5_digest 173 = .ok (.getfield 35, 3) := by decide +kernel
theorem dX5_digest_176 : decode cX5_digest 176 = .ok (.bipush 12, 2) := by decide +kernel
theorem dX5_digest_178 : decode cX5_digest 178 = .ok (.iload_n 3, 1) := by decide +kernel
theorem dX5_digest_179 : decode cX5_digest 179 = .ok (.imul, 1) := by decide +kernel
theorem dX5_digest_180 : decode cX5_digest 180 = .ok (.iload 4, 2) := by decide +kernel
theorem dX5_digest_182 : decode cX5_digest 182 = .ok (.iadd, 1) := by decide +kernel
theorem dX5_digest_183 : decode cX5_digest 183 = .ok (.iaload, 1) := by decide +kernel
theorem dX5_digest_184 : decode cX5_digest 184 = .ok (.i2l, 1) := by decide +kernel
theorem dX5_digest_185 : decode cX5_digest 185 = .ok (.ladd, 1) := by decide +kernel
theorem dX5_digest_186 : decode cX5_digest 186 = .ok (.lstore_n 1, 1) := by decide +kernel
theorem dX5_digest_187 : decode cX5_digest 187 = .ok (.iinc 4 1, 3) := by decide +kernel
theorem dX5_digest_190 : decode cX5_digest 190 = .ok (.goto (-32), 3) := by decide +kernel
theorem dX5_digest_193 : decode cX5_digest 193 = .ok (.iinc 3 1, 3) := by decide +kernel
theorem dX5_digest_196 : decode cX5_digest 196 = .ok (.goto (-63), 3) := by decide +kernel
theorem dX5_digest_199 : decode cX5_digest 199 = .ok (.iconst 0, 1) := by decide +kernel
theorem dX5_digest_200 : decode cX5_digest 200 = .ok (.istore_n 3, 1) := by decide +kernel
theorem dX5_digest_201 : decode cX5_digest 201 = .ok (.iload_n 3, 1) := by decide +kernel
theorem dX5_digest_202 : decode cX5_digest 202 = .ok (.aload_n 0, 1) := by decide +kernel
theorem dX5_digest_203 : decode cX5_digest 203 = .ok (.getfield 160, 3) := by decide +kernel
theorem dX5_digest_206 : decode cX5_digest 206 = .ok (.if_icmp .ge 59, 3) := by decide +kernel
theorem dX5_digest_209 : decode cX5_digest 209 = .ok (.ldc2_w 185, 3) := by decide +kernel
theorem dX5_digest_212 : decode cX5_digest 212 = .ok (.ldc2_w 185, 3) := by decide +kernel
theorem dX5_digest_215 : decode cX5_digest 215 = .ok (.ldc2_w 185, 3) := by decide +kernel
theorem dX5_digest_218 : decode cX5_digest 218 = .ok (.lload_n 1, 1) := by decide +kernel
theorem dX5_digest_219 : decode cX5_digest 219 = .ok (.lmul, 1) := by decide +kernel
theorem dX5_digest_220 : decode cX5_digest 220 = .ok (.aload_n 0, 1) := by decide +kernel
theorem dX5_digest_221 : decode cX5_digest 221 = .ok (.getfield 72, 3) := by decide +kernel
theorem dX5_digest_224 : decode cX5_digest 224 = .ok (.iload_n 3, 1) := by decide +kernel
theorem dX5_digest_225 : decode cX5_digest 225 = .ok (.iaload, 1) := by decide +kernel
theorem dX5_digest_226 : decode cX5_digest 226 = .ok (.bipush 64, 2) := by decide +kernel
theorem dX5_digest_228 : decode cX5_digest 228 = .ok (.idiv, 1) := by decide +kernel
theorem dX5_digest_229 : decode cX5_digest 229 = .ok (.i2l, 1) := by decide +kernel
theorem dX5_digest_230 : decode cX5_digest 230 = .ok (.ladd, 1) := by decide +kernel
theorem dX5_digest_231 : decode cX5_digest 231 = .ok (.lmul, 1) := by decide +kernel
theorem dX5_digest_232 : decode cX5_digest 232 = .ok (.aload_n 0, 1) := by decide +kernel
theorem dX5_digest_233 : decode cX5_digest 233 = .ok (.getfield 72, 3) := by decide +kernel
theorem dX5_digest_236 : decode cX5_digest 236 = .ok (.iload_n 3, 1) := by decide +kernel
theorem dX5_digest_237 : decode cX5_digest 237 = .ok (.iaload, 1) := by decide +kernel
theorem dX5_digest_238 : decode cX5_digest 238 = .ok (.bipush 8, 2) := by decide +kernel
theorem dX5_digest_240 : decode cX5_digest 240 = .ok (.idiv, 1) := by decide +kernel
theorem dX5_digest_241 : decode cX5_digest 241 = .ok (.bipush 8, 2) := by decide +kernel
theorem dX5_digest_243 : decode cX5_digest 243 = .ok (.irem, 1) := by decide +kernel
theorem dX5_digest_244 : decode cX5_digest 244 = .ok (.i2l, 1) := by decide +kernel
theorem dX5_digest_245 : decode cX5_digest 245 = .ok (.ladd, 1) := by decide +kernel
theorem dX5_digest_246 : decode cX5_digest 246 = .ok (.lmul, 1) := by decide +kernel
theorem dX5_digest_247 : decode cX5_digest 247 = .ok (.aload_n 0, 1) := by decide +kernel
theorem dX5_digest_248 : decode cX5_digest 248 = .ok (.getfield 72, 3) := by decide +kernel
theorem dX5_digest_251 : decode cX5_digest 251 = .ok (.iload_n 3, 1) := by decide +kernel
theorem dX5_digest_252 : decode cX5_digest 252 = .ok (.iaload, 1) := by decide +kernel
theorem dX5_digest_253 : decode cX5_digest 253 = .ok (.bipush 8, 2) := by decide +kernel
theorem dX5_digest_255 : decode cX5_digest 255 = .ok (.irem, 1) := by decide +kernel
theorem dX5_digest_256 : decode cX5_digest 256 = .ok (.i2l, 1) := by decide +kernel
theorem dX5_digest_257 : decode cX5_digest 257 = .ok (.ladd, 1) := by decide +kernel
theorem dX5_digest_258 : decode cX5_digest 258 = .ok (.lstore_n 1, 1) := by decide +kernel
theorem dX5_digest_259 : decode cX5_digest 259 = .ok (.iinc 3 1, 3) := by decide +kernel
theorem dX5_digest_262 : decode cX5_digest 262 = .ok (.goto (-61), 3) := by decide +kernel
theorem dX5_digest_265 : decode cX5_digest 265 = .ok (.lload_n 1, 1) := by decide +kernel
theorem dX5_digest_266 : decode cX5_digest 266 = .ok (.lreturn, 1) := by decide +kernel
end
section
/-- arrays in a family: place k of array i becomes x -/
def ups (a : Nat → Nat → Int32) (i k : Nat) (x : Int32) : Nat → Nat → Int32 := fun j => bif Nat.beq j i then upd (a i) k x else a j
/-- array i becomes f -/
def upa (a : Nat → Nat → Int32) (i : Nat) (f : Nat → Int32) : Nat → Nat → Int32 := fun j => bif Nat.beq j i then f else a j
/-- scalar i becomes x -/
def ug (g : Nat → Int32) (i : Nat) (x : Int32) : Nat → Int32 := fun j => bif Nat.beq j i then x else g j
def cw (E : En) (ad : Nat → Nat) (fl : Nat) (g : Nat → Int32) (a : Nat → Nat → Int32) (v : Nat → Int64) (tl : va_W) : va_W :=
  (ad 0, .inl (E.2.2.1, fl, .inl (a 13))) ::
  (ad 1, .inl (E.2.2.1, 5, .inl (a 12))) ::
  (ad 2, .inl (E.2.2.1, 2048, .inl (a 11))) ::
  (ad 3, .inl (E.2.2.2, 8000, .inr (.inl v))) ::
  (ad 4, .inr (2, [.ref (ad 3), .ref (ad 2), .ref (ad 1), .int (g 10), .int (g 11), .int (g 12), .int (g 13), .int (g 14), .ref (ad 0), .int (g 15), .int (g 16)])) ::
  (ad 5, .inl (E.2.2.1, 8, .inl (a 10))) ::
  (ad 6, .inl (E.2.2.1, 8, .inl (a 9))) ::
  (ad 7, .inr (0, [.ref (ad 18), .int (g 9), .ref (ad 6), .ref (ad 5)])) ::
  (ad 8, .inl (E.2.2.1, 256, .inl (a 8))) ::
  (ad 9, .inl (E.2.2.1, 64, .inl (a 7))) ::
  (ad 10, .inl (E.2.2.1, 24, .inl (a 6))) ::
  (ad 11, .inl (E.2.2.1, 8, .inl (a 5))) ::
  (ad 12, .inl (E.2.2.1, 96, .inl (a 4))) ::
  (ad 13, .inr (3, [.ref (ad 18), .int (g 4), .int (g 5), .int (g 6), .int (g 7), .int (g 8), .ref (ad 12), .ref (ad 11), .ref (ad 10), .ref (ad 9), .ref (ad 8)])) ::
  (ad 14, .inl (E.2.2.1, 8, .inl (a 3))) ::
  (ad 15, .inl (E.2.2.1, 192, .inl (a 2))) ::
  (ad 16, .inl (E.2.2.1, 192, .inl (a 1))) ::
  (ad 17, .inl (E.2.2.1, 192, .inl (a 0))) ::
  (ad 18, .inr (1, [.int (g 0), .int (g 1), .int (g 2), .int (g 3), .ref (ad 17), .ref (ad 16), .ref (ad 15), .ref (ad 14)])) ::
  (ad 19, .inr (4, [.ref (ad 18), .ref (ad 13), .ref (ad 7), .ref (ad 4)])) ::
  tl
def mw (E : En) (ad : Nat → Nat) (g : Nat → Int32) (a : Nat → Nat → Int32) (v : Nat → Int64) (tl : va_W) : va_W :=
  (ad 0, .inl (E.2.2.1, 8000, .inl (a 13))) ::
  (ad 1, .inl (E.2.2.1, 16384, .inl (a 15))) ::
  (ad 2, .inl (E.2.2.1, 8000, .inl (a 14))) ::
  (ad 3, .inl (E.2.2.1, 8000, .inl (a 12))) ::
  (ad 4, .inl (E.2.2.2, 8000, .inr (.inl v))) ::
  (ad 5, .inl (E.2.2.1, 9, .inl (a 11))) ::
  (ad 6, .inl (E.2.2.1, 8, .inl (a 8))) ::
  (ad 7, .inl (E.2.2.1, 8, .inl (a 6))) ::
  (ad 8, .inl (E.2.2.1, 64, .inl (a 7))) ::
  (ad 9, .inl (E.2.2.1, 8, .inl (a 10))) ::
  (ad 10, .inl (E.2.2.1, 8, .inl (a 9))) ::
  (ad 11, .inl (E.2.2.1, 8, .inl (a 5))) ::
  (ad 12, .inl (E.2.2.1, 96, .inl (a 4))) ::
  (ad 13, .inl (E.2.2.1, 8, .inl (a 3))) ::
  (ad 14, .inl (E.2.2.1, 192, .inl (a 2))) ::
  (ad 15, .inl (E.2.2.1, 192, .inl (a 1))) ::
  (ad 16, .inl (E.2.2.1, 192, .inl (a 0))) ::
  (ad 17, .inr (5, [.int (g 0), .int (g 1), .int (g 2), .ref (ad 16), .ref (ad 15), .ref (ad 14), .ref (ad 13), .int (g 3), .int (g 4), .int (g 5), .int (g 6), .int (g 8), .int (g 9), .ref (ad 12), .ref (ad 11), .ref (ad 10), .ref (ad 9), .ref (ad 8), .ref (ad 7), .ref (ad 6), .ref (ad 5), .ref (ad 4), .ref (ad 3), .ref (ad 2), .ref (ad 1), .int (g 14), .int (g 15), .ref (ad 0), .int (g 16)])) ::
  tl
end
section
section MG2
variable {E : En} {X : Fx} {ws ws' : va_W} {k n pc : Nat} {lv lv' : List (Nat × Value)} {st rest : List Value}
theorem mg_ws (h : ws = ws') (kk : GG E X ws' k n pc lv st) : GG E X ws k n pc lv st := h ▸ kk
theorem mg_lve (h : lv = lv') (kk : GG E X ws k n pc lv' st) : GG E X ws k n pc lv st := h ▸ kk
theorem mg_tos {u w : Value} (h : u = w) (kk : GG E X ws k n pc lv (w :: rest)) : GG E X ws k n pc lv (u :: rest) := h ▸ kk
theorem cell_eq (cA : ClassId) {N : Nat} {f f' : Nat → Int32} (h : ∀ j, j < N → f j = f' j) : vp_cell cA (N, .inl f) = vp_cell cA (N, .inl f') := by
  have e : (Array.ofFn (n := N) fun j : Fin N => Value.int (f j.val)) = Array.ofFn (n := N) fun j : Fin N => Value.int (f' j.val) := by
    congr 1
    funext j
    rw [h j.val j.isLt]
  exact congrArg (fun z => ({ cls := cA, slots := z, vm := .none } : Cell)) e
/-- an array's contents count within its length alone -/
theorem mg_arr (q0 : Nat) {a N : Nat} {cA : ClassId} {f f' : Nat → Int32} (ha : ws[q0]? = some (a, .inl (cA, N, .inl f))) (hf : ∀ j, j < N → f j = f' j) (hw : ws.set q0 (a, .inl (cA, N, .inl f')) = ws') (kk : GG E X ws' k n pc lv st) : GG E X ws k n pc lv st := by
  obtain ⟨p, e, R, s, m, args, below, meth, c, A, Q⟩ := X
  intro H locs ls hP hD hS hl
  subst hw
  have hat : va_at E.2.1 vwCl (a, .inl (cA, N, .inl f)) H := hP q0 _ ha
  have hat2 : va_at E.2.1 vwCl (a, .inl (cA, N, .inl f')) H := by
    show H[a]? = some (vp_cell cA (N, .inl f'))
    rw [← cell_eq cA hf]
    exact hat
  exact kk H locs ls (hP.set hD ha hat2 (fun _ _ => rfl)) (hD.set ha) hS hl
/-- two parts of a world change places -/
theorem mg_swap {w1 w2 : va_W} (kk : GG E X (w2 ++ w1) k n pc lv st) : GG E X (w1 ++ w2) k n pc lv st := by
  obtain ⟨p, e, R, s, m, args, below, meth, c, A, Q⟩ := X
  intro H locs ls hP hD hS hl
  have h1 : va_P E.2.1 vwCl (([] ++ w1) ++ w2) H := hP
  have h2 : va_D A (([] ++ w1) ++ w2) := hD
  exact kk H locs ls h1.swap h2.swap hS hl
end MG2
theorem mg_mmin {E : En} {X : Fx} {cc : ByteArray} {nL : Nat} {own : String} {ret : Option FieldType} {fr lo rc rs : Nat} {ws : va_W} {k n pc : Nat} {lv : List (Nat × Value)} {rest : List Value} {idx : Nat} (C : Cx E X cc nL own ret fr lo rc rs) {x y : Int32} (hdg : decode cc pc = .ok (.invokestatic idx, 3))
    (hw : Cond.methodLink own idx Lib.Math.min.name ∈ gtbl ∧ Cond.static Lib.Math.min.name ∈ gtbl ∧ Cond.initialized "java/lang/Math" ∈ gtbl ∧ Cond.code Lib.Math.min.name Lib.Math.min.code 2 (some .int) ∈ gtbl)
    (hrm : (Nat.ble 1 fr && Nat.ble ((rest.map fun v => v.category).sum + 13) lo && Nat.ble k rc && Nat.ble n rs) = true) (kk : GG E X ws k n (pc + 3) lv (.int (if y < x then y else x) :: rest)) : GG E X ws k n pc lv (.int y :: .int x :: rest) := by
  obtain ⟨p, e, R, s, m, args, below, meth, c, A, Q⟩ := X
  obtain ⟨hx, hb, hml, hown, hts, hlk, hrt, hK, hnw, hA, hR⟩ := C
  intro H locs ls hP hD hS hl
  simp only [Bool.and_eq_true] at hrm
  exact va_mmin hx hb hl.1.symm hown (hts _ hw.1) (hts _ hw.2.1) (hts _ hw.2.2.1) (hts _ hw.2.2.2) (by rw [hR]; exact Nat.le_of_ble_eq_true hrm.1.1.1) (by rw [hR]; exact Nat.le_of_ble_eq_true hrm.1.1.2) (by rw [hR]; exact Nat.le_of_ble_eq_true hrm.1.2) (by rw [hR]; exact Nat.le_of_ble_eq_true hrm.2) hdg (kk H locs ls hP hD hS hl)
theorem mg_mabs {E : En} {X : Fx} {cc : ByteArray} {nL : Nat} {own : String} {ret : Option FieldType} {fr lo rc rs : Nat} {ws : va_W} {k n pc : Nat} {lv : List (Nat × Value)} {rest : List Value} {idx : Nat} (C : Cx E X cc nL own ret fr lo rc rs) {x : Int32} (hdg : decode cc pc = .ok (.invokestatic idx, 3))
    (hw : Cond.methodLink own idx Lib.Math.abs.name ∈ gtbl ∧ Cond.static Lib.Math.abs.name ∈ gtbl ∧ Cond.initialized "java/lang/Math" ∈ gtbl ∧ Cond.code Lib.Math.abs.name Lib.Math.abs.code 1 (some .int) ∈ gtbl)
    (hrm : (Nat.ble 1 fr && Nat.ble ((rest.map fun v => v.category).sum + 13) lo && Nat.ble k rc && Nat.ble n rs) = true) (kk : GG E X ws k n (pc + 3) lv (.int (if 0 ≤ x then x else 0 - x) :: rest)) : GG E X ws k n pc lv (.int x :: rest) := by
  obtain ⟨p, e, R, s, m, args, below, meth, c, A, Q⟩ := X
  obtain ⟨hx, hb, hml, hown, hts, hlk, hrt, hK, hnw, hA, hR⟩ := C
  intro H locs ls hP hD hS hl
  simp only [Bool.and_eq_true] at hrm
  exact va_mabs hx hb hl.1.symm hown (hts _ hw.1) (hts _ hw.2.1) (hts _ hw.2.2.1) (hts _ hw.2.2.2) (by rw [hR]; exact Nat.le_of_ble_eq_true hrm.1.1.1) (by rw [hR]; exact Nat.le_of_ble_eq_true hrm.1.1.2) (by rw [hR]; exact Nat.le_of_ble_eq_true hrm.1.2) (by rw [hR]; exact Nat.le_of_ble_eq_true hrm.2) hdg (kk H locs ls hP hD hS hl)

def wi (x p q : Int32) : Int32 := if x < p then 0 else if q < x then 0 else 1
def mn (x y : Int32) : Int32 := if y < x then y else x
def gF : Nat → Int32 := fun i => bif Nat.beq i 16 then -1 else bif Nat.beq i 3 then 16 else bif Nat.blt i 3 then 1 else 0
def aF : Nat → Nat → Int32 := fun i _ => bif Nat.beq i 1 then -1 else 0
def vF : Nat → Int64 := fun _ => 0
def gw (E : En) (ad : Nat → Nat) (g : Nat → Int32) (a : Nat → Nat → Int32) (tl : va_W) : va_W :=
  (ad 14, .inl (E.2.2.1, 8, .inl (a 3))) ::
  (ad 15, .inl (E.2.2.1, 192, .inl (a 2))) ::
  (ad 16, .inl (E.2.2.1, 192, .inl (a 1))) ::
  (ad 17, .inl (E.2.2.1, 192, .inl (a 0))) ::
  (ad 18, .inr (1, [.int (g 0), .int (g 1), .int (g 2), .int (g 3), .ref (ad 17), .ref (ad 16), .ref (ad 15), .ref (ad 14)])) ::
  tl
theorem zx {E : En} {ad : Nat → Nat} {fl : Nat} {g : Nat → Int32} {a : Nat → Nat → Int32} {v : Nat → Int64} {tl : va_W} : ∃ L : va_W, cw E ad fl g a v tl = L ++ tl := ⟨cw E ad fl g a v [], rfl⟩
set_option maxHeartbeats 400000 in
set_option maxRecDepth 100000 in
theorem ct_X4_within (E : En) (ws : va_W) (x p q : Int32)  : Ct E mX4_within 0 0 0 [.int x, .int p, .int q] ws (fun o w => o = some (.int (wi x p q)) ∧ w = ws) := by
  refine Ct.of (by decide) (Nat.le_of_ble_eq_true rfl) (fun X C hQ hin => ?_)
  have C : Cx E X cX4_within 3 RX4 (some .boolean) 0 0 0 0 := C
  refine mg_iload_n C dX4_within_0 rfl ?_
  refine mg_iload_n C dX4_within_1 rfl ?_
  refine mg_icmp_lt C 14 dX4_within_2 (by decide) (fun h2 => ?_) (fun h2 => ?_)
  · refine mg_iconst (v := 0) C dX4_within_14 (by decide) ?_
    exact mg_zret C hQ (rfl) dX4_within_15 (⟨by rw [wi, if_pos h2] <;> first | rfl | decide, rfl⟩)
  · refine mg_iload_n C dX4_within_5 rfl ?_
    refine mg_iload_n C dX4_within_6 rfl ?_
    refine mg_icmp_gt C 14 dX4_within_7 (by decide) (fun h7 => ?_) (fun h7 => ?_)
    · refine mg_iconst (v := 0) C dX4_within_14 (by decide) ?_
      exact mg_zret C hQ (rfl) dX4_within_15 (⟨by rw [wi, if_neg h2, if_pos h7] <;> first | rfl | decide, rfl⟩)
    · refine mg_iconst (v := 1) C dX4_within_10 (by decide) ?_
      refine mg_goto C 15 dX4_within_11 (by decide) ?_
      exact mg_zret C hQ (rfl) dX4_within_15 (⟨by rw [wi, if_neg h2, if_neg h7] <;> first | rfl | decide, rfl⟩)
set_option maxHeartbeats 400000 in
set_option maxRecDepth 100000 in
theorem ct_X5_in (E : En) (ws : va_W) (x p q : Int32)  : Ct E mX5_in 0 0 0 [.int x, .int p, .int q] ws (fun o w => o = some (.int (wi x p q)) ∧ w = ws) := by
  refine Ct.of (by decide) (Nat.le_of_ble_eq_true rfl) (fun X C hQ hin => ?_)
  have C : Cx E X cX5_in 3 RX5 (some .boolean) 0 0 0 0 := C
  refine mg_iload_n C dX5_in_0 rfl ?_
  refine mg_iload_n C dX5_in_1 rfl ?_
  refine mg_icmp_lt C 14 dX5_in_2 (by decide) (fun h2 => ?_) (fun h2 => ?_)
  · refine mg_iconst (v := 0) C dX5_in_14 (by decide) ?_
    exact mg_zret C hQ (rfl) dX5_in_15 (⟨by rw [wi, if_pos h2] <;> first | rfl | decide, rfl⟩)
  · refine mg_iload_n C dX5_in_5 rfl ?_
    refine mg_iload_n C dX5_in_6 rfl ?_
    refine mg_icmp_gt C 14 dX5_in_7 (by decide) (fun h7 => ?_) (fun h7 => ?_)
    · refine mg_iconst (v := 0) C dX5_in_14 (by decide) ?_
      exact mg_zret C hQ (rfl) dX5_in_15 (⟨by rw [wi, if_neg h2, if_pos h7] <;> first | rfl | decide, rfl⟩)
    · refine mg_iconst (v := 1) C dX5_in_10 (by decide) ?_
      refine mg_goto C 15 dX5_in_11 (by decide) ?_
      exact mg_zret C hQ (rfl) dX5_in_15 (⟨by rw [wi, if_neg h2, if_neg h7] <;> first | rfl | decide, rfl⟩)
theorem oX1_59m : Cond.methodLink RX1 59 Lib.Math.min.name ∈ gtbl ∧ Cond.static Lib.Math.min.name ∈ gtbl ∧ Cond.initialized "java/lang/Math" ∈ gtbl ∧ Cond.code Lib.Math.min.name Lib.Math.min.code 2 (some .int) ∈ gtbl := ⟨gt_of ⟨List.mem_of_getElem? (i := 335) (by decide +kernel), by decide +kernel⟩, gt_of ⟨List.mem_of_getElem? (i := 336) (by decide +kernel), by decide +kernel⟩, gt_of ⟨List.mem_of_getElem? (i := 74) (by decide +kernel), by decide +kernel⟩, gt_of ⟨List.mem_of_getElem? (i := 337) (by decide +kernel), by decide +kernel⟩⟩
theorem oX3_70m : Cond.methodLink RX3 70 Lib.Math.abs.name ∈ gtbl ∧ Cond.static Lib.Math.abs.name ∈ gtbl ∧ Cond.initialized "java/lang/Math" ∈ gtbl ∧ Cond.code Lib.Math.abs.name Lib.Math.abs.code 1 (some .int) ∈ gtbl := ⟨gt_of ⟨List.mem_of_getElem? (i := 383) (by decide +kernel), by decide +kernel⟩, gt_of ⟨List.mem_of_getElem? (i := 384) (by decide +kernel), by decide +kernel⟩, gt_of ⟨List.mem_of_getElem? (i := 74) (by decide +kernel), by decide +kernel⟩, gt_of ⟨List.mem_of_getElem? (i := 385) (by decide +kernel), by decide +kernel⟩⟩
theorem oX3_138m : Cond.methodLink RX3 138 Lib.Math.min.name ∈ gtbl ∧ Cond.static Lib.Math.min.name ∈ gtbl ∧ Cond.initialized "java/lang/Math" ∈ gtbl ∧ Cond.code Lib.Math.min.name Lib.Math.min.code 2 (some .int) ∈ gtbl := ⟨gt_of ⟨List.mem_of_getElem? (i := 455) (by decide +kernel), by decide +kernel⟩, gt_of ⟨List.mem_of_getElem? (i := 336) (by decide +kernel), by decide +kernel⟩, gt_of ⟨List.mem_of_getElem? (i := 74) (by decide +kernel), by decide +kernel⟩, gt_of ⟨List.mem_of_getElem? (i := 337) (by decide +kernel), by decide +kernel⟩⟩
set_option maxHeartbeats 400000 in
set_option maxRecDepth 100000 in
theorem ct_X4_fullTable (E : En) (ws : va_W) (k : Int32)  : Ct E mX4_fullTable 0 0 0 [.int k] ws (fun o w => o = some (.int ((1 : Int32) <<< ((1 : Int32) <<< (k &&& 31) &&& 31) - 1)) ∧ w = ws) := by
  refine Ct.of (by decide) (Nat.le_of_ble_eq_true rfl) (fun X C hQ hin => ?_)
  have C : Cx E X cX4_fullTable 1 RX4 (some .int) 0 0 0 0 := C
  refine mg_iconst (v := 1) C dX4_fullTable_0 (by decide) ?_
  refine mg_iconst (v := 1) C dX4_fullTable_1 (by decide) ?_
  refine mg_iload_n C dX4_fullTable_2 rfl ?_
  refine mg_ishl C dX4_fullTable_3 ?_
  refine mg_ishl C dX4_fullTable_4 ?_
  refine mg_iconst (v := 1) C dX4_fullTable_5 (by decide) ?_
  refine mg_isub C dX4_fullTable_6 ?_
  exact mg_iret C hQ dX4_fullTable_7 (⟨rfl, rfl⟩)
set_option maxHeartbeats 400000 in
set_option maxRecDepth 100000 in
theorem ct_X4_packAct (E : En) (ws : va_W) (i j c : Int32)  : Ct E mX4_packAct 0 0 0 [.int i, .int j, .int c] ws (fun o w => o = some (.int (i <<< ((6 : Int32) &&& 31) ||| j <<< ((3 : Int32) &&& 31) ||| c)) ∧ w = ws) := by
  refine Ct.of (by decide) (Nat.le_of_ble_eq_true rfl) (fun X C hQ hin => ?_)
  have C : Cx E X cX4_packAct 3 RX4 (some .int) 0 0 0 0 := C
  refine mg_iload_n C dX4_packAct_0 rfl ?_
  refine mg_bipush (v := 6) C dX4_packAct_1 (by decide) ?_
  refine mg_ishl C dX4_packAct_3 ?_
  refine mg_iload_n C dX4_packAct_4 rfl ?_
  refine mg_iconst (v := 3) C dX4_packAct_5 (by decide) ?_
  refine mg_ishl C dX4_packAct_6 ?_
  refine mg_ior C dX4_packAct_7 ?_
  refine mg_iload_n C dX4_packAct_8 rfl ?_
  refine mg_ior C dX4_packAct_9 ?_
  exact mg_iret C hQ dX4_packAct_10 (⟨rfl, rfl⟩)
set_option maxHeartbeats 400000 in
set_option maxRecDepth 100000 in
theorem ct_X4_actPart (E : En) (ws : va_W) (z u : Int32)  : Ct E mX4_actPart 0 0 0 [.int z, .int u] ws (fun o w => o = some (.int (z >>> ((6 - 3 * u : Int32) &&& 31) &&& 7)) ∧ w = ws) := by
  refine Ct.of (by decide) (Nat.le_of_ble_eq_true rfl) (fun X C hQ hin => ?_)
  have C : Cx E X cX4_actPart 2 RX4 (some .int) 0 0 0 0 := C
  refine mg_iload_n C dX4_actPart_0 rfl ?_
  refine mg_bipush (v := 6) C dX4_actPart_1 (by decide) ?_
  refine mg_iconst (v := 3) C dX4_actPart_3 (by decide) ?_
  refine mg_iload_n C dX4_actPart_4 rfl ?_
  refine mg_imul C dX4_actPart_5 ?_
  refine mg_isub C dX4_actPart_6 ?_
  refine mg_ishr C dX4_actPart_7 ?_
  refine mg_bipush (v := 7) C dX4_actPart_8 (by decide) ?_
  refine mg_iand C dX4_actPart_10 ?_
  exact mg_iret C hQ dX4_actPart_11 (⟨rfl, rfl⟩)
set_option maxHeartbeats 400000 in
set_option maxRecDepth 100000 in
theorem ct_X4_packVisit (E : En) (ws : va_W) (z f c : Int32)  : Ct E mX4_packVisit 0 0 0 [.int z, .int f, .int c] ws (fun o w => o = some (.long (f.toInt64 <<< ((32 : Int32).toInt64 &&& 63) ||| (c <<< ((16 : Int32) &&& 31)).toInt64 ||| z.toInt64)) ∧ w = ws) := by
  refine Ct.of (by decide) (Nat.le_of_ble_eq_true rfl) (fun X C hQ hin => ?_)
  have C : Cx E X cX4_packVisit 3 RX4 (some .long) 0 0 0 0 := C
  refine mg_iload_n C dX4_packVisit_0 rfl ?_
  refine mg_i2l C dX4_packVisit_1 ?_
  refine mg_bipush (v := 32) C dX4_packVisit_2 (by decide) ?_
  refine mg_lshl C dX4_packVisit_4 ?_
  refine mg_iload_n C dX4_packVisit_5 rfl ?_
  refine mg_bipush (v := 16) C dX4_packVisit_6 (by decide) ?_
  refine mg_ishl C dX4_packVisit_8 ?_
  refine mg_i2l C dX4_packVisit_9 ?_
  refine mg_lor C dX4_packVisit_10 ?_
  refine mg_iload_n C dX4_packVisit_11 rfl ?_
  refine mg_i2l C dX4_packVisit_12 ?_
  refine mg_lor C dX4_packVisit_13 ?_
  exact mg_lret C hQ dX4_packVisit_14 (⟨rfl, rfl⟩)
set_option maxHeartbeats 400000 in
set_option maxRecDepth 100000 in
theorem ct_X4_stateOf (E : En) (ws : va_W) (z : Int64)  : Ct E mX4_stateOf 0 0 0 [.long z] ws (fun o w => o = some (.int (z.toInt32 &&& 65535)) ∧ w = ws) := by
  refine Ct.of (by decide) (Nat.le_of_ble_eq_true rfl) (fun X C hQ hin => ?_)
  have C : Cx E X cX4_stateOf 2 RX4 (some .int) 0 0 0 0 := C
  refine mg_lload_n C dX4_stateOf_0 rfl ?_
  refine mg_l2i C dX4_stateOf_1 ?_
  refine mg_ldc C dX4_stateOf_2 kX4_201 ?_
  refine mg_iand C dX4_stateOf_4 ?_
  exact mg_iret C hQ dX4_stateOf_5 (⟨rfl, rfl⟩)
set_option maxHeartbeats 400000 in
set_option maxRecDepth 100000 in
theorem ct_X4_cameBy (E : En) (ws : va_W) (z : Int64)  : Ct E mX4_cameBy 0 0 0 [.long z] ws (fun o w => o = some (.int (z.toInt32 >>> ((16 : Int32) &&& 31))) ∧ w = ws) := by
  refine Ct.of (by decide) (Nat.le_of_ble_eq_true rfl) (fun X C hQ hin => ?_)
  have C : Cx E X cX4_cameBy 2 RX4 (some .int) 0 0 0 0 := C
  refine mg_lload_n C dX4_cameBy_0 rfl ?_
  refine mg_l2i C dX4_cameBy_1 ?_
  refine mg_bipush (v := 16) C dX4_cameBy_2 (by decide) ?_
  refine mg_ishr C dX4_cameBy_4 ?_
  exact mg_iret C hQ dX4_cameBy_5 (⟨rfl, rfl⟩)
set_option maxHeartbeats 400000 in
set_option maxRecDepth 100000 in
theorem ct_X4_cameFrom (E : En) (ws : va_W) (z : Int64)  : Ct E mX4_cameFrom 0 0 0 [.long z] ws (fun o w => o = some (.int ((z >>> ((32 : Int32).toInt64 &&& 63)).toInt32)) ∧ w = ws) := by
  refine Ct.of (by decide) (Nat.le_of_ble_eq_true rfl) (fun X C hQ hin => ?_)
  have C : Cx E X cX4_cameFrom 2 RX4 (some .int) 0 0 0 0 := C
  refine mg_lload_n C dX4_cameFrom_0 rfl ?_
  refine mg_bipush (v := 32) C dX4_cameFrom_1 (by decide) ?_
  refine mg_lshr C dX4_cameFrom_3 ?_
  refine mg_l2i C dX4_cameFrom_4 ?_
  exact mg_iret C hQ dX4_cameFrom_5 (⟨rfl, rfl⟩)
set_option maxHeartbeats 400000 in
set_option maxRecDepth 100000 in
theorem ct_J7_fill_53178 (E : En) (ws : va_W) (q0 h N : Nat) (f : Nat → Int32) (ha : ws[q0]? = some (h, .inl (E.2.2.1, N, .inl f))) (hN : Nat.ble N 100000 = true) (x : Int32) : Ct E mJ7_fill_53178 0 0 0 [.ref h, .int x] ws (fun o w => o = none ∧ w = ws.set q0 (h, .inl (E.2.2.1, N, .inl (fun _ => x)))) := by
  refine Ct.of (by decide) (Nat.le_of_ble_eq_true rfl) (fun X C hQ hin => ?_)
  have C : Cx E X cJ7_fill_53178 4 RJ7 none 0 0 0 0 := C
  have hN2 : N ≤ 100000 := Nat.le_of_ble_eq_true hN
  have loop : ∀ (m i : Nat) (f' : Nat → Int32) (ws' : va_W), i ≤ N → N ≤ i + m → ws'[q0]? = some (h, .inl (E.2.2.1, N, .inl f')) → ws'.set q0 (h, .inl (E.2.2.1, N, .inl (fun _ => x))) = ws.set q0 (h, .inl (E.2.2.1, N, .inl (fun _ => x))) → (∀ j, j < i → f' j = x) → GG E X ws' 0 0 5 [(0, .ref h), (1, .int x), (2, .int (nI i)), (3, .int (nI N))] [] := by
    intro m
    induction m with
    | zero =>
      intro i f' ws' hi hm hw hse hx
      have hiN : i = N := by omega
      subst hiN
      refine mg_iload_n C dJ7_fill_53178_5 rfl ?_
      refine mg_iload_n C dJ7_fill_53178_6 rfl ?_
      refine mg_icmp_ge C 20 dJ7_fill_53178_7 (by decide) (fun h7 => ?_) (fun h7 => absurd (nI_le (Nat.le_refl i) (by omega)) h7)
      refine mg_arr q0 hw (f' := fun _ => x) (fun j hj => hx j hj) rfl ?_
      exact mg_vret C hQ dJ7_fill_53178_20 ⟨rfl, hse⟩
    | succ m ih =>
      intro i f' ws' hi hm hw hse hx
      refine mg_iload_n C dJ7_fill_53178_5 rfl ?_
      refine mg_iload_n C dJ7_fill_53178_6 rfl ?_
      refine mg_icmp_ge C 20 dJ7_fill_53178_7 (by decide) (fun h7 => ?_) (fun h7 => ?_)
      · have hiN : i = N := by
          rcases Nat.lt_or_ge i N with q | q
          · exact absurd h7 (nI_ge q (by omega))
          · omega
        subst hiN
        refine mg_arr q0 hw (f' := fun _ => x) (fun j hj => hx j hj) rfl ?_
        exact mg_vret C hQ dJ7_fill_53178_20 ⟨rfl, hse⟩
      · have hiN : i < N := by
          rcases Nat.lt_or_ge i N with q | q
          · exact q
          · exact absurd (nI_le q (by omega)) h7
        have hlt : q0 < ws'.length := (List.getElem?_eq_some_iff.mp hw).1
        refine mg_aload_n C dJ7_fill_53178_10 rfl ?_
        refine mg_iload_n C dJ7_fill_53178_11 rfl ?_
        refine mg_iload_n C dJ7_fill_53178_12 rfl ?_
        refine mg_iast C q0 hw (vp_in_nI hiN (by omega)) dJ7_fill_53178_13 rfl ?_
        refine mg_iinc C dJ7_fill_53178_14 rfl rfl ?_
        refine mg_goto C 5 dJ7_fill_53178_17 (by decide) ?_
        refine mg_lve (lv' := [(0, .ref h), (1, .int x), (2, .int (nI (i + 1))), (3, .int (nI N))]) ?_ ?_
        · rw [nI_succ]; rfl
        · refine ih (i + 1) (upd f' (nI i).toNatClampNeg x) _ hiN (by omega) (by simp [hlt]) (by rw [List.set_set]; exact hse) (fun j hj => ?_)
          rw [nI_clamp (by omega)]
          by_cases hji : j = i
          · rw [hji]; exact pk_us
          · rw [pk_un hji]; exact hx j (by omega)
  show GG E X ws 0 0 0 [(0, .ref h), (1, .int x)] []
  refine mg_iconst (v := 0) C dJ7_fill_53178_0 (by decide) ?_
  refine mg_istore_n C dJ7_fill_53178_1 rfl ?_
  refine mg_aload_n C dJ7_fill_53178_2 rfl ?_
  refine mg_alen C q0 ha rfl dJ7_fill_53178_3 ?_
  refine mg_istore_n C dJ7_fill_53178_4 rfl ?_
  exact loop N 0 f ws (Nat.zero_le _) (by omega) ha rfl (fun j hj => absurd hj (Nat.not_lt_zero j))
def hc (g : Nat → Int32) (r c : Int32) : Int32 := if wi r 0 (g 0 - 1) = 0 then 0 else if wi c 0 (g 1 - 1) = 0 then 0 else 1
def sk (a : Nat → Nat → Int32) (z : Int32) : Int32 := if a 1 z.toNatClampNeg = -1 then 0 else 1
def sa (a : Nat → Nat → Int32) (z y : Int32) : Int32 := if sk a z = 0 then 0 else if a 1 z.toNatClampNeg = y then 0 else 1
def pu (a : Nat → Nat → Int32) (z y : Int32) : Nat → Nat → Int32 := if sk a z = 0 then ups (ups a 2 z.toNatClampNeg 0) 0 z.toNatClampNeg y else ups a 2 z.toNatClampNeg 0
def ho (a : Nat → Nat → Int32) (z y : Int32) : Nat → Nat → Int32 := if y = -1 then ups a 1 z.toNatClampNeg y else ups (ups a 1 z.toNatClampNeg y) 0 z.toNatClampNeg y
def tc (a : Nat → Nat → Int32) (z u : Int32) : Int32 := if u = 0 then a 0 z.toNatClampNeg else if u = 1 then a 1 z.toNatClampNeg else a 2 z.toNatClampNeg
def ex (g : Nat → Int32) : Int32 := if g 4 ≤ 0 then 0 else 1
set_option maxHeartbeats 400000 in
set_option maxRecDepth 100000 in
theorem ct_X1_hasCell (E : En) (ad : Nat → Nat) (fl : Nat) (g : Nat → Int32) (a : Nat → Nat → Int32) (v : Nat → Int64) (tl : va_W) (r c : Int32)  : Ct E mX1_hasCell 1 0 0 [.ref (ad 18), .int r, .int c] (cw E ad fl g a v tl) (fun o w => o = some (.int (hc g r c)) ∧ w = cw E ad fl g a v tl) := by
  refine Ct.of (by decide) (Nat.le_of_ble_eq_true rfl) (fun X C hQ hin => ?_)
  have C : Cx E X cX1_hasCell 3 RX1 (some .boolean) 1 40 0 0 := C
  refine mg_iload_n C dX1_hasCell_0 rfl ?_
  refine mg_iconst (v := 0) C dX1_hasCell_1 (by decide) ?_
  refine mg_aload_n C dX1_hasCell_2 rfl ?_
  refine mg_get C inG_X1 fX1_28 (ci := 1) rfl rfl 18 rfl rfl dX1_hasCell_3 ?_
  refine mg_iconst (v := 1) C dX1_hasCell_6 (by decide) ?_
  refine mg_isub C dX1_hasCell_7 ?_
  refine mg_callSN C (ct_X4_within E _ _ _ _) oX1_47 rfl rfl rfl dX1_hasCell_8 (fun o8 w8 z8 => ?_)
  obtain ⟨rfl, rfl⟩ := z8
  refine mg_v ?_
  refine mg_if_eq C 32 dX1_hasCell_11 (by decide) (fun h11 => ?_) (fun h11 => ?_)
  · refine mg_iconst (v := 0) C dX1_hasCell_32 (by decide) ?_
    exact mg_zret C hQ (rfl) dX1_hasCell_33 (⟨by rw [hc, if_pos h11] <;> first | rfl | decide, rfl⟩)
  · refine mg_iload_n C dX1_hasCell_14 rfl ?_
    refine mg_iconst (v := 0) C dX1_hasCell_15 (by decide) ?_
    refine mg_aload_n C dX1_hasCell_16 rfl ?_
    refine mg_get C inG_X1 fX1_32 (ci := 1) rfl rfl 18 rfl rfl dX1_hasCell_17 ?_
    refine mg_iconst (v := 1) C dX1_hasCell_20 (by decide) ?_
    refine mg_isub C dX1_hasCell_21 ?_
    refine mg_callSN C (ct_X4_within E _ _ _ _) oX1_47 rfl rfl rfl dX1_hasCell_22 (fun o22 w22 z22 => ?_)
    obtain ⟨rfl, rfl⟩ := z22
    refine mg_v ?_
    refine mg_if_eq C 32 dX1_hasCell_25 (by decide) (fun h25 => ?_) (fun h25 => ?_)
    · refine mg_iconst (v := 0) C dX1_hasCell_32 (by decide) ?_
      exact mg_zret C hQ (rfl) dX1_hasCell_33 (⟨by rw [hc, if_neg h11, if_pos h25] <;> first | rfl | decide, rfl⟩)
    · refine mg_iconst (v := 1) C dX1_hasCell_28 (by decide) ?_
      refine mg_goto C 33 dX1_hasCell_29 (by decide) ?_
      exact mg_zret C hQ (rfl) dX1_hasCell_33 (⟨by rw [hc, if_neg h11, if_neg h25] <;> first | rfl | decide, rfl⟩)
set_option maxHeartbeats 400000 in
set_option maxRecDepth 100000 in
theorem ct_X1_place (E : En) (ad : Nat → Nat) (fl : Nat) (g : Nat → Int32) (a : Nat → Nat → Int32) (v : Nat → Int64) (tl : va_W) (r c : Int32)  : Ct E mX1_place 0 0 0 [.ref (ad 18), .int r, .int c] (cw E ad fl g a v tl) (fun o w => o = some (.int (r * 24 + c)) ∧ w = cw E ad fl g a v tl) := by
  refine Ct.of (by decide) (Nat.le_of_ble_eq_true rfl) (fun X C hQ hin => ?_)
  have C : Cx E X cX1_place 3 RX1 (some .int) 0 0 0 0 := C
  refine mg_iload_n C dX1_place_0 rfl ?_
  refine mg_bipush (v := 24) C dX1_place_1 (by decide) ?_
  refine mg_imul C dX1_place_3 ?_
  refine mg_iload_n C dX1_place_4 rfl ?_
  refine mg_iadd C dX1_place_5 ?_
  exact mg_iret C hQ dX1_place_6 (⟨rfl, rfl⟩)
set_option maxHeartbeats 400000 in
set_option maxRecDepth 100000 in
theorem ct_X1_sticks (E : En) (ad : Nat → Nat) (fl : Nat) (g : Nat → Int32) (a : Nat → Nat → Int32) (v : Nat → Int64) (tl : va_W) (z : Int32) (hz : vp_in z 192) : Ct E mX1_sticks 0 0 0 [.ref (ad 18), .int z] (cw E ad fl g a v tl) (fun o w => o = some (.int (sk a z)) ∧ w = cw E ad fl g a v tl) := by
  refine Ct.of (by decide) (Nat.le_of_ble_eq_true rfl) (fun X C hQ hin => ?_)
  have C : Cx E X cX1_sticks 2 RX1 (some .boolean) 0 0 0 0 := C
  refine mg_aload_n C dX1_sticks_0 rfl ?_
  refine mg_get C inG_X1 fX1_15 (ci := 1) rfl rfl 18 rfl rfl dX1_sticks_1 ?_
  refine mg_iload_n C dX1_sticks_4 rfl ?_
  refine mg_iald C 16 rfl (hz) dX1_sticks_5 ?_
  refine mg_iconst (v := (-1)) C dX1_sticks_6 (by decide) ?_
  refine mg_icmp_eq C 14 dX1_sticks_7 (by decide) (fun h7 => ?_) (fun h7 => ?_)
  · refine mg_iconst (v := 0) C dX1_sticks_14 (by decide) ?_
    exact mg_zret C hQ (rfl) dX1_sticks_15 (⟨by rw [sk, if_pos h7] <;> first | rfl | decide, rfl⟩)
  · refine mg_iconst (v := 1) C dX1_sticks_10 (by decide) ?_
    refine mg_goto C 15 dX1_sticks_11 (by decide) ?_
    exact mg_zret C hQ (rfl) dX1_sticks_15 (⟨by rw [sk, if_neg h7] <;> first | rfl | decide, rfl⟩)
set_option maxHeartbeats 400000 in
set_option maxRecDepth 100000 in
theorem ct_X1_sticksAtAnother (E : En) (ad : Nat → Nat) (fl : Nat) (g : Nat → Int32) (a : Nat → Nat → Int32) (v : Nat → Int64) (tl : va_W) (z y : Int32) (hz : vp_in z 192) : Ct E mX1_sticksAtAnother 1 0 0 [.ref (ad 18), .int z, .int y] (cw E ad fl g a v tl) (fun o w => o = some (.int (sa a z y)) ∧ w = cw E ad fl g a v tl) := by
  refine Ct.of (by decide) (Nat.le_of_ble_eq_true rfl) (fun X C hQ hin => ?_)
  have C : Cx E X cX1_sticksAtAnother 3 RX1 (some .boolean) 1 40 0 0 := C
  refine mg_aload_n C dX1_sticksAtAnother_0 rfl ?_
  refine mg_iload_n C dX1_sticksAtAnother_1 rfl ?_
  refine mg_callV C (ct_X1_sticks E _ _ _ _ _ _ _ hz) oX1_51 18 rfl rfl rfl rfl rfl dX1_sticksAtAnother_2 (fun o2 w2 z2 => ?_)
  obtain ⟨rfl, rfl⟩ := z2
  refine mg_v ?_
  refine mg_if_eq C 22 dX1_sticksAtAnother_5 (by decide) (fun h5 => ?_) (fun h5 => ?_)
  · refine mg_iconst (v := 0) C dX1_sticksAtAnother_22 (by decide) ?_
    exact mg_zret C hQ (rfl) dX1_sticksAtAnother_23 (⟨by rw [sa, if_pos h5] <;> first | rfl | decide, rfl⟩)
  · refine mg_aload_n C dX1_sticksAtAnother_8 rfl ?_
    refine mg_get C inG_X1 fX1_15 (ci := 1) rfl rfl 18 rfl rfl dX1_sticksAtAnother_9 ?_
    refine mg_iload_n C dX1_sticksAtAnother_12 rfl ?_
    refine mg_iald C 16 rfl (hz) dX1_sticksAtAnother_13 ?_
    refine mg_iload_n C dX1_sticksAtAnother_14 rfl ?_
    refine mg_icmp_eq C 22 dX1_sticksAtAnother_15 (by decide) (fun h15 => ?_) (fun h15 => ?_)
    · refine mg_iconst (v := 0) C dX1_sticksAtAnother_22 (by decide) ?_
      exact mg_zret C hQ (rfl) dX1_sticksAtAnother_23 (⟨by rw [sa, if_neg h5, if_pos h15] <;> first | rfl | decide, rfl⟩)
    · refine mg_iconst (v := 1) C dX1_sticksAtAnother_18 (by decide) ?_
      refine mg_goto C 23 dX1_sticksAtAnother_19 (by decide) ?_
      exact mg_zret C hQ (rfl) dX1_sticksAtAnother_23 (⟨by rw [sa, if_neg h5, if_neg h15] <;> first | rfl | decide, rfl⟩)
set_option maxHeartbeats 400000 in
set_option maxRecDepth 100000 in
theorem ct_X1_put (E : En) (ad : Nat → Nat) (fl : Nat) (g : Nat → Int32) (a : Nat → Nat → Int32) (v : Nat → Int64) (tl : va_W) (z y : Int32) (hz : vp_in z 192) : Ct E mX1_put 1 0 0 [.ref (ad 18), .int z, .int y] (cw E ad fl g a v tl) (fun o w => o = none ∧ w = cw E ad fl g (pu a z y) v tl) := by
  refine Ct.of (by decide) (Nat.le_of_ble_eq_true rfl) (fun X C hQ hin => ?_)
  have C : Cx E X cX1_put 3 RX1 none 1 40 0 0 := C
  refine mg_aload_n C dX1_put_0 rfl ?_
  refine mg_get C inG_X1 fX1_18 (ci := 1) rfl rfl 18 rfl rfl dX1_put_1 ?_
  refine mg_iload_n C dX1_put_4 rfl ?_
  refine mg_iconst (v := 0) C dX1_put_5 (by decide) ?_
  refine mg_iast C 15 rfl (hz) dX1_put_6 (ws' := (cw E ad fl g (ups a 2 (z : Int32).toNatClampNeg 0) v tl)) rfl ?_
  refine mg_aload_n C dX1_put_7 rfl ?_
  refine mg_iload_n C dX1_put_8 rfl ?_
  refine mg_callV C (ct_X1_sticks E _ _ _ _ _ _ _ hz) oX1_51 18 rfl rfl rfl rfl rfl dX1_put_9 (fun o9 w9 z9 => ?_)
  obtain ⟨rfl, rfl⟩ := z9
  refine mg_v ?_
  have hsk : sk (ups a 2 z.toNatClampNeg 0) z = sk a z := rfl
  rw [hsk]
  refine mg_if_ne C 22 dX1_put_12 (by decide) (fun h12 => ?_) (fun h12 => ?_)
  · exact mg_vret C hQ dX1_put_22 (⟨rfl, by rw [pu, if_neg h12]⟩)
  · refine mg_aload_n C dX1_put_15 rfl ?_
    refine mg_get C inG_X1 fX1_9 (ci := 1) rfl rfl 18 rfl rfl dX1_put_16 ?_
    refine mg_iload_n C dX1_put_19 rfl ?_
    refine mg_iload_n C dX1_put_20 rfl ?_
    refine mg_iast C 17 rfl (hz) dX1_put_21 (ws' := (cw E ad fl g (ups (ups a 2 (z : Int32).toNatClampNeg 0) 0 (z : Int32).toNatClampNeg y) v tl)) rfl ?_
    exact mg_vret C hQ dX1_put_22 (⟨rfl, by rw [pu, if_pos h12]⟩)
set_option maxHeartbeats 400000 in
set_option maxRecDepth 100000 in
theorem ct_X1_hold (E : En) (ad : Nat → Nat) (fl : Nat) (g : Nat → Int32) (a : Nat → Nat → Int32) (v : Nat → Int64) (tl : va_W) (z y : Int32) (hz : vp_in z 192) : Ct E mX1_hold 0 0 0 [.ref (ad 18), .int z, .int y] (cw E ad fl g a v tl) (fun o w => o = none ∧ w = cw E ad fl g (ho a z y) v tl) := by
  refine Ct.of (by decide) (Nat.le_of_ble_eq_true rfl) (fun X C hQ hin => ?_)
  have C : Cx E X cX1_hold 3 RX1 none 0 0 0 0 := C
  refine mg_aload_n C dX1_hold_0 rfl ?_
  refine mg_get C inG_X1 fX1_15 (ci := 1) rfl rfl 18 rfl rfl dX1_hold_1 ?_
  refine mg_iload_n C dX1_hold_4 rfl ?_
  refine mg_iload_n C dX1_hold_5 rfl ?_
  refine mg_iast C 16 rfl (hz) dX1_hold_6 (ws' := (cw E ad fl g (ups a 1 (z : Int32).toNatClampNeg y) v tl)) rfl ?_
  refine mg_iload_n C dX1_hold_7 rfl ?_
  refine mg_iconst (v := (-1)) C dX1_hold_8 (by decide) ?_
  refine mg_icmp_eq C 19 dX1_hold_9 (by decide) (fun h9 => ?_) (fun h9 => ?_)
  · exact mg_vret C hQ dX1_hold_19 (⟨rfl, by rw [ho, if_pos h9]⟩)
  · refine mg_aload_n C dX1_hold_12 rfl ?_
    refine mg_get C inG_X1 fX1_9 (ci := 1) rfl rfl 18 rfl rfl dX1_hold_13 ?_
    refine mg_iload_n C dX1_hold_16 rfl ?_
    refine mg_iload_n C dX1_hold_17 rfl ?_
    refine mg_iast C 17 rfl (hz) dX1_hold_18 (ws' := (cw E ad fl g (ups (ups a 1 (z : Int32).toNatClampNeg y) 0 (z : Int32).toNatClampNeg y) v tl)) rfl ?_
    exact mg_vret C hQ dX1_hold_19 (⟨rfl, by rw [ho, if_neg h9]⟩)
set_option maxHeartbeats 400000 in
set_option maxRecDepth 100000 in
theorem ct_X1_tellCell (E : En) (ad : Nat → Nat) (fl : Nat) (g : Nat → Int32) (a : Nat → Nat → Int32) (v : Nat → Int64) (tl : va_W) (z u : Int32) (hz : vp_in z 192) : Ct E mX1_tellCell 0 0 0 [.ref (ad 18), .int z, .int u] (cw E ad fl g a v tl) (fun o w => o = some (.int (tc a z u)) ∧ w = cw E ad fl g a v tl) := by
  refine Ct.of (by decide) (Nat.le_of_ble_eq_true rfl) (fun X C hQ hin => ?_)
  have C : Cx E X cX1_tellCell 3 RX1 (some .int) 0 0 0 0 := C
  refine mg_iload_n C dX1_tellCell_0 rfl ?_
  refine mg_if_ne C 11 dX1_tellCell_1 (by decide) (fun h1 => ?_) (fun h1 => ?_)
  · refine mg_iload_n C dX1_tellCell_11 rfl ?_
    refine mg_iconst (v := 1) C dX1_tellCell_12 (by decide) ?_
    refine mg_icmp_ne C 25 dX1_tellCell_13 (by decide) (fun h13 => ?_) (fun h13 => ?_)
    · refine mg_aload_n C dX1_tellCell_25 rfl ?_
      refine mg_get C inG_X1 fX1_18 (ci := 1) rfl rfl 18 rfl rfl dX1_tellCell_26 ?_
      refine mg_iload_n C dX1_tellCell_29 rfl ?_
      refine mg_iald C 15 rfl (hz) dX1_tellCell_30 ?_
      exact mg_iret C hQ dX1_tellCell_31 (⟨by rw [tc, if_neg h1, if_neg h13] <;> first | rfl | decide, rfl⟩)
    · refine mg_aload_n C dX1_tellCell_16 rfl ?_
      refine mg_get C inG_X1 fX1_15 (ci := 1) rfl rfl 18 rfl rfl dX1_tellCell_17 ?_
      refine mg_iload_n C dX1_tellCell_20 rfl ?_
      refine mg_iald C 16 rfl (hz) dX1_tellCell_21 ?_
      refine mg_goto C 31 dX1_tellCell_22 (by decide) ?_
      exact mg_iret C hQ dX1_tellCell_31 (⟨by rw [tc, if_neg h1, if_pos h13] <;> first | rfl | decide, rfl⟩)
  · refine mg_aload_n C dX1_tellCell_4 rfl ?_
    refine mg_get C inG_X1 fX1_9 (ci := 1) rfl rfl 18 rfl rfl dX1_tellCell_5 ?_
    refine mg_iload_n C dX1_tellCell_8 rfl ?_
    refine mg_iald C 17 rfl (hz) dX1_tellCell_9 ?_
    exact mg_iret C hQ dX1_tellCell_10 (⟨by rw [tc, if_pos h1] <;> first | rfl | decide, rfl⟩)
set_option maxHeartbeats 400000 in
set_option maxRecDepth 100000 in
theorem ct_X1_convert (E : En) (ad : Nat → Nat) (fl : Nat) (g : Nat → Int32) (a : Nat → Nat → Int32) (v : Nat → Int64) (tl : va_W) (z : Int32)  : Ct E mX1_convert 1 0 0 [.ref (ad 18), .int z] (cw E ad fl g a v tl) (fun o w => o = some (.int (mn z ((1 : Int32) <<< (g 3 &&& 31) - 1))) ∧ w = cw E ad fl g a v tl) := by
  refine Ct.of (by decide) (Nat.le_of_ble_eq_true rfl) (fun X C hQ hin => ?_)
  have C : Cx E X cX1_convert 2 RX1 (some .int) 1 40 0 0 := C
  refine mg_iload_n C dX1_convert_0 rfl ?_
  refine mg_iconst (v := 1) C dX1_convert_1 (by decide) ?_
  refine mg_aload_n C dX1_convert_2 rfl ?_
  refine mg_get C inG_X1 fX1_38 (ci := 1) rfl rfl 18 rfl rfl dX1_convert_3 ?_
  refine mg_ishl C dX1_convert_6 ?_
  refine mg_iconst (v := 1) C dX1_convert_7 (by decide) ?_
  refine mg_isub C dX1_convert_8 ?_
  refine mg_mmin C dX1_convert_9 oX1_59m rfl ?_
  exact mg_iret C hQ dX1_convert_12 (⟨rfl, rfl⟩)
set_option maxHeartbeats 400000 in
set_option maxRecDepth 100000 in
theorem ct_X3_exists (E : En) (ad : Nat → Nat) (fl : Nat) (g : Nat → Int32) (a : Nat → Nat → Int32) (v : Nat → Int64) (tl : va_W)   : Ct E mX3_exists 0 0 0 [.ref (ad 13)] (cw E ad fl g a v tl) (fun o w => o = some (.int (ex g)) ∧ w = cw E ad fl g a v tl) := by
  refine Ct.of (by decide) (Nat.le_of_ble_eq_true rfl) (fun X C hQ hin => ?_)
  have C : Cx E X cX3_exists 1 RX3 (some .boolean) 0 0 0 0 := C
  refine mg_aload_n C dX3_exists_0 rfl ?_
  refine mg_get C inG_X3 fX3_31 (ci := 3) rfl rfl 13 rfl rfl dX3_exists_1 ?_
  refine mg_if_le C 11 dX3_exists_4 (by decide) (fun h4 => ?_) (fun h4 => ?_)
  · refine mg_iconst (v := 0) C dX3_exists_11 (by decide) ?_
    exact mg_zret C hQ (rfl) dX3_exists_12 (⟨by rw [ex, if_pos h4] <;> first | rfl | decide, rfl⟩)
  · refine mg_iconst (v := 1) C dX3_exists_7 (by decide) ?_
    refine mg_goto C 12 dX3_exists_8 (by decide) ?_
    exact mg_zret C hQ (rfl) dX3_exists_12 (⟨by rw [ex, if_neg h4] <;> first | rfl | decide, rfl⟩)
def dr (g : Nat → Int32) : Nat → Int32 := ug (ug (ug (ug g 4 0) 5 0) 6 0) 8 0
set_option maxHeartbeats 400000 in
set_option maxRecDepth 100000 in
theorem ct_X3_drop (E : En) (ad : Nat → Nat) (fl : Nat) (g : Nat → Int32) (a : Nat → Nat → Int32) (v : Nat → Int64) (tl : va_W)   : Ct E mX3_drop 0 0 0 [.ref (ad 13)] (cw E ad fl g a v tl) (fun o w => o = none ∧ w = cw E ad fl (dr g) a v tl) := by
  refine Ct.of (by decide) (Nat.le_of_ble_eq_true rfl) (fun X C hQ hin => ?_)
  have C : Cx E X cX3_drop 1 RX3 none 0 0 0 0 := C
  refine mg_aload_n C dX3_drop_0 rfl ?_
  refine mg_iconst (v := 0) C dX3_drop_1 (by decide) ?_
  refine mg_put C inG_X3 fX3_31 (ci := 3) rfl rfl tyX3 tyX3_ok nmX3 rfl 13 rfl rfl rfl rfl dX3_drop_2 (ws' := (cw E ad fl (ug g 4 0) a v tl)) rfl ?_
  refine mg_aload_n C dX3_drop_5 rfl ?_
  refine mg_iconst (v := 0) C dX3_drop_6 (by decide) ?_
  refine mg_put C inG_X3 fX3_35 (ci := 3) rfl rfl tyX3 tyX3_ok nmX3 rfl 13 rfl rfl rfl rfl dX3_drop_7 (ws' := (cw E ad fl (ug (ug g 4 0) 5 0) a v tl)) rfl ?_
  refine mg_aload_n C dX3_drop_10 rfl ?_
  refine mg_iconst (v := 0) C dX3_drop_11 (by decide) ?_
  refine mg_put C inG_X3 fX3_38 (ci := 3) rfl rfl tyX3 tyX3_ok nmX3 rfl 13 rfl rfl rfl rfl dX3_drop_12 (ws' := (cw E ad fl (ug (ug (ug g 4 0) 5 0) 6 0) a v tl)) rfl ?_
  refine mg_aload_n C dX3_drop_15 rfl ?_
  refine mg_iconst (v := 0) C dX3_drop_16 (by decide) ?_
  refine mg_put C inG_X3 fX3_41 (ci := 3) rfl rfl tyX3 tyX3_ok nmX3 rfl 13 rfl rfl rfl rfl dX3_drop_17 (ws' := (cw E ad fl (ug (ug (ug (ug g 4 0) 5 0) 6 0) 8 0) a v tl)) rfl ?_
  exact mg_vret C hQ dX3_drop_20 (⟨rfl, rfl⟩)
def rg (g : Nat → Int32) (r c u : Int32) : Nat → Int32 := ug (ug (ug (ug g 0 r) 1 c) 2 u) 3 16
def ra (a : Nat → Nat → Int32) : Nat → Nat → Int32 := upa (upa (upa (upa a 0 (fun _ => 0)) 1 (fun _ => -1)) 2 (fun _ => 0)) 3 (fun _ => 0)
set_option maxHeartbeats 400000 in
set_option maxRecDepth 100000 in
theorem ct_X1_renew (E : En) (ad : Nat → Nat) (fl : Nat) (g : Nat → Int32) (a : Nat → Nat → Int32) (v : Nat → Int64) (tl : va_W) (r c u : Int32)  : Ct E mX1_renew 1 0 0 [.ref (ad 18), .int r, .int c, .int u] (cw E ad fl g a v tl) (fun o w => o = none ∧ w = cw E ad fl (rg g r c u) (ra a) v tl) := by
  refine Ct.of (by decide) (Nat.le_of_ble_eq_true rfl) (fun X C hQ hin => ?_)
  have C : Cx E X cX1_renew 4 RX1 none 1 40 0 0 := C
  refine mg_aload_n C dX1_renew_0 rfl ?_
  refine mg_iload_n C dX1_renew_1 rfl ?_
  refine mg_put C inG_X1 fX1_28 (ci := 1) rfl rfl tyX1 tyX1_ok nmX1 rfl 18 rfl rfl rfl rfl dX1_renew_2 (ws' := (cw E ad fl (ug g 0 r) a v tl)) rfl ?_
  refine mg_aload_n C dX1_renew_5 rfl ?_
  refine mg_iload_n C dX1_renew_6 rfl ?_
  refine mg_put C inG_X1 fX1_32 (ci := 1) rfl rfl tyX1 tyX1_ok nmX1 rfl 18 rfl rfl rfl rfl dX1_renew_7 (ws' := (cw E ad fl (ug (ug g 0 r) 1 c) a v tl)) rfl ?_
  refine mg_aload_n C dX1_renew_10 rfl ?_
  refine mg_iload_n C dX1_renew_11 rfl ?_
  refine mg_put C inG_X1 fX1_35 (ci := 1) rfl rfl tyX1 tyX1_ok nmX1 rfl 18 rfl rfl rfl rfl dX1_renew_12 (ws' := (cw E ad fl (ug (ug (ug g 0 r) 1 c) 2 u) a v tl)) rfl ?_
  refine mg_aload_n C dX1_renew_15 rfl ?_
  refine mg_bipush (v := 16) C dX1_renew_16 (by decide) ?_
  refine mg_put C inG_X1 fX1_38 (ci := 1) rfl rfl tyX1 tyX1_ok nmX1 rfl 18 rfl rfl rfl rfl dX1_renew_18 (ws' := (cw E ad fl (ug (ug (ug (ug g 0 r) 1 c) 2 u) 3 16) a v tl)) rfl ?_
  refine mg_aload_n C dX1_renew_21 rfl ?_
  refine mg_get C inG_X1 fX1_9 (ci := 1) rfl rfl 18 rfl rfl dX1_renew_22 ?_
  refine mg_iconst (v := 0) C dX1_renew_25 (by decide) ?_
  refine mg_callS C (ct_J7_fill_53178 E _ 17 _ _ _ rfl rfl _) oX1_41 rfl rfl rfl dX1_renew_26 (fun o26 w26 z26 => ?_)
  obtain ⟨rfl, rfl⟩ := z26
  refine mg_ws (ws' := (cw E ad fl (ug (ug (ug (ug g 0 r) 1 c) 2 u) 3 16) (upa a 0 (fun _ => 0)) v tl)) rfl ?_
  refine mg_v0 ?_
  refine mg_aload_n C dX1_renew_29 rfl ?_
  refine mg_get C inG_X1 fX1_15 (ci := 1) rfl rfl 18 rfl rfl dX1_renew_30 ?_
  refine mg_iconst (v := (-1)) C dX1_renew_33 (by decide) ?_
  refine mg_callS C (ct_J7_fill_53178 E _ 16 _ _ _ rfl rfl _) oX1_41 rfl rfl rfl dX1_renew_34 (fun o34 w34 z34 => ?_)
  obtain ⟨rfl, rfl⟩ := z34
  refine mg_ws (ws' := (cw E ad fl (ug (ug (ug (ug g 0 r) 1 c) 2 u) 3 16) (upa (upa a 0 (fun _ => 0)) 1 (fun _ => (-1))) v tl)) rfl ?_
  refine mg_v0 ?_
  refine mg_aload_n C dX1_renew_37 rfl ?_
  refine mg_get C inG_X1 fX1_18 (ci := 1) rfl rfl 18 rfl rfl dX1_renew_38 ?_
  refine mg_iconst (v := 0) C dX1_renew_41 (by decide) ?_
  refine mg_callS C (ct_J7_fill_53178 E _ 15 _ _ _ rfl rfl _) oX1_41 rfl rfl rfl dX1_renew_42 (fun o42 w42 z42 => ?_)
  obtain ⟨rfl, rfl⟩ := z42
  refine mg_ws (ws' := (cw E ad fl (ug (ug (ug (ug g 0 r) 1 c) 2 u) 3 16) (upa (upa (upa a 0 (fun _ => 0)) 1 (fun _ => (-1))) 2 (fun _ => 0)) v tl)) rfl ?_
  refine mg_v0 ?_
  refine mg_aload_n C dX1_renew_45 rfl ?_
  refine mg_get C inG_X1 fX1_21 (ci := 1) rfl rfl 18 rfl rfl dX1_renew_46 ?_
  refine mg_iconst (v := 0) C dX1_renew_49 (by decide) ?_
  refine mg_callS C (ct_J7_fill_53178 E _ 14 _ _ _ rfl rfl _) oX1_41 rfl rfl rfl dX1_renew_50 (fun o50 w50 z50 => ?_)
  obtain ⟨rfl, rfl⟩ := z50
  refine mg_ws (ws' := (cw E ad fl (ug (ug (ug (ug g 0 r) 1 c) 2 u) 3 16) (upa (upa (upa (upa a 0 (fun _ => 0)) 1 (fun _ => (-1))) 2 (fun _ => 0)) 3 (fun _ => 0)) v tl)) rfl ?_
  refine mg_v0 ?_
  exact mg_vret C hQ dX1_renew_53 (⟨rfl, rfl⟩)
set_option maxHeartbeats 400000 in
set_option maxRecDepth 100000 in
theorem cg_X1_renew (E : En) (ad : Nat → Nat) (g : Nat → Int32) (a : Nat → Nat → Int32) (tl : va_W) (r c u : Int32)  : Ct E mX1_renew 1 0 0 [.ref (ad 18), .int r, .int c, .int u] (gw E ad g a tl) (fun o w => o = none ∧ w = gw E ad (rg g r c u) (ra a) tl) := by
  refine Ct.of (by decide) (Nat.le_of_ble_eq_true rfl) (fun X C hQ hin => ?_)
  have C : Cx E X cX1_renew 4 RX1 none 1 40 0 0 := C
  refine mg_aload_n C dX1_renew_0 rfl ?_
  refine mg_iload_n C dX1_renew_1 rfl ?_
  refine mg_put C inG_X1 fX1_28 (ci := 1) rfl rfl tyX1 tyX1_ok nmX1 rfl 4 rfl rfl rfl rfl dX1_renew_2 (ws' := (gw E ad (ug g 0 r) a tl)) rfl ?_
  refine mg_aload_n C dX1_renew_5 rfl ?_
  refine mg_iload_n C dX1_renew_6 rfl ?_
  refine mg_put C inG_X1 fX1_32 (ci := 1) rfl rfl tyX1 tyX1_ok nmX1 rfl 4 rfl rfl rfl rfl dX1_renew_7 (ws' := (gw E ad (ug (ug g 0 r) 1 c) a tl)) rfl ?_
  refine mg_aload_n C dX1_renew_10 rfl ?_
  refine mg_iload_n C dX1_renew_11 rfl ?_
  refine mg_put C inG_X1 fX1_35 (ci := 1) rfl rfl tyX1 tyX1_ok nmX1 rfl 4 rfl rfl rfl rfl dX1_renew_12 (ws' := (gw E ad (ug (ug (ug g 0 r) 1 c) 2 u) a tl)) rfl ?_
  refine mg_aload_n C dX1_renew_15 rfl ?_
  refine mg_bipush (v := 16) C dX1_renew_16 (by decide) ?_
  refine mg_put C inG_X1 fX1_38 (ci := 1) rfl rfl tyX1 tyX1_ok nmX1 rfl 4 rfl rfl rfl rfl dX1_renew_18 (ws' := (gw E ad (ug (ug (ug (ug g 0 r) 1 c) 2 u) 3 16) a tl)) rfl ?_
  refine mg_aload_n C dX1_renew_21 rfl ?_
  refine mg_get C inG_X1 fX1_9 (ci := 1) rfl rfl 4 rfl rfl dX1_renew_22 ?_
  refine mg_iconst (v := 0) C dX1_renew_25 (by decide) ?_
  refine mg_callS C (ct_J7_fill_53178 E _ 3 _ _ _ rfl rfl _) oX1_41 rfl rfl rfl dX1_renew_26 (fun o26 w26 z26 => ?_)
  obtain ⟨rfl, rfl⟩ := z26
  refine mg_ws (ws' := (gw E ad (ug (ug (ug (ug g 0 r) 1 c) 2 u) 3 16) (upa a 0 (fun _ => 0)) tl)) rfl ?_
  refine mg_v0 ?_
  refine mg_aload_n C dX1_renew_29 rfl ?_
  refine mg_get C inG_X1 fX1_15 (ci := 1) rfl rfl 4 rfl rfl dX1_renew_30 ?_
  refine mg_iconst (v := (-1)) C dX1_renew_33 (by decide) ?_
  refine mg_callS C (ct_J7_fill_53178 E _ 2 _ _ _ rfl rfl _) oX1_41 rfl rfl rfl dX1_renew_34 (fun o34 w34 z34 => ?_)
  obtain ⟨rfl, rfl⟩ := z34
  refine mg_ws (ws' := (gw E ad (ug (ug (ug (ug g 0 r) 1 c) 2 u) 3 16) (upa (upa a 0 (fun _ => 0)) 1 (fun _ => (-1))) tl)) rfl ?_
  refine mg_v0 ?_
  refine mg_aload_n C dX1_renew_37 rfl ?_
  refine mg_get C inG_X1 fX1_18 (ci := 1) rfl rfl 4 rfl rfl dX1_renew_38 ?_
  refine mg_iconst (v := 0) C dX1_renew_41 (by decide) ?_
  refine mg_callS C (ct_J7_fill_53178 E _ 1 _ _ _ rfl rfl _) oX1_41 rfl rfl rfl dX1_renew_42 (fun o42 w42 z42 => ?_)
  obtain ⟨rfl, rfl⟩ := z42
  refine mg_ws (ws' := (gw E ad (ug (ug (ug (ug g 0 r) 1 c) 2 u) 3 16) (upa (upa (upa a 0 (fun _ => 0)) 1 (fun _ => (-1))) 2 (fun _ => 0)) tl)) rfl ?_
  refine mg_v0 ?_
  refine mg_aload_n C dX1_renew_45 rfl ?_
  refine mg_get C inG_X1 fX1_21 (ci := 1) rfl rfl 4 rfl rfl dX1_renew_46 ?_
  refine mg_iconst (v := 0) C dX1_renew_49 (by decide) ?_
  refine mg_callS C (ct_J7_fill_53178 E _ 0 _ _ _ rfl rfl _) oX1_41 rfl rfl rfl dX1_renew_50 (fun o50 w50 z50 => ?_)
  obtain ⟨rfl, rfl⟩ := z50
  refine mg_ws (ws' := (gw E ad (ug (ug (ug (ug g 0 r) 1 c) 2 u) 3 16) (upa (upa (upa (upa a 0 (fun _ => 0)) 1 (fun _ => (-1))) 2 (fun _ => 0)) 3 (fun _ => 0)) tl)) rfl ?_
  refine mg_v0 ?_
  exact mg_vret C hQ dX1_renew_53 (⟨rfl, rfl⟩)
end
section
theorem vin0 : vp_in (0 * 24 + 0) 192 := by unfold vp_in; decide
theorem vin0' : vp_in (24 * 0 + 0) 192 := by unfold vp_in; decide
theorem vin00 : vp_in 0 8 := by unfold vp_in; decide
theorem i32_eq0 {x : Int32} (h1 : ¬ x < 0) (h2 : ¬ 0 < x) : x = 0 := Int32.le_antisymm (Int32.not_lt.mp h2) (Int32.not_lt.mp h1)
theorem wi0 {x : Int32} (h : ¬ wi x 0 0 = 0) : x = 0 := by
  unfold wi at h
  by_cases h1 : x < 0
  · rw [if_pos h1] at h; exact absurd rfl h
  · rw [if_neg h1] at h
    by_cases h2 : 0 < x
    · rw [if_pos h2] at h; exact absurd rfl h
    · exact i32_eq0 h1 h2
theorem wim {x : Int32} : wi x 0 (-1) = 0 := by
  unfold wi
  by_cases h1 : x < 0
  · rw [if_pos h1]
  · rw [if_neg h1, if_pos]
    have h2 := Int32.not_lt.mp h1
    rw [Int32.le_iff_toInt_le] at h2
    rw [Int32.lt_iff_toInt_lt]
    have e0 : (0 : Int32).toInt = 0 := rfl
    have e1 : (-1 : Int32).toInt = -1 := rfl
    omega
theorem wi_get {x p q : Int32} (h : ¬ wi x p q = 0) : p.toInt ≤ x.toInt ∧ x.toInt ≤ q.toInt := by
  unfold wi at h
  by_cases h1 : x < p
  · rw [if_pos h1] at h; exact absurd rfl h
  · rw [if_neg h1] at h
    by_cases h2 : q < x
    · rw [if_pos h2] at h; exact absurd rfl h
    · exact ⟨Int32.le_iff_toInt_le.mp (Int32.not_lt.mp h1), Int32.le_iff_toInt_le.mp (Int32.not_lt.mp h2)⟩
theorem wi_nat {x p q : Int32} (h : ¬ wi x p q = 0) (hp : 0 ≤ p.toInt) : ∃ j : Nat, x = nI j ∧ p.toInt ≤ j ∧ (j : Int) ≤ q.toInt := by
  obtain ⟨h1, h2⟩ := wi_get h
  have h0 : ¬ x < 0 := fun hh => by
    rw [Int32.lt_iff_toInt_lt] at hh
    have e0 : (0 : Int32).toInt = 0 := rfl
    omega
  obtain ⟨j, hj, e⟩ := nI_of h0
  subst e
  rw [nI_toInt hj] at h1 h2
  exact ⟨j, rfl, h1, h2⟩
theorem hcF {r c : Int32} (h : ¬ hc gF r c = 0) : r = 0 ∧ c = 0 := by
  unfold hc at h
  by_cases h1 : wi r 0 (gF 0 - 1) = 0
  · rw [if_pos h1] at h; exact absurd rfl h
  · rw [if_neg h1] at h
    by_cases h2 : wi c 0 (gF 1 - 1) = 0
    · rw [if_pos h2] at h; exact absurd rfl h
    · exact ⟨wi0 h1, wi0 h2⟩
theorem tabF {m d : Int32} (h1 : ¬ wi m 1 12 = 0) (h2 : ¬ wi d 1 6 = 0) : ¬ 2 * d * m ≤ gF 1 := by
  obtain ⟨i, e1, l1, u1⟩ := wi_nat h1 (by decide)
  obtain ⟨j, e2, l2, u2⟩ := wi_nat h2 (by decide)
  have f1 : (1 : Int32).toInt = 1 := rfl
  have f12 : (12 : Int32).toInt = 12 := rfl
  have f6 : (6 : Int32).toInt = 6 := rfl
  rw [f1] at l1 l2; rw [f12] at u1; rw [f6] at u2
  subst e1; subst e2
  have hi : i ≤ 12 := by omega
  have hj : j ≤ 6 := by omega
  have e3 : (2 : Int32) * nI j * nI i = nI (2 * j * i) := by
    rw [show (2 : Int32) = nI 2 from rfl, pk_mul, pk_mul]
  rw [e3, show gF 1 = nI 1 from rfl]
  have h3 : 1 < 2 * j * i := by
    have : 1 * 1 ≤ j * i := Nat.mul_le_mul (by omega) (by omega)
    have h5 : 2 * j * i = 2 * (j * i) := Nat.mul_assoc 2 j i
    omega
  have h4 : 2 * j * i ≤ 2 * 6 * 12 := Nat.mul_le_mul (Nat.mul_le_mul (Nat.le_refl 2) hj) hi
  exact nI_ge h3 (by omega)
-- what a fresh object answers
def anMesh (r c u : Int32) : Int32 := if wi r 1 8 = 0 then -2 else if wi c 1 24 = 0 then -2 else if wi u 1 15 = 0 then -2 else 1
def anWrite (r c y : Int32) : Int32 := if hc gF r c = 0 then -2 else if wi y 0 (gF 2) = 0 then -2 else 1
def anStick (r c y : Int32) : Int32 := if hc gF r c = 0 then -2 else if wi y (-1) (gF 2) = 0 then -2 else 1
def anCell (r c u : Int32) : Int32 := if hc gF r c = 0 then -2 else if wi u 0 2 = 0 then -2 else if u = 0 then 0 else if u = 1 then -1 else 0
def anInput (r x : Int32) : Int32 := if wi r 0 (gF 0 - 1) = 0 then -2 else if wi x 0 255 = 0 then -2 else 0
def anBits (b : Int32) : Int32 := if wi b 1 16 = 0 then -2 else 16
def anSum (c : Int32) : Int32 := if wi c 0 (gF 1 - 1) = 0 then -2 else 0
def anTable (n m d : Int32) : Int32 := if wi n 1 (gF 0) = 0 then -2 else if wi m 1 12 = 0 then -2 else if wi d 1 6 = 0 then -2 else -3
def anMapped (i : Int32) : Int32 := if 0 ≤ i then -3 else -2
def anFade (k : Int32) : Int32 := if wi k 1 100 = 0 then -2 else 0
def anPulse (r c y : Int32) : Int32 := if hc gF r c = 0 then -2 else if wi y 0 (gF 2) = 0 then -2 else y
def anActAt (u : Int32) : Int32 := if wi u 0 2 = 0 then -2 else -1
set_option maxHeartbeats 400000 in
set_option maxRecDepth 100000 in
theorem ct_X4_mesh (E : En) (ad : Nat → Nat) (tl : va_W) (r c u : Int32)  : Ct E mX4_mesh 2 0 0 [.ref (ad 19), .int r, .int c, .int u] (cw E ad 16 gF aF vF tl) (fun o w => o = some (.int (anMesh r c u)) ∧ ∃ L : va_W, w = L ++ tl) := by
  refine Ct.of (by decide) (Nat.le_of_ble_eq_true rfl) (fun X C hQ hin => ?_)
  have C : Cx E X cX4_mesh 4 RX4 (some .int) 2 80 0 0 := C
  refine mg_iload_n C dX4_mesh_0 rfl ?_
  refine mg_iconst (v := 1) C dX4_mesh_1 (by decide) ?_
  refine mg_bipush (v := 8) C dX4_mesh_2 (by decide) ?_
  refine mg_callS C (ct_X4_within E _ _ _ _) oX4_39 rfl rfl rfl dX4_mesh_4 (fun o4 w4 z4 => ?_)
  obtain ⟨rfl, rfl⟩ := z4
  refine mg_v ?_
  refine mg_if_eq C 30 dX4_mesh_7 (by decide) (fun h7 => ?_) (fun h7 => ?_)
  · refine mg_bipush (v := (-2)) C dX4_mesh_30 (by decide) ?_
    exact mg_iret C hQ dX4_mesh_32 (⟨by rw [anMesh, if_pos h7] <;> first | rfl | decide, zx⟩)
  · refine mg_iload_n C dX4_mesh_10 rfl ?_
    refine mg_iconst (v := 1) C dX4_mesh_11 (by decide) ?_
    refine mg_bipush (v := 24) C dX4_mesh_12 (by decide) ?_
    refine mg_callS C (ct_X4_within E _ _ _ _) oX4_39 rfl rfl rfl dX4_mesh_14 (fun o14 w14 z14 => ?_)
    obtain ⟨rfl, rfl⟩ := z14
    refine mg_v ?_
    refine mg_if_eq C 30 dX4_mesh_17 (by decide) (fun h17 => ?_) (fun h17 => ?_)
    · refine mg_bipush (v := (-2)) C dX4_mesh_30 (by decide) ?_
      exact mg_iret C hQ dX4_mesh_32 (⟨by rw [anMesh, if_neg h7, if_pos h17] <;> first | rfl | decide, zx⟩)
    · refine mg_iload_n C dX4_mesh_20 rfl ?_
      refine mg_iconst (v := 1) C dX4_mesh_21 (by decide) ?_
      refine mg_bipush (v := 15) C dX4_mesh_22 (by decide) ?_
      refine mg_callS C (ct_X4_within E _ _ _ _) oX4_39 rfl rfl rfl dX4_mesh_24 (fun o24 w24 z24 => ?_)
      obtain ⟨rfl, rfl⟩ := z24
      refine mg_v ?_
      refine mg_if_ne C 33 dX4_mesh_27 (by decide) (fun h27 => ?_) (fun h27 => ?_)
      · refine mg_aload_n C dX4_mesh_33 rfl ?_
        refine mg_get C inG_X4 fX4_10 (ci := 4) rfl rfl 19 rfl rfl dX4_mesh_34 ?_
        refine mg_iload_n C dX4_mesh_37 rfl ?_
        refine mg_iload_n C dX4_mesh_38 rfl ?_
        refine mg_iload_n C dX4_mesh_39 rfl ?_
        refine mg_callVN C (ct_X1_renew E _ _ _ _ _ _ _ _ _) oX4_43 18 rfl rfl rfl rfl rfl dX4_mesh_40 (fun o40 w40 z40 => ?_)
        obtain ⟨rfl, rfl⟩ := z40
        refine mg_v0 ?_
        refine mg_aload_n C dX4_mesh_43 rfl ?_
        refine mg_get C inG_X4 fX4_21 (ci := 4) rfl rfl 19 rfl rfl dX4_mesh_44 ?_
        refine mg_callVN C (ct_X3_drop E _ _ _ _ _ _) oX4_47 13 rfl rfl rfl rfl rfl dX4_mesh_47 (fun o47 w47 z47 => ?_)
        obtain ⟨rfl, rfl⟩ := z47
        refine mg_v0 ?_
        refine mg_aload_n C dX4_mesh_50 rfl ?_
        refine mg_get C inG_X4 fX4_28 (ci := 4) rfl rfl 19 rfl rfl dX4_mesh_51 ?_
        refine mg_iconst (v := 0) C dX4_mesh_54 (by decide) ?_
        refine mg_putN C inG_X0 fX4_50 (ci := 0) rfl rfl tyX0 tyX0_ok nmX0 rfl 7 rfl rfl rfl rfl dX4_mesh_55 (ws' := (cw E ad 16 (ug (dr (rg gF r c u)) 9 0) (ra aF) vF tl)) rfl ?_
        refine mg_iconst (v := 1) C dX4_mesh_58 (by decide) ?_
        exact mg_iret C hQ dX4_mesh_59 (⟨by rw [anMesh, if_neg h7, if_neg h17, if_neg h27] <;> first | rfl | decide, zx⟩)
      · refine mg_bipush (v := (-2)) C dX4_mesh_30 (by decide) ?_
        exact mg_iret C hQ dX4_mesh_32 (⟨by rw [anMesh, if_neg h7, if_neg h17, if_pos h27] <;> first | rfl | decide, zx⟩)
set_option maxHeartbeats 400000 in
set_option maxRecDepth 100000 in
theorem ct_X4_write (E : En) (ad : Nat → Nat) (tl : va_W) (r c y : Int32)  : Ct E mX4_write 2 0 0 [.ref (ad 19), .int r, .int c, .int y] (cw E ad 16 gF aF vF tl) (fun o w => o = some (.int (anWrite r c y)) ∧ ∃ L : va_W, w = L ++ tl) := by
  refine Ct.of (by decide) (Nat.le_of_ble_eq_true rfl) (fun X C hQ hin => ?_)
  have C : Cx E X cX4_write 5 RX4 (some .int) 2 80 0 0 := C
  refine mg_aload_n C dX4_write_0 rfl ?_
  refine mg_get C inG_X4 fX4_10 (ci := 4) rfl rfl 19 rfl rfl dX4_write_1 ?_
  refine mg_iload_n C dX4_write_4 rfl ?_
  refine mg_iload_n C dX4_write_5 rfl ?_
  refine mg_callVN C (ct_X1_hasCell E _ _ _ _ _ _ _ _) oX4_54 18 rfl rfl rfl rfl rfl dX4_write_6 (fun o6 w6 z6 => ?_)
  obtain ⟨rfl, rfl⟩ := z6
  refine mg_v ?_
  refine mg_if_eq C 27 dX4_write_9 (by decide) (fun h9 => ?_) (fun h9 => ?_)
  · refine mg_bipush (v := (-2)) C dX4_write_27 (by decide) ?_
    exact mg_iret C hQ dX4_write_29 (⟨by rw [anWrite, if_pos h9] <;> first | rfl | decide, zx⟩)
  · obtain ⟨rfl, rfl⟩ := hcF h9
    refine mg_iload_n C dX4_write_12 rfl ?_
    refine mg_iconst (v := 0) C dX4_write_13 (by decide) ?_
    refine mg_aload_n C dX4_write_14 rfl ?_
    refine mg_get C inG_X4 fX4_10 (ci := 4) rfl rfl 19 rfl rfl dX4_write_15 ?_
    refine mg_getN C inG_X1 fX4_58 (ci := 1) rfl rfl 18 rfl rfl dX4_write_18 ?_
    refine mg_callS C (ct_X4_within E _ _ _ _) oX4_39 rfl rfl rfl dX4_write_21 (fun o21 w21 z21 => ?_)
    obtain ⟨rfl, rfl⟩ := z21
    refine mg_v ?_
    refine mg_if_ne C 30 dX4_write_24 (by decide) (fun h24 => ?_) (fun h24 => ?_)
    · refine mg_aload_n C dX4_write_30 rfl ?_
      refine mg_get C inG_X4 fX4_10 (ci := 4) rfl rfl 19 rfl rfl dX4_write_31 ?_
      refine mg_iload_n C dX4_write_34 rfl ?_
      refine mg_iload_n C dX4_write_35 rfl ?_
      refine mg_callVN C (ct_X1_place E _ _ _ _ _ _ _ _) oX4_62 18 rfl rfl rfl rfl rfl dX4_write_36 (fun o36 w36 z36 => ?_)
      obtain ⟨rfl, rfl⟩ := z36
      refine mg_v ?_
      refine mg_istore C dX4_write_39 rfl ?_
      refine mg_lve (lv' := [(0, _), (1, _), (2, _), (3, _), (4, _)]) rfl ?_
      refine mg_aload_n C dX4_write_41 rfl ?_
      refine mg_get C inG_X4 fX4_10 (ci := 4) rfl rfl 19 rfl rfl dX4_write_42 ?_
      refine mg_iload C dX4_write_45 rfl ?_
      refine mg_iload_n C dX4_write_47 rfl ?_
      refine mg_callVN C (ct_X1_sticksAtAnother E _ _ _ _ _ _ _ _ vin0) oX4_66 18 rfl rfl rfl rfl rfl dX4_write_48 (fun o48 w48 z48 => ?_)
      obtain ⟨rfl, rfl⟩ := z48
      refine mg_v ?_
      refine mg_if_eq C 57 dX4_write_51 (by decide) (fun h51 => ?_) (fun h51 => absurd h51 (fun hh => hh rfl))
      refine mg_aload_n C dX4_write_57 rfl ?_
      refine mg_get C inG_X4 fX4_10 (ci := 4) rfl rfl 19 rfl rfl dX4_write_58 ?_
      refine mg_iload C dX4_write_61 rfl ?_
      refine mg_iload_n C dX4_write_63 rfl ?_
      refine mg_callVN C (ct_X1_put E _ _ _ _ _ _ _ _ vin0) oX4_69 18 rfl rfl rfl rfl rfl dX4_write_64 (fun o64 w64 z64 => ?_)
      obtain ⟨rfl, rfl⟩ := z64
      refine mg_v0 ?_
      refine mg_iconst (v := 1) C dX4_write_67 (by decide) ?_
      exact mg_iret C hQ dX4_write_68 (⟨by rw [anWrite, if_neg h9, if_neg h24] <;> first | rfl | decide, zx⟩)
    · refine mg_bipush (v := (-2)) C dX4_write_27 (by decide) ?_
      exact mg_iret C hQ dX4_write_29 (⟨by rw [anWrite, if_neg h9, if_pos h24] <;> first | rfl | decide, zx⟩)
set_option maxHeartbeats 400000 in
set_option maxRecDepth 100000 in
theorem ct_X4_stick (E : En) (ad : Nat → Nat) (tl : va_W) (r c y : Int32)  : Ct E mX4_stick 2 0 0 [.ref (ad 19), .int r, .int c, .int y] (cw E ad 16 gF aF vF tl) (fun o w => o = some (.int (anStick r c y)) ∧ ∃ L : va_W, w = L ++ tl) := by
  refine Ct.of (by decide) (Nat.le_of_ble_eq_true rfl) (fun X C hQ hin => ?_)
  have C : Cx E X cX4_stick 4 RX4 (some .int) 2 80 0 0 := C
  refine mg_aload_n C dX4_stick_0 rfl ?_
  refine mg_get C inG_X4 fX4_10 (ci := 4) rfl rfl 19 rfl rfl dX4_stick_1 ?_
  refine mg_iload_n C dX4_stick_4 rfl ?_
  refine mg_iload_n C dX4_stick_5 rfl ?_
  refine mg_callVN C (ct_X1_hasCell E _ _ _ _ _ _ _ _) oX4_54 18 rfl rfl rfl rfl rfl dX4_stick_6 (fun o6 w6 z6 => ?_)
  obtain ⟨rfl, rfl⟩ := z6
  refine mg_v ?_
  refine mg_if_eq C 27 dX4_stick_9 (by decide) (fun h9 => ?_) (fun h9 => ?_)
  · refine mg_bipush (v := (-2)) C dX4_stick_27 (by decide) ?_
    exact mg_iret C hQ dX4_stick_29 (⟨by rw [anStick, if_pos h9] <;> first | rfl | decide, zx⟩)
  · obtain ⟨rfl, rfl⟩ := hcF h9
    refine mg_iload_n C dX4_stick_12 rfl ?_
    refine mg_iconst (v := (-1)) C dX4_stick_13 (by decide) ?_
    refine mg_aload_n C dX4_stick_14 rfl ?_
    refine mg_get C inG_X4 fX4_10 (ci := 4) rfl rfl 19 rfl rfl dX4_stick_15 ?_
    refine mg_getN C inG_X1 fX4_58 (ci := 1) rfl rfl 18 rfl rfl dX4_stick_18 ?_
    refine mg_callS C (ct_X4_within E _ _ _ _) oX4_39 rfl rfl rfl dX4_stick_21 (fun o21 w21 z21 => ?_)
    obtain ⟨rfl, rfl⟩ := z21
    refine mg_v ?_
    refine mg_if_ne C 30 dX4_stick_24 (by decide) (fun h24 => ?_) (fun h24 => ?_)
    · refine mg_aload_n C dX4_stick_30 rfl ?_
      refine mg_get C inG_X4 fX4_10 (ci := 4) rfl rfl 19 rfl rfl dX4_stick_31 ?_
      refine mg_aload_n C dX4_stick_34 rfl ?_
      refine mg_get C inG_X4 fX4_10 (ci := 4) rfl rfl 19 rfl rfl dX4_stick_35 ?_
      refine mg_iload_n C dX4_stick_38 rfl ?_
      refine mg_iload_n C dX4_stick_39 rfl ?_
      refine mg_callVN C (ct_X1_place E _ _ _ _ _ _ _ _) oX4_62 18 rfl rfl rfl rfl rfl dX4_stick_40 (fun o40 w40 z40 => ?_)
      obtain ⟨rfl, rfl⟩ := z40
      refine mg_v ?_
      refine mg_iload_n C dX4_stick_43 rfl ?_
      refine mg_callVN C (ct_X1_hold E _ _ _ _ _ _ _ _ vin0) oX4_73 18 rfl rfl rfl rfl rfl dX4_stick_44 (fun o44 w44 z44 => ?_)
      obtain ⟨rfl, rfl⟩ := z44
      refine mg_v0 ?_
      refine mg_iconst (v := 1) C dX4_stick_47 (by decide) ?_
      exact mg_iret C hQ dX4_stick_48 (⟨by rw [anStick, if_neg h9, if_neg h24] <;> first | rfl | decide, zx⟩)
    · refine mg_bipush (v := (-2)) C dX4_stick_27 (by decide) ?_
      exact mg_iret C hQ dX4_stick_29 (⟨by rw [anStick, if_neg h9, if_pos h24] <;> first | rfl | decide, zx⟩)
set_option maxHeartbeats 400000 in
set_option maxRecDepth 100000 in
theorem ct_X4_cell (E : En) (ad : Nat → Nat) (tl : va_W) (r c u : Int32)  : Ct E mX4_cell 2 0 0 [.ref (ad 19), .int r, .int c, .int u] (cw E ad 16 gF aF vF tl) (fun o w => o = some (.int (anCell r c u)) ∧ ∃ L : va_W, w = L ++ tl) := by
  refine Ct.of (by decide) (Nat.le_of_ble_eq_true rfl) (fun X C hQ hin => ?_)
  have C : Cx E X cX4_cell 4 RX4 (some .int) 2 80 0 0 := C
  refine mg_aload_n C dX4_cell_0 rfl ?_
  refine mg_get C inG_X4 fX4_10 (ci := 4) rfl rfl 19 rfl rfl dX4_cell_1 ?_
  refine mg_iload_n C dX4_cell_4 rfl ?_
  refine mg_iload_n C dX4_cell_5 rfl ?_
  refine mg_callVN C (ct_X1_hasCell E _ _ _ _ _ _ _ _) oX4_54 18 rfl rfl rfl rfl rfl dX4_cell_6 (fun o6 w6 z6 => ?_)
  obtain ⟨rfl, rfl⟩ := z6
  refine mg_v ?_
  refine mg_if_eq C 21 dX4_cell_9 (by decide) (fun h9 => ?_) (fun h9 => ?_)
  · refine mg_bipush (v := (-2)) C dX4_cell_21 (by decide) ?_
    exact mg_iret C hQ dX4_cell_23 (⟨by rw [anCell, if_pos h9] <;> first | rfl | decide, zx⟩)
  · obtain ⟨rfl, rfl⟩ := hcF h9
    refine mg_iload_n C dX4_cell_12 rfl ?_
    refine mg_iconst (v := 0) C dX4_cell_13 (by decide) ?_
    refine mg_iconst (v := 2) C dX4_cell_14 (by decide) ?_
    refine mg_callS C (ct_X4_within E _ _ _ _) oX4_39 rfl rfl rfl dX4_cell_15 (fun o15 w15 z15 => ?_)
    obtain ⟨rfl, rfl⟩ := z15
    refine mg_v ?_
    refine mg_if_ne C 24 dX4_cell_18 (by decide) (fun h18 => ?_) (fun h18 => ?_)
    · refine mg_aload_n C dX4_cell_24 rfl ?_
      refine mg_get C inG_X4 fX4_10 (ci := 4) rfl rfl 19 rfl rfl dX4_cell_25 ?_
      refine mg_aload_n C dX4_cell_28 rfl ?_
      refine mg_get C inG_X4 fX4_10 (ci := 4) rfl rfl 19 rfl rfl dX4_cell_29 ?_
      refine mg_iload_n C dX4_cell_32 rfl ?_
      refine mg_iload_n C dX4_cell_33 rfl ?_
      refine mg_callVN C (ct_X1_place E _ _ _ _ _ _ _ _) oX4_62 18 rfl rfl rfl rfl rfl dX4_cell_34 (fun o34 w34 z34 => ?_)
      obtain ⟨rfl, rfl⟩ := z34
      refine mg_v ?_
      refine mg_iload_n C dX4_cell_37 rfl ?_
      refine mg_callVN C (ct_X1_tellCell E _ _ _ _ _ _ _ _ vin0) oX4_76 18 rfl rfl rfl rfl rfl dX4_cell_38 (fun o38 w38 z38 => ?_)
      obtain ⟨rfl, rfl⟩ := z38
      refine mg_v ?_
      exact mg_iret C hQ dX4_cell_41 (⟨by rw [anCell, if_neg h9, if_neg h18] <;> first | rfl | decide, zx⟩)
    · refine mg_bipush (v := (-2)) C dX4_cell_21 (by decide) ?_
      exact mg_iret C hQ dX4_cell_23 (⟨by rw [anCell, if_neg h9, if_pos h18] <;> first | rfl | decide, zx⟩)
set_option maxHeartbeats 400000 in
set_option maxRecDepth 100000 in
theorem ct_X4_input (E : En) (ad : Nat → Nat) (tl : va_W) (r x : Int32)  : Ct E mX4_input 1 0 0 [.ref (ad 19), .int r, .int x] (cw E ad 16 gF aF vF tl) (fun o w => o = some (.int (anInput r x)) ∧ ∃ L : va_W, w = L ++ tl) := by
  refine Ct.of (by decide) (Nat.le_of_ble_eq_true rfl) (fun X C hQ hin => ?_)
  have C : Cx E X cX4_input 4 RX4 (some .int) 1 40 0 0 := C
  refine mg_iload_n C dX4_input_0 rfl ?_
  refine mg_iconst (v := 0) C dX4_input_1 (by decide) ?_
  refine mg_aload_n C dX4_input_2 rfl ?_
  refine mg_get C inG_X4 fX4_10 (ci := 4) rfl rfl 19 rfl rfl dX4_input_3 ?_
  refine mg_getN C inG_X1 fX4_79 (ci := 1) rfl rfl 18 rfl rfl dX4_input_6 ?_
  refine mg_iconst (v := 1) C dX4_input_9 (by decide) ?_
  refine mg_isub C dX4_input_10 ?_
  refine mg_callS C (ct_X4_within E _ _ _ _) oX4_39 rfl rfl rfl dX4_input_11 (fun o11 w11 z11 => ?_)
  obtain ⟨rfl, rfl⟩ := z11
  refine mg_v ?_
  refine mg_if_eq C 28 dX4_input_14 (by decide) (fun h14 => ?_) (fun h14 => ?_)
  · refine mg_bipush (v := (-2)) C dX4_input_28 (by decide) ?_
    exact mg_iret C hQ dX4_input_30 (⟨by rw [anInput, if_pos h14] <;> first | rfl | decide, zx⟩)
  · have er := wi0 h14
    subst er
    refine mg_iload_n C dX4_input_17 rfl ?_
    refine mg_iconst (v := 0) C dX4_input_18 (by decide) ?_
    refine mg_sipush (v := 255) C dX4_input_19 (by decide) ?_
    refine mg_callS C (ct_X4_within E _ _ _ _) oX4_39 rfl rfl rfl dX4_input_22 (fun o22 w22 z22 => ?_)
    obtain ⟨rfl, rfl⟩ := z22
    refine mg_v ?_
    refine mg_if_ne C 31 dX4_input_25 (by decide) (fun h25 => ?_) (fun h25 => ?_)
    · refine mg_aload_n C dX4_input_31 rfl ?_
      refine mg_get C inG_X4 fX4_10 (ci := 4) rfl rfl 19 rfl rfl dX4_input_32 ?_
      refine mg_getN C inG_X1 fX4_82 (ci := 1) rfl rfl 18 rfl rfl dX4_input_35 ?_
      refine mg_iload_n C dX4_input_38 rfl ?_
      refine mg_iald C 14 rfl (vin00) dX4_input_39 ?_
      refine mg_istore_n C dX4_input_40 rfl ?_
      refine mg_lve (lv' := [(0, _), (1, _), (2, _), (3, _)]) rfl ?_
      refine mg_aload_n C dX4_input_41 rfl ?_
      refine mg_get C inG_X4 fX4_10 (ci := 4) rfl rfl 19 rfl rfl dX4_input_42 ?_
      refine mg_getN C inG_X1 fX4_82 (ci := 1) rfl rfl 18 rfl rfl dX4_input_45 ?_
      refine mg_iload_n C dX4_input_48 rfl ?_
      refine mg_iload_n C dX4_input_49 rfl ?_
      refine mg_iast C 14 rfl (vin00) dX4_input_50 (ws' := (cw E ad 16 gF (ups aF 3 (0 : Int32).toNatClampNeg x) vF tl)) rfl ?_
      refine mg_iload_n C dX4_input_51 rfl ?_
      exact mg_iret C hQ dX4_input_52 (⟨by rw [anInput, if_neg h14, if_neg h25] <;> first | rfl | decide, zx⟩)
    · refine mg_bipush (v := (-2)) C dX4_input_28 (by decide) ?_
      exact mg_iret C hQ dX4_input_30 (⟨by rw [anInput, if_neg h14, if_pos h25] <;> first | rfl | decide, zx⟩)
set_option maxHeartbeats 400000 in
set_option maxRecDepth 100000 in
theorem ct_X4_bits (E : En) (ad : Nat → Nat) (tl : va_W) (b : Int32)  : Ct E mX4_bits 1 0 0 [.ref (ad 19), .int b] (cw E ad 16 gF aF vF tl) (fun o w => o = some (.int (anBits b)) ∧ ∃ L : va_W, w = L ++ tl) := by
  refine Ct.of (by decide) (Nat.le_of_ble_eq_true rfl) (fun X C hQ hin => ?_)
  have C : Cx E X cX4_bits 3 RX4 (some .int) 1 40 0 0 := C
  refine mg_iload_n C dX4_bits_0 rfl ?_
  refine mg_iconst (v := 1) C dX4_bits_1 (by decide) ?_
  refine mg_bipush (v := 16) C dX4_bits_2 (by decide) ?_
  refine mg_callS C (ct_X4_within E _ _ _ _) oX4_39 rfl rfl rfl dX4_bits_4 (fun o4 w4 z4 => ?_)
  obtain ⟨rfl, rfl⟩ := z4
  refine mg_v ?_
  refine mg_if_ne C 13 dX4_bits_7 (by decide) (fun h7 => ?_) (fun h7 => ?_)
  · refine mg_aload_n C dX4_bits_13 rfl ?_
    refine mg_get C inG_X4 fX4_10 (ci := 4) rfl rfl 19 rfl rfl dX4_bits_14 ?_
    refine mg_getN C inG_X1 fX4_86 (ci := 1) rfl rfl 18 rfl rfl dX4_bits_17 ?_
    refine mg_istore_n C dX4_bits_20 rfl ?_
    refine mg_lve (lv' := [(0, _), (1, _), (2, _)]) rfl ?_
    refine mg_aload_n C dX4_bits_21 rfl ?_
    refine mg_get C inG_X4 fX4_10 (ci := 4) rfl rfl 19 rfl rfl dX4_bits_22 ?_
    refine mg_iload_n C dX4_bits_25 rfl ?_
    refine mg_putN C inG_X1 fX4_86 (ci := 1) rfl rfl tyX1 tyX1_ok nmX1 rfl 18 rfl rfl rfl rfl dX4_bits_26 (ws' := (cw E ad 16 (ug gF 3 b) aF vF tl)) rfl ?_
    refine mg_iload_n C dX4_bits_29 rfl ?_
    exact mg_iret C hQ dX4_bits_30 (⟨by rw [anBits, if_neg h7] <;> first | rfl | decide, zx⟩)
  · refine mg_bipush (v := (-2)) C dX4_bits_10 (by decide) ?_
    exact mg_iret C hQ dX4_bits_12 (⟨by rw [anBits, if_pos h7] <;> first | rfl | decide, zx⟩)
set_option maxHeartbeats 400000 in
set_option maxRecDepth 100000 in
theorem cf_columnSum (E : En) (ad : Nat → Nat) (tl : va_W)   : Ct E mX1_columnSum 1 0 0 [.ref (ad 18), .int 0] (cw E ad 16 gF aF vF tl) (fun o w => o = some (.int 0) ∧ w = cw E ad 16 gF aF vF tl) := by
  refine Ct.of (by decide) (Nat.le_of_ble_eq_true rfl) (fun X C hQ hin => ?_)
  have C : Cx E X cX1_columnSum 4 RX1 (some .int) 1 40 0 0 := C
  refine mg_iconst (v := 0) C dX1_columnSum_0 (by decide) ?_
  refine mg_istore_n C dX1_columnSum_1 rfl ?_
  refine mg_lve (lv' := [(0, _), (1, _), (2, _)]) rfl ?_
  refine mg_iconst (v := 0) C dX1_columnSum_2 (by decide) ?_
  refine mg_istore_n C dX1_columnSum_3 rfl ?_
  refine mg_lve (lv' := [(0, _), (1, _), (2, _), (3, _)]) rfl ?_
  refine mg_iload_n C dX1_columnSum_4 rfl ?_
  refine mg_aload_n C dX1_columnSum_5 rfl ?_
  refine mg_get C inG_X1 fX1_28 (ci := 1) rfl rfl 18 rfl rfl dX1_columnSum_6 ?_
  refine mg_icmp_ge C 39 dX1_columnSum_9 (by decide) (fun h9 => absurd h9 (by decide)) (fun h9 => ?_)
  refine mg_iload_n C dX1_columnSum_12 rfl ?_
  refine mg_aload_n C dX1_columnSum_13 rfl ?_
  refine mg_get C inG_X1 fX1_21 (ci := 1) rfl rfl 18 rfl rfl dX1_columnSum_14 ?_
  refine mg_iload_n C dX1_columnSum_17 rfl ?_
  refine mg_iald C 14 rfl (vin00) dX1_columnSum_18 ?_
  refine mg_aload_n C dX1_columnSum_19 rfl ?_
  refine mg_get C inG_X1 fX1_9 (ci := 1) rfl rfl 18 rfl rfl dX1_columnSum_20 ?_
  refine mg_aload_n C dX1_columnSum_23 rfl ?_
  refine mg_iload_n C dX1_columnSum_24 rfl ?_
  refine mg_iload_n C dX1_columnSum_25 rfl ?_
  refine mg_callV C (ct_X1_place E _ _ _ _ _ _ _ _) oX1_55 18 rfl rfl rfl rfl rfl dX1_columnSum_26 (fun o26 w26 z26 => ?_)
  obtain ⟨rfl, rfl⟩ := z26
  refine mg_v ?_
  refine mg_iald C 17 rfl (vin0) dX1_columnSum_29 ?_
  refine mg_imul C dX1_columnSum_30 ?_
  refine mg_iadd C dX1_columnSum_31 ?_
  refine mg_istore_n C dX1_columnSum_32 rfl ?_
  refine mg_lve (lv' := [(0, _), (1, _), (2, _), (3, _)]) rfl ?_
  refine mg_iinc C dX1_columnSum_33 rfl rfl ?_
  refine mg_lve (lv' := [(0, _), (1, _), (2, _), (3, _)]) rfl ?_
  refine mg_goto C 4 dX1_columnSum_36 (by decide) ?_
  refine mg_iload_n C dX1_columnSum_4 rfl ?_
  refine mg_aload_n C dX1_columnSum_5 rfl ?_
  refine mg_get C inG_X1 fX1_28 (ci := 1) rfl rfl 18 rfl rfl dX1_columnSum_6 ?_
  refine mg_icmp_ge C 39 dX1_columnSum_9 (by decide) (fun h9 => ?_) (fun h9 => absurd h9 (by decide))
  refine mg_iload_n C dX1_columnSum_39 rfl ?_
  exact mg_iret C hQ dX1_columnSum_40 (⟨rfl, rfl⟩)
set_option maxHeartbeats 400000 in
set_option maxRecDepth 100000 in
theorem ct_X4_sum (E : En) (ad : Nat → Nat) (tl : va_W) (c : Int32)  : Ct E mX4_sum 2 0 0 [.ref (ad 19), .int c] (cw E ad 16 gF aF vF tl) (fun o w => o = some (.int (anSum c)) ∧ ∃ L : va_W, w = L ++ tl) := by
  refine Ct.of (by decide) (Nat.le_of_ble_eq_true rfl) (fun X C hQ hin => ?_)
  have C : Cx E X cX4_sum 2 RX4 (some .int) 2 80 0 0 := C
  refine mg_iload_n C dX4_sum_0 rfl ?_
  refine mg_iconst (v := 0) C dX4_sum_1 (by decide) ?_
  refine mg_aload_n C dX4_sum_2 rfl ?_
  refine mg_get C inG_X4 fX4_10 (ci := 4) rfl rfl 19 rfl rfl dX4_sum_3 ?_
  refine mg_getN C inG_X1 fX4_89 (ci := 1) rfl rfl 18 rfl rfl dX4_sum_6 ?_
  refine mg_iconst (v := 1) C dX4_sum_9 (by decide) ?_
  refine mg_isub C dX4_sum_10 ?_
  refine mg_callS C (ct_X4_within E _ _ _ _) oX4_39 rfl rfl rfl dX4_sum_11 (fun o11 w11 z11 => ?_)
  obtain ⟨rfl, rfl⟩ := z11
  refine mg_v ?_
  refine mg_if_ne C 20 dX4_sum_14 (by decide) (fun h14 => ?_) (fun h14 => ?_)
  · have er := wi0 h14
    subst er
    refine mg_aload_n C dX4_sum_20 rfl ?_
    refine mg_get C inG_X4 fX4_10 (ci := 4) rfl rfl 19 rfl rfl dX4_sum_21 ?_
    refine mg_aload_n C dX4_sum_24 rfl ?_
    refine mg_get C inG_X4 fX4_10 (ci := 4) rfl rfl 19 rfl rfl dX4_sum_25 ?_
    refine mg_iload_n C dX4_sum_28 rfl ?_
    refine mg_callVN C (cf_columnSum E _ _) oX4_92 18 rfl rfl rfl rfl rfl dX4_sum_29 (fun o29 w29 z29 => ?_)
    obtain ⟨rfl, rfl⟩ := z29
    refine mg_v ?_
    refine mg_callVN C (ct_X1_convert E _ _ _ _ _ _ _) oX4_96 18 rfl rfl rfl rfl rfl dX4_sum_32 (fun o32 w32 z32 => ?_)
    obtain ⟨rfl, rfl⟩ := z32
    refine mg_v ?_
    exact mg_iret C hQ dX4_sum_35 (⟨by rw [anSum, if_neg h14] <;> first | rfl | decide, zx⟩)
  · refine mg_bipush (v := (-2)) C dX4_sum_17 (by decide) ?_
    exact mg_iret C hQ dX4_sum_19 (⟨by rw [anSum, if_pos h14] <;> first | rfl | decide, zx⟩)
set_option maxHeartbeats 400000 in
set_option maxRecDepth 100000 in
theorem ct_X4_table (E : En) (ad : Nat → Nat) (tl : va_W) (n m d : Int32)  : Ct E mX4_table 1 0 0 [.ref (ad 19), .int n, .int m, .int d] (cw E ad 16 gF aF vF tl) (fun o w => o = some (.int (anTable n m d)) ∧ ∃ L : va_W, w = L ++ tl) := by
  refine Ct.of (by decide) (Nat.le_of_ble_eq_true rfl) (fun X C hQ hin => ?_)
  have C : Cx E X cX4_table 4 RX4 (some .int) 1 40 0 0 := C
  refine mg_iload_n C dX4_table_0 rfl ?_
  refine mg_iconst (v := 1) C dX4_table_1 (by decide) ?_
  refine mg_aload_n C dX4_table_2 rfl ?_
  refine mg_get C inG_X4 fX4_10 (ci := 4) rfl rfl 19 rfl rfl dX4_table_3 ?_
  refine mg_getN C inG_X1 fX4_79 (ci := 1) rfl rfl 18 rfl rfl dX4_table_6 ?_
  refine mg_callS C (ct_X4_within E _ _ _ _) oX4_39 rfl rfl rfl dX4_table_9 (fun o9 w9 z9 => ?_)
  obtain ⟨rfl, rfl⟩ := z9
  refine mg_v ?_
  refine mg_if_eq C 35 dX4_table_12 (by decide) (fun h12 => ?_) (fun h12 => ?_)
  · refine mg_bipush (v := (-2)) C dX4_table_35 (by decide) ?_
    exact mg_iret C hQ dX4_table_37 (⟨by rw [anTable, if_pos h12] <;> first | rfl | decide, zx⟩)
  · refine mg_iload_n C dX4_table_15 rfl ?_
    refine mg_iconst (v := 1) C dX4_table_16 (by decide) ?_
    refine mg_bipush (v := 12) C dX4_table_17 (by decide) ?_
    refine mg_callS C (ct_X4_within E _ _ _ _) oX4_39 rfl rfl rfl dX4_table_19 (fun o19 w19 z19 => ?_)
    obtain ⟨rfl, rfl⟩ := z19
    refine mg_v ?_
    refine mg_if_eq C 35 dX4_table_22 (by decide) (fun h22 => ?_) (fun h22 => ?_)
    · refine mg_bipush (v := (-2)) C dX4_table_35 (by decide) ?_
      exact mg_iret C hQ dX4_table_37 (⟨by rw [anTable, if_neg h12, if_pos h22] <;> first | rfl | decide, zx⟩)
    · refine mg_iload_n C dX4_table_25 rfl ?_
      refine mg_iconst (v := 1) C dX4_table_26 (by decide) ?_
      refine mg_bipush (v := 6) C dX4_table_27 (by decide) ?_
      refine mg_callS C (ct_X4_within E _ _ _ _) oX4_39 rfl rfl rfl dX4_table_29 (fun o29 w29 z29 => ?_)
      obtain ⟨rfl, rfl⟩ := z29
      refine mg_v ?_
      refine mg_if_ne C 38 dX4_table_32 (by decide) (fun h32 => ?_) (fun h32 => ?_)
      · refine mg_iconst (v := 2) C dX4_table_38 (by decide) ?_
        refine mg_iload_n C dX4_table_39 rfl ?_
        refine mg_imul C dX4_table_40 ?_
        refine mg_iload_n C dX4_table_41 rfl ?_
        refine mg_imul C dX4_table_42 ?_
        refine mg_aload_n C dX4_table_43 rfl ?_
        refine mg_get C inG_X4 fX4_10 (ci := 4) rfl rfl 19 rfl rfl dX4_table_44 ?_
        refine mg_getN C inG_X1 fX4_89 (ci := 1) rfl rfl 18 rfl rfl dX4_table_47 ?_
        refine mg_icmp_le C 56 dX4_table_50 (by decide) (fun h50 => absurd h50 (tabF h22 h32)) (fun h50 => ?_)
        refine mg_bipush (v := (-3)) C dX4_table_53 (by decide) ?_
        exact mg_iret C hQ dX4_table_55 (⟨by rw [anTable, if_neg h12, if_neg h22, if_neg h32] <;> first | rfl | decide, zx⟩)
      · refine mg_bipush (v := (-2)) C dX4_table_35 (by decide) ?_
        exact mg_iret C hQ dX4_table_37 (⟨by rw [anTable, if_neg h12, if_neg h22, if_pos h32] <;> first | rfl | decide, zx⟩)
set_option maxHeartbeats 400000 in
set_option maxRecDepth 100000 in
theorem ct_X4_number (E : En) (ad : Nat → Nat) (tl : va_W) (i k y : Int32)  : Ct E mX4_number 1 0 0 [.ref (ad 19), .int i, .int k, .int y] (cw E ad 16 gF aF vF tl) (fun o w => o = some (.int (-2000000000)) ∧ ∃ L : va_W, w = L ++ tl) := by
  refine Ct.of (by decide) (Nat.le_of_ble_eq_true rfl) (fun X C hQ hin => ?_)
  have C : Cx E X cX4_number 4 RX4 (some .int) 1 40 0 0 := C
  refine mg_iload_n C dX4_number_0 rfl ?_
  refine mg_iconst (v := 0) C dX4_number_1 (by decide) ?_
  refine mg_aload_n C dX4_number_2 rfl ?_
  refine mg_get C inG_X4 fX4_21 (ci := 4) rfl rfl 19 rfl rfl dX4_number_3 ?_
  refine mg_getN C inG_X3 fX4_102 (ci := 3) rfl rfl 13 rfl rfl dX4_number_6 ?_
  refine mg_iconst (v := 1) C dX4_number_9 (by decide) ?_
  refine mg_isub C dX4_number_10 ?_
  refine mg_callS C (ct_X4_within E _ _ _ _) oX4_39 rfl rfl rfl dX4_number_11 (fun o11 w11 z11 => ?_)
  obtain ⟨rfl, rfl⟩ := z11
  refine mg_v ?_
  refine mg_if_eq C 56 dX4_number_14 (by decide) (fun h14 => ?_) (fun h14 => absurd h14 (fun hh => hh wim))
  refine mg_ldc C dX4_number_56 kX4_111 ?_
  exact mg_iret C hQ dX4_number_58 (⟨rfl, zx⟩)
set_option maxHeartbeats 400000 in
set_option maxRecDepth 100000 in
theorem ct_X4_lay (E : En) (ad : Nat → Nat) (tl : va_W)   : Ct E mX4_lay 1 0 0 [.ref (ad 19)] (cw E ad 16 gF aF vF tl) (fun o w => o = some (.int (-3)) ∧ ∃ L : va_W, w = L ++ tl) := by
  refine Ct.of (by decide) (Nat.le_of_ble_eq_true rfl) (fun X C hQ hin => ?_)
  have C : Cx E X cX4_lay 1 RX4 (some .int) 1 40 0 0 := C
  refine mg_aload_n C dX4_lay_0 rfl ?_
  refine mg_get C inG_X4 fX4_21 (ci := 4) rfl rfl 19 rfl rfl dX4_lay_1 ?_
  refine mg_callVN C (ct_X3_exists E _ _ _ _ _ _) oX4_116 13 rfl rfl rfl rfl rfl dX4_lay_4 (fun o4 w4 z4 => ?_)
  obtain ⟨rfl, rfl⟩ := z4
  refine mg_v ?_
  refine mg_if_eq C 20 dX4_lay_7 (by decide) (fun h7 => ?_) (fun h7 => absurd h7 (fun hh => hh rfl))
  refine mg_bipush (v := (-3)) C dX4_lay_20 (by decide) ?_
  exact mg_iret C hQ dX4_lay_22 (⟨rfl, zx⟩)
set_option maxHeartbeats 400000 in
set_option maxRecDepth 100000 in
theorem ct_X4_enough (E : En) (ad : Nat → Nat) (tl : va_W)   : Ct E mX4_enough 1 0 0 [.ref (ad 19)] (cw E ad 16 gF aF vF tl) (fun o w => o = some (.int (-3)) ∧ ∃ L : va_W, w = L ++ tl) := by
  refine Ct.of (by decide) (Nat.le_of_ble_eq_true rfl) (fun X C hQ hin => ?_)
  have C : Cx E X cX4_enough 1 RX4 (some .int) 1 40 0 0 := C
  refine mg_aload_n C dX4_enough_0 rfl ?_
  refine mg_get C inG_X4 fX4_21 (ci := 4) rfl rfl 19 rfl rfl dX4_enough_1 ?_
  refine mg_callVN C (ct_X3_exists E _ _ _ _ _ _) oX4_116 13 rfl rfl rfl rfl rfl dX4_enough_4 (fun o4 w4 z4 => ?_)
  obtain ⟨rfl, rfl⟩ := z4
  refine mg_v ?_
  refine mg_if_eq C 20 dX4_enough_7 (by decide) (fun h7 => ?_) (fun h7 => absurd h7 (fun hh => hh rfl))
  refine mg_bipush (v := (-3)) C dX4_enough_20 (by decide) ?_
  exact mg_iret C hQ dX4_enough_22 (⟨rfl, zx⟩)
set_option maxHeartbeats 400000 in
set_option maxRecDepth 100000 in
theorem ct_X4_map (E : En) (ad : Nat → Nat) (tl : va_W)   : Ct E mX4_map 1 0 0 [.ref (ad 19)] (cw E ad 16 gF aF vF tl) (fun o w => o = some (.int (-3)) ∧ ∃ L : va_W, w = L ++ tl) := by
  refine Ct.of (by decide) (Nat.le_of_ble_eq_true rfl) (fun X C hQ hin => ?_)
  have C : Cx E X cX4_map 1 RX4 (some .int) 1 40 0 0 := C
  refine mg_aload_n C dX4_map_0 rfl ?_
  refine mg_get C inG_X4 fX4_21 (ci := 4) rfl rfl 19 rfl rfl dX4_map_1 ?_
  refine mg_callVN C (ct_X3_exists E _ _ _ _ _ _) oX4_116 13 rfl rfl rfl rfl rfl dX4_map_4 (fun o4 w4 z4 => ?_)
  obtain ⟨rfl, rfl⟩ := z4
  refine mg_v ?_
  refine mg_if_eq C 20 dX4_map_7 (by decide) (fun h7 => ?_) (fun h7 => absurd h7 (fun hh => hh rfl))
  refine mg_bipush (v := (-3)) C dX4_map_20 (by decide) ?_
  exact mg_iret C hQ dX4_map_22 (⟨rfl, zx⟩)
set_option maxHeartbeats 400000 in
set_option maxRecDepth 100000 in
theorem ct_X4_product (E : En) (ad : Nat → Nat) (tl : va_W) (k : Int32)  : Ct E mX4_product 1 0 0 [.ref (ad 19), .int k] (cw E ad 16 gF aF vF tl) (fun o w => o = some (.long (-2000000000000000000)) ∧ ∃ L : va_W, w = L ++ tl) := by
  refine Ct.of (by decide) (Nat.le_of_ble_eq_true rfl) (fun X C hQ hin => ?_)
  have C : Cx E X cX4_product 2 RX4 (some .long) 1 40 0 0 := C
  refine mg_aload_n C dX4_product_0 rfl ?_
  refine mg_get C inG_X4 fX4_21 (ci := 4) rfl rfl 19 rfl rfl dX4_product_1 ?_
  refine mg_getN C inG_X3 fX4_124 (ci := 3) rfl rfl 13 rfl rfl dX4_product_4 ?_
  refine mg_if_eq C 27 dX4_product_7 (by decide) (fun h7 => ?_) (fun h7 => absurd h7 (fun hh => hh rfl))
  refine mg_ldc2 C dX4_product_27 kX4_127 ?_
  exact mg_lret C hQ dX4_product_30 (⟨rfl, zx⟩)
set_option maxHeartbeats 400000 in
set_option maxRecDepth 100000 in
theorem ct_X4_due (E : En) (ad : Nat → Nat) (tl : va_W) (k : Int32)  : Ct E mX4_due 1 0 0 [.ref (ad 19), .int k] (cw E ad 16 gF aF vF tl) (fun o w => o = some (.long (-2000000000000000000)) ∧ ∃ L : va_W, w = L ++ tl) := by
  refine Ct.of (by decide) (Nat.le_of_ble_eq_true rfl) (fun X C hQ hin => ?_)
  have C : Cx E X cX4_due 2 RX4 (some .long) 1 40 0 0 := C
  refine mg_iload_n C dX4_due_0 rfl ?_
  refine mg_iconst (v := 0) C dX4_due_1 (by decide) ?_
  refine mg_aload_n C dX4_due_2 rfl ?_
  refine mg_get C inG_X4 fX4_21 (ci := 4) rfl rfl 19 rfl rfl dX4_due_3 ?_
  refine mg_getN C inG_X3 fX4_105 (ci := 3) rfl rfl 13 rfl rfl dX4_due_6 ?_
  refine mg_iconst (v := 1) C dX4_due_9 (by decide) ?_
  refine mg_isub C dX4_due_10 ?_
  refine mg_callS C (ct_X4_within E _ _ _ _) oX4_39 rfl rfl rfl dX4_due_11 (fun o11 w11 z11 => ?_)
  obtain ⟨rfl, rfl⟩ := z11
  refine mg_v ?_
  refine mg_if_ne C 21 dX4_due_14 (by decide) (fun h14 => absurd h14 (fun hh => hh wim)) (fun h14 => ?_)
  refine mg_ldc2 C dX4_due_17 kX4_127 ?_
  exact mg_lret C hQ dX4_due_20 (⟨rfl, zx⟩)
set_option maxHeartbeats 400000 in
set_option maxRecDepth 100000 in
theorem ct_X4_mapped (E : En) (ad : Nat → Nat) (tl : va_W) (i : Int32)  : Ct E mX4_mapped 1 0 0 [.ref (ad 19), .int i] (cw E ad 16 gF aF vF tl) (fun o w => o = some (.int (anMapped i)) ∧ ∃ L : va_W, w = L ++ tl) := by
  refine Ct.of (by decide) (Nat.le_of_ble_eq_true rfl) (fun X C hQ hin => ?_)
  have C : Cx E X cX4_mapped 2 RX4 (some .int) 1 40 0 0 := C
  refine mg_iload_n C dX4_mapped_0 rfl ?_
  refine mg_if_ge C 7 dX4_mapped_1 (by decide) (fun h1 => ?_) (fun h1 => ?_)
  · refine mg_aload_n C dX4_mapped_7 rfl ?_
    refine mg_get C inG_X4 fX4_21 (ci := 4) rfl rfl 19 rfl rfl dX4_mapped_8 ?_
    refine mg_callVN C (ct_X3_exists E _ _ _ _ _ _) oX4_116 13 rfl rfl rfl rfl rfl dX4_mapped_11 (fun o11 w11 z11 => ?_)
    obtain ⟨rfl, rfl⟩ := z11
    refine mg_v ?_
    refine mg_if_ne C 20 dX4_mapped_14 (by decide) (fun h14 => absurd h14 (fun hh => hh rfl)) (fun h14 => ?_)
    refine mg_bipush (v := (-3)) C dX4_mapped_17 (by decide) ?_
    exact mg_iret C hQ dX4_mapped_19 (⟨by rw [anMapped, if_pos h1] <;> first | rfl | decide, zx⟩)
  · refine mg_bipush (v := (-2)) C dX4_mapped_4 (by decide) ?_
    exact mg_iret C hQ dX4_mapped_6 (⟨by rw [anMapped, if_neg h1] <;> first | rfl | decide, zx⟩)
set_option maxHeartbeats 400000 in
set_option maxRecDepth 100000 in
theorem ct_X4_look (E : En) (ad : Nat → Nat) (tl : va_W)   : Ct E mX4_look 0 0 0 [.ref (ad 19)] (cw E ad 16 gF aF vF tl) (fun o w => o = some (.int (-3)) ∧ ∃ L : va_W, w = L ++ tl) := by
  refine Ct.of (by decide) (Nat.le_of_ble_eq_true rfl) (fun X C hQ hin => ?_)
  have C : Cx E X cX4_look 1 RX4 (some .int) 0 0 0 0 := C
  refine mg_aload_n C dX4_look_0 rfl ?_
  refine mg_get C inG_X4 fX4_28 (ci := 4) rfl rfl 19 rfl rfl dX4_look_1 ?_
  refine mg_getN C inG_X0 fX4_50 (ci := 0) rfl rfl 7 rfl rfl dX4_look_4 ?_
  refine mg_if_eq C 20 dX4_look_7 (by decide) (fun h7 => ?_) (fun h7 => absurd h7 (fun hh => hh rfl))
  refine mg_bipush (v := (-3)) C dX4_look_20 (by decide) ?_
  exact mg_iret C hQ dX4_look_22 (⟨rfl, zx⟩)
set_option maxHeartbeats 400000 in
set_option maxRecDepth 100000 in
theorem ct_X4_actAt (E : En) (ad : Nat → Nat) (tl : va_W) (i u : Int32)  : Ct E mX4_actAt 1 0 0 [.ref (ad 19), .int i, .int u] (cw E ad 16 gF aF vF tl) (fun o w => o = some (.int (anActAt u)) ∧ ∃ L : va_W, w = L ++ tl) := by
  refine Ct.of (by decide) (Nat.le_of_ble_eq_true rfl) (fun X C hQ hin => ?_)
  have C : Cx E X cX4_actAt 3 RX4 (some .int) 1 40 0 0 := C
  refine mg_iload_n C dX4_actAt_0 rfl ?_
  refine mg_iconst (v := 0) C dX4_actAt_1 (by decide) ?_
  refine mg_iconst (v := 2) C dX4_actAt_2 (by decide) ?_
  refine mg_callS C (ct_X4_within E _ _ _ _) oX4_39 rfl rfl rfl dX4_actAt_3 (fun o3 w3 z3 => ?_)
  obtain ⟨rfl, rfl⟩ := z3
  refine mg_v ?_
  refine mg_if_ne C 12 dX4_actAt_6 (by decide) (fun h6 => ?_) (fun h6 => ?_)
  · refine mg_iload_n C dX4_actAt_12 rfl ?_
    refine mg_iconst (v := 0) C dX4_actAt_13 (by decide) ?_
    refine mg_aload_n C dX4_actAt_14 rfl ?_
    refine mg_get C inG_X4 fX4_35 (ci := 4) rfl rfl 19 rfl rfl dX4_actAt_15 ?_
    refine mg_getN C inG_X2 fX4_167 (ci := 2) rfl rfl 4 rfl rfl dX4_actAt_18 ?_
    refine mg_iconst (v := 1) C dX4_actAt_21 (by decide) ?_
    refine mg_isub C dX4_actAt_22 ?_
    refine mg_callS C (ct_X4_within E _ _ _ _) oX4_39 rfl rfl rfl dX4_actAt_23 (fun o23 w23 z23 => ?_)
    obtain ⟨rfl, rfl⟩ := z23
    refine mg_v ?_
    refine mg_if_eq C 45 dX4_actAt_26 (by decide) (fun h26 => ?_) (fun h26 => absurd h26 (fun hh => hh wim))
    refine mg_iconst (v := (-1)) C dX4_actAt_45 (by decide) ?_
    exact mg_iret C hQ dX4_actAt_46 (⟨by rw [anActAt, if_neg h6] <;> first | rfl | decide, zx⟩)
  · refine mg_bipush (v := (-2)) C dX4_actAt_9 (by decide) ?_
    exact mg_iret C hQ dX4_actAt_11 (⟨by rw [anActAt, if_pos h6] <;> first | rfl | decide, zx⟩)
set_option maxHeartbeats 400000 in
set_option maxRecDepth 100000 in
theorem ct_X4_where (E : En) (ad : Nat → Nat) (tl : va_W)   : Ct E mX4_where 0 0 0 [.ref (ad 19)] (cw E ad 16 gF aF vF tl) (fun o w => o = some (.int (-1)) ∧ ∃ L : va_W, w = L ++ tl) := by
  refine Ct.of (by decide) (Nat.le_of_ble_eq_true rfl) (fun X C hQ hin => ?_)
  have C : Cx E X cX4_where 1 RX4 (some .int) 0 0 0 0 := C
  refine mg_aload_n C dX4_where_0 rfl ?_
  refine mg_get C inG_X4 fX4_35 (ci := 4) rfl rfl 19 rfl rfl dX4_where_1 ?_
  refine mg_getN C inG_X2 fX4_176 (ci := 2) rfl rfl 4 rfl rfl dX4_where_4 ?_
  exact mg_iret C hQ dX4_where_7 (⟨rfl, zx⟩)
set_option maxHeartbeats 400000 in
set_option maxRecDepth 100000 in
theorem ct_X4_met (E : En) (ad : Nat → Nat) (tl : va_W)   : Ct E mX4_met 0 0 0 [.ref (ad 19)] (cw E ad 16 gF aF vF tl) (fun o w => o = some (.int (0)) ∧ ∃ L : va_W, w = L ++ tl) := by
  refine Ct.of (by decide) (Nat.le_of_ble_eq_true rfl) (fun X C hQ hin => ?_)
  have C : Cx E X cX4_met 1 RX4 (some .int) 0 0 0 0 := C
  refine mg_aload_n C dX4_met_0 rfl ?_
  refine mg_get C inG_X4 fX4_35 (ci := 4) rfl rfl 19 rfl rfl dX4_met_1 ?_
  refine mg_getN C inG_X2 fX4_179 (ci := 2) rfl rfl 4 rfl rfl dX4_met_4 ?_
  exact mg_iret C hQ dX4_met_7 (⟨rfl, zx⟩)
set_option maxHeartbeats 400000 in
set_option maxRecDepth 100000 in
theorem ct_X5_isCell (E : En) (ad : Nat → Nat) (g : Nat → Int32) (a : Nat → Nat → Int32) (v : Nat → Int64) (tl : va_W) (r c : Int32)  : Ct E mX5_isCell 1 0 0 [.ref (ad 17), .int r, .int c] (mw E ad g a v tl) (fun o w => o = some (.int (hc g r c)) ∧ w = mw E ad g a v tl) := by
  refine Ct.of (by decide) (Nat.le_of_ble_eq_true rfl) (fun X C hQ hin => ?_)
  have C : Cx E X cX5_isCell 3 RX5 (some .boolean) 1 40 0 0 := C
  refine mg_iload_n C dX5_isCell_0 rfl ?_
  refine mg_iconst (v := 0) C dX5_isCell_1 (by decide) ?_
  refine mg_aload_n C dX5_isCell_2 rfl ?_
  refine mg_get C inG_X5 fX5_7 (ci := 5) rfl rfl 17 rfl rfl dX5_isCell_3 ?_
  refine mg_iconst (v := 1) C dX5_isCell_6 (by decide) ?_
  refine mg_isub C dX5_isCell_7 ?_
  refine mg_callS C (ct_X5_in E _ _ _ _) oX5_98 rfl rfl rfl dX5_isCell_8 (fun o8 w8 z8 => ?_)
  obtain ⟨rfl, rfl⟩ := z8
  refine mg_v ?_
  refine mg_if_eq C 32 dX5_isCell_11 (by decide) (fun h11 => ?_) (fun h11 => ?_)
  · refine mg_iconst (v := 0) C dX5_isCell_32 (by decide) ?_
    exact mg_zret C hQ (rfl) dX5_isCell_33 (⟨by rw [hc, if_pos h11] <;> first | rfl | decide, rfl⟩)
  · refine mg_iload_n C dX5_isCell_14 rfl ?_
    refine mg_iconst (v := 0) C dX5_isCell_15 (by decide) ?_
    refine mg_aload_n C dX5_isCell_16 rfl ?_
    refine mg_get C inG_X5 fX5_13 (ci := 5) rfl rfl 17 rfl rfl dX5_isCell_17 ?_
    refine mg_iconst (v := 1) C dX5_isCell_20 (by decide) ?_
    refine mg_isub C dX5_isCell_21 ?_
    refine mg_callS C (ct_X5_in E _ _ _ _) oX5_98 rfl rfl rfl dX5_isCell_22 (fun o22 w22 z22 => ?_)
    obtain ⟨rfl, rfl⟩ := z22
    refine mg_v ?_
    refine mg_if_eq C 32 dX5_isCell_25 (by decide) (fun h25 => ?_) (fun h25 => ?_)
    · refine mg_iconst (v := 0) C dX5_isCell_32 (by decide) ?_
      exact mg_zret C hQ (rfl) dX5_isCell_33 (⟨by rw [hc, if_neg h11, if_pos h25] <;> first | rfl | decide, rfl⟩)
    · refine mg_iconst (v := 1) C dX5_isCell_28 (by decide) ?_
      refine mg_goto C 33 dX5_isCell_29 (by decide) ?_
      exact mg_zret C hQ (rfl) dX5_isCell_33 (⟨by rw [hc, if_neg h11, if_neg h25] <;> first | rfl | decide, rfl⟩)
set_option maxHeartbeats 400000 in
set_option maxRecDepth 100000 in
theorem ct_X5_cellAt (E : En) (ad : Nat → Nat) (g : Nat → Int32) (a : Nat → Nat → Int32) (v : Nat → Int64) (tl : va_W) (z u : Int32) (hz : vp_in z 192) : Ct E mX5_cellAt 0 0 0 [.ref (ad 17), .int z, .int u] (mw E ad g a v tl) (fun o w => o = some (.int (tc a z u)) ∧ w = mw E ad g a v tl) := by
  refine Ct.of (by decide) (Nat.le_of_ble_eq_true rfl) (fun X C hQ hin => ?_)
  have C : Cx E X cX5_cellAt 3 RX5 (some .int) 0 0 0 0 := C
  refine mg_iload_n C dX5_cellAt_0 rfl ?_
  refine mg_if_ne C 13 dX5_cellAt_1 (by decide) (fun h1 => ?_) (fun h1 => ?_)
  · refine mg_iload_n C dX5_cellAt_13 rfl ?_
    refine mg_iconst (v := 1) C dX5_cellAt_14 (by decide) ?_
    refine mg_icmp_ne C 27 dX5_cellAt_15 (by decide) (fun h15 => ?_) (fun h15 => ?_)
    · refine mg_aload_n C dX5_cellAt_27 rfl ?_
      refine mg_get C inG_X5 fX5_26 (ci := 5) rfl rfl 17 rfl rfl dX5_cellAt_28 ?_
      refine mg_iload_n C dX5_cellAt_31 rfl ?_
      refine mg_iald C 14 rfl (hz) dX5_cellAt_32 ?_
      exact mg_iret C hQ dX5_cellAt_33 (⟨by rw [tc, if_neg h1, if_neg h15] <;> first | rfl | decide, rfl⟩)
    · refine mg_aload_n C dX5_cellAt_18 rfl ?_
      refine mg_get C inG_X5 fX5_23 (ci := 5) rfl rfl 17 rfl rfl dX5_cellAt_19 ?_
      refine mg_iload_n C dX5_cellAt_22 rfl ?_
      refine mg_iald C 15 rfl (hz) dX5_cellAt_23 ?_
      refine mg_goto C 33 dX5_cellAt_24 (by decide) ?_
      exact mg_iret C hQ dX5_cellAt_33 (⟨by rw [tc, if_neg h1, if_pos h15] <;> first | rfl | decide, rfl⟩)
  · refine mg_aload_n C dX5_cellAt_4 rfl ?_
    refine mg_get C inG_X5 fX5_19 (ci := 5) rfl rfl 17 rfl rfl dX5_cellAt_5 ?_
    refine mg_iload_n C dX5_cellAt_8 rfl ?_
    refine mg_iald C 16 rfl (hz) dX5_cellAt_9 ?_
    refine mg_goto C 33 dX5_cellAt_10 (by decide) ?_
    exact mg_iret C hQ dX5_cellAt_33 (⟨by rw [tc, if_pos h1] <;> first | rfl | decide, rfl⟩)
set_option maxHeartbeats 400000 in
set_option maxRecDepth 100000 in
theorem ct_X5_hasTable (E : En) (ad : Nat → Nat) (g : Nat → Int32) (a : Nat → Nat → Int32) (v : Nat → Int64) (tl : va_W)   : Ct E mX5_hasTable 0 0 0 [.ref (ad 17)] (mw E ad g a v tl) (fun o w => o = some (.int (ex g)) ∧ w = mw E ad g a v tl) := by
  refine Ct.of (by decide) (Nat.le_of_ble_eq_true rfl) (fun X C hQ hin => ?_)
  have C : Cx E X cX5_hasTable 1 RX5 (some .boolean) 0 0 0 0 := C
  refine mg_aload_n C dX5_hasTable_0 rfl ?_
  refine mg_get C inG_X5 fX5_82 (ci := 5) rfl rfl 17 rfl rfl dX5_hasTable_1 ?_
  refine mg_if_le C 11 dX5_hasTable_4 (by decide) (fun h4 => ?_) (fun h4 => ?_)
  · refine mg_iconst (v := 0) C dX5_hasTable_11 (by decide) ?_
    exact mg_zret C hQ (rfl) dX5_hasTable_12 (⟨by rw [ex, if_pos h4] <;> first | rfl | decide, rfl⟩)
  · refine mg_iconst (v := 1) C dX5_hasTable_7 (by decide) ?_
    refine mg_goto C 12 dX5_hasTable_8 (by decide) ?_
    exact mg_zret C hQ (rfl) dX5_hasTable_12 (⟨by rw [ex, if_neg h4] <;> first | rfl | decide, rfl⟩)
def wr (a : Nat → Nat → Int32) (z y : Int32) : Int32 := if a 1 z.toNatClampNeg = -1 then 1 else if a 1 z.toNatClampNeg = y then 1 else 0
def wa (a : Nat → Nat → Int32) (z y : Int32) : Nat → Nat → Int32 := if wr a z y = 0 then a else ups (ups a 0 z.toNatClampNeg y) 2 z.toNatClampNeg 0
theorem wr_t {a : Nat → Nat → Int32} {z y : Int32} (h : a 1 z.toNatClampNeg = -1) : wr a z y = 1 := by rw [wr, if_pos h]
theorem wr_f {a : Nat → Nat → Int32} {z y : Int32} (h : ¬ a 1 z.toNatClampNeg = -1) (h2 : a 1 z.toNatClampNeg = y) : wr a z y = 1 := by rw [wr, if_neg h, if_pos h2]
theorem wr_n {a : Nat → Nat → Int32} {z y : Int32} (h : ¬ a 1 z.toNatClampNeg = -1) (h2 : ¬ a 1 z.toNatClampNeg = y) : wr a z y = 0 := by rw [wr, if_neg h, if_neg h2]
theorem wa_t {a : Nat → Nat → Int32} {z y : Int32} (h : wr a z y = 1) : wa a z y = ups (ups a 0 z.toNatClampNeg y) 2 z.toNatClampNeg 0 := by rw [wa, if_neg (by rw [h]; decide)]
theorem wa_f {a : Nat → Nat → Int32} {z y : Int32} (h : wr a z y = 0) : wa a z y = a := by rw [wa, if_pos h]
set_option maxHeartbeats 400000 in
set_option maxRecDepth 100000 in
theorem ct_X5_writes (E : En) (ad : Nat → Nat) (g : Nat → Int32) (a : Nat → Nat → Int32) (v : Nat → Int64) (tl : va_W) (z y : Int32) (hz : vp_in z 192) : Ct E mX5_writes 0 0 0 [.ref (ad 17), .int z, .int y] (mw E ad g a v tl) (fun o w => o = some (.int (wr a z y)) ∧ w = mw E ad g (wa a z y) v tl) := by
  refine Ct.of (by decide) (Nat.le_of_ble_eq_true rfl) (fun X C hQ hin => ?_)
  have C : Cx E X cX5_writes 3 RX5 (some .boolean) 0 0 0 0 := C
  refine mg_aload_n C dX5_writes_0 rfl ?_
  refine mg_get C inG_X5 fX5_23 (ci := 5) rfl rfl 17 rfl rfl dX5_writes_1 ?_
  refine mg_iload_n C dX5_writes_4 rfl ?_
  refine mg_iald C 15 rfl (hz) dX5_writes_5 ?_
  refine mg_iconst (v := (-1)) C dX5_writes_6 (by decide) ?_
  refine mg_icmp_eq C 22 dX5_writes_7 (by decide) (fun h7 => ?_) (fun h7 => ?_)
  · refine mg_aload_n C dX5_writes_22 rfl ?_
    refine mg_get C inG_X5 fX5_19 (ci := 5) rfl rfl 17 rfl rfl dX5_writes_23 ?_
    refine mg_iload_n C dX5_writes_26 rfl ?_
    refine mg_iload_n C dX5_writes_27 rfl ?_
    refine mg_iast C 16 rfl (hz) dX5_writes_28 (ws' := (mw E ad g (ups a 0 (z : Int32).toNatClampNeg y) v tl)) rfl ?_
    refine mg_aload_n C dX5_writes_29 rfl ?_
    refine mg_get C inG_X5 fX5_26 (ci := 5) rfl rfl 17 rfl rfl dX5_writes_30 ?_
    refine mg_iload_n C dX5_writes_33 rfl ?_
    refine mg_iconst (v := 0) C dX5_writes_34 (by decide) ?_
    refine mg_iast C 14 rfl (hz) dX5_writes_35 (ws' := (mw E ad g (ups (ups a 0 (z : Int32).toNatClampNeg y) 2 (z : Int32).toNatClampNeg 0) v tl)) rfl ?_
    refine mg_iconst (v := 1) C dX5_writes_36 (by decide) ?_
    exact mg_zret C hQ (rfl) dX5_writes_37 (⟨by rw [wr_t h7], by rw [wa_t (wr_t h7)]⟩)
  · refine mg_aload_n C dX5_writes_10 rfl ?_
    refine mg_get C inG_X5 fX5_23 (ci := 5) rfl rfl 17 rfl rfl dX5_writes_11 ?_
    refine mg_iload_n C dX5_writes_14 rfl ?_
    refine mg_iald C 15 rfl (hz) dX5_writes_15 ?_
    refine mg_iload_n C dX5_writes_16 rfl ?_
    refine mg_icmp_eq C 22 dX5_writes_17 (by decide) (fun h17 => ?_) (fun h17 => ?_)
    · refine mg_aload_n C dX5_writes_22 rfl ?_
      refine mg_get C inG_X5 fX5_19 (ci := 5) rfl rfl 17 rfl rfl dX5_writes_23 ?_
      refine mg_iload_n C dX5_writes_26 rfl ?_
      refine mg_iload_n C dX5_writes_27 rfl ?_
      refine mg_iast C 16 rfl (hz) dX5_writes_28 (ws' := (mw E ad g (ups a 0 (z : Int32).toNatClampNeg y) v tl)) rfl ?_
      refine mg_aload_n C dX5_writes_29 rfl ?_
      refine mg_get C inG_X5 fX5_26 (ci := 5) rfl rfl 17 rfl rfl dX5_writes_30 ?_
      refine mg_iload_n C dX5_writes_33 rfl ?_
      refine mg_iconst (v := 0) C dX5_writes_34 (by decide) ?_
      refine mg_iast C 14 rfl (hz) dX5_writes_35 (ws' := (mw E ad g (ups (ups a 0 (z : Int32).toNatClampNeg y) 2 (z : Int32).toNatClampNeg 0) v tl)) rfl ?_
      refine mg_iconst (v := 1) C dX5_writes_36 (by decide) ?_
      exact mg_zret C hQ (rfl) dX5_writes_37 (⟨by rw [wr_f h7 h17], by rw [wa_t (wr_f h7 h17)]⟩)
    · refine mg_iconst (v := 0) C dX5_writes_20 (by decide) ?_
      exact mg_zret C hQ (rfl) dX5_writes_21 (⟨by rw [wr_n h7 h17], by rw [wa_f (wr_n h7 h17)]⟩)
set_option maxHeartbeats 400000 in
set_option maxRecDepth 100000 in
theorem ct_X5_converted (E : En) (ad : Nat → Nat) (g : Nat → Int32) (a : Nat → Nat → Int32) (v : Nat → Int64) (tl : va_W) (z : Int32)  : Ct E mX5_converted 0 0 0 [.ref (ad 17), .int z] (mw E ad g a v tl) (fun o w => o = some (.int (if z ≤ (1 : Int32) <<< (g 3 &&& 31) - 1 then z else (1 : Int32) <<< (g 3 &&& 31) - 1)) ∧ w = mw E ad g a v tl) := by
  refine Ct.of (by decide) (Nat.le_of_ble_eq_true rfl) (fun X C hQ hin => ?_)
  have C : Cx E X cX5_converted 3 RX5 (some .int) 0 0 0 0 := C
  refine mg_iconst (v := 1) C dX5_converted_0 (by decide) ?_
  refine mg_aload_n C dX5_converted_1 rfl ?_
  refine mg_get C inG_X5 fX5_32 (ci := 5) rfl rfl 17 rfl rfl dX5_converted_2 ?_
  refine mg_ishl C dX5_converted_5 ?_
  refine mg_iconst (v := 1) C dX5_converted_6 (by decide) ?_
  refine mg_isub C dX5_converted_7 ?_
  refine mg_istore_n C dX5_converted_8 rfl ?_
  refine mg_lve (lv' := [(0, _), (1, _), (2, _)]) rfl ?_
  refine mg_iload_n C dX5_converted_9 rfl ?_
  refine mg_iload_n C dX5_converted_10 rfl ?_
  refine mg_icmp_le C 18 dX5_converted_11 (by decide) (fun h11 => ?_) (fun h11 => ?_)
  · refine mg_iload_n C dX5_converted_18 rfl ?_
    exact mg_iret C hQ dX5_converted_19 (⟨by rw [if_pos h11], rfl⟩)
  · refine mg_iload_n C dX5_converted_14 rfl ?_
    refine mg_goto C 19 dX5_converted_15 (by decide) ?_
    exact mg_iret C hQ dX5_converted_19 (⟨by rw [if_neg h11], rfl⟩)
def bg (g : Nat → Int32) (r c u : Int32) : Nat → Int32 := (ug (ug (ug (ug (ug (rg g r c u) 4 0) 5 0) 6 0) 8 0) 9 0)
set_option maxHeartbeats 400000 in
set_option maxRecDepth 100000 in
theorem ct_X5_begins (E : En) (ad : Nat → Nat) (g : Nat → Int32) (a : Nat → Nat → Int32) (v : Nat → Int64) (tl : va_W) (r c u : Int32) : Ct E mX5_begins 0 0 0 [.ref (ad 17), .int r, .int c, .int u] (mw E ad g a v tl) (fun o w => o = none ∧ w = mw E ad (bg g r c u) (ra a) v tl) := by
  refine Ct.of (by decide) (Nat.le_of_ble_eq_true rfl) (fun X C hQ hin => ?_)
  have C : Cx E X cX5_begins 5 RX5 none 0 0 0 0 := C
  have loop2 : ∀ (m i : Nat) (a1 : Nat → Nat → Int32), 8 < i + m → i ≤ 8 → ((∀ j, j < i → a1 3 j = 0) ∧ ∀ k, k ≠ 3 → a1 k = (upa (upa (upa a 0 (fun _ => 0)) 1 (fun _ => -1)) 2 (fun _ => 0)) k) → GG E X (mw E ad (bg g r c u) a1 v tl) 0 0 90 [(0, .ref (ad 17)), (1, .int r), (2, .int c), (3, .int u), (4, .int (nI i))] [] := by
    intro m
    induction m with
    | zero => intro i a1 hm hi; omega
    | succ m ih =>
      intro i a1 hm hi hv
      refine mg_iload C dX5_begins_90 rfl ?_
      refine mg_bipush (v := 8) C dX5_begins_92 (by decide) ?_
      refine mg_icmp_ge C 111 dX5_begins_94 (by decide) (fun h94 => ?_) (fun h94 => ?_)
      · have e : i = 8 := (by rcases Nat.lt_or_ge i 8 with q | q; exact absurd h94 (nI_ge (b := 8) q (by decide)); omega)
        subst e
        refine mg_arr 13 rfl (f' := fun _ => 0) (fun j hj => hv.1 j hj) (ws' := mw E ad (bg g r c u) (upa a1 3 (fun _ => 0)) v tl) rfl ?_
        refine mg_ws (ws' := mw E ad (bg g r c u) (ra a) v tl) ?_ ?_
        · rw [show upa a1 3 (fun _ => 0) = ra a from by
            funext k
            by_cases hk : k = 3
            · subst hk; rfl
            · have hk3 : Nat.beq k 3 = false := by rw [nbq]; simp; omega
              simp only [upa, ra, hk3, cond_false]
              exact hv.2 k hk]
        exact mg_vret C hQ dX5_begins_111 (⟨rfl, rfl⟩)
      · have hlt : i < 8 := (by rcases Nat.lt_or_ge i 8 with q | q; exact q; exact absurd (show (8 : Int32) ≤ nI i from nI_le (a := 8) q (by omega)) h94)
        have hin4 : vp_in (nI i) 8 := vp_in_nI hlt (by omega)
        refine mg_aload_n C dX5_begins_97 rfl ?_
        refine mg_get C inG_X5 fX5_29 (ci := 5) rfl rfl 17 rfl rfl dX5_begins_98 ?_
        refine mg_iload C dX5_begins_101 rfl ?_
        refine mg_iconst (v := 0) C dX5_begins_103 (by decide) ?_
        refine mg_iast C 13 rfl (hin4) dX5_begins_104 (ws' := (mw E ad (bg g r c u) (ups a1 3 ((nI i) : Int32).toNatClampNeg 0) v tl)) rfl ?_
        refine mg_iinc C dX5_begins_105 rfl rfl ?_
        refine mg_lve (lv' := [(0, _), (1, _), (2, _), (3, _), (4, _)]) rfl ?_
        refine mg_goto C 90 dX5_begins_108 (by decide) ?_
        refine mg_lve (lv' := [(0, .ref (ad 17)), (1, .int r), (2, .int c), (3, .int u), (4, .int (nI (i + 1)))]) (by rw [nI_succ]; rfl) ?_
        refine ih (i + 1) _ (by omega) hlt ⟨fun j hj => ?_, fun k hk => ?_⟩
        · rw [nI_clamp (by omega)]
          by_cases hji : j = i
          · subst hji; exact pk_us
          · exact (pk_un hji).trans (hv.1 j (by omega))
        · rw [← hv.2 k hk]
          have hk3 : Nat.beq k 3 = false := by rw [nbq]; simp; omega
          simp only [ups, hk3, cond_false]
  have fin1 : ∀ a1 : Nat → Nat → Int32, ((∀ j, j < 192 → a1 0 j = 0 ∧ a1 1 j = -1 ∧ a1 2 j = 0) ∧ ∀ k, 3 ≤ k → a1 k = a k) → GG E X (mw E ad (bg g r c u) a1 v tl) 0 0 87 [(0, .ref (ad 17)), (1, .int r), (2, .int c), (3, .int u), (4, .int (nI 192))] [] := by
    intro a1 hv
    refine mg_arr 16 rfl (f' := fun _ => 0) (fun j hj => (hv.1 j hj).1) (ws' := mw E ad (bg g r c u) (upa a1 0 (fun _ => 0)) v tl) rfl ?_
    refine mg_arr 15 rfl (f' := fun _ => -1) (fun j hj => (hv.1 j hj).2.1) (ws' := mw E ad (bg g r c u) (upa (upa a1 0 (fun _ => 0)) 1 (fun _ => -1)) v tl) rfl ?_
    refine mg_arr 14 rfl (f' := fun _ => 0) (fun j hj => (hv.1 j hj).2.2) (ws' := mw E ad (bg g r c u) (upa (upa (upa a1 0 (fun _ => 0)) 1 (fun _ => -1)) 2 (fun _ => 0)) v tl) rfl ?_
    refine mg_iconst (v := 0) C dX5_begins_87 (by decide) ?_
    refine mg_istore C dX5_begins_88 rfl ?_
    refine loop2 9 0 _ (by omega) (by omega) ⟨fun j hj => absurd hj (Nat.not_lt_zero j), fun k hk => ?_⟩
    by_cases h0 : k = 0
    · subst h0; rfl
    by_cases h1 : k = 1
    · subst h1; rfl
    by_cases h2 : k = 2
    · subst h2; rfl
    have hk0 : Nat.beq k 0 = false := by rw [nbq]; simp; omega
    have hk1 : Nat.beq k 1 = false := by rw [nbq]; simp; omega
    have hk2 : Nat.beq k 2 = false := by rw [nbq]; simp; omega
    simp only [upa, hk0, hk1, hk2, cond_false]
    exact hv.2 k (by omega)
  have loop1 : ∀ (m i : Nat) (a1 : Nat → Nat → Int32), 192 < i + m → i ≤ 192 → ((∀ j, j < i → a1 0 j = 0 ∧ a1 1 j = -1 ∧ a1 2 j = 0) ∧ ∀ k, 3 ≤ k → a1 k = a k) → GG E X (mw E ad (bg g r c u) a1 v tl) 0 0 49 [(0, .ref (ad 17)), (1, .int r), (2, .int c), (3, .int u), (4, .int (nI i))] [] := by
    intro m
    induction m with
    | zero => intro i a1 hm hi; omega
    | succ m ih =>
      intro i a1 hm hi hv
      refine mg_iload C dX5_begins_49 rfl ?_
      refine mg_sipush (v := 192) C dX5_begins_51 (by decide) ?_
      refine mg_icmp_ge C 87 dX5_begins_54 (by decide) (fun h54 => ?_) (fun h54 => ?_)
      · have e : i = 192 := (by rcases Nat.lt_or_ge i 192 with q | q; exact absurd h54 (nI_ge (b := 192) q (by decide)); omega)
        subst e
        exact fin1 a1 hv
      · have hlt : i < 192 := (by rcases Nat.lt_or_ge i 192 with q | q; exact q; exact absurd (show (192 : Int32) ≤ nI i from nI_le (a := 192) q (by omega)) h54)
        have hin4 : vp_in (nI i) 192 := vp_in_nI hlt (by omega)
        refine mg_aload_n C dX5_begins_57 rfl ?_
        refine mg_get C inG_X5 fX5_19 (ci := 5) rfl rfl 17 rfl rfl dX5_begins_58 ?_
        refine mg_iload C dX5_begins_61 rfl ?_
        refine mg_iconst (v := 0) C dX5_begins_63 (by decide) ?_
        refine mg_iast C 16 rfl (hin4) dX5_begins_64 (ws' := (mw E ad (bg g r c u) (ups a1 0 ((nI i) : Int32).toNatClampNeg 0) v tl)) rfl ?_
        refine mg_aload_n C dX5_begins_65 rfl ?_
        refine mg_get C inG_X5 fX5_23 (ci := 5) rfl rfl 17 rfl rfl dX5_begins_66 ?_
        refine mg_iload C dX5_begins_69 rfl ?_
        refine mg_iconst (v := (-1)) C dX5_begins_71 (by decide) ?_
        refine mg_iast C 15 rfl (hin4) dX5_begins_72 (ws' := (mw E ad (bg g r c u) (ups (ups a1 0 ((nI i) : Int32).toNatClampNeg 0) 1 ((nI i) : Int32).toNatClampNeg (-1)) v tl)) rfl ?_
        refine mg_aload_n C dX5_begins_73 rfl ?_
        refine mg_get C inG_X5 fX5_26 (ci := 5) rfl rfl 17 rfl rfl dX5_begins_74 ?_
        refine mg_iload C dX5_begins_77 rfl ?_
        refine mg_iconst (v := 0) C dX5_begins_79 (by decide) ?_
        refine mg_iast C 14 rfl (hin4) dX5_begins_80 (ws' := (mw E ad (bg g r c u) (ups (ups (ups a1 0 ((nI i) : Int32).toNatClampNeg 0) 1 ((nI i) : Int32).toNatClampNeg (-1)) 2 ((nI i) : Int32).toNatClampNeg 0) v tl)) rfl ?_
        refine mg_iinc C dX5_begins_81 rfl rfl ?_
        refine mg_lve (lv' := [(0, _), (1, _), (2, _), (3, _), (4, _)]) rfl ?_
        refine mg_goto C 49 dX5_begins_84 (by decide) ?_
        refine mg_lve (lv' := [(0, .ref (ad 17)), (1, .int r), (2, .int c), (3, .int u), (4, .int (nI (i + 1)))]) (by rw [nI_succ]; rfl) ?_
        refine ih (i + 1) _ (by omega) hlt ⟨fun j hj => ?_, fun k hk => ?_⟩
        · rw [nI_clamp (by omega)]
          by_cases hji : j = i
          · subst hji; exact ⟨pk_us, pk_us, pk_us⟩
          · obtain ⟨q1, q2, q3⟩ := hv.1 j (by omega)
            exact ⟨(pk_un hji).trans q1, (pk_un hji).trans q2, (pk_un hji).trans q3⟩
        · rw [← hv.2 k hk]
          have hk0 : Nat.beq k 0 = false := by rw [nbq]; simp; omega
          have hk1 : Nat.beq k 1 = false := by rw [nbq]; simp; omega
          have hk2 : Nat.beq k 2 = false := by rw [nbq]; simp; omega
          simp only [ups, hk0, hk1, hk2, cond_false]
  refine mg_aload_n C dX5_begins_0 rfl ?_
  refine mg_iload_n C dX5_begins_1 rfl ?_
  refine mg_put C inG_X5 fX5_7 (ci := 5) rfl rfl tyX5 tyX5_ok nmX5 rfl 17 rfl rfl rfl rfl dX5_begins_2 (ws' := (mw E ad (ug g 0 r) a v tl)) rfl ?_
  refine mg_aload_n C dX5_begins_5 rfl ?_
  refine mg_iload_n C dX5_begins_6 rfl ?_
  refine mg_put C inG_X5 fX5_13 (ci := 5) rfl rfl tyX5 tyX5_ok nmX5 rfl 17 rfl rfl rfl rfl dX5_begins_7 (ws' := (mw E ad (ug (ug g 0 r) 1 c) a v tl)) rfl ?_
  refine mg_aload_n C dX5_begins_10 rfl ?_
  refine mg_iload_n C dX5_begins_11 rfl ?_
  refine mg_put C inG_X5 fX5_16 (ci := 5) rfl rfl tyX5 tyX5_ok nmX5 rfl 17 rfl rfl rfl rfl dX5_begins_12 (ws' := (mw E ad (ug (ug (ug g 0 r) 1 c) 2 u) a v tl)) rfl ?_
  refine mg_aload_n C dX5_begins_15 rfl ?_
  refine mg_bipush (v := 16) C dX5_begins_16 (by decide) ?_
  refine mg_put C inG_X5 fX5_32 (ci := 5) rfl rfl tyX5 tyX5_ok nmX5 rfl 17 rfl rfl rfl rfl dX5_begins_18 (ws' := (mw E ad (ug (ug (ug (ug g 0 r) 1 c) 2 u) 3 16) a v tl)) rfl ?_
  refine mg_aload_n C dX5_begins_21 rfl ?_
  refine mg_iconst (v := 0) C dX5_begins_22 (by decide) ?_
  refine mg_put C inG_X5 fX5_82 (ci := 5) rfl rfl tyX5 tyX5_ok nmX5 rfl 17 rfl rfl rfl rfl dX5_begins_23 (ws' := (mw E ad (ug (ug (ug (ug (ug g 0 r) 1 c) 2 u) 3 16) 4 0) a v tl)) rfl ?_
  refine mg_aload_n C dX5_begins_26 rfl ?_
  refine mg_iconst (v := 0) C dX5_begins_27 (by decide) ?_
  refine mg_put C inG_X5 fX5_85 (ci := 5) rfl rfl tyX5 tyX5_ok nmX5 rfl 17 rfl rfl rfl rfl dX5_begins_28 (ws' := (mw E ad (ug (ug (ug (ug (ug (ug g 0 r) 1 c) 2 u) 3 16) 4 0) 5 0) a v tl)) rfl ?_
  refine mg_aload_n C dX5_begins_31 rfl ?_
  refine mg_iconst (v := 0) C dX5_begins_32 (by decide) ?_
  refine mg_put C inG_X5 fX5_88 (ci := 5) rfl rfl tyX5 tyX5_ok nmX5 rfl 17 rfl rfl rfl rfl dX5_begins_33 (ws' := (mw E ad (ug (ug (ug (ug (ug (ug (ug g 0 r) 1 c) 2 u) 3 16) 4 0) 5 0) 6 0) a v tl)) rfl ?_
  refine mg_aload_n C dX5_begins_36 rfl ?_
  refine mg_iconst (v := 0) C dX5_begins_37 (by decide) ?_
  refine mg_put C inG_X5 fX5_91 (ci := 5) rfl rfl tyX5 tyX5_ok nmX5 rfl 17 rfl rfl rfl rfl dX5_begins_38 (ws' := (mw E ad (ug (ug (ug (ug (ug (ug (ug (ug g 0 r) 1 c) 2 u) 3 16) 4 0) 5 0) 6 0) 8 0) a v tl)) rfl ?_
  refine mg_aload_n C dX5_begins_41 rfl ?_
  refine mg_iconst (v := 0) C dX5_begins_42 (by decide) ?_
  refine mg_put C inG_X5 fX5_95 (ci := 5) rfl rfl tyX5 tyX5_ok nmX5 rfl 17 rfl rfl rfl rfl dX5_begins_43 (ws' := (mw E ad (ug (ug (ug (ug (ug (ug (ug (ug (ug g 0 r) 1 c) 2 u) 3 16) 4 0) 5 0) 6 0) 8 0) 9 0) a v tl)) rfl ?_
  refine mg_iconst (v := 0) C dX5_begins_46 (by decide) ?_
  refine mg_istore C dX5_begins_47 rfl ?_
  refine mg_lve (lv' := [(0, _), (1, _), (2, _), (3, _), (4, _)]) rfl ?_
  exact loop1 193 0 a (by omega) (by omega) ⟨fun j hj => absurd hj (Nat.not_lt_zero j), fun k _ => rfl⟩
set_option maxHeartbeats 400000 in
set_option maxRecDepth 100000 in
theorem ct_X5_mesh (E : En) (ad : Nat → Nat) (tl : va_W) (r c u : Int32)  : Ct E mX5_mesh 1 0 0 [.ref (ad 17), .int r, .int c, .int u] (mw E ad gF aF vF tl) (fun o w => o = some (.int (anMesh r c u)) ∧ True) := by
  refine Ct.of (by decide) (Nat.le_of_ble_eq_true rfl) (fun X C hQ hin => ?_)
  have C : Cx E X cX5_mesh 4 RX5 (some .int) 1 40 0 0 := C
  refine mg_iload_n C dX5_mesh_0 rfl ?_
  refine mg_iconst (v := 1) C dX5_mesh_1 (by decide) ?_
  refine mg_bipush (v := 8) C dX5_mesh_2 (by decide) ?_
  refine mg_callS C (ct_X5_in E _ _ _ _) oX5_98 rfl rfl rfl dX5_mesh_4 (fun o4 w4 z4 => ?_)
  obtain ⟨rfl, rfl⟩ := z4
  refine mg_v ?_
  refine mg_if_eq C 30 dX5_mesh_7 (by decide) (fun h7 => ?_) (fun h7 => ?_)
  · refine mg_bipush (v := (-2)) C dX5_mesh_30 (by decide) ?_
    exact mg_iret C hQ dX5_mesh_32 (⟨by rw [anMesh, if_pos h7] <;> first | rfl | decide, trivial⟩)
  · refine mg_iload_n C dX5_mesh_10 rfl ?_
    refine mg_iconst (v := 1) C dX5_mesh_11 (by decide) ?_
    refine mg_bipush (v := 24) C dX5_mesh_12 (by decide) ?_
    refine mg_callS C (ct_X5_in E _ _ _ _) oX5_98 rfl rfl rfl dX5_mesh_14 (fun o14 w14 z14 => ?_)
    obtain ⟨rfl, rfl⟩ := z14
    refine mg_v ?_
    refine mg_if_eq C 30 dX5_mesh_17 (by decide) (fun h17 => ?_) (fun h17 => ?_)
    · refine mg_bipush (v := (-2)) C dX5_mesh_30 (by decide) ?_
      exact mg_iret C hQ dX5_mesh_32 (⟨by rw [anMesh, if_neg h7, if_pos h17] <;> first | rfl | decide, trivial⟩)
    · refine mg_iload_n C dX5_mesh_20 rfl ?_
      refine mg_iconst (v := 1) C dX5_mesh_21 (by decide) ?_
      refine mg_bipush (v := 15) C dX5_mesh_22 (by decide) ?_
      refine mg_callS C (ct_X5_in E _ _ _ _) oX5_98 rfl rfl rfl dX5_mesh_24 (fun o24 w24 z24 => ?_)
      obtain ⟨rfl, rfl⟩ := z24
      refine mg_v ?_
      refine mg_if_ne C 33 dX5_mesh_27 (by decide) (fun h27 => ?_) (fun h27 => ?_)
      · refine mg_aload_n C dX5_mesh_33 rfl ?_
        refine mg_iload_n C dX5_mesh_34 rfl ?_
        refine mg_iload_n C dX5_mesh_35 rfl ?_
        refine mg_iload_n C dX5_mesh_36 rfl ?_
        refine mg_callV C (ct_X5_begins E _ _ _ _ _ _ _ _) oX5_78 17 rfl rfl rfl rfl rfl dX5_mesh_37 (fun o37 w37 z37 => ?_)
        obtain ⟨rfl, rfl⟩ := z37
        refine mg_v0 ?_
        refine mg_iconst (v := 1) C dX5_mesh_40 (by decide) ?_
        exact mg_iret C hQ dX5_mesh_41 (⟨by rw [anMesh, if_neg h7, if_neg h17, if_neg h27] <;> first | rfl | decide, trivial⟩)
      · refine mg_bipush (v := (-2)) C dX5_mesh_30 (by decide) ?_
        exact mg_iret C hQ dX5_mesh_32 (⟨by rw [anMesh, if_neg h7, if_neg h17, if_pos h27] <;> first | rfl | decide, trivial⟩)
set_option maxHeartbeats 400000 in
set_option maxRecDepth 100000 in
theorem ct_X5_write (E : En) (ad : Nat → Nat) (tl : va_W) (r c y : Int32)  : Ct E mX5_write 2 0 0 [.ref (ad 17), .int r, .int c, .int y] (mw E ad gF aF vF tl) (fun o w => o = some (.int (anWrite r c y)) ∧ True) := by
  refine Ct.of (by decide) (Nat.le_of_ble_eq_true rfl) (fun X C hQ hin => ?_)
  have C : Cx E X cX5_write 4 RX5 (some .int) 2 80 0 0 := C
  refine mg_aload_n C dX5_write_0 rfl ?_
  refine mg_iload_n C dX5_write_1 rfl ?_
  refine mg_iload_n C dX5_write_2 rfl ?_
  refine mg_callV C (ct_X5_isCell E _ _ _ _ _ _ _) oX5_102 17 rfl rfl rfl rfl rfl dX5_write_3 (fun o3 w3 z3 => ?_)
  obtain ⟨rfl, rfl⟩ := z3
  refine mg_v ?_
  refine mg_if_eq C 21 dX5_write_6 (by decide) (fun h6 => ?_) (fun h6 => ?_)
  · refine mg_bipush (v := (-2)) C dX5_write_21 (by decide) ?_
    exact mg_iret C hQ dX5_write_23 (⟨by rw [anWrite, if_pos h6] <;> first | rfl | decide, trivial⟩)
  · obtain ⟨rfl, rfl⟩ := hcF h6
    refine mg_iload_n C dX5_write_9 rfl ?_
    refine mg_iconst (v := 0) C dX5_write_10 (by decide) ?_
    refine mg_aload_n C dX5_write_11 rfl ?_
    refine mg_get C inG_X5 fX5_16 (ci := 5) rfl rfl 17 rfl rfl dX5_write_12 ?_
    refine mg_callS C (ct_X5_in E _ _ _ _) oX5_98 rfl rfl rfl dX5_write_15 (fun o15 w15 z15 => ?_)
    obtain ⟨rfl, rfl⟩ := z15
    refine mg_v ?_
    refine mg_if_ne C 24 dX5_write_18 (by decide) (fun h18 => ?_) (fun h18 => ?_)
    · refine mg_aload_n C dX5_write_24 rfl ?_
      refine mg_bipush (v := 24) C dX5_write_25 (by decide) ?_
      refine mg_iload_n C dX5_write_27 rfl ?_
      refine mg_imul C dX5_write_28 ?_
      refine mg_iload_n C dX5_write_29 rfl ?_
      refine mg_iadd C dX5_write_30 ?_
      refine mg_iload_n C dX5_write_31 rfl ?_
      refine mg_callV C (ct_X5_writes E _ _ _ _ _ _ _ vin0') oX5_106 17 rfl rfl rfl rfl rfl dX5_write_32 (fun o32 w32 z32 => ?_)
      obtain ⟨rfl, rfl⟩ := z32
      refine mg_v ?_
      refine mg_if_eq C 42 dX5_write_35 (by decide) (fun h35 => absurd h35 (fun hh => absurd ((wr_t rfl).symm.trans hh) (by decide))) (fun h35 => ?_)
      refine mg_iconst (v := 1) C dX5_write_38 (by decide) ?_
      refine mg_goto C 44 dX5_write_39 (by decide) ?_
      exact mg_iret C hQ dX5_write_44 (⟨by rw [anWrite, if_neg h6, if_neg h18] <;> first | rfl | decide, trivial⟩)
    · refine mg_bipush (v := (-2)) C dX5_write_21 (by decide) ?_
      exact mg_iret C hQ dX5_write_23 (⟨by rw [anWrite, if_neg h6, if_pos h18] <;> first | rfl | decide, trivial⟩)
set_option maxHeartbeats 400000 in
set_option maxRecDepth 100000 in
theorem ct_X5_stick (E : En) (ad : Nat → Nat) (tl : va_W) (r c y : Int32)  : Ct E mX5_stick 2 0 0 [.ref (ad 17), .int r, .int c, .int y] (mw E ad gF aF vF tl) (fun o w => o = some (.int (anStick r c y)) ∧ True) := by
  refine Ct.of (by decide) (Nat.le_of_ble_eq_true rfl) (fun X C hQ hin => ?_)
  have C : Cx E X cX5_stick 5 RX5 (some .int) 2 80 0 0 := C
  refine mg_aload_n C dX5_stick_0 rfl ?_
  refine mg_iload_n C dX5_stick_1 rfl ?_
  refine mg_iload_n C dX5_stick_2 rfl ?_
  refine mg_callV C (ct_X5_isCell E _ _ _ _ _ _ _) oX5_102 17 rfl rfl rfl rfl rfl dX5_stick_3 (fun o3 w3 z3 => ?_)
  obtain ⟨rfl, rfl⟩ := z3
  refine mg_v ?_
  refine mg_if_eq C 21 dX5_stick_6 (by decide) (fun h6 => ?_) (fun h6 => ?_)
  · refine mg_bipush (v := (-2)) C dX5_stick_21 (by decide) ?_
    exact mg_iret C hQ dX5_stick_23 (⟨by rw [anStick, if_pos h6] <;> first | rfl | decide, trivial⟩)
  · obtain ⟨rfl, rfl⟩ := hcF h6
    refine mg_iload_n C dX5_stick_9 rfl ?_
    refine mg_iconst (v := (-1)) C dX5_stick_10 (by decide) ?_
    refine mg_aload_n C dX5_stick_11 rfl ?_
    refine mg_get C inG_X5 fX5_16 (ci := 5) rfl rfl 17 rfl rfl dX5_stick_12 ?_
    refine mg_callS C (ct_X5_in E _ _ _ _) oX5_98 rfl rfl rfl dX5_stick_15 (fun o15 w15 z15 => ?_)
    obtain ⟨rfl, rfl⟩ := z15
    refine mg_v ?_
    refine mg_if_ne C 24 dX5_stick_18 (by decide) (fun h18 => ?_) (fun h18 => ?_)
    · refine mg_bipush (v := 24) C dX5_stick_24 (by decide) ?_
      refine mg_iload_n C dX5_stick_26 rfl ?_
      refine mg_imul C dX5_stick_27 ?_
      refine mg_iload_n C dX5_stick_28 rfl ?_
      refine mg_iadd C dX5_stick_29 ?_
      refine mg_istore C dX5_stick_30 rfl ?_
      refine mg_lve (lv' := [(0, _), (1, _), (2, _), (3, _), (4, _)]) rfl ?_
      refine mg_aload_n C dX5_stick_32 rfl ?_
      refine mg_get C inG_X5 fX5_23 (ci := 5) rfl rfl 17 rfl rfl dX5_stick_33 ?_
      refine mg_iload C dX5_stick_36 rfl ?_
      refine mg_iload_n C dX5_stick_38 rfl ?_
      refine mg_iast C 15 rfl (vin0') dX5_stick_39 (ws' := (mw E ad gF (ups aF 1 _ y) vF tl)) rfl ?_
      refine mg_aload_n C dX5_stick_40 rfl ?_
      refine mg_get C inG_X5 fX5_19 (ci := 5) rfl rfl 17 rfl rfl dX5_stick_41 ?_
      refine mg_iload C dX5_stick_44 rfl ?_
      refine mg_iload_n C dX5_stick_46 rfl ?_
      refine mg_iconst (v := (-1)) C dX5_stick_47 (by decide) ?_
      refine mg_icmp_ne C 61 dX5_stick_48 (by decide) (fun h48 => ?_) (fun h48 => ?_)
      · refine mg_iload_n C dX5_stick_61 rfl ?_
        refine mg_iast C 16 rfl (vin0') dX5_stick_62 (ws' := (mw E ad gF (ups (ups aF 1 _ y) 0 _ y) vF tl)) rfl ?_
        refine mg_iconst (v := 1) C dX5_stick_63 (by decide) ?_
        exact mg_iret C hQ dX5_stick_64 (⟨by rw [anStick, if_neg h6, if_neg h18] <;> first | rfl | decide, trivial⟩)
      · refine mg_aload_n C dX5_stick_51 rfl ?_
        refine mg_get C inG_X5 fX5_19 (ci := 5) rfl rfl 17 rfl rfl dX5_stick_52 ?_
        refine mg_iload C dX5_stick_55 rfl ?_
        refine mg_iald C 16 rfl (vin0') dX5_stick_57 ?_
        refine mg_goto C 62 dX5_stick_58 (by decide) ?_
        refine mg_topi (fun zv62 ezv62 => ?_)
        refine mg_iast C 16 rfl (vin0') dX5_stick_62 (ws' := (mw E ad gF (ups (ups aF 1 _ y) 0 _ zv62) vF tl)) rfl ?_
        refine mg_iconst (v := 1) C dX5_stick_63 (by decide) ?_
        exact mg_iret C hQ dX5_stick_64 (⟨by rw [anStick, if_neg h6, if_neg h18] <;> first | rfl | decide, trivial⟩)
    · refine mg_bipush (v := (-2)) C dX5_stick_21 (by decide) ?_
      exact mg_iret C hQ dX5_stick_23 (⟨by rw [anStick, if_neg h6, if_pos h18] <;> first | rfl | decide, trivial⟩)
set_option maxHeartbeats 400000 in
set_option maxRecDepth 100000 in
theorem ct_X5_cell (E : En) (ad : Nat → Nat) (tl : va_W) (r c u : Int32)  : Ct E mX5_cell 2 0 0 [.ref (ad 17), .int r, .int c, .int u] (mw E ad gF aF vF tl) (fun o w => o = some (.int (anCell r c u)) ∧ True) := by
  refine Ct.of (by decide) (Nat.le_of_ble_eq_true rfl) (fun X C hQ hin => ?_)
  have C : Cx E X cX5_cell 4 RX5 (some .int) 2 80 0 0 := C
  refine mg_aload_n C dX5_cell_0 rfl ?_
  refine mg_iload_n C dX5_cell_1 rfl ?_
  refine mg_iload_n C dX5_cell_2 rfl ?_
  refine mg_callV C (ct_X5_isCell E _ _ _ _ _ _ _) oX5_102 17 rfl rfl rfl rfl rfl dX5_cell_3 (fun o3 w3 z3 => ?_)
  obtain ⟨rfl, rfl⟩ := z3
  refine mg_v ?_
  refine mg_if_eq C 32 dX5_cell_6 (by decide) (fun h6 => ?_) (fun h6 => ?_)
  · refine mg_bipush (v := (-2)) C dX5_cell_32 (by decide) ?_
    exact mg_iret C hQ dX5_cell_34 (⟨by rw [anCell, if_pos h6] <;> first | rfl | decide, trivial⟩)
  · obtain ⟨rfl, rfl⟩ := hcF h6
    refine mg_iload_n C dX5_cell_9 rfl ?_
    refine mg_iconst (v := 0) C dX5_cell_10 (by decide) ?_
    refine mg_iconst (v := 2) C dX5_cell_11 (by decide) ?_
    refine mg_callS C (ct_X5_in E _ _ _ _) oX5_98 rfl rfl rfl dX5_cell_12 (fun o12 w12 z12 => ?_)
    obtain ⟨rfl, rfl⟩ := z12
    refine mg_v ?_
    refine mg_if_eq C 32 dX5_cell_15 (by decide) (fun h15 => ?_) (fun h15 => ?_)
    · refine mg_bipush (v := (-2)) C dX5_cell_32 (by decide) ?_
      exact mg_iret C hQ dX5_cell_34 (⟨by rw [anCell, if_neg h6, if_pos h15] <;> first | rfl | decide, trivial⟩)
    · refine mg_aload_n C dX5_cell_18 rfl ?_
      refine mg_bipush (v := 24) C dX5_cell_19 (by decide) ?_
      refine mg_iload_n C dX5_cell_21 rfl ?_
      refine mg_imul C dX5_cell_22 ?_
      refine mg_iload_n C dX5_cell_23 rfl ?_
      refine mg_iadd C dX5_cell_24 ?_
      refine mg_iload_n C dX5_cell_25 rfl ?_
      refine mg_callV C (ct_X5_cellAt E _ _ _ _ _ _ _ vin0') oX5_109 17 rfl rfl rfl rfl rfl dX5_cell_26 (fun o26 w26 z26 => ?_)
      obtain ⟨rfl, rfl⟩ := z26
      refine mg_v ?_
      refine mg_goto C 34 dX5_cell_29 (by decide) ?_
      exact mg_iret C hQ dX5_cell_34 (⟨by rw [anCell, if_neg h6, if_neg h15] <;> first | rfl | decide, trivial⟩)
set_option maxHeartbeats 400000 in
set_option maxRecDepth 100000 in
theorem ct_X5_input (E : En) (ad : Nat → Nat) (tl : va_W) (r x : Int32)  : Ct E mX5_input 1 0 0 [.ref (ad 17), .int r, .int x] (mw E ad gF aF vF tl) (fun o w => o = some (.int (anInput r x)) ∧ True) := by
  refine Ct.of (by decide) (Nat.le_of_ble_eq_true rfl) (fun X C hQ hin => ?_)
  have C : Cx E X cX5_input 4 RX5 (some .int) 1 40 0 0 := C
  refine mg_iload_n C dX5_input_0 rfl ?_
  refine mg_iconst (v := 0) C dX5_input_1 (by decide) ?_
  refine mg_aload_n C dX5_input_2 rfl ?_
  refine mg_get C inG_X5 fX5_7 (ci := 5) rfl rfl 17 rfl rfl dX5_input_3 ?_
  refine mg_iconst (v := 1) C dX5_input_6 (by decide) ?_
  refine mg_isub C dX5_input_7 ?_
  refine mg_callS C (ct_X5_in E _ _ _ _) oX5_98 rfl rfl rfl dX5_input_8 (fun o8 w8 z8 => ?_)
  obtain ⟨rfl, rfl⟩ := z8
  refine mg_v ?_
  refine mg_if_eq C 25 dX5_input_11 (by decide) (fun h11 => ?_) (fun h11 => ?_)
  · refine mg_bipush (v := (-2)) C dX5_input_25 (by decide) ?_
    exact mg_iret C hQ dX5_input_27 (⟨by rw [anInput, if_pos h11] <;> first | rfl | decide, trivial⟩)
  · have er := wi0 h11
    subst er
    refine mg_iload_n C dX5_input_14 rfl ?_
    refine mg_iconst (v := 0) C dX5_input_15 (by decide) ?_
    refine mg_sipush (v := 255) C dX5_input_16 (by decide) ?_
    refine mg_callS C (ct_X5_in E _ _ _ _) oX5_98 rfl rfl rfl dX5_input_19 (fun o19 w19 z19 => ?_)
    obtain ⟨rfl, rfl⟩ := z19
    refine mg_v ?_
    refine mg_if_ne C 28 dX5_input_22 (by decide) (fun h22 => ?_) (fun h22 => ?_)
    · refine mg_aload_n C dX5_input_28 rfl ?_
      refine mg_get C inG_X5 fX5_29 (ci := 5) rfl rfl 17 rfl rfl dX5_input_29 ?_
      refine mg_iload_n C dX5_input_32 rfl ?_
      refine mg_iald C 13 rfl (vin00) dX5_input_33 ?_
      refine mg_istore_n C dX5_input_34 rfl ?_
      refine mg_lve (lv' := [(0, _), (1, _), (2, _), (3, _)]) rfl ?_
      refine mg_aload_n C dX5_input_35 rfl ?_
      refine mg_get C inG_X5 fX5_29 (ci := 5) rfl rfl 17 rfl rfl dX5_input_36 ?_
      refine mg_iload_n C dX5_input_39 rfl ?_
      refine mg_iload_n C dX5_input_40 rfl ?_
      refine mg_iast C 13 rfl (vin00) dX5_input_41 (ws' := (mw E ad gF (ups aF 3 (0 : Int32).toNatClampNeg x) vF tl)) rfl ?_
      refine mg_iload_n C dX5_input_42 rfl ?_
      exact mg_iret C hQ dX5_input_43 (⟨by rw [anInput, if_neg h11, if_neg h22] <;> first | rfl | decide, trivial⟩)
    · refine mg_bipush (v := (-2)) C dX5_input_25 (by decide) ?_
      exact mg_iret C hQ dX5_input_27 (⟨by rw [anInput, if_neg h11, if_pos h22] <;> first | rfl | decide, trivial⟩)
set_option maxHeartbeats 400000 in
set_option maxRecDepth 100000 in
theorem ct_X5_bits (E : En) (ad : Nat → Nat) (tl : va_W) (b : Int32)  : Ct E mX5_bits 1 0 0 [.ref (ad 17), .int b] (mw E ad gF aF vF tl) (fun o w => o = some (.int (anBits b)) ∧ True) := by
  refine Ct.of (by decide) (Nat.le_of_ble_eq_true rfl) (fun X C hQ hin => ?_)
  have C : Cx E X cX5_bits 3 RX5 (some .int) 1 40 0 0 := C
  refine mg_iload_n C dX5_bits_0 rfl ?_
  refine mg_iconst (v := 1) C dX5_bits_1 (by decide) ?_
  refine mg_bipush (v := 16) C dX5_bits_2 (by decide) ?_
  refine mg_callS C (ct_X5_in E _ _ _ _) oX5_98 rfl rfl rfl dX5_bits_4 (fun o4 w4 z4 => ?_)
  obtain ⟨rfl, rfl⟩ := z4
  refine mg_v ?_
  refine mg_if_ne C 13 dX5_bits_7 (by decide) (fun h7 => ?_) (fun h7 => ?_)
  · refine mg_aload_n C dX5_bits_13 rfl ?_
    refine mg_get C inG_X5 fX5_32 (ci := 5) rfl rfl 17 rfl rfl dX5_bits_14 ?_
    refine mg_istore_n C dX5_bits_17 rfl ?_
    refine mg_lve (lv' := [(0, _), (1, _), (2, _)]) rfl ?_
    refine mg_aload_n C dX5_bits_18 rfl ?_
    refine mg_iload_n C dX5_bits_19 rfl ?_
    refine mg_put C inG_X5 fX5_32 (ci := 5) rfl rfl tyX5 tyX5_ok nmX5 rfl 17 rfl rfl rfl rfl dX5_bits_20 (ws' := (mw E ad (ug gF 3 b) aF vF tl)) rfl ?_
    refine mg_iload_n C dX5_bits_23 rfl ?_
    exact mg_iret C hQ dX5_bits_24 (⟨by rw [anBits, if_neg h7] <;> first | rfl | decide, trivial⟩)
  · refine mg_bipush (v := (-2)) C dX5_bits_10 (by decide) ?_
    exact mg_iret C hQ dX5_bits_12 (⟨by rw [anBits, if_pos h7] <;> first | rfl | decide, trivial⟩)
set_option maxHeartbeats 400000 in
set_option maxRecDepth 100000 in
theorem cf_sumOf (E : En) (ad : Nat → Nat) (tl : va_W)   : Ct E mX5_sumOf 0 0 0 [.ref (ad 17), .int 0] (mw E ad gF aF vF tl) (fun o w => o = some (.int 0) ∧ w = mw E ad gF aF vF tl) := by
  refine Ct.of (by decide) (Nat.le_of_ble_eq_true rfl) (fun X C hQ hin => ?_)
  have C : Cx E X cX5_sumOf 4 RX5 (some .int) 0 0 0 0 := C
  refine mg_iconst (v := 0) C dX5_sumOf_0 (by decide) ?_
  refine mg_istore_n C dX5_sumOf_1 rfl ?_
  refine mg_lve (lv' := [(0, _), (1, _), (2, _)]) rfl ?_
  refine mg_iconst (v := 0) C dX5_sumOf_2 (by decide) ?_
  refine mg_istore_n C dX5_sumOf_3 rfl ?_
  refine mg_lve (lv' := [(0, _), (1, _), (2, _), (3, _)]) rfl ?_
  refine mg_iload_n C dX5_sumOf_4 rfl ?_
  refine mg_aload_n C dX5_sumOf_5 rfl ?_
  refine mg_get C inG_X5 fX5_7 (ci := 5) rfl rfl 17 rfl rfl dX5_sumOf_6 ?_
  refine mg_icmp_ge C 39 dX5_sumOf_9 (by decide) (fun h9 => absurd h9 (by decide)) (fun h9 => ?_)
  refine mg_iload_n C dX5_sumOf_12 rfl ?_
  refine mg_aload_n C dX5_sumOf_13 rfl ?_
  refine mg_get C inG_X5 fX5_29 (ci := 5) rfl rfl 17 rfl rfl dX5_sumOf_14 ?_
  refine mg_iload_n C dX5_sumOf_17 rfl ?_
  refine mg_iald C 13 rfl (vin00) dX5_sumOf_18 ?_
  refine mg_aload_n C dX5_sumOf_19 rfl ?_
  refine mg_get C inG_X5 fX5_19 (ci := 5) rfl rfl 17 rfl rfl dX5_sumOf_20 ?_
  refine mg_bipush (v := 24) C dX5_sumOf_23 (by decide) ?_
  refine mg_iload_n C dX5_sumOf_25 rfl ?_
  refine mg_imul C dX5_sumOf_26 ?_
  refine mg_iload_n C dX5_sumOf_27 rfl ?_
  refine mg_iadd C dX5_sumOf_28 ?_
  refine mg_iald C 16 rfl (vin0') dX5_sumOf_29 ?_
  refine mg_imul C dX5_sumOf_30 ?_
  refine mg_iadd C dX5_sumOf_31 ?_
  refine mg_istore_n C dX5_sumOf_32 rfl ?_
  refine mg_lve (lv' := [(0, _), (1, _), (2, _), (3, _)]) rfl ?_
  refine mg_iinc C dX5_sumOf_33 rfl rfl ?_
  refine mg_lve (lv' := [(0, _), (1, _), (2, _), (3, _)]) rfl ?_
  refine mg_goto C 4 dX5_sumOf_36 (by decide) ?_
  refine mg_iload_n C dX5_sumOf_4 rfl ?_
  refine mg_aload_n C dX5_sumOf_5 rfl ?_
  refine mg_get C inG_X5 fX5_7 (ci := 5) rfl rfl 17 rfl rfl dX5_sumOf_6 ?_
  refine mg_icmp_ge C 39 dX5_sumOf_9 (by decide) (fun h9 => ?_) (fun h9 => absurd h9 (by decide))
  refine mg_iload_n C dX5_sumOf_39 rfl ?_
  exact mg_iret C hQ dX5_sumOf_40 (⟨rfl, rfl⟩)
set_option maxHeartbeats 400000 in
set_option maxRecDepth 100000 in
theorem ct_X5_sum (E : En) (ad : Nat → Nat) (tl : va_W) (c : Int32)  : Ct E mX5_sum 1 0 0 [.ref (ad 17), .int c] (mw E ad gF aF vF tl) (fun o w => o = some (.int (anSum c)) ∧ True) := by
  refine Ct.of (by decide) (Nat.le_of_ble_eq_true rfl) (fun X C hQ hin => ?_)
  have C : Cx E X cX5_sum 2 RX5 (some .int) 1 40 0 0 := C
  refine mg_iload_n C dX5_sum_0 rfl ?_
  refine mg_iconst (v := 0) C dX5_sum_1 (by decide) ?_
  refine mg_aload_n C dX5_sum_2 rfl ?_
  refine mg_get C inG_X5 fX5_13 (ci := 5) rfl rfl 17 rfl rfl dX5_sum_3 ?_
  refine mg_iconst (v := 1) C dX5_sum_6 (by decide) ?_
  refine mg_isub C dX5_sum_7 ?_
  refine mg_callS C (ct_X5_in E _ _ _ _) oX5_98 rfl rfl rfl dX5_sum_8 (fun o8 w8 z8 => ?_)
  obtain ⟨rfl, rfl⟩ := z8
  refine mg_v ?_
  refine mg_if_eq C 26 dX5_sum_11 (by decide) (fun h11 => ?_) (fun h11 => ?_)
  · refine mg_bipush (v := (-2)) C dX5_sum_26 (by decide) ?_
    exact mg_iret C hQ dX5_sum_28 (⟨by rw [anSum, if_pos h11] <;> first | rfl | decide, trivial⟩)
  · have er := wi0 h11
    subst er
    refine mg_aload_n C dX5_sum_14 rfl ?_
    refine mg_aload_n C dX5_sum_15 rfl ?_
    refine mg_iload_n C dX5_sum_16 rfl ?_
    refine mg_callV C (cf_sumOf E _ _) oX5_113 17 rfl rfl rfl rfl rfl dX5_sum_17 (fun o17 w17 z17 => ?_)
    obtain ⟨rfl, rfl⟩ := z17
    refine mg_v ?_
    refine mg_callV C (ct_X5_converted E _ _ _ _ _ _) oX5_117 17 rfl rfl rfl rfl rfl dX5_sum_20 (fun o20 w20 z20 => ?_)
    obtain ⟨rfl, rfl⟩ := z20
    refine mg_v ?_
    refine mg_goto C 28 dX5_sum_23 (by decide) ?_
    exact mg_iret C hQ dX5_sum_28 (⟨by rw [anSum, if_neg h11] <;> first | rfl | decide, trivial⟩)
set_option maxHeartbeats 400000 in
set_option maxRecDepth 100000 in
theorem ct_X5_table (E : En) (ad : Nat → Nat) (tl : va_W) (n m d : Int32)  : Ct E mX5_table 1 0 0 [.ref (ad 17), .int n, .int m, .int d] (mw E ad gF aF vF tl) (fun o w => o = some (.int (anTable n m d)) ∧ True) := by
  refine Ct.of (by decide) (Nat.le_of_ble_eq_true rfl) (fun X C hQ hin => ?_)
  have C : Cx E X cX5_table 5 RX5 (some .int) 1 40 0 0 := C
  refine mg_iload_n C dX5_table_0 rfl ?_
  refine mg_iconst (v := 1) C dX5_table_1 (by decide) ?_
  refine mg_aload_n C dX5_table_2 rfl ?_
  refine mg_get C inG_X5 fX5_7 (ci := 5) rfl rfl 17 rfl rfl dX5_table_3 ?_
  refine mg_callS C (ct_X5_in E _ _ _ _) oX5_98 rfl rfl rfl dX5_table_6 (fun o6 w6 z6 => ?_)
  obtain ⟨rfl, rfl⟩ := z6
  refine mg_v ?_
  refine mg_if_eq C 32 dX5_table_9 (by decide) (fun h9 => ?_) (fun h9 => ?_)
  · refine mg_bipush (v := (-2)) C dX5_table_32 (by decide) ?_
    exact mg_iret C hQ dX5_table_34 (⟨by rw [anTable, if_pos h9] <;> first | rfl | decide, trivial⟩)
  · refine mg_iload_n C dX5_table_12 rfl ?_
    refine mg_iconst (v := 1) C dX5_table_13 (by decide) ?_
    refine mg_bipush (v := 12) C dX5_table_14 (by decide) ?_
    refine mg_callS C (ct_X5_in E _ _ _ _) oX5_98 rfl rfl rfl dX5_table_16 (fun o16 w16 z16 => ?_)
    obtain ⟨rfl, rfl⟩ := z16
    refine mg_v ?_
    refine mg_if_eq C 32 dX5_table_19 (by decide) (fun h19 => ?_) (fun h19 => ?_)
    · refine mg_bipush (v := (-2)) C dX5_table_32 (by decide) ?_
      exact mg_iret C hQ dX5_table_34 (⟨by rw [anTable, if_neg h9, if_pos h19] <;> first | rfl | decide, trivial⟩)
    · refine mg_iload_n C dX5_table_22 rfl ?_
      refine mg_iconst (v := 1) C dX5_table_23 (by decide) ?_
      refine mg_bipush (v := 6) C dX5_table_24 (by decide) ?_
      refine mg_callS C (ct_X5_in E _ _ _ _) oX5_98 rfl rfl rfl dX5_table_26 (fun o26 w26 z26 => ?_)
      obtain ⟨rfl, rfl⟩ := z26
      refine mg_v ?_
      refine mg_if_ne C 35 dX5_table_29 (by decide) (fun h29 => ?_) (fun h29 => ?_)
      · refine mg_iconst (v := 2) C dX5_table_35 (by decide) ?_
        refine mg_iload_n C dX5_table_36 rfl ?_
        refine mg_imul C dX5_table_37 ?_
        refine mg_iload_n C dX5_table_38 rfl ?_
        refine mg_imul C dX5_table_39 ?_
        refine mg_aload_n C dX5_table_40 rfl ?_
        refine mg_get C inG_X5 fX5_13 (ci := 5) rfl rfl 17 rfl rfl dX5_table_41 ?_
        refine mg_icmp_le C 50 dX5_table_44 (by decide) (fun h44 => absurd h44 (tabF h19 h29)) (fun h44 => ?_)
        refine mg_bipush (v := (-3)) C dX5_table_47 (by decide) ?_
        exact mg_iret C hQ dX5_table_49 (⟨by rw [anTable, if_neg h9, if_neg h19, if_neg h29] <;> first | rfl | decide, trivial⟩)
      · refine mg_bipush (v := (-2)) C dX5_table_32 (by decide) ?_
        exact mg_iret C hQ dX5_table_34 (⟨by rw [anTable, if_neg h9, if_neg h19, if_pos h29] <;> first | rfl | decide, trivial⟩)
set_option maxHeartbeats 400000 in
set_option maxRecDepth 100000 in
theorem ct_X5_number (E : En) (ad : Nat → Nat) (tl : va_W) (i k y : Int32)  : Ct E mX5_number 1 0 0 [.ref (ad 17), .int i, .int k, .int y] (mw E ad gF aF vF tl) (fun o w => o = some (.int (-2000000000)) ∧ True) := by
  refine Ct.of (by decide) (Nat.le_of_ble_eq_true rfl) (fun X C hQ hin => ?_)
  have C : Cx E X cX5_number 5 RX5 (some .int) 1 40 0 0 := C
  refine mg_iload_n C dX5_number_0 rfl ?_
  refine mg_iconst (v := 0) C dX5_number_1 (by decide) ?_
  refine mg_aload_n C dX5_number_2 rfl ?_
  refine mg_get C inG_X5 fX5_82 (ci := 5) rfl rfl 17 rfl rfl dX5_number_3 ?_
  refine mg_iconst (v := 1) C dX5_number_6 (by decide) ?_
  refine mg_isub C dX5_number_7 ?_
  refine mg_callS C (ct_X5_in E _ _ _ _) oX5_98 rfl rfl rfl dX5_number_8 (fun o8 w8 z8 => ?_)
  obtain ⟨rfl, rfl⟩ := z8
  refine mg_v ?_
  refine mg_if_eq C 44 dX5_number_11 (by decide) (fun h11 => ?_) (fun h11 => absurd h11 (fun hh => hh wim))
  refine mg_ldc C dX5_number_44 kX5_124 ?_
  exact mg_iret C hQ dX5_number_46 (⟨rfl, trivial⟩)
set_option maxHeartbeats 400000 in
set_option maxRecDepth 100000 in
theorem ct_X5_lay (E : En) (ad : Nat → Nat) (tl : va_W)   : Ct E mX5_lay 1 0 0 [.ref (ad 17)] (mw E ad gF aF vF tl) (fun o w => o = some (.int (-3)) ∧ True) := by
  refine Ct.of (by decide) (Nat.le_of_ble_eq_true rfl) (fun X C hQ hin => ?_)
  have C : Cx E X cX5_lay 4 RX5 (some .int) 1 40 0 0 := C
  refine mg_aload_n C dX5_lay_0 rfl ?_
  refine mg_callV C (ct_X5_hasTable E _ _ _ _ _) oX5_125 17 rfl rfl rfl rfl rfl dX5_lay_1 (fun o1 w1 z1 => ?_)
  obtain ⟨rfl, rfl⟩ := z1
  refine mg_v ?_
  refine mg_if_ne C 10 dX5_lay_4 (by decide) (fun h4 => absurd h4 (fun hh => hh rfl)) (fun h4 => ?_)
  refine mg_bipush (v := (-3)) C dX5_lay_7 (by decide) ?_
  exact mg_iret C hQ dX5_lay_9 (⟨rfl, trivial⟩)
set_option maxHeartbeats 400000 in
set_option maxRecDepth 100000 in
theorem ct_X5_enough (E : En) (ad : Nat → Nat) (tl : va_W)   : Ct E mX5_enough 1 0 0 [.ref (ad 17)] (mw E ad gF aF vF tl) (fun o w => o = some (.int (-3)) ∧ True) := by
  refine Ct.of (by decide) (Nat.le_of_ble_eq_true rfl) (fun X C hQ hin => ?_)
  have C : Cx E X cX5_enough 2 RX5 (some .int) 1 40 0 0 := C
  refine mg_aload_n C dX5_enough_0 rfl ?_
  refine mg_callV C (ct_X5_hasTable E _ _ _ _ _) oX5_125 17 rfl rfl rfl rfl rfl dX5_enough_1 (fun o1 w1 z1 => ?_)
  obtain ⟨rfl, rfl⟩ := z1
  refine mg_v ?_
  refine mg_if_ne C 10 dX5_enough_4 (by decide) (fun h4 => absurd h4 (fun hh => hh rfl)) (fun h4 => ?_)
  refine mg_bipush (v := (-3)) C dX5_enough_7 (by decide) ?_
  exact mg_iret C hQ dX5_enough_9 (⟨rfl, trivial⟩)
set_option maxHeartbeats 400000 in
set_option maxRecDepth 100000 in
theorem ct_X5_map (E : En) (ad : Nat → Nat) (tl : va_W)   : Ct E mX5_map 1 0 0 [.ref (ad 17)] (mw E ad gF aF vF tl) (fun o w => o = some (.int (-3)) ∧ True) := by
  refine Ct.of (by decide) (Nat.le_of_ble_eq_true rfl) (fun X C hQ hin => ?_)
  have C : Cx E X cX5_map 4 RX5 (some .int) 1 40 0 0 := C
  refine mg_aload_n C dX5_map_0 rfl ?_
  refine mg_callV C (ct_X5_hasTable E _ _ _ _ _) oX5_125 17 rfl rfl rfl rfl rfl dX5_map_1 (fun o1 w1 z1 => ?_)
  obtain ⟨rfl, rfl⟩ := z1
  refine mg_v ?_
  refine mg_if_ne C 10 dX5_map_4 (by decide) (fun h4 => absurd h4 (fun hh => hh rfl)) (fun h4 => ?_)
  refine mg_bipush (v := (-3)) C dX5_map_7 (by decide) ?_
  exact mg_iret C hQ dX5_map_9 (⟨rfl, trivial⟩)
set_option maxHeartbeats 400000 in
set_option maxRecDepth 100000 in
theorem ct_X5_product (E : En) (ad : Nat → Nat) (tl : va_W) (k : Int32)  : Ct E mX5_product 1 0 0 [.ref (ad 17), .int k] (mw E ad gF aF vF tl) (fun o w => o = some (.long (-2000000000000000000)) ∧ True) := by
  refine Ct.of (by decide) (Nat.le_of_ble_eq_true rfl) (fun X C hQ hin => ?_)
  have C : Cx E X cX5_product 9 RX5 (some .long) 1 40 0 0 := C
  refine mg_iload_n C dX5_product_0 rfl ?_
  refine mg_iconst (v := 0) C dX5_product_1 (by decide) ?_
  refine mg_aload_n C dX5_product_2 rfl ?_
  refine mg_get C inG_X5 fX5_85 (ci := 5) rfl rfl 17 rfl rfl dX5_product_3 ?_
  refine mg_iconst (v := 1) C dX5_product_6 (by decide) ?_
  refine mg_isub C dX5_product_7 ?_
  refine mg_callS C (ct_X5_in E _ _ _ _) oX5_98 rfl rfl rfl dX5_product_8 (fun o8 w8 z8 => ?_)
  obtain ⟨rfl, rfl⟩ := z8
  refine mg_v ?_
  refine mg_if_eq C 21 dX5_product_11 (by decide) (fun h11 => ?_) (fun h11 => absurd h11 (fun hh => hh wim))
  refine mg_ldc2 C dX5_product_21 kX5_132 ?_
  exact mg_lret C hQ dX5_product_24 (⟨rfl, trivial⟩)
set_option maxHeartbeats 400000 in
set_option maxRecDepth 100000 in
theorem ct_X5_due (E : En) (ad : Nat → Nat) (tl : va_W) (k : Int32)  : Ct E mX5_due 1 0 0 [.ref (ad 17), .int k] (mw E ad gF aF vF tl) (fun o w => o = some (.long (-2000000000000000000)) ∧ True) := by
  refine Ct.of (by decide) (Nat.le_of_ble_eq_true rfl) (fun X C hQ hin => ?_)
  have C : Cx E X cX5_due 5 RX5 (some .long) 1 40 0 0 := C
  refine mg_iload_n C dX5_due_0 rfl ?_
  refine mg_iconst (v := 0) C dX5_due_1 (by decide) ?_
  refine mg_aload_n C dX5_due_2 rfl ?_
  refine mg_get C inG_X5 fX5_85 (ci := 5) rfl rfl 17 rfl rfl dX5_due_3 ?_
  refine mg_iconst (v := 1) C dX5_due_6 (by decide) ?_
  refine mg_isub C dX5_due_7 ?_
  refine mg_callS C (ct_X5_in E _ _ _ _) oX5_98 rfl rfl rfl dX5_due_8 (fun o8 w8 z8 => ?_)
  obtain ⟨rfl, rfl⟩ := z8
  refine mg_v ?_
  refine mg_if_ne C 18 dX5_due_11 (by decide) (fun h11 => absurd h11 (fun hh => hh wim)) (fun h11 => ?_)
  refine mg_ldc2 C dX5_due_14 kX5_132 ?_
  exact mg_lret C hQ dX5_due_17 (⟨rfl, trivial⟩)
set_option maxHeartbeats 400000 in
set_option maxRecDepth 100000 in
theorem ct_X5_mapped (E : En) (ad : Nat → Nat) (tl : va_W) (i : Int32)  : Ct E mX5_mapped 1 0 0 [.ref (ad 17), .int i] (mw E ad gF aF vF tl) (fun o w => o = some (.int (anMapped i)) ∧ True) := by
  refine Ct.of (by decide) (Nat.le_of_ble_eq_true rfl) (fun X C hQ hin => ?_)
  have C : Cx E X cX5_mapped 2 RX5 (some .int) 1 40 0 0 := C
  refine mg_aload_n C dX5_mapped_0 rfl ?_
  refine mg_callV C (ct_X5_hasTable E _ _ _ _ _) oX5_125 17 rfl rfl rfl rfl rfl dX5_mapped_1 (fun o1 w1 z1 => ?_)
  obtain ⟨rfl, rfl⟩ := z1
  refine mg_v ?_
  refine mg_if_ne C 21 dX5_mapped_4 (by decide) (fun h4 => absurd h4 (fun hh => hh rfl)) (fun h4 => ?_)
  refine mg_iload_n C dX5_mapped_7 rfl ?_
  refine mg_if_ge C 16 dX5_mapped_8 (by decide) (fun h8 => ?_) (fun h8 => ?_)
  · refine mg_bipush (v := (-3)) C dX5_mapped_16 (by decide) ?_
    refine mg_goto C 46 dX5_mapped_18 (by decide) ?_
    exact mg_iret C hQ dX5_mapped_46 (⟨by rw [anMapped, if_pos h8] <;> first | rfl | decide, trivial⟩)
  · refine mg_bipush (v := (-2)) C dX5_mapped_11 (by decide) ?_
    refine mg_goto C 46 dX5_mapped_13 (by decide) ?_
    exact mg_iret C hQ dX5_mapped_46 (⟨by rw [anMapped, if_neg h8] <;> first | rfl | decide, trivial⟩)
set_option maxHeartbeats 400000 in
set_option maxRecDepth 100000 in
theorem ct_X5_look (E : En) (ad : Nat → Nat) (tl : va_W)   : Ct E mX5_look 0 0 0 [.ref (ad 17)] (mw E ad gF aF vF tl) (fun o w => o = some (.int (-3)) ∧ True) := by
  refine Ct.of (by decide) (Nat.le_of_ble_eq_true rfl) (fun X C hQ hin => ?_)
  have C : Cx E X cX5_look 6 RX5 (some .int) 0 0 0 0 := C
  refine mg_aload_n C dX5_look_0 rfl ?_
  refine mg_get C inG_X5 fX5_95 (ci := 5) rfl rfl 17 rfl rfl dX5_look_1 ?_
  refine mg_if_ne C 10 dX5_look_4 (by decide) (fun h4 => absurd h4 (fun hh => hh rfl)) (fun h4 => ?_)
  refine mg_bipush (v := (-3)) C dX5_look_7 (by decide) ?_
  exact mg_iret C hQ dX5_look_9 (⟨rfl, trivial⟩)
set_option maxHeartbeats 400000 in
set_option maxRecDepth 100000 in
theorem ct_X5_actAt (E : En) (ad : Nat → Nat) (tl : va_W) (i u : Int32)  : Ct E mX5_actAt 1 0 0 [.ref (ad 17), .int i, .int u] (mw E ad gF aF vF tl) (fun o w => o = some (.int (anActAt u)) ∧ True) := by
  refine Ct.of (by decide) (Nat.le_of_ble_eq_true rfl) (fun X C hQ hin => ?_)
  have C : Cx E X cX5_actAt 3 RX5 (some .int) 1 40 0 0 := C
  refine mg_iload_n C dX5_actAt_0 rfl ?_
  refine mg_iconst (v := 0) C dX5_actAt_1 (by decide) ?_
  refine mg_iconst (v := 2) C dX5_actAt_2 (by decide) ?_
  refine mg_callS C (ct_X5_in E _ _ _ _) oX5_98 rfl rfl rfl dX5_actAt_3 (fun o3 w3 z3 => ?_)
  obtain ⟨rfl, rfl⟩ := z3
  refine mg_v ?_
  refine mg_if_ne C 12 dX5_actAt_6 (by decide) (fun h6 => ?_) (fun h6 => ?_)
  · refine mg_iload_n C dX5_actAt_12 rfl ?_
    refine mg_iconst (v := 0) C dX5_actAt_13 (by decide) ?_
    refine mg_aload_n C dX5_actAt_14 rfl ?_
    refine mg_get C inG_X5 fX5_160 (ci := 5) rfl rfl 17 rfl rfl dX5_actAt_15 ?_
    refine mg_iconst (v := 1) C dX5_actAt_18 (by decide) ?_
    refine mg_isub C dX5_actAt_19 ?_
    refine mg_callS C (ct_X5_in E _ _ _ _) oX5_98 rfl rfl rfl dX5_actAt_20 (fun o20 w20 z20 => ?_)
    obtain ⟨rfl, rfl⟩ := z20
    refine mg_v ?_
    refine mg_if_ne C 30 dX5_actAt_23 (by decide) (fun h23 => absurd h23 (fun hh => hh wim)) (fun h23 => ?_)
    refine mg_iconst (v := (-1)) C dX5_actAt_26 (by decide) ?_
    refine mg_goto C 75 dX5_actAt_27 (by decide) ?_
    exact mg_iret C hQ dX5_actAt_75 (⟨by rw [anActAt, if_neg h6] <;> first | rfl | decide, trivial⟩)
  · refine mg_bipush (v := (-2)) C dX5_actAt_9 (by decide) ?_
    exact mg_iret C hQ dX5_actAt_11 (⟨by rw [anActAt, if_pos h6] <;> first | rfl | decide, trivial⟩)
set_option maxHeartbeats 400000 in
set_option maxRecDepth 100000 in
theorem ct_X5_where (E : En) (ad : Nat → Nat) (tl : va_W)   : Ct E mX5_where 0 0 0 [.ref (ad 17)] (mw E ad gF aF vF tl) (fun o w => o = some (.int (-1)) ∧ True) := by
  refine Ct.of (by decide) (Nat.le_of_ble_eq_true rfl) (fun X C hQ hin => ?_)
  have C : Cx E X cX5_where 1 RX5 (some .int) 0 0 0 0 := C
  refine mg_aload_n C dX5_where_0 rfl ?_
  refine mg_get C inG_X5 fX5_75 (ci := 5) rfl rfl 17 rfl rfl dX5_where_1 ?_
  exact mg_iret C hQ dX5_where_4 (⟨rfl, trivial⟩)
set_option maxHeartbeats 400000 in
set_option maxRecDepth 100000 in
theorem ct_X5_met (E : En) (ad : Nat → Nat) (tl : va_W)   : Ct E mX5_met 0 0 0 [.ref (ad 17)] (mw E ad gF aF vF tl) (fun o w => o = some (.int (0)) ∧ True) := by
  refine Ct.of (by decide) (Nat.le_of_ble_eq_true rfl) (fun X C hQ hin => ?_)
  have C : Cx E X cX5_met 1 RX5 (some .int) 0 0 0 0 := C
  refine mg_aload_n C dX5_met_0 rfl ?_
  refine mg_get C inG_X5 fX5_149 (ci := 5) rfl rfl 17 rfl rfl dX5_met_1 ?_
  exact mg_iret C hQ dX5_met_4 (⟨rfl, trivial⟩)
end
section
/-! Int32 and Int64 by their bits; what find() of the class and of the reference is looking at -/
def bt (x : Int32) (i : Nat) : Bool := x.toBitVec.getLsbD i
theorem b_ext {x y : Int32} (h : ∀ i, i < 32 → bt x i = bt y i) : x = y := Int32.toBitVec_inj.mp (BitVec.eq_of_getLsbD_eq (fun i hi => h i hi))
theorem b_or (x y : Int32) (i : Nat) : bt (x ||| y) i = (bt x i || bt y i) := by unfold bt; rw [Int32.toBitVec_or, BitVec.getLsbD_or]
theorem b_and (x y : Int32) (i : Nat) : bt (x &&& y) i = (bt x i && bt y i) := by unfold bt; rw [Int32.toBitVec_and, BitVec.getLsbD_and]
theorem b_xor (x y : Int32) (i : Nat) : bt (x ^^^ y) i = (bt x i ^^ bt y i) := by unfold bt; rw [Int32.toBitVec_xor, BitVec.getLsbD_xor]
theorem b_0 (i : Nat) : bt 0 i = false := BitVec.getLsbD_zero
theorem s_l : ∀ n, n < 32 → ((nI n &&& 31).toBitVec.smod 32).toNat = n := by decide +kernel
theorem b_shl (n : Nat) (hn : n < 32) (x : Int32) {i : Nat} (hi : i < 32) : bt (x <<< (nI n &&& 31)) i = (decide (n ≤ i) && bt x (i - n)) := by
  unfold bt
  rw [Int32.toBitVec_shiftLeft]
  show (x.toBitVec <<< ((nI n &&& 31).toBitVec.smod 32).toNat).getLsbD i = _
  rw [s_l n hn, BitVec.getLsbD_shiftLeft]
  rcases Nat.lt_or_ge i n with h | h
  · simp [h, Nat.not_le.mpr h]
  · simp [hi, h, Nat.not_lt.mpr h]
theorem b_nI {n i : Nat} (hi : i < 32) : bt (nI n) i = n.testBit i := by
  show (BitVec.ofNat 32 n).getLsbD i = _
  rw [BitVec.getLsbD_ofNat]
  simp [hi]
theorem ni_or (x y : Nat) : nI x ||| nI y = nI (x ||| y) := b_ext fun i hi => by rw [b_or, b_nI hi, b_nI hi, b_nI hi, Nat.testBit_or]
theorem ni_and (x y : Nat) : nI x &&& nI y = nI (x &&& y) := b_ext fun i hi => by rw [b_and, b_nI hi, b_nI hi, b_nI hi, Nat.testBit_and]
theorem ni_xor (x y : Nat) : nI x ^^^ nI y = nI (x ^^^ y) := b_ext fun i hi => by rw [b_xor, b_nI hi, b_nI hi, b_nI hi, Nat.testBit_xor]
theorem ni_m1 : (-1 : Int32) = nI 4294967295 := by decide +kernel
theorem ni_shl {x n : Nat} (hn : n < 32) : nI x <<< (nI n &&& 31) = nI (x <<< n) := b_ext fun i hi => by
  rw [b_shl n hn _ hi, b_nI hi, b_nI (by omega : i - n < 32), Nat.testBit_shiftLeft]
theorem ni_shr {x n : Nat} (hx : x < 2 ^ 31) (hn : n < 32) : nI x >>> (nI n &&& 31) = nI (x >>> n) := by
  rw [pk_shrN hx (nI n &&& 31) n (s_l n hn), Nat.shiftRight_eq_div_pow]
-- Int64
def bl (x : Int64) (i : Nat) : Bool := x.toBitVec.getLsbD i
theorem bl_ext {x y : Int64} (h : ∀ i, i < 64 → bl x i = bl y i) : x = y := Int64.toBitVec_inj.mp (BitVec.eq_of_getLsbD_eq (fun i hi => h i hi))
theorem bl_or (x y : Int64) (i : Nat) : bl (x ||| y) i = (bl x i || bl y i) := by unfold bl; rw [Int64.toBitVec_or, BitVec.getLsbD_or]
theorem bl_and (x y : Int64) (i : Nat) : bl (x &&& y) i = (bl x i && bl y i) := by unfold bl; rw [Int64.toBitVec_and, BitVec.getLsbD_and]
theorem bl_xor (x y : Int64) (i : Nat) : bl (x ^^^ y) i = (bl x i ^^ bl y i) := by unfold bl; rw [Int64.toBitVec_xor, BitVec.getLsbD_xor]
theorem s_L : ∀ n, n < 64 → (((nI n).toInt64 &&& 63).toBitVec.smod 64).toNat = n := by decide +kernel
theorem bl_shl (n : Nat) (hn : n < 64) (x : Int64) {i : Nat} (hi : i < 64) : bl (x <<< ((nI n).toInt64 &&& 63)) i = (decide (n ≤ i) && bl x (i - n)) := by
  unfold bl
  rw [Int64.toBitVec_shiftLeft]
  show (x.toBitVec <<< (((nI n).toInt64 &&& 63).toBitVec.smod 64).toNat).getLsbD i = _
  rw [s_L n hn, BitVec.getLsbD_shiftLeft]
  rcases Nat.lt_or_ge i n with h | h
  · simp [h, Nat.not_le.mpr h]
  · simp [hi, h, Nat.not_lt.mpr h]
theorem bl_shr (n : Nat) (hn : n < 64) (x : Int64) {i : Nat} (hi : i < 64) : bl (x >>> ((nI n).toInt64 &&& 63)) i = if n + i < 64 then bl x (n + i) else bl x 63 := by
  unfold bl
  rw [Int64.toBitVec_shiftRight]
  show (x.toBitVec.sshiftRight (((nI n).toInt64 &&& 63).toBitVec.smod 64).toNat).getLsbD i = _
  rw [s_L n hn, BitVec.getLsbD_sshiftRight, BitVec.msb_eq_getLsbD_last]
  simp [hi]
theorem bl_lN {n i : Nat} (hi : i < 64) : bl (lN n) i = n.testBit i := by
  show (BitVec.ofNat 64 n).getLsbD i = _
  rw [BitVec.getLsbD_ofNat]
  simp [hi]
theorem ln_or (x y : Nat) : lN x ||| lN y = lN (x ||| y) := bl_ext fun i hi => by rw [bl_or, bl_lN hi, bl_lN hi, bl_lN hi, Nat.testBit_or]
theorem ln_and (x y : Nat) : lN x &&& lN y = lN (x &&& y) := bl_ext fun i hi => by rw [bl_and, bl_lN hi, bl_lN hi, bl_lN hi, Nat.testBit_and]
theorem ln_xor (x y : Nat) : lN x ^^^ lN y = lN (x ^^^ y) := bl_ext fun i hi => by rw [bl_xor, bl_lN hi, bl_lN hi, bl_lN hi, Nat.testBit_xor]
theorem ln_m1 : (-1 : Int64) = lN 18446744073709551615 := by decide +kernel
theorem ln_shl {x n : Nat} (hn : n < 64) : lN x <<< ((nI n).toInt64 &&& 63) = lN (x <<< n) := bl_ext fun i hi => by
  rw [bl_shl n hn _ hi, bl_lN hi, bl_lN (by omega : i - n < 64), Nat.testBit_shiftLeft]
theorem ln_shr {x n : Nat} (hx : x < 2 ^ 63) (hn : n < 64) : lN x >>> ((nI n).toInt64 &&& 63) = lN (x >>> n) := bl_ext fun i hi => by
  rw [bl_shr n hn _ hi, bl_lN hi, Nat.testBit_shiftRight]
  by_cases h : n + i < 64
  · rw [if_pos h, bl_lN h]
  · rw [if_neg h, bl_lN (by omega), Nat.testBit_lt_two_pow hx]
    exact (Nat.testBit_lt_two_pow (Nat.lt_of_lt_of_le hx (Nat.pow_le_pow_right (by omega) (by omega)))).symm
-- a state met, packed
def pv (x f z : Nat) : Int64 := (nI f).toInt64 <<< ((32 : Int32).toInt64 &&& 63) ||| (nI z <<< ((16 : Int32) &&& 31)).toInt64 ||| (nI x).toInt64
theorem pv_eq {x f z : Nat} (hx : x < 65536) (hf : f < 8000) (hz : z < 512) : pv x f z = lN (f <<< 32 ||| z <<< 16 ||| x) := by
  unfold pv
  have e16 : nI z <<< ((16 : Int32) &&& 31) = nI (z <<< 16) := ni_shl (n := 16) (by omega)
  have hz2 : z <<< 16 < 2 ^ 31 := by rw [Nat.shiftLeft_eq]; omega
  rw [e16, nI_l (by omega : f < 2 ^ 31), nI_l hz2, nI_l (by omega : x < 2 ^ 31)]
  have e32 : lN f <<< ((32 : Int32).toInt64 &&& 63) = lN (f <<< 32) := ln_shl (n := 32) (by omega)
  rw [e32, ln_or, ln_or]
theorem pv_state {x f z : Nat} (hx : x < 65536) (hf : f < 8000) (hz : z < 512) : (pv x f z).toInt32 &&& 65535 = nI x := by
  rw [pv_eq hx hf hz, lN_i, show (65535 : Int32) = nI 65535 from rfl, ni_and]
  congr 1
  apply Nat.eq_of_testBit_eq
  intro i
  rw [Nat.testBit_and, Nat.testBit_or, Nat.testBit_or, Nat.testBit_shiftLeft, Nat.testBit_shiftLeft, show (65535 : Nat) = 2 ^ 16 - 1 from rfl, Nat.testBit_two_pow_sub_one]
  by_cases hi : i < 16
  · have h1 : ¬ i ≥ 32 := by omega
    have h2 : ¬ i ≥ 16 := by omega
    simp [h1, h2, hi]
  · have h3 : x.testBit i = false := Nat.testBit_lt_two_pow (Nat.lt_of_lt_of_le hx (Nat.pow_le_pow_right (n := 2) (i := 16) (by omega) (by omega)))
    simp [hi, h3]
theorem pv_act {x f z : Nat} (hx : x < 65536) (hf : f < 8000) (hz : z < 512) : (pv x f z).toInt32 >>> ((16 : Int32) &&& 31) = nI z := by
  have e : nI (f <<< 32 ||| z <<< 16 ||| x) = nI (z <<< 16 ||| x) := b_ext fun i hi => by
    rw [b_nI hi, b_nI hi, Nat.testBit_or, Nat.testBit_or, Nat.testBit_or, Nat.testBit_shiftLeft]
    have h1 : ¬ i ≥ 32 := by omega
    simp [h1]
  have hlt : z <<< 16 ||| x < 2 ^ 31 := Nat.or_lt_two_pow (by rw [Nat.shiftLeft_eq]; omega) (by omega)
  rw [pv_eq hx hf hz, lN_i, e]
  have e2 := ni_shr (x := z <<< 16 ||| x) (n := 16) hlt (by omega)
  rw [show (nI 16 : Int32) = 16 from rfl] at e2
  rw [e2]
  congr 1
  apply Nat.eq_of_testBit_eq
  intro i
  rw [Nat.testBit_shiftRight, Nat.testBit_or, Nat.testBit_shiftLeft]
  have h3 : x.testBit (16 + i) = false := Nat.testBit_lt_two_pow (Nat.lt_of_lt_of_le hx (Nat.pow_le_pow_right (n := 2) (i := 16) (by omega) (by omega)))
  simp [h3]
theorem pv_from {x f z : Nat} (hx : x < 65536) (hf : f < 8000) (hz : z < 512) : (pv x f z >>> ((32 : Int32).toInt64 &&& 63)).toInt32 = nI f := by
  have hlt : f <<< 32 ||| z <<< 16 ||| x < 2 ^ 63 := Nat.or_lt_two_pow (Nat.or_lt_two_pow (by rw [Nat.shiftLeft_eq]; omega) (by rw [Nat.shiftLeft_eq]; omega)) (by omega)
  rw [pv_eq hx hf hz]
  have e2 := ln_shr (x := f <<< 32 ||| z <<< 16 ||| x) (n := 32) hlt (by omega)
  rw [show (nI 32 : Int32) = 32 from rfl] at e2
  rw [e2, lN_i]
  congr 1
  apply Nat.eq_of_testBit_eq
  intro i
  rw [Nat.testBit_shiftRight, Nat.testBit_or, Nat.testBit_or, Nat.testBit_shiftLeft, Nat.testBit_shiftLeft]
  have h3 : x.testBit (32 + i) = false := Nat.testBit_lt_two_pow (Nat.lt_of_lt_of_le hx (Nat.pow_le_pow_right (n := 2) (i := 16) (by omega) (by omega)))
  have h4 : z.testBit (32 + i - 16) = false := Nat.testBit_lt_two_pow (Nat.lt_of_lt_of_le hz (Nat.pow_le_pow_right (n := 2) (i := 9) (by omega) (by omega)))
  simp [h3, h4]
-- the marks of states seen
def sb (f : Nat → Int32) (y : Nat) : Bool := bt (f (y >>> 5)) (y &&& 31)
theorem and31 (y : Nat) : y &&& 31 < 32 := by
  have h : y &&& 31 ≤ 31 := Nat.and_le_right
  omega
theorem mark0 {y : Int32} {n : Nat} (hn : n < 32) : y &&& nI (1 <<< n) = 0 ↔ bt y n = false := by
  constructor
  · intro h
    have h1 : bt (y &&& nI (1 <<< n)) n = false := by rw [h]; exact b_0 n
    rw [b_and, b_nI hn, Nat.testBit_shiftLeft] at h1
    simpa using h1
  · intro h
    apply b_ext
    intro i hi
    rw [b_and, b_nI hi, b_0, Nat.testBit_shiftLeft]
    by_cases e : i = n
    · subst e; simp [h]
    · by_cases hni : i ≥ n
      · have h2 : i - n ≠ 0 := by omega
        have h3 : Nat.testBit 1 (i - n) = false := by
          cases hq : Nat.testBit 1 (i - n) with
          | false => rfl
          | true => exact absurd (Nat.testBit_one_eq_true_iff_self_eq_zero.mp hq) h2
        simp [h3]
      · simp [hni]
theorem mark1 {y : Int32} {n i : Nat} (hi : i < 32) : bt (y ||| nI (1 <<< n)) i = (bt y i || decide (i = n)) := by
  rw [b_or, b_nI hi, Nat.testBit_shiftLeft]
  congr 1
  by_cases e : i = n
  · subst e; simp
  · by_cases hni : i ≥ n
    · have h2 : i - n ≠ 0 := by omega
      have h3 : Nat.testBit 1 (i - n) = false := by
        cases hq : Nat.testBit 1 (i - n) with
        | false => rfl
        | true => exact absurd (Nat.testBit_one_eq_true_iff_self_eq_zero.mp hq) h2
      simp [h3, e]
    · simp [hni, e]
theorem sb_up {f : Nat → Int32} {x y : Nat} : sb (upd f (x >>> 5) (f (x >>> 5) ||| nI (1 <<< (x &&& 31)))) y = (sb f y || decide (y = x)) := by
  unfold sb
  by_cases hw : y >>> 5 = x >>> 5
  · rw [hw, pk_us, mark1 (and31 y)]
    congr 1
    have e : (y &&& 31 = x &&& 31) ↔ y = x := by
      constructor
      · intro h
        have h1 : y % 32 = x % 32 := by
          rw [show (31 : Nat) = 2 ^ 5 - 1 from rfl, Nat.and_two_pow_sub_one_eq_mod, Nat.and_two_pow_sub_one_eq_mod] at h
          exact h
        rw [Nat.shiftRight_eq_div_pow, Nat.shiftRight_eq_div_pow] at hw
        omega
      · intro h; rw [h]
    by_cases h : y = x
    · simp [h]
    · simp [h, mt e.mp h]
  · rw [pk_un hw]
    have h : ¬ y = x := fun e => hw (by rw [e])
    simp [h]
theorem sb_0 (y : Nat) : sb (fun _ => 0) y = false := b_0 _
-- the search, in numbers alone
def Mk (k : Nat) : Nat := 2 ^ 2 ^ k - 1
def inR (i : Nat) : Nat → Nat
  | 0 => 0
  | v + 1 => inR i v ||| (((v >>> i) &&& 1) <<< v)
def tabs (k x c : Nat) : Nat := if c < k then inR c (2 ^ k) else (x >>> ((c - k) * 2 ^ k)) &&& Mk k
def nei (k x a b : Nat) : Nat := ((tabs k x a ||| tabs k x b) ^^^ 4294967295) &&& Mk k
def nxt (k x a b c : Nat) : Nat := (x &&& ((Mk k <<< ((c - k) * 2 ^ k)) ^^^ 4294967295)) ||| (nei k x a b <<< ((c - k) * 2 ^ k))
/-- how many states, the states, where each came from, by which act -/
abbrev Bs : Type := Nat × (Nat → Nat) × (Nat → Nat) × (Nat → Nat)
def un (f : Nat → Nat) (i x : Nat) : Nat → Nat := fun j => if j = i then x else f j
theorem un_s {f : Nat → Nat} {i x : Nat} : un f i x i = x := if_pos rfl
theorem un_n {f : Nat → Nat} {i j x : Nat} (h : j ≠ i) : un f i x j = f j := if_neg h
def sn : Nat → (Nat → Nat) → Nat → Bool
  | 0, _, _ => false
  | n + 1, S, x => sn n S x || decide (x = S n)
theorem sn_iff {n : Nat} {S : Nat → Nat} {x : Nat} : sn n S x = true ↔ ∃ i, i < n ∧ S i = x := by
  induction n with
  | zero => simp [sn]
  | succ n ih =>
    simp only [sn, Bool.or_eq_true, decide_eq_true_eq, ih]
    constructor
    · rintro (⟨i, h1, h2⟩ | h)
      · exact ⟨i, by omega, h2⟩
      · exact ⟨n, by omega, h.symm⟩
    · rintro ⟨i, h1, h2⟩
      by_cases e : i = n
      · subst e; exact Or.inr h2.symm
      · exact Or.inl ⟨i, by omega, h2⟩
theorem sn_un {n m : Nat} {S : Nat → Nat} {x y : Nat} (h : n ≤ m) : sn n (un S m y) x = sn n S x := by
  induction n with
  | zero => rfl
  | succ n ih => simp only [sn, ih (by omega)]; rw [un_n (by omega)]
def amt (B : Bs) (x f z : Nat) : Bool × Bs :=
  if sn B.1 B.2.1 x = true then (true, B) else if 8000 ≤ B.1 then (false, B) else (true, (B.1 + 1, un B.2.1 B.1 x, un B.2.2.1 B.1 f, un B.2.2.2 B.1 z))
def lpC (k s t a b : Nat) : Nat → Bs → Bool × Bs
  | 0, B => (true, B)
  | n + 1, B => if s - (n + 1) = a ∨ s - (n + 1) = b then lpC k s t a b n B else
    match amt B (nxt k (B.2.1 t) a b (s - (n + 1))) t (64 * a + 8 * b + (s - (n + 1))) with
    | (false, B1) => (false, B1)
    | (true, B1) => lpC k s t a b n B1
def lpB (k s t a : Nat) : Nat → Bs → Bool × Bs
  | 0, B => (true, B)
  | n + 1, B => match lpC k s t a (s - (n + 1)) (s - k) B with
    | (false, B1) => (false, B1)
    | (true, B1) => lpB k s t a n B1
def lpA (k s t : Nat) : Nat → Bs → Bool × Bs
  | 0, B => (true, B)
  | n + 1, B => match lpB k s t (s - (n + 1)) (n + 1) B with
    | (false, B1) => (false, B1)
    | (true, B1) => lpA k s t n B1
def fwc (k s x w : Nat) : Nat → Option Nat
  | 0 => none
  | n + 1 => if tabs k x (s - (n + 1)) = w then some (s - (n + 1)) else fwc k s x w n
def dpt (F : Nat → Nat) : Nat → Nat → Nat
  | 0, _ => 0
  | n + 1, t => if t = 0 then 0 else dpt F n (F t) + 1
def skA (k s w : Nat) : Nat → Nat → Bs → Int32
  | 0, _, _ => -1
  | n + 1, t, B => if t < B.1 then
      match fwc k s (B.2.1 t) w s with
      | some _ => nI (dpt B.2.2.1 t t)
      | none => match lpA k s t s B with
        | (false, _) => -5
        | (true, B1) => skA k s w n (t + 1) B1
    else -1
def B0 : Bs := (1, fun _ => 0, fun _ => 0, fun _ => 0)
end
section
def Bz : Bs := (0, fun _ => 0, fun _ => 0, fun _ => 0)
def Bb : Bs := (amt Bz 0 0 0).2
def KS (k s : Nat) : Prop := (1 ≤ k ∧ k ≤ 3) ∧ k ≤ s ∧ s ≤ 5
def Cap (k s : Nat) : Nat := 2 ^ ((s - k) * 2 ^ k)
theorem pow_le3 {k : Nat} (h : k ≤ 3) : 2 ^ k ≤ 8 := Nat.le_trans (Nat.pow_le_pow_right (by omega) h) (by decide)
theorem ks_cases {k s : Nat} (h : KS k s) : (k = 1 ∧ (s = 1 ∨ s = 2 ∨ s = 3 ∨ s = 4 ∨ s = 5)) ∨ (k = 2 ∧ (s = 2 ∨ s = 3 ∨ s = 4 ∨ s = 5)) ∨ (k = 3 ∧ (s = 3 ∨ s = 4 ∨ s = 5)) := by
  obtain ⟨⟨h1, h2⟩, h3, h4⟩ := h
  omega
theorem cap_le {k s : Nat} (h : KS k s) : Cap k s ≤ 65536 := by
  rcases ks_cases h with ⟨rfl, h | h | h | h | h⟩ | ⟨rfl, h | h | h | h⟩ | ⟨rfl, h | h | h⟩ <;> subst h <;> decide
theorem sh_le {k s c : Nat} (h : KS k s) (h1 : k ≤ c) (h2 : c < s) : (c - k) * 2 ^ k + 2 ^ k ≤ (s - k) * 2 ^ k := by
  have e : (c - k) * 2 ^ k + 2 ^ k = (c - k + 1) * 2 ^ k := by rw [Nat.add_mul, Nat.one_mul]
  rw [e]
  exact Nat.mul_le_mul_right _ (by omega)
theorem sh_16 {k s : Nat} (h : KS k s) : (s - k) * 2 ^ k ≤ 16 := by
  rcases ks_cases h with ⟨rfl, h | h | h | h | h⟩ | ⟨rfl, h | h | h | h⟩ | ⟨rfl, h | h | h⟩ <;> subst h <;> decide
theorem mk_lt {k : Nat} (h : k ≤ 3) : Mk k < 256 := by
  rcases (by omega : k = 0 ∨ k = 1 ∨ k = 2 ∨ k = 3) with rfl | rfl | rfl | rfl <;> decide
theorem mk_pow {k : Nat} : Mk k < 2 ^ 2 ^ k := by
  unfold Mk
  have : 0 < 2 ^ 2 ^ k := Nat.pow_pos (by omega)
  omega
theorem nei_lt {k x p q : Nat} : nei k x p q < 2 ^ 2 ^ k := Nat.lt_of_le_of_lt Nat.and_le_right mk_pow
theorem nxt_lt {k s x p q c : Nat} (h : KS k s) (hx : x < Cap k s) (h1 : k ≤ c) (h2 : c < s) : nxt k x p q c < Cap k s := by
  unfold nxt Cap at *
  refine Nat.or_lt_two_pow (Nat.lt_of_le_of_lt Nat.and_le_left hx) ?_
  rw [Nat.shiftLeft_eq]
  have h3 := sh_le h h1 h2
  calc nei k x p q * 2 ^ ((c - k) * 2 ^ k) < 2 ^ 2 ^ k * 2 ^ ((c - k) * 2 ^ k) := Nat.mul_lt_mul_of_pos_right nei_lt (Nat.pow_pos (by omega))
    _ = 2 ^ (2 ^ k + (c - k) * 2 ^ k) := (Nat.pow_add ..).symm
    _ ≤ 2 ^ ((s - k) * 2 ^ k) := Nat.pow_le_pow_right (by omega) (by omega)
def BW (k s : Nat) (B : Bs) : Prop := B.1 ≤ 8000 ∧ ∀ i, i < B.1 → B.2.1 i < Cap k s ∧ B.2.2.1 i < 8000 ∧ (i = 0 ∨ B.2.2.1 i < i) ∧ B.2.2.2 i < 512
def CI (k s : Nat) (B : Bs) (g : Nat → Int32) (a : Nat → Nat → Int32) (v : Nat → Int64) : Prop :=
  (g 10 = nI k ∧ g 11 = nI s ∧ g 12 = nI (2 ^ k) ∧ g 13 = nI (Mk k) ∧ g 14 = nI B.1) ∧ BW k s B ∧ (∀ i, i < B.1 → v i = pv (B.2.1 i) (B.2.2.1 i) (B.2.2.2 i)) ∧ (∀ y, y < 65536 → sb (a 11) y = sn B.1 B.2.1 y) ∧ (∀ i, i < k → a 12 i = nI (inR i (2 ^ k)))
theorem bw_add {k s : Nat} {B : Bs} {x f z : Nat} (hB : BW k s B) (hx : x < Cap k s) (hf : f < 8000 ∧ (B.1 = 0 ∨ f < B.1)) (hz : z < 512) (hc : B.1 < 8000) : BW k s (B.1 + 1, un B.2.1 B.1 x, un B.2.2.1 B.1 f, un B.2.2.2 B.1 z) := by
  refine ⟨hc, fun i hi => ?_⟩
  by_cases e : i = B.1
  · subst e
    dsimp only
    rw [un_s, un_s, un_s]
    exact ⟨hx, hf.1, hf.2, hz⟩
  · dsimp only
    rw [un_n e, un_n e, un_n e]
    exact hB.2 i (by dsimp only at hi; omega)
theorem ci_add {k s : Nat} {B : Bs} {g : Nat → Int32} {a : Nat → Nat → Int32} {v : Nat → Int64} {x f z : Nat} (hI : CI k s B g a v) (hx : x < Cap k s) (hf : f < 8000 ∧ (B.1 = 0 ∨ f < B.1)) (hz : z < 512) (hc : B.1 < 8000) :
    CI k s (B.1 + 1, un B.2.1 B.1 x, un B.2.2.1 B.1 f, un B.2.2.2 B.1 z) (ug g 14 (nI B.1 + 1)) (ups a 11 (x >>> 5) (a 11 (x >>> 5) ||| nI (1 <<< (x &&& 31)))) (vp_updL v B.1 (pv x f z)) := by
  obtain ⟨⟨h10, h11, h12, h13, h14⟩, hB, hv, hs, hin⟩ := hI
  refine ⟨⟨h10, h11, h12, h13, nI_1 B.1⟩, bw_add hB hx hf hz hc, fun i hi => ?_, fun y hy => ?_, hin⟩
  · by_cases e : i = B.1
    · subst e
      dsimp only
      rw [pk_uLs, un_s, un_s, un_s]
    · dsimp only
      rw [pk_uLn e, un_n e, un_n e, un_n e]
      exact hv i (by dsimp only at hi; omega)
  · show sb (upd (a 11) (x >>> 5) (a 11 (x >>> 5) ||| nI (1 <<< (x &&& 31)))) y = _
    rw [sb_up, hs y hy]
    simp only [sn]
    rw [sn_un (Nat.le_refl _)]
    simp only [un_s]
theorem ug_n {g : Nat → Int32} {i j : Nat} {x : Int32} (h : i ≠ j) : ug g j x i = g i := by
  have e : (i == j) = false := by simpa using h
  unfold ug; rw [nbq, e]; rfl
theorem ups_n {a : Nat → Nat → Int32} {i j k : Nat} {x : Int32} (h : i ≠ j) : ups a j k x i = a i := by
  have e : (i == j) = false := by simpa using h
  unfold ups; rw [nbq, e]; rfl
theorem upa_n {a : Nat → Nat → Int32} {i j : Nat} {f : Nat → Int32} (h : i ≠ j) : upa a j f i = a i := by
  have e : (i == j) = false := by simpa using h
  unfold upa; rw [nbq, e]; rfl
def bi (p : Bool) : Int32 := if p = true then 1 else 0
set_option maxHeartbeats 400000 in
set_option maxRecDepth 100000 in
theorem ct_X2_meet (E : En) (ad : Nat → Nat) (fl : Nat) (g : Nat → Int32) (a : Nat → Nat → Int32) (v : Nat → Int64) (tl : va_W) (kN sN : Nat) (B : Bs) (x f z : Nat) (hk : KS kN sN) (hI : CI kN sN B g a v) (hx : x < Cap kN sN) (hf : f < 8000 ∧ (B.1 = 0 ∨ f < B.1)) (hz : z < 512) : Ct E mX2_meet 1 0 0 [.ref (ad 4), .int (nI x), .int (nI f), .int (nI z)] (cw E ad fl g a v tl) (fun o w => ∃ (g1 : Nat → Int32) (a1 : Nat → Nat → Int32) (v1 : Nat → Int64), o = some (.int (bi (amt B x f z).1)) ∧ CI kN sN (amt B x f z).2 g1 a1 v1 ∧ (∀ i, i ≠ 14 → g1 i = g i) ∧ (∀ j, j ≠ 11 → a1 j = a j) ∧ w = cw E ad fl g1 a1 v1 tl) := by
  refine Ct.of (by decide) (Nat.le_of_ble_eq_true rfl) (fun X C hQ hin => ?_)
  have C : Cx E X cX2_meet 6 RX2 (some .boolean) 1 40 0 0 := C
  obtain ⟨⟨h10, h11, h12, h13, h14⟩, hB, hv, hs, hinp⟩ := id hI
  have hcap := cap_le hk
  have hB8 := hB.1
  have e5 : (nI (x >>> 5)).toNatClampNeg = x >>> 5 := nI_clamp (by rw [Nat.shiftRight_eq_div_pow]; omega)
  have hin5 : vp_in (nI (x >>> 5)) 2048 := vp_in_nI (by rw [Nat.shiftRight_eq_div_pow]; omega) (by decide)
  refine mg_iload_n C dX2_meet_0 rfl ?_
  refine mg_iconst (v := 5) C dX2_meet_1 (by decide) ?_
  refine mg_ishr C dX2_meet_2 ?_
  refine mg_tos (w := .int (nI (x >>> 5))) (by rw [show (5 : Int32) = nI 5 from rfl, ni_shr (by omega) (by omega)]) ?_
  refine mg_istore C dX2_meet_3 rfl ?_
  refine mg_lve (lv' := [(0, _), (1, _), (2, _), (3, _), (4, _)]) rfl ?_
  refine mg_iconst (v := 1) C dX2_meet_5 (by decide) ?_
  refine mg_iload_n C dX2_meet_6 rfl ?_
  refine mg_bipush (v := 31) C dX2_meet_7 (by decide) ?_
  refine mg_iand C dX2_meet_9 ?_
  refine mg_ishl C dX2_meet_10 ?_
  refine mg_tos (w := .int (nI (1 <<< (x &&& 31)))) (by rw [show (31 : Int32) = nI 31 from rfl, show (1 : Int32) = nI 1 from rfl, ni_and]; exact congrArg Value.int (ni_shl (and31 x))) ?_
  refine mg_istore C dX2_meet_11 rfl ?_
  refine mg_lve (lv' := [(0, _), (1, _), (2, _), (3, _), (4, _), (5, _)]) rfl ?_
  refine mg_aload_n C dX2_meet_13 rfl ?_
  refine mg_get C inG_X2 fX2_15 (ci := 2) rfl rfl 4 rfl rfl dX2_meet_14 ?_
  refine mg_iload C dX2_meet_17 rfl ?_
  refine mg_iald C 2 rfl (hin5) dX2_meet_19 ?_
  refine mg_iload C dX2_meet_20 rfl ?_
  refine mg_iand C dX2_meet_22 ?_
  refine mg_if_eq C 28 dX2_meet_23 (by decide) (fun h23 => ?_) (fun h23 => ?_)
  · refine mg_aload_n C dX2_meet_28 rfl ?_
    refine mg_get C inG_X2 fX2_33 (ci := 2) rfl rfl 4 rfl rfl dX2_meet_29 ?_
    refine mg_sipush (v := 8000) C dX2_meet_32 (by decide) ?_
    refine mg_icmp_lt C 40 dX2_meet_35 (by decide) (fun h35 => ?_) (fun h35 => ?_)
    · have hc8 : B.1 < 8000 := (by rw [h14] at h35; rcases Nat.lt_or_ge B.1 8000 with q | q; exact q; exact absurd h35 (nI_nlt (b := 8000) q (by omega)))
      have hin14 : vp_in (g 14) 8000 := (by rw [h14]; exact vp_in_nI hc8 (by decide))
      refine mg_aload_n C dX2_meet_40 rfl ?_
      refine mg_get C inG_X2 fX2_15 (ci := 2) rfl rfl 4 rfl rfl dX2_meet_41 ?_
      refine mg_iload C dX2_meet_44 rfl ?_
      refine mg_dup2_11 C dX2_meet_46 rfl rfl ?_
      refine mg_iald C 2 rfl (hin5) dX2_meet_47 ?_
      refine mg_iload C dX2_meet_48 rfl ?_
      refine mg_ior C dX2_meet_50 ?_
      refine mg_topi (fun zv51 ezv51 => ?_)
      refine mg_iast C 2 rfl (hin5) dX2_meet_51 (ws' := (cw E ad fl g (ups a 11 ((nI (x >>> 5)) : Int32).toNatClampNeg zv51) v tl)) rfl ?_
      refine mg_aload_n C dX2_meet_52 rfl ?_
      refine mg_get C inG_X2 fX2_9 (ci := 2) rfl rfl 4 rfl rfl dX2_meet_53 ?_
      refine mg_aload_n C dX2_meet_56 rfl ?_
      refine mg_get C inG_X2 fX2_33 (ci := 2) rfl rfl 4 rfl rfl dX2_meet_57 ?_
      refine mg_iload_n C dX2_meet_60 rfl ?_
      refine mg_iload_n C dX2_meet_61 rfl ?_
      refine mg_iload_n C dX2_meet_62 rfl ?_
      refine mg_callSN C (ct_X4_packVisit E _ _ _ _) oX2_96 rfl rfl rfl dX2_meet_63 (fun o63 w63 z63 => ?_)
      obtain ⟨rfl, rfl⟩ := z63
      refine mg_v ?_
      refine mg_last C 3 rfl (hin14) dX2_meet_66 (ws' := (cw E ad fl g (ups a 11 ((nI (x >>> 5)) : Int32).toNatClampNeg zv51) (vp_updL v _ _) tl)) rfl ?_
      refine mg_aload_n C dX2_meet_67 rfl ?_
      refine mg_dup C dX2_meet_68 rfl ?_
      refine mg_get C inG_X2 fX2_33 (ci := 2) rfl rfl 4 rfl rfl dX2_meet_69 ?_
      refine mg_iconst (v := 1) C dX2_meet_72 (by decide) ?_
      refine mg_iadd C dX2_meet_73 ?_
      refine mg_topi (fun zv74 ezv74 => ?_)
      refine mg_put C inG_X2 fX2_33 (ci := 2) rfl rfl tyX2 tyX2_ok nmX2 rfl 4 rfl rfl rfl rfl dX2_meet_74 (ws' := (cw E ad fl (ug g 14 zv74) (ups a 11 ((nI (x >>> 5)) : Int32).toNatClampNeg zv51) (vp_updL v _ _) tl)) rfl ?_
      refine mg_iconst (v := 1) C dX2_meet_77 (by decide) ?_
      exact mg_zret C hQ (rfl) dX2_meet_78 (by
    rw [e5] at h23
    have hsn : ¬ sn B.1 B.2.1 x = true := (by rw [← hs x (by omega)]; intro hq; have h0 : sb (a 11) x = false := (mark0 (and31 x)).mp h23; rw [h0] at hq; cases hq)
    have ea : amt B x f z = (true, (B.1 + 1, un B.2.1 B.1 x, un B.2.2.1 B.1 f, un B.2.2.2 B.1 z)) := (if_neg hsn).trans (if_neg (by omega))
    rw [ea]
    refine ⟨_, _, _, rfl, ci_add hI hx hf hz hc8, fun i hi => ?_, fun j hj => ?_, ?_⟩
    · exact ug_n hi
    · exact ups_n hj
    · rw [ezv51, ezv74]; show cw E ad fl (ug g 14 (g 14 + 1)) _ _ tl = _; rw [e5, h14, nI_clamp (by omega : B.1 < 2 ^ 31)]; rfl)
    · refine mg_iconst (v := 0) C dX2_meet_38 (by decide) ?_
      exact mg_zret C hQ (rfl) dX2_meet_39 (by
    rw [e5] at h23
    have hsn : ¬ sn B.1 B.2.1 x = true := (by rw [← hs x (by omega)]; intro hq; have h0 : sb (a 11) x = false := (mark0 (and31 x)).mp h23; rw [h0] at hq; cases hq)
    have hc8 : 8000 ≤ B.1 := (by rw [h14] at h35; rcases Nat.lt_or_ge B.1 8000 with q | q; exact absurd (nI_lt (b := 8000) q (by omega)) h35; exact q)
    have ea : amt B x f z = (false, B) := (if_neg hsn).trans (if_pos hc8)
    rw [ea]
    exact ⟨g, a, v, rfl, hI, fun _ _ => rfl, fun _ _ => rfl, rfl⟩)
  · refine mg_iconst (v := 1) C dX2_meet_26 (by decide) ?_
    exact mg_zret C hQ (rfl) dX2_meet_27 (by
    rw [e5] at h23
    have hsn : sn B.1 B.2.1 x = true := (by rw [← hs x (by omega)]; cases hq : sb (a 11) x with
      | true => rfl
      | false => exact absurd ((mark0 (and31 x)).mpr hq) h23)
    have ea : amt B x f z = (true, B) := if_pos hsn
    rw [ea]
    exact ⟨g, a, v, rfl, hI, fun _ _ => rfl, fun _ _ => rfl, rfl⟩)
set_option maxHeartbeats 400000 in
set_option maxRecDepth 100000 in
theorem ct_X2_shiftOf (E : En) (ad : Nat → Nat) (fl : Nat) (g : Nat → Int32) (a : Nat → Nat → Int32) (v : Nat → Int64) (tl : va_W) (kN c : Nat) (h10 : g 10 = nI kN) (h12 : g 12 = nI (2 ^ kN)) (hkc : kN ≤ c) : Ct E mX2_shiftOf 0 0 0 [.ref (ad 4), .int (nI c)] (cw E ad fl g a v tl) (fun o w => o = some (.int (nI ((c - kN) * 2 ^ kN))) ∧ w = cw E ad fl g a v tl) := by
  refine Ct.of (by decide) (Nat.le_of_ble_eq_true rfl) (fun X C hQ hin => ?_)
  have C : Cx E X cX2_shiftOf 2 RX2 (some .int) 0 0 0 0 := C
  refine mg_iload_n C dX2_shiftOf_0 rfl ?_
  refine mg_aload_n C dX2_shiftOf_1 rfl ?_
  refine mg_get C inG_X2 fX2_58 (ci := 2) rfl rfl 4 rfl rfl dX2_shiftOf_2 ?_
  refine mg_isub C dX2_shiftOf_5 ?_
  refine mg_aload_n C dX2_shiftOf_6 rfl ?_
  refine mg_get C inG_X2 fX2_64 (ci := 2) rfl rfl 4 rfl rfl dX2_shiftOf_7 ?_
  refine mg_imul C dX2_shiftOf_10 ?_
  exact mg_iret C hQ dX2_shiftOf_11 (⟨by rw [h10, h12, pk_sub hkc, pk_mul], rfl⟩)
set_option maxHeartbeats 400000 in
set_option maxRecDepth 100000 in
theorem ct_X2_inputTable (E : En) (ad : Nat → Nat) (fl : Nat) (g : Nat → Int32) (a : Nat → Nat → Int32) (v : Nat → Int64) (tl : va_W) (kN i : Nat) (hk3 : kN ≤ 3) (hi3 : i < 32) (h12 : g 12 = nI (2 ^ kN)) : Ct E mX2_inputTable 0 0 0 [.ref (ad 4), .int (nI i)] (cw E ad fl g a v tl) (fun o w => o = some (.int (nI (inR i (2 ^ kN)))) ∧ w = cw E ad fl g a v tl) := by
  refine Ct.of (by decide) (Nat.le_of_ble_eq_true rfl) (fun X C hQ hin => ?_)
  have C : Cx E X cX2_inputTable 4 RX2 (some .int) 0 0 0 0 := C
  have hp := pow_le3 hk3
  have hpp : 1 ≤ 2 ^ kN := Nat.one_le_two_pow
  have loop : ∀ (m q : Nat), 2 ^ kN < q + m → q ≤ 2 ^ kN → GG E X (cw E ad fl g a v tl) 0 0 4 [(0, .ref (ad 4)), (1, .int (nI i)), (2, .int (nI (inR i q))), (3, .int (nI q))] [] := by
    intro m
    induction m with
    | zero => intro q hm hq; omega
    | succ m ih =>
      intro q hm hq
      refine mg_iload_n C dX2_inputTable_4 rfl ?_
      refine mg_aload_n C dX2_inputTable_5 rfl ?_
      refine mg_get C inG_X2 fX2_64 (ci := 2) rfl rfl 4 rfl rfl dX2_inputTable_6 ?_
      refine mg_icmp_ge C 28 dX2_inputTable_9 (by decide) (fun h9 => ?_) (fun h9 => ?_)
      · have eq2 : q = 2 ^ kN := (by rcases Nat.lt_or_ge q (2 ^ kN) with h | h; exact absurd (by rw [h12] at h9; exact h9) (nI_ge h (by omega)); omega)
        subst eq2
        refine mg_iload_n C dX2_inputTable_28 rfl ?_
        exact mg_iret C hQ dX2_inputTable_29 (⟨rfl, rfl⟩)
      · have hlt : q < 2 ^ kN := (by rcases Nat.lt_or_ge q (2 ^ kN) with h | h; exact h; exact absurd (by rw [h12]; exact nI_le h (by omega)) h9)
        refine mg_iload_n C dX2_inputTable_12 rfl ?_
        refine mg_iload_n C dX2_inputTable_13 rfl ?_
        refine mg_iload_n C dX2_inputTable_14 rfl ?_
        refine mg_ishr C dX2_inputTable_15 ?_
        refine mg_iconst (v := 1) C dX2_inputTable_16 (by decide) ?_
        refine mg_iand C dX2_inputTable_17 ?_
        refine mg_iload_n C dX2_inputTable_18 rfl ?_
        refine mg_ishl C dX2_inputTable_19 ?_
        refine mg_ior C dX2_inputTable_20 ?_
        refine mg_istore_n C dX2_inputTable_21 rfl ?_
        refine mg_lve (lv' := [(0, _), (1, _), (2, _), (3, _)]) rfl ?_
        refine mg_iinc C dX2_inputTable_22 rfl rfl ?_
        refine mg_lve (lv' := [(0, _), (1, _), (2, _), (3, _)]) rfl ?_
        refine mg_goto C 4 dX2_inputTable_25 (by decide) ?_
        refine mg_lve (lv' := [(0, .ref (ad 4)), (1, .int (nI i)), (2, .int (nI (inR i (q + 1)))), (3, .int (nI (q + 1)))]) ?_ ?_
        · rw [nI_succ q]
          have e1 : nI (inR i q) ||| ((nI q >>> (nI i &&& 31) &&& 1) <<< (nI q &&& 31)) = nI (inR i (q + 1)) := by
            rw [ni_shr (by omega) (by omega), show (1 : Int32) = nI 1 from rfl, ni_and, ni_shl (by omega), ni_or]
            rfl
          rw [← e1]
          rfl
        · exact ih (q + 1) (by omega) (by omega)
  show GG E X (cw E ad fl g a v tl) 0 0 0 [(0, .ref (ad 4)), (1, .int (nI i))] []
  refine mg_iconst (v := 0) C dX2_inputTable_0 (by decide) ?_
  refine mg_istore_n C dX2_inputTable_1 rfl ?_
  refine mg_iconst (v := 0) C dX2_inputTable_2 (by decide) ?_
  refine mg_istore_n C dX2_inputTable_3 rfl ?_
  exact loop (2 ^ kN + 1) 0 (by omega) (by omega)
set_option maxHeartbeats 400000 in
set_option maxRecDepth 100000 in
theorem ct_X2_openState (E : En) (ad : Nat → Nat) (fl : Nat) (g : Nat → Int32) (a : Nat → Nat → Int32) (v : Nat → Int64) (tl : va_W) (kN sN x : Nat) (hk : KS kN sN) (hx : x < 65536) (h10 : g 10 = nI kN) (h11 : g 11 = nI sN) (h12 : g 12 = nI (2 ^ kN)) (h13 : g 13 = nI (Mk kN)) (hinp : ∀ i, i < kN → a 12 i = nI (inR i (2 ^ kN))) : Ct E mX2_openState 1 0 0 [.ref (ad 4), .int (nI x)] (cw E ad fl g a v tl) (fun o w => ∃ a1 : Nat → Nat → Int32, o = none ∧ (∀ c, c < sN → a1 12 c = nI (tabs kN x c)) ∧ (∀ j, j ≠ 12 → a1 j = a j) ∧ w = cw E ad fl g a1 v tl) := by
  refine Ct.of (by decide) (Nat.le_of_ble_eq_true rfl) (fun X C hQ hin => ?_)
  have C : Cx E X cX2_openState 3 RX2 none 1 40 0 0 := C
  have hk2 := hk
  obtain ⟨⟨hk1, hk3⟩, hks, hs5⟩ := hk2
  have h16 := sh_16 hk
  have hpp : 1 ≤ 2 ^ kN := Nat.one_le_two_pow
  have loop : ∀ (m c : Nat) (a1 : Nat → Nat → Int32), sN < c + m → kN ≤ c → c ≤ sN → (∀ j, j < c → a1 12 j = nI (tabs kN x j)) → (∀ j, j ≠ 12 → a1 j = a j) → GG E X (cw E ad fl g a1 v tl) 0 0 5 [(0, .ref (ad 4)), (1, .int (nI x)), (2, .int (nI c))] [] := by
    intro m
    induction m with
    | zero => intro c a1 hm hkc hc; omega
    | succ m ih =>
      intro c a1 hm hkc hc ht ho
      refine mg_iload_n C dX2_openState_5 rfl ?_
      refine mg_aload_n C dX2_openState_6 rfl ?_
      refine mg_get C inG_X2 fX2_61 (ci := 2) rfl rfl 4 rfl rfl dX2_openState_7 ?_
      refine mg_icmp_ge C 37 dX2_openState_10 (by decide) (fun hb10 => ?_) (fun hb10 => ?_)
      · have ec : c = sN := (by rcases Nat.lt_or_ge c sN with h | h; exact absurd (by rw [h11] at hb10; exact hb10) (nI_ge h (by omega)); omega)
        subst ec
        exact mg_vret C hQ dX2_openState_37 (⟨a1, rfl, ht, ho, rfl⟩)
      · have hlt : c < sN := (by rcases Nat.lt_or_ge c sN with h | h; exact h; exact absurd (by rw [h11]; exact nI_le h (by omega)) hb10)
        have hin2 : vp_in (nI c) 5 := vp_in_nI (by omega) (by decide)
        refine mg_aload_n C dX2_openState_13 rfl ?_
        refine mg_get C inG_X2 fX2_19 (ci := 2) rfl rfl 4 rfl rfl dX2_openState_14 ?_
        refine mg_iload_n C dX2_openState_17 rfl ?_
        refine mg_iload_n C dX2_openState_18 rfl ?_
        refine mg_aload_n C dX2_openState_19 rfl ?_
        refine mg_iload_n C dX2_openState_20 rfl ?_
        refine mg_callV C (ct_X2_shiftOf E _ _ _ _ _ _ kN _ h10 h12 hkc) oX2_86 4 rfl rfl rfl rfl rfl dX2_openState_21 (fun o21 w21 z21 => ?_)
        obtain ⟨rfl, rfl⟩ := z21
        refine mg_v ?_
        refine mg_ishr C dX2_openState_24 ?_
        refine mg_aload_n C dX2_openState_25 rfl ?_
        refine mg_get C inG_X2 fX2_70 (ci := 2) rfl rfl 4 rfl rfl dX2_openState_26 ?_
        refine mg_iand C dX2_openState_29 ?_
        refine mg_tos (w := .int (nI (tabs kN x c))) (by rw [h13, ni_shr (by omega) (by have h5 := sh_le hk hkc hlt; omega), ni_and, tabs, if_neg (by omega)]) ?_
        refine mg_iast C 1 rfl (hin2) dX2_openState_30 (ws' := (cw E ad fl g (ups a1 12 ((nI c) : Int32).toNatClampNeg (nI (tabs kN x c))) v tl)) rfl ?_
        refine mg_iinc C dX2_openState_31 rfl rfl ?_
        refine mg_lve (lv' := [(0, _), (1, _), (2, _)]) rfl ?_
        refine mg_goto C 5 dX2_openState_34 (by decide) ?_
        refine mg_lve (lv' := [(0, .ref (ad 4)), (1, .int (nI x)), (2, .int (nI (c + 1)))]) (by rw [nI_succ c]; rfl) ?_
        refine ih (c + 1) _ (by omega) (by omega) (by omega) (fun j hj => ?_) (fun j hj => ?_)
        · show upd (a1 12) _ _ j = _
          rw [nI_clamp (by omega)]
          by_cases hjc : j = c
          · rw [hjc]; exact pk_us
          · rw [pk_un hjc]; exact ht j (by omega)
        · rw [← ho j hj]; exact ups_n hj
  show GG E X (cw E ad fl g a v tl) 0 0 0 [(0, .ref (ad 4)), (1, .int (nI x))] []
  refine mg_aload_n C dX2_openState_0 rfl ?_
  refine mg_get C inG_X2 fX2_58 (ci := 2) rfl rfl 4 rfl rfl dX2_openState_1 ?_
  rw [h10]
  refine mg_istore_n C dX2_openState_4 rfl ?_
  exact loop (sN + 1) kN a (by omega) (Nat.le_refl _) hks (fun j hj => by rw [tabs, if_pos hj]; exact hinp j hj) (fun _ _ => rfl)
def fwi (r : Option Nat) : Int32 := match r with | some c => nI c | none => -1
theorem tabs_lt {k x c : Nat} (h : k ≤ 3) : tabs k x c < 256 := by
  unfold tabs
  by_cases hc : c < k
  · rw [if_pos hc]
    rcases (by omega : k = 1 ∨ k = 2 ∨ k = 3) with rfl | rfl | rfl
    · rw [show c = 0 by omega]; decide
    · rcases (by omega : c = 0 ∨ c = 1) with rfl | rfl <;> decide
    · rcases (by omega : c = 0 ∨ c = 1 ∨ c = 2) with rfl | rfl | rfl <;> decide
  · rw [if_neg hc]
    exact Nat.lt_of_le_of_lt Nat.and_le_right (mk_lt h)
set_option maxHeartbeats 400000 in
set_option maxRecDepth 100000 in
theorem ct_X2_cellWith (E : En) (ad : Nat → Nat) (fl : Nat) (g : Nat → Int32) (a : Nat → Nat → Int32) (v : Nat → Int64) (tl : va_W) (kN sN x w0 : Nat) (hk : KS kN sN) (hw0 : w0 < 256) (h11 : g 11 = nI sN) (ht : ∀ c, c < sN → a 12 c = nI (tabs kN x c)) : Ct E mX2_cellWith 0 0 0 [.ref (ad 4), .int (nI w0)] (cw E ad fl g a v tl) (fun o w => o = some (.int (fwi (fwc kN sN x w0 sN))) ∧ w = cw E ad fl g a v tl) := by
  refine Ct.of (by decide) (Nat.le_of_ble_eq_true rfl) (fun X C hQ hin => ?_)
  have C : Cx E X cX2_cellWith 3 RX2 (some .int) 0 0 0 0 := C
  have hk2 := hk
  obtain ⟨⟨hk1, hk3⟩, hks, hs5⟩ := hk2
  have loop : ∀ (m c : Nat), sN < c + m → c ≤ sN → fwc kN sN x w0 (sN - c) = fwc kN sN x w0 sN → GG E X (cw E ad fl g a v tl) 0 0 2 [(0, .ref (ad 4)), (1, .int (nI w0)), (2, .int (nI c))] [] := by
    intro m
    induction m with
    | zero => intro c hm hc; omega
    | succ m ih =>
      intro c hm hc hf
      have htl := tabs_lt (x := x) (c := c) hk3
      refine mg_iload_n C dX2_cellWith_2 rfl ?_
      refine mg_aload_n C dX2_cellWith_3 rfl ?_
      refine mg_get C inG_X2 fX2_61 (ci := 2) rfl rfl 4 rfl rfl dX2_cellWith_4 ?_
      refine mg_icmp_ge C 28 dX2_cellWith_7 (by decide) (fun h7 => ?_) (fun h7 => ?_)
      · have ec : c = sN := (by rcases Nat.lt_or_ge c sN with h | h; exact absurd (by rw [h11] at h7; exact h7) (nI_ge h (by omega)); omega)
        subst ec
        refine mg_iconst (v := (-1)) C dX2_cellWith_28 (by decide) ?_
        exact mg_iret C hQ dX2_cellWith_29 (⟨by rw [← hf, Nat.sub_self]; rfl, rfl⟩)
      · have hlt : c < sN := (by rcases Nat.lt_or_ge c sN with h | h; exact h; exact absurd (by rw [h11]; exact nI_le h (by omega)) h7)
        have hin2 : vp_in (nI c) 5 := vp_in_nI (by omega) (by decide)
        obtain ⟨m1, hm1⟩ : ∃ m1, sN - c = m1 + 1 := ⟨sN - c - 1, by omega⟩
        have ecs : sN - (m1 + 1) = c := by omega
        refine mg_aload_n C dX2_cellWith_10 rfl ?_
        refine mg_get C inG_X2 fX2_19 (ci := 2) rfl rfl 4 rfl rfl dX2_cellWith_11 ?_
        refine mg_iload_n C dX2_cellWith_14 rfl ?_
        refine mg_iald C 1 rfl (hin2) dX2_cellWith_15 ?_
        refine mg_tos (w := .int (nI (tabs kN x c))) (by rw [nI_clamp (by omega), ht c hlt]) ?_
        refine mg_iload_n C dX2_cellWith_16 rfl ?_
        refine mg_icmp_ne C 22 dX2_cellWith_17 (by decide) (fun h17 => ?_) (fun h17 => ?_)
        · refine mg_iinc C dX2_cellWith_22 rfl rfl ?_
          refine mg_lve (lv' := [(0, _), (1, _), (2, _)]) rfl ?_
          refine mg_goto C 2 dX2_cellWith_25 (by decide) ?_
          refine mg_lve (lv' := [(0, .ref (ad 4)), (1, .int (nI w0)), (2, .int (nI (c + 1)))]) (by rw [nI_succ c]; rfl) ?_
          refine ih (c + 1) (by omega) (by omega) ?_
          rw [← hf, hm1, fwc, ecs, if_neg (fun e => h17 (by rw [e]))]
          congr 1; omega
        · refine mg_iload_n C dX2_cellWith_20 rfl ?_
          exact mg_iret C hQ dX2_cellWith_21 (⟨by rw [← hf, hm1, fwc, ecs, if_pos ((nI_eq (by omega) (by omega)).mp h17)]; rfl, rfl⟩)
  show GG E X (cw E ad fl g a v tl) 0 0 0 [(0, .ref (ad 4)), (1, .int (nI w0))] []
  refine mg_iconst (v := 0) C dX2_cellWith_0 (by decide) ?_
  refine mg_istore_n C dX2_cellWith_1 rfl ?_
  exact loop (sN + 1) 0 (by omega) (by omega) rfl
theorem lv_tk {lv lv' : List (Nat × Value)} (n : Nat) (h : lv.take n = lv') : ∀ q ∈ lv', q ∈ lv := by
  subst h
  exact fun q hq => List.mem_of_mem_take hq
theorem pack8 : ∀ p, p < 5 → ∀ q, q < 5 → ∀ c, c < 5 → ((p <<< 6 ||| q <<< 3) ||| c) = 64 * p + 8 * q + c := by decide +kernel
theorem packI {p q c : Nat} (hp : p < 5) (hq : q < 5) (hc : c < 5) : nI p <<< ((6 : Int32) &&& 31) ||| nI q <<< ((3 : Int32) &&& 31) ||| nI c = nI (64 * p + 8 * q + c) := by
  have e6 : nI p <<< ((6 : Int32) &&& 31) = nI (p <<< 6) := ni_shl (n := 6) (by omega)
  have e3 : nI q <<< ((3 : Int32) &&& 31) = nI (q <<< 3) := ni_shl (n := 3) (by omega)
  rw [e6, e3, ni_or, ni_or, pack8 p hp q hq c hc]
theorem amt_t {B : Bs} {x f z t : Nat} (h : t < B.1) : t < (amt B x f z).2.1 ∧ (amt B x f z).2.2.1 t = B.2.1 t := by
  unfold amt
  by_cases h1 : sn B.1 B.2.1 x = true
  · rw [if_pos h1]; exact ⟨h, rfl⟩
  · rw [if_neg h1]
    by_cases h2 : 8000 ≤ B.1
    · rw [if_pos h2]; exact ⟨h, rfl⟩
    · rw [if_neg h2]; exact ⟨Nat.lt_succ_of_lt h, un_n (Nat.ne_of_lt h)⟩
theorem bi0 {q : Bool} (h : bi q = 0) : q = false := by
  cases q with
  | false => rfl
  | true => exact absurd h (by decide)
theorem bi1 {q : Bool} (h : ¬ bi q = 0) : q = true := by
  cases q with
  | true => rfl
  | false => exact absurd rfl h
theorem lpC_skip {k s t p q n : Nat} {B : Bs} (h : s - (n + 1) = p ∨ s - (n + 1) = q) : lpC k s t p q (n + 1) B = lpC k s t p q n B := by rw [lpC, if_pos h]
theorem lpC_go {k s t p q n : Nat} {B : Bs} (h : ¬ (s - (n + 1) = p ∨ s - (n + 1) = q)) (ha : (amt B (nxt k (B.2.1 t) p q (s - (n + 1))) t (64 * p + 8 * q + (s - (n + 1)))).1 = true) : lpC k s t p q (n + 1) B = lpC k s t p q n (amt B (nxt k (B.2.1 t) p q (s - (n + 1))) t (64 * p + 8 * q + (s - (n + 1)))).2 := by
  rw [lpC, if_neg h]
  generalize amt B (nxt k (B.2.1 t) p q (s - (n + 1))) t (64 * p + 8 * q + (s - (n + 1))) = r at ha ⊢
  obtain ⟨r1, r2⟩ := r
  dsimp only at ha
  subst ha
  rfl
theorem lpC_end {k s t p q n : Nat} {B : Bs} (h : ¬ (s - (n + 1) = p ∨ s - (n + 1) = q)) (ha : (amt B (nxt k (B.2.1 t) p q (s - (n + 1))) t (64 * p + 8 * q + (s - (n + 1)))).1 = false) : lpC k s t p q (n + 1) B = (false, (amt B (nxt k (B.2.1 t) p q (s - (n + 1))) t (64 * p + 8 * q + (s - (n + 1)))).2) := by
  rw [lpC, if_neg h]
  generalize amt B (nxt k (B.2.1 t) p q (s - (n + 1))) t (64 * p + 8 * q + (s - (n + 1))) = r at ha ⊢
  obtain ⟨r1, r2⟩ := r
  dsimp only at ha
  subst ha
  rfl
set_option maxHeartbeats 400000 in
set_option maxRecDepth 100000 in
theorem ct_X2_meetByActs (E : En) (ad : Nat → Nat) (fl : Nat) (g : Nat → Int32) (a : Nat → Nat → Int32) (v : Nat → Int64) (tl : va_W) (kN sN : Nat) (B : Bs) (t0 p q : Nat) (hk : KS kN sN) (hI : CI kN sN B g a v) (ht0 : t0 < B.1) (hp : p < sN) (hq : q < sN) (ht : ∀ c, c < sN → a 12 c = nI (tabs kN (B.2.1 t0) c)) : Ct E mX2_meetByActs 2 0 0 [.ref (ad 4), .int (nI t0), .int (nI p), .int (nI q)] (cw E ad fl g a v tl) (fun o w => ∃ (g1 : Nat → Int32) (a1 : Nat → Nat → Int32) (v1 : Nat → Int64), o = some (.int (bi (lpC kN sN t0 p q (sN - kN) B).1)) ∧ CI kN sN (lpC kN sN t0 p q (sN - kN) B).2 g1 a1 v1 ∧ (∀ i, i ≠ 14 → g1 i = g i) ∧ (∀ j, j ≠ 11 → a1 j = a j) ∧ w = cw E ad fl g1 a1 v1 tl) := by
  refine Ct.of (by decide) (Nat.le_of_ble_eq_true rfl) (fun X C hQ hin => ?_)
  have C : Cx E X cX2_meetByActs 7 RX2 (some .boolean) 2 80 0 0 := C
  have hk2 := hk
  obtain ⟨⟨hk1, hk3⟩, hks, hs5⟩ := hk2
  obtain ⟨⟨i10, i11, i12, i13, i14⟩, iB, i3, i4, i5⟩ := id hI
  have hcap := cap_le hk
  have h16 := sh_16 hk
  have hpp : 1 ≤ 2 ^ kN := Nat.one_le_two_pow
  have iB8 := iB.1
  have hinp : vp_in (nI p) 5 := vp_in_nI (by omega) (by decide)
  have hinq : vp_in (nI q) 5 := vp_in_nI (by omega) (by decide)
  obtain ⟨x, hxe⟩ : ∃ x, x = B.2.1 t0 := ⟨_, rfl⟩
  rw [← hxe] at ht
  have hxc : x < Cap kN sN := (by rw [hxe]; exact (iB.2 t0 ht0).1)
  have loop : ∀ (m c : Nat) (B1 : Bs) (g1 : Nat → Int32) (a1 : Nat → Nat → Int32) (v1 : Nat → Int64), sN < c + m → kN ≤ c → c ≤ sN → CI kN sN B1 g1 a1 v1 → t0 < B1.1 → B1.2.1 t0 = x → ((∀ i, i ≠ 14 → g1 i = g i) ∧ (∀ j, j ≠ 11 → a1 j = a j)) → lpC kN sN t0 p q (sN - c) B1 = lpC kN sN t0 p q (sN - kN) B → GG E X (cw E ad fl g1 a1 v1 tl) 0 0 28 [(0, .ref (ad 4)), (1, .int (nI t0)), (2, .int (nI p)), (3, .int (nI q)), (4, .int (nI (nei kN x p q))), (5, .int (nI c))] [] := by
    intro m
    induction m with
    | zero => intro c B1 g1 a1 v1 hm hkc hc; omega
    | succ m ih =>
      intro c B1 g1 a1 v1 hm hkc hc hI1 hB1t hB1x hfr hl1
      obtain ⟨⟨j10, j11, j12, j13, j14⟩, jB, j3, j4, j5⟩ := id hI1
      have jB8 := jB.1
      refine mg_iload C dX2_meetByActs_28 rfl ?_
      refine mg_aload_n C dX2_meetByActs_30 rfl ?_
      refine mg_get C inG_X2 fX2_61 (ci := 2) rfl rfl 4 rfl rfl dX2_meetByActs_31 ?_
      refine mg_icmp_ge C 109 dX2_meetByActs_34 (by decide) (fun h34 => ?_) (fun h34 => ?_)
      · have ec : c = sN := (by rcases Nat.lt_or_ge c sN with h | h; exact absurd (by rw [j11] at h34; exact h34) (nI_ge h (by omega)); omega)
        subst ec
        refine mg_iconst (v := 1) C dX2_meetByActs_109 (by decide) ?_
        exact mg_zret C hQ (rfl) dX2_meetByActs_110 (⟨g1, a1, v1, by rw [← hl1, Nat.sub_self]; rfl, by rw [← hl1, Nat.sub_self]; exact hI1, hfr.1, hfr.2, rfl⟩)
      · have hlt : c < sN := (by rcases Nat.lt_or_ge c sN with h | h; exact h; exact absurd (by rw [j11]; exact nI_le h (by omega)) h34)
        obtain ⟨m1, hm1⟩ : ∃ m1, sN - c = m1 + 1 := ⟨sN - c - 1, by omega⟩
        have ecs : sN - (m1 + 1) = c := by omega
        refine mg_iload C dX2_meetByActs_37 rfl ?_
        refine mg_iload_n C dX2_meetByActs_39 rfl ?_
        refine mg_icmp_eq C 103 dX2_meetByActs_40 (by decide) (fun h40 => ?_) (fun h40 => ?_)
        · refine mg_iinc C dX2_meetByActs_103 rfl rfl ?_
          refine mg_lve (lv' := [(0, _), (1, _), (2, _), (3, _), (4, _), (5, _)]) rfl ?_
          refine mg_goto C 28 dX2_meetByActs_106 (by decide) ?_
          refine mg_lve (lv' := [(0, .ref (ad 4)), (1, .int (nI t0)), (2, .int (nI p)), (3, .int (nI q)), (4, .int (nI (nei kN x p q))), (5, .int (nI (c + 1)))]) (by rw [nI_succ c]; rfl) ?_
          refine ih (c + 1) B1 _ _ _ (by omega) (by omega) (by omega) hI1 hB1t hB1x hfr ?_
          rw [← hl1, hm1, lpC_skip (by rw [ecs]; exact Or.inl ((nI_eq (by omega) (by omega)).mp h40))]
          congr 1; omega
        · refine mg_iload C dX2_meetByActs_43 rfl ?_
          refine mg_iload_n C dX2_meetByActs_45 rfl ?_
          refine mg_icmp_eq C 103 dX2_meetByActs_46 (by decide) (fun h46 => ?_) (fun h46 => ?_)
          · refine mg_iinc C dX2_meetByActs_103 rfl rfl ?_
            refine mg_lve (lv' := [(0, _), (1, _), (2, _), (3, _), (4, _), (5, _)]) rfl ?_
            refine mg_goto C 28 dX2_meetByActs_106 (by decide) ?_
            refine mg_lve (lv' := [(0, .ref (ad 4)), (1, .int (nI t0)), (2, .int (nI p)), (3, .int (nI q)), (4, .int (nI (nei kN x p q))), (5, .int (nI (c + 1)))]) (by rw [nI_succ c]; rfl) ?_
            refine ih (c + 1) B1 _ _ _ (by omega) (by omega) (by omega) hI1 hB1t hB1x hfr ?_
            rw [← hl1, hm1, lpC_skip (by rw [ecs]; exact Or.inr ((nI_eq (by omega) (by omega)).mp h46))]
            congr 1; omega
          · have hncp : ¬ c = p := fun e => h40 (by rw [e])
            have hncq : ¬ c = q := fun e => h46 (by rw [e])
            have hno : ¬ (sN - (m1 + 1) = p ∨ sN - (m1 + 1) = q) := (by rw [ecs]; exact fun h => h.elim hncp hncq)
            have hsh : (c - kN) * 2 ^ kN < 32 := (by have h5 := sh_le hk hkc hlt; omega)
            have hint0 : vp_in (nI t0) 8000 := vp_in_nI (by omega) (by decide)
            refine mg_aload_n C dX2_meetByActs_49 rfl ?_
            refine mg_get C inG_X2 fX2_9 (ci := 2) rfl rfl 4 rfl rfl dX2_meetByActs_50 ?_
            refine mg_iload_n C dX2_meetByActs_53 rfl ?_
            refine mg_lald C 3 rfl (hint0) dX2_meetByActs_54 ?_
            refine mg_callSN C (ct_X4_stateOf E _ _) oX2_36 rfl rfl rfl dX2_meetByActs_55 (fun o55 w55 z55 => ?_)
            obtain ⟨rfl, rfl⟩ := z55
            refine mg_v ?_
            refine mg_tos (w := .int (nI x)) (by rw [nI_clamp (by omega), j3 t0 hB1t, hB1x]; exact congrArg Value.int (pv_state (by omega) (jB.2 t0 hB1t).2.1 (jB.2 t0 hB1t).2.2.2)) ?_
            refine mg_aload_n C dX2_meetByActs_58 rfl ?_
            refine mg_get C inG_X2 fX2_70 (ci := 2) rfl rfl 4 rfl rfl dX2_meetByActs_59 ?_
            refine mg_aload_n C dX2_meetByActs_62 rfl ?_
            refine mg_iload C dX2_meetByActs_63 rfl ?_
            refine mg_callV C (ct_X2_shiftOf E _ _ _ _ _ _ kN _ j10 j12 hkc) oX2_86 4 rfl rfl rfl rfl rfl dX2_meetByActs_65 (fun o65 w65 z65 => ?_)
            obtain ⟨rfl, rfl⟩ := z65
            refine mg_v ?_
            refine mg_ishl C dX2_meetByActs_68 ?_
            refine mg_iconst (v := (-1)) C dX2_meetByActs_69 (by decide) ?_
            refine mg_ixor C dX2_meetByActs_70 ?_
            refine mg_iand C dX2_meetByActs_71 ?_
            refine mg_tos (w := .int (nI (x &&& ((Mk kN <<< ((c - kN) * 2 ^ kN)) ^^^ 4294967295)))) (by rw [j13, ni_shl hsh, ni_m1, ni_xor, ni_and]) ?_
            refine mg_istore C dX2_meetByActs_72 rfl ?_
            refine mg_lve (lv' := [(0, _), (1, _), (2, _), (3, _), (4, _), (5, _), (6, _)]) rfl ?_
            refine mg_aload_n C dX2_meetByActs_74 rfl ?_
            refine mg_iload C dX2_meetByActs_75 rfl ?_
            refine mg_iload C dX2_meetByActs_77 rfl ?_
            refine mg_aload_n C dX2_meetByActs_79 rfl ?_
            refine mg_iload C dX2_meetByActs_80 rfl ?_
            refine mg_callV C (ct_X2_shiftOf E _ _ _ _ _ _ kN _ j10 j12 hkc) oX2_86 4 rfl rfl rfl rfl rfl dX2_meetByActs_82 (fun o82 w82 z82 => ?_)
            obtain ⟨rfl, rfl⟩ := z82
            refine mg_v ?_
            refine mg_ishl C dX2_meetByActs_85 ?_
            refine mg_ior C dX2_meetByActs_86 ?_
            refine mg_tos (w := .int (nI (nxt kN (B1.2.1 t0) p q c))) (by rw [ni_shl hsh, ni_or, hB1x]; rfl) ?_
            refine mg_iload_n C dX2_meetByActs_87 rfl ?_
            refine mg_iload_n C dX2_meetByActs_88 rfl ?_
            refine mg_iload_n C dX2_meetByActs_89 rfl ?_
            refine mg_iload C dX2_meetByActs_90 rfl ?_
            refine mg_callSN C (ct_X4_packAct E _ _ _ _) oX2_92 rfl rfl rfl dX2_meetByActs_92 (fun o92 w92 z92 => ?_)
            obtain ⟨rfl, rfl⟩ := z92
            refine mg_v ?_
            refine mg_tos (w := .int (nI (64 * p + 8 * q + c))) (congrArg Value.int (packI (by omega) (by omega) (by omega))) ?_
            refine mg_callV C (ct_X2_meet E _ _ _ _ _ _ kN sN B1 _ _ _ hk hI1 (by rw [hB1x]; exact nxt_lt hk hxc hkc hlt) ⟨by omega, Or.inr hB1t⟩ (by omega)) oX2_82 4 rfl rfl rfl rfl rfl dX2_meetByActs_95 (fun o95 w95 z95 => ?_)
            obtain ⟨g2, a2, v2, rfl, hI2, hg2, ha2, rfl⟩ := z95
            refine mg_v ?_
            refine mg_if_ne C 103 dX2_meetByActs_98 (by decide) (fun h98 => ?_) (fun h98 => ?_)
            · refine mg_iinc C dX2_meetByActs_103 rfl rfl ?_
              refine mg_lve (lv' := [(0, _), (1, _), (2, _), (3, _), (4, _), (5, _), (6, _)]) rfl ?_
              refine mg_goto C 28 dX2_meetByActs_106 (by decide) ?_
              refine mg_lv (lv' := [(0, .ref (ad 4)), (1, .int (nI t0)), (2, .int (nI p)), (3, .int (nI q)), (4, .int (nI (nei kN x p q))), (5, .int (nI (c + 1)))]) (lv_tk 6 (by rw [nI_succ c]; rfl)) ?_
              have ha := bi1 h98
              obtain ⟨ht2, hx2⟩ := amt_t (x := nxt kN (B1.2.1 t0) p q c) (f := t0) (z := 64 * p + 8 * q + c) hB1t
              refine ih (c + 1) _ _ _ _ (by omega) (by omega) (by omega) hI2 ht2 (hx2.trans hB1x) ⟨fun i hi => (hg2 i hi).trans (hfr.1 i hi), fun j hj => (ha2 j hj).trans (hfr.2 j hj)⟩ ?_
              rw [← hl1, hm1, lpC_go hno (by rw [ecs]; exact ha), ecs]
              congr 1; omega
            · refine mg_iconst (v := 0) C dX2_meetByActs_101 (by decide) ?_
              exact mg_zret C hQ (rfl) dX2_meetByActs_102 (⟨_, _, _, by rw [← hl1, hm1, lpC_end hno (by rw [ecs]; exact bi0 h98)]; rfl, by rw [← hl1, hm1, lpC_end hno (by rw [ecs]; exact bi0 h98), ecs]; exact hI2, fun i hi => (hg2 i hi).trans (hfr.1 i hi), fun j hj => (ha2 j hj).trans (hfr.2 j hj), rfl⟩)
  refine mg_aload_n C dX2_meetByActs_0 rfl ?_
  refine mg_get C inG_X2 fX2_19 (ci := 2) rfl rfl 4 rfl rfl dX2_meetByActs_1 ?_
  refine mg_iload_n C dX2_meetByActs_4 rfl ?_
  refine mg_iald C 1 rfl (hinp) dX2_meetByActs_5 ?_
  refine mg_aload_n C dX2_meetByActs_6 rfl ?_
  refine mg_get C inG_X2 fX2_19 (ci := 2) rfl rfl 4 rfl rfl dX2_meetByActs_7 ?_
  refine mg_iload_n C dX2_meetByActs_10 rfl ?_
  refine mg_iald C 1 rfl (hinq) dX2_meetByActs_11 ?_
  refine mg_ior C dX2_meetByActs_12 ?_
  refine mg_iconst (v := (-1)) C dX2_meetByActs_13 (by decide) ?_
  refine mg_ixor C dX2_meetByActs_14 ?_
  refine mg_aload_n C dX2_meetByActs_15 rfl ?_
  refine mg_get C inG_X2 fX2_70 (ci := 2) rfl rfl 4 rfl rfl dX2_meetByActs_16 ?_
  refine mg_iand C dX2_meetByActs_19 ?_
  refine mg_tos (w := .int (nI (nei kN x p q))) (by rw [nI_clamp (by omega), nI_clamp (by omega), ht p hp, ht q hq, ni_or, ni_m1, ni_xor, i13, ni_and]; rfl) ?_
  refine mg_istore C dX2_meetByActs_20 rfl ?_
  refine mg_lve (lv' := [(0, _), (1, _), (2, _), (3, _), (4, _)]) rfl ?_
  refine mg_aload_n C dX2_meetByActs_22 rfl ?_
  refine mg_get C inG_X2 fX2_58 (ci := 2) rfl rfl 4 rfl rfl dX2_meetByActs_23 ?_
  refine mg_tos (w := .int (nI kN)) (congrArg Value.int i10) ?_
  refine mg_istore C dX2_meetByActs_26 rfl ?_
  refine mg_lve (lv' := [(0, _), (1, _), (2, _), (3, _), (4, _), (5, _)]) rfl ?_
  exact loop (sN + 1) kN B g a v (by omega) (Nat.le_refl _) hks hI ht0 hxe.symm ⟨fun _ _ => rfl, fun _ _ => rfl⟩ rfl
def thn (r : Bool × Bs) (f : Bs → Bool × Bs) : Bool × Bs := match r with
  | (false, B1) => (false, B1)
  | (true, B1) => f B1
theorem thn_t {r : Bool × Bs} {f : Bs → Bool × Bs} (h : r.1 = true) : thn r f = f r.2 := by
  obtain ⟨r1, r2⟩ := r
  dsimp only at h
  subst h
  rfl
theorem thn_f {r : Bool × Bs} {f : Bs → Bool × Bs} (h : r.1 = false) : thn r f = (false, r.2) := by
  obtain ⟨r1, r2⟩ := r
  dsimp only at h
  subst h
  rfl
theorem lpB_s {k s t p n : Nat} {B : Bs} : lpB k s t p (n + 1) B = thn (lpC k s t p (s - (n + 1)) (s - k) B) (lpB k s t p n) := rfl
theorem lpA_s {k s t n : Nat} {B : Bs} : lpA k s t (n + 1) B = thn (lpB k s t (s - (n + 1)) (n + 1) B) (lpA k s t n) := rfl
theorem thn_thn {r : Bool × Bs} {f h : Bs → Bool × Bs} : thn (thn r f) h = thn r (fun B => thn (f B) h) := by
  obtain ⟨r1, r2⟩ := r
  cases r1 <;> rfl
theorem lpC_t {k s t p q : Nat} : ∀ (n : Nat) (B : Bs), t < B.1 → t < (lpC k s t p q n B).2.1 ∧ (lpC k s t p q n B).2.2.1 t = B.2.1 t := by
  intro n
  induction n with
  | zero => intro B h; exact ⟨h, rfl⟩
  | succ n ih =>
    intro B h
    by_cases h1 : s - (n + 1) = p ∨ s - (n + 1) = q
    · rw [lpC_skip h1]; exact ih B h
    · have h2 := amt_t (x := nxt k (B.2.1 t) p q (s - (n + 1))) (f := t) (z := 64 * p + 8 * q + (s - (n + 1))) h
      cases ha : (amt B (nxt k (B.2.1 t) p q (s - (n + 1))) t (64 * p + 8 * q + (s - (n + 1)))).1 with
      | true =>
        rw [lpC_go h1 ha]
        obtain ⟨h3, h4⟩ := ih _ h2.1
        exact ⟨h3, h4.trans h2.2⟩
      | false => rw [lpC_end h1 ha]; exact h2
theorem lvk2 {p0 p1 p2 p3 : Value} {q : Nat × Value} (h : q ∈ ([(0, p0), (1, p1), (2, p2)] : List (Nat × Value))) : q ∈ ([(0, p0), (1, p1), (2, p2), (3, p3)] : List (Nat × Value)) := by
  simp only [List.mem_cons, List.not_mem_nil, or_false] at h ⊢
  rcases h with h | h | h
  · exact Or.inl h
  · exact Or.inr (Or.inl h)
  · exact Or.inr (Or.inr (Or.inl h))
set_option maxHeartbeats 400000 in
set_option maxRecDepth 100000 in
theorem ct_X2_meetAllFrom (E : En) (ad : Nat → Nat) (fl : Nat) (g : Nat → Int32) (a : Nat → Nat → Int32) (v : Nat → Int64) (tl : va_W) (kN sN : Nat) (B : Bs) (t0 : Nat) (hk : KS kN sN) (hI : CI kN sN B g a v) (ht0 : t0 < B.1) (ht : ∀ c, c < sN → a 12 c = nI (tabs kN (B.2.1 t0) c)) : Ct E mX2_meetAllFrom 3 0 0 [.ref (ad 4), .int (nI t0)] (cw E ad fl g a v tl) (fun o w => ∃ (g1 : Nat → Int32) (a1 : Nat → Nat → Int32) (v1 : Nat → Int64), o = some (.int (bi (lpA kN sN t0 sN B).1)) ∧ CI kN sN (lpA kN sN t0 sN B).2 g1 a1 v1 ∧ (∀ i, i ≠ 14 → g1 i = g i) ∧ (∀ j, j ≠ 11 → a1 j = a j) ∧ w = cw E ad fl g1 a1 v1 tl) := by
  refine Ct.of (by decide) (Nat.le_of_ble_eq_true rfl) (fun X C hQ hin => ?_)
  have C : Cx E X cX2_meetAllFrom 4 RX2 (some .boolean) 3 120 0 0 := C
  have hk2 := hk
  obtain ⟨⟨hk1, hk3⟩, hks, hs5⟩ := hk2
  obtain ⟨x, hxe⟩ : ∃ x, x = B.2.1 t0 := ⟨_, rfl⟩
  rw [← hxe] at ht
  have inner : ∀ (p : Nat), p < sN → ∀ (K : Bs → Bool × Bs), (∀ (B1 : Bs) (g1 : Nat → Int32) (a1 : Nat → Nat → Int32) (v1 : Nat → Int64), CI kN sN B1 g1 a1 v1 → t0 < B1.1 → B1.2.1 t0 = x → ((∀ i, i ≠ 14 → g1 i = g i) ∧ (∀ j, j ≠ 11 → a1 j = a j)) → K B1 = lpA kN sN t0 sN B → GG E X (cw E ad fl g1 a1 v1 tl) 0 0 38 [(0, .ref (ad 4)), (1, .int (nI t0)), (2, .int (nI p)), (3, .int (nI sN))] []) → ∀ (m q : Nat) (B1 : Bs) (g1 : Nat → Int32) (a1 : Nat → Nat → Int32) (v1 : Nat → Int64), sN < q + m → q ≤ sN → CI kN sN B1 g1 a1 v1 → t0 < B1.1 → B1.2.1 t0 = x → ((∀ i, i ≠ 14 → g1 i = g i) ∧ (∀ j, j ≠ 11 → a1 j = a j)) → thn (lpB kN sN t0 p (sN - q) B1) K = lpA kN sN t0 sN B → GG E X (cw E ad fl g1 a1 v1 tl) 0 0 12 [(0, .ref (ad 4)), (1, .int (nI t0)), (2, .int (nI p)), (3, .int (nI q))] [] := by
    intro p hpS K out m
    induction m with
    | zero => intro q B1 g1 a1 v1 hm hq; omega
    | succ m ih =>
      intro q B1 g1 a1 v1 hm hq hI1 hB1t hB1x hfr hl1
      obtain ⟨⟨j10, j11, j12, j13, j14⟩, jB, j3, j4, j5⟩ := id hI1
      refine mg_iload_n C dX2_meetAllFrom_12 rfl ?_
      refine mg_aload_n C dX2_meetAllFrom_13 rfl ?_
      refine mg_get C inG_X2 fX2_61 (ci := 2) rfl rfl 4 rfl rfl dX2_meetAllFrom_14 ?_
      refine mg_icmp_ge C 38 dX2_meetAllFrom_17 (by decide) (fun h17 => ?_) (fun h17 => ?_)
      · have ec : q = sN := (by rcases Nat.lt_or_ge q sN with h | h; exact absurd (by rw [j11] at h17; exact h17) (nI_ge h (by omega)); omega)
        subst ec
        exact out B1 g1 a1 v1 hI1 hB1t hB1x hfr (by rw [← hl1, Nat.sub_self]; rfl)
      · have hlt : q < sN := (by rcases Nat.lt_or_ge q sN with h | h; exact h; exact absurd (by rw [j11]; exact nI_le h (by omega)) h17)
        obtain ⟨m1, hm1⟩ : ∃ m1, sN - q = m1 + 1 := ⟨sN - q - 1, by omega⟩
        have ecs : sN - (m1 + 1) = q := by omega
        refine mg_aload_n C dX2_meetAllFrom_20 rfl ?_
        refine mg_iload_n C dX2_meetAllFrom_21 rfl ?_
        refine mg_iload_n C dX2_meetAllFrom_22 rfl ?_
        refine mg_iload_n C dX2_meetAllFrom_23 rfl ?_
        refine mg_callV C (ct_X2_meetByActs E _ _ _ _ _ _ kN sN B1 _ _ _ hk hI1 hB1t hpS hlt (by intro c hc; rw [hfr.2 12 (by decide), hB1x]; exact ht c hc)) oX2_89 4 rfl rfl rfl rfl rfl dX2_meetAllFrom_24 (fun o24 w24 z24 => ?_)
        obtain ⟨g2, a2, v2, rfl, hI2, hg2, ha2, rfl⟩ := z24
        obtain ⟨ht2, hx2⟩ := lpC_t (k := kN) (s := sN) (p := p) (q := q) (sN - kN) B1 hB1t
        refine mg_v ?_
        refine mg_if_ne C 32 dX2_meetAllFrom_27 (by decide) (fun h27 => ?_) (fun h27 => ?_)
        · refine mg_iinc C dX2_meetAllFrom_32 rfl rfl ?_
          refine mg_lve (lv' := [(0, _), (1, _), (2, _), (3, _)]) rfl ?_
          refine mg_goto C 12 dX2_meetAllFrom_35 (by decide) ?_
          refine mg_lve (lv' := [(0, .ref (ad 4)), (1, .int (nI t0)), (2, .int (nI p)), (3, .int (nI (q + 1)))]) (by rw [nI_succ q]; rfl) ?_
          refine ih (q + 1) _ _ _ _ (by omega) (by omega) hI2 ht2 (hx2.trans hB1x) ⟨fun i hi => (hg2 i hi).trans (hfr.1 i hi), fun j hj => (ha2 j hj).trans (hfr.2 j hj)⟩ ?_
          rw [← hl1, hm1, lpB_s, ecs, thn_t (bi1 h27)]
          rw [show sN - (q + 1) = m1 by omega]
        · refine mg_iconst (v := 0) C dX2_meetAllFrom_30 (by decide) ?_
          exact mg_zret C hQ (rfl) dX2_meetAllFrom_31 (⟨_, _, _, by rw [← hl1, hm1, lpB_s, ecs, thn_f (bi0 h27)]; rfl, by rw [← hl1, hm1, lpB_s, ecs, thn_f (bi0 h27)]; exact hI2, fun i hi => (hg2 i hi).trans (hfr.1 i hi), fun j hj => (ha2 j hj).trans (hfr.2 j hj), rfl⟩)
  have loop : ∀ (m p : Nat) (B1 : Bs) (g1 : Nat → Int32) (a1 : Nat → Nat → Int32) (v1 : Nat → Int64), sN < p + m → p ≤ sN → CI kN sN B1 g1 a1 v1 → t0 < B1.1 → B1.2.1 t0 = x → ((∀ i, i ≠ 14 → g1 i = g i) ∧ (∀ j, j ≠ 11 → a1 j = a j)) → lpA kN sN t0 (sN - p) B1 = lpA kN sN t0 sN B → GG E X (cw E ad fl g1 a1 v1 tl) 0 0 2 [(0, .ref (ad 4)), (1, .int (nI t0)), (2, .int (nI p))] [] := by
    intro m
    induction m with
    | zero => intro p B1 g1 a1 v1 hm hp; omega
    | succ m ih =>
      intro p B1 g1 a1 v1 hm hp hI1 hB1t hB1x hfr hl1
      obtain ⟨⟨j10, j11, j12, j13, j14⟩, jB, j3, j4, j5⟩ := id hI1
      refine mg_iload_n C dX2_meetAllFrom_2 rfl ?_
      refine mg_aload_n C dX2_meetAllFrom_3 rfl ?_
      refine mg_get C inG_X2 fX2_61 (ci := 2) rfl rfl 4 rfl rfl dX2_meetAllFrom_4 ?_
      refine mg_icmp_ge C 44 dX2_meetAllFrom_7 (by decide) (fun h7 => ?_) (fun h7 => ?_)
      · have ec : p = sN := (by rcases Nat.lt_or_ge p sN with h | h; exact absurd (by rw [j11] at h7; exact h7) (nI_ge h (by omega)); omega)
        subst ec
        refine mg_iconst (v := 1) C dX2_meetAllFrom_44 (by decide) ?_
        exact mg_zret C hQ (rfl) dX2_meetAllFrom_45 (⟨g1, a1, v1, by rw [← hl1, Nat.sub_self]; rfl, by rw [← hl1, Nat.sub_self]; exact hI1, hfr.1, hfr.2, rfl⟩)
      · have hlt : p < sN := (by rcases Nat.lt_or_ge p sN with h | h; exact h; exact absurd (by rw [j11]; exact nI_le h (by omega)) h7)
        obtain ⟨m1, hm1⟩ : ∃ m1, sN - p = m1 + 1 := ⟨sN - p - 1, by omega⟩
        have ecs : sN - (m1 + 1) = p := by omega
        refine mg_iload_n C dX2_meetAllFrom_10 rfl ?_
        refine mg_istore_n C dX2_meetAllFrom_11 rfl ?_
        refine mg_lve (lv' := [(0, _), (1, _), (2, _), (3, _)]) rfl ?_
        refine inner p hlt (lpA kN sN t0 m1) (fun B2 g2 a2 v2 hI2 hB2t hB2x hfr2 hl2 => ?_) (sN + 1) p B1 g1 a1 v1 (by omega) (by omega) hI1 hB1t hB1x hfr (by rw [← hl1, hm1, lpA_s, ecs])
        refine mg_iinc C dX2_meetAllFrom_38 rfl rfl ?_
        refine mg_goto C 2 dX2_meetAllFrom_41 (by decide) ?_
        refine mg_lv (lv' := [(0, .ref (ad 4)), (1, .int (nI t0)), (2, .int (nI (p + 1)))]) (by rw [nI_succ p]; intro z hz; exact lvk2 hz) ?_
        refine ih (p + 1) B2 g2 a2 v2 (by omega) (by omega) hI2 hB2t hB2x hfr2 ?_
        rw [← hl2]
        congr 1; omega
  show GG E X (cw E ad fl g a v tl) 0 0 0 [(0, .ref (ad 4)), (1, .int (nI t0))] []
  refine mg_iconst (v := 0) C dX2_meetAllFrom_0 (by decide) ?_
  refine mg_istore_n C dX2_meetAllFrom_1 rfl ?_
  exact loop (sN + 1) 0 B g a v (by omega) (by omega) hI ht0 hxe.symm ⟨fun _ _ => rfl, fun _ _ => rfl⟩ rfl
end
section
/-! what class and reference share, in any state; LEVELS, ages, mapped rows and checks stay out of it -/
def shl : List Nat := [0, 1, 2, 3, 4, 5, 6, 8, 9, 14, 15, 16]
def fN (g : Nat → Int32) : Nat := (g 15).toNatClampNeg
def Sh (g : Nat → Int32) (a : Nat → Nat → Int32) (g1 : Nat → Int32) (a1 : Nat → Nat → Int32) : Prop :=
  (∀ i, i ∈ shl → g1 i = g i) ∧ (∀ j, j < 192 → a1 1 j = a 1 j) ∧ (∀ j, j < 8 → a1 3 j = a 3 j) ∧ (∀ j, j < 96 → a1 4 j = a 4 j) ∧ (∀ j, j < fN g → a1 13 j = a 13 j)
theorem Sh.rf {g : Nat → Int32} {a : Nat → Nat → Int32} : Sh g a g a := ⟨fun _ _ => rfl, fun _ _ => rfl, fun _ _ => rfl, fun _ _ => rfl, fun _ _ => rfl⟩
theorem Sh.fN {g g1 : Nat → Int32} {a a1 : Nat → Nat → Int32} (h : Sh g a g1 a1) : fN g1 = fN g := congrArg Int32.toNatClampNeg (h.1 15 (by decide))
theorem Sh.tr {g g1 g2 : Nat → Int32} {a a1 a2 : Nat → Nat → Int32} (h : Sh g a g1 a1) (k : Sh g1 a1 g2 a2) : Sh g a g2 a2 :=
  ⟨fun i hi => (k.1 i hi).trans (h.1 i hi), fun j hj => (k.2.1 j hj).trans (h.2.1 j hj), fun j hj => (k.2.2.1 j hj).trans (h.2.2.1 j hj), fun j hj => (k.2.2.2.1 j hj).trans (h.2.2.2.1 j hj), fun j hj => (k.2.2.2.2 j (by rw [h.fN]; exact hj)).trans (h.2.2.2.2 j hj)⟩
theorem Sh.sy {g g1 : Nat → Int32} {a a1 : Nat → Nat → Int32} (h : Sh g a g1 a1) : Sh g1 a1 g a :=
  ⟨fun i hi => (h.1 i hi).symm, fun j hj => (h.2.1 j hj).symm, fun j hj => (h.2.2.1 j hj).symm, fun j hj => (h.2.2.2.1 j hj).symm, fun j hj => (h.2.2.2.2 j (by rw [← h.fN]; exact hj)).symm⟩
/-- arrays that are not shared may be any -/
theorem Sh.ar {g : Nat → Int32} {a a1 : Nat → Nat → Int32} (h1 : a1 1 = a 1) (h3 : a1 3 = a 3) (h4 : a1 4 = a 4) (h13 : a1 13 = a 13) : Sh g a g a1 :=
  ⟨fun _ _ => rfl, fun _ _ => by rw [h1], fun _ _ => by rw [h3], fun _ _ => by rw [h4], fun _ _ => by rw [h13]⟩
def Dim (g : Nat → Int32) (R C T n m D : Nat) : Prop := (g 0 = nI R ∧ 1 ≤ R ∧ R ≤ 8) ∧ (g 1 = nI C ∧ 1 ≤ C ∧ C ≤ 24) ∧ (g 2 = nI T ∧ 1 ≤ T ∧ T ≤ 15) ∧ (g 4 = nI n ∧ n ≤ R) ∧ g 5 = nI m ∧ (g 6 = nI D ∧ D ≤ 6) ∧ 2 * D * m ≤ C ∧ (n = 0 → m = 0) ∧ (n ≠ 0 → 1 ≤ D ∧ 1 ≤ m)
def IV (fl : Nat) (g : Nat → Int32) (a : Nat → Nat → Int32) : Prop := ∃ R C T n m D F : Nat, Dim g R C T n m D ∧ (g 15 = nI F ∧ F ≤ fl ∧ fl ≤ 8000) ∧ (∀ i, i < 8 → ∃ r, r < 8 ∧ a 5 i = nI r) ∧ (∀ r c, r < 8 → c < 24 → (R ≤ r ∨ C ≤ c) → a 1 (r * 24 + c) = -1)
/-- IV speaks of shared scalars, of mapped rows and of CELLS that STICK alone -/
theorem IV.mv {fl : Nat} {g g1 : Nat → Int32} {a a1 : Nat → Nat → Int32} (h : IV fl g a) (hg : ∀ i, i ∈ shl → g1 i = g i) (h5 : ∀ i, i < 8 → ∃ r, r < 8 ∧ a1 5 i = nI r) (h1 : ∀ j, j < 192 → a1 1 j = a 1 j) : IV fl g1 a1 := by
  obtain ⟨R, C, T, n, m, D, F, ⟨⟨d0, d0', d0''⟩, ⟨d1, d1'⟩, ⟨d2, d2'⟩, ⟨d4, d4'⟩, d5, ⟨d6, d6'⟩, dd⟩, ⟨hF, hF'⟩, -, ho⟩ := h
  refine ⟨R, C, T, n, m, D, F, ⟨⟨(hg 0 (by decide)).trans d0, d0', d0''⟩, ⟨(hg 1 (by decide)).trans d1, d1'⟩, ⟨(hg 2 (by decide)).trans d2, d2'⟩, ⟨(hg 4 (by decide)).trans d4, d4'⟩, (hg 5 (by decide)).trans d5, ⟨(hg 6 (by decide)).trans d6, d6'⟩, dd⟩, ⟨(hg 15 (by decide)).trans hF, hF'⟩, h5, fun r c hr hc h => ?_⟩
  rw [h1 _ (by omega)]
  exact ho r c hr hc h
theorem IV.ar {fl : Nat} {g : Nat → Int32} {a a1 : Nat → Nat → Int32} (h : IV fl g a) (h5 : a1 5 = a 5) (h1 : a1 1 = a 1) : IV fl g a1 := by
  obtain ⟨R, C, T, n, m, D, F, hd, hF, hr, ho⟩ := id h
  exact h.mv (fun _ _ => rfl) (by rw [h5]; exact hr) (fun j _ => by rw [h1])
def pwI (b : Int32) : Nat → Int32
  | 0 => 1
  | n + 1 => pwI b n * b
def gre (g : Nat → Int32) : Int32 := pwI (g 2 + 1) (g 6).toNatClampNeg - 1
/-- the class keeps the greatest number that the digits hold -/
def GR (g : Nat → Int32) : Prop := g 4 = 0 ∨ g 7 = gre g
def CV (fl : Nat) (g : Nat → Int32) (a : Nat → Nat → Int32) : Prop := IV fl g a ∧ GR g
theorem CV.ar {fl : Nat} {g : Nat → Int32} {a a1 : Nat → Nat → Int32} (h : CV fl g a) (h5 : a1 5 = a 5) (h1 : a1 1 = a 1) : CV fl g a1 := ⟨h.1.ar h5 h1, h.2⟩
theorem hc_nat {g : Nat → Int32} {R C : Nat} {r c : Int32} (hR : g 0 = nI R) (h1 : 1 ≤ R ∧ R ≤ 8) (hC : g 1 = nI C) (h2 : 1 ≤ C ∧ C ≤ 24) (h : ¬ hc g r c = 0) : ∃ i j : Nat, r = nI i ∧ i < R ∧ c = nI j ∧ j < C := by
  unfold hc at h
  rw [hR, hC] at h
  have e1 : nI R - 1 = nI (R - 1) := by rw [show (1 : Int32) = nI 1 from rfl]; exact pk_sub h1.1
  have e2 : nI C - 1 = nI (C - 1) := by rw [show (1 : Int32) = nI 1 from rfl]; exact pk_sub h2.1
  rw [e1, e2] at h
  by_cases q1 : wi r 0 (nI (R - 1)) = 0
  · rw [if_pos q1] at h; exact absurd rfl h
  · rw [if_neg q1] at h
    by_cases q2 : wi c 0 (nI (C - 1)) = 0
    · rw [if_pos q2] at h; exact absurd rfl h
    · obtain ⟨i, e3, -, u3⟩ := wi_nat q1 (by decide)
      obtain ⟨j, e4, -, u4⟩ := wi_nat q2 (by decide)
      rw [nI_toInt (by omega)] at u3 u4
      exact ⟨i, j, e3, by omega, e4, by omega⟩
/-- a place below a count: what within() says -/
theorem wi_in {x : Int32} {g : Int32} {n : Nat} (hg : g = nI n) (hn : n < 2 ^ 31) (h : ¬ wi x 0 (g - 1) = 0) : ∃ j : Nat, x = nI j ∧ j < n := by
  rw [hg] at h
  rcases Nat.eq_zero_or_pos n with e | e
  · subst e
    exact absurd wim h
  · have e1 : nI n - 1 = nI (n - 1) := by rw [show (1 : Int32) = nI 1 from rfl]; exact pk_sub e
    rw [e1] at h
    obtain ⟨i, e3, -, u3⟩ := wi_nat h (by decide)
    rw [nI_toInt (by omega)] at u3
    exact ⟨i, e3, by omega⟩
theorem pl_eq (i j : Nat) : nI i * 24 + nI j = nI (i * 24 + j) := by rw [show (24 : Int32) = nI 24 from rfl, pk_mul, nI_add]
theorem pl_eq' (i j : Nat) : 24 * nI i + nI j = nI (i * 24 + j) := by rw [show (24 : Int32) = nI 24 from rfl, pk_mul, nI_add, Nat.mul_comm]
def gWrite (g : Nat → Int32) (a : Nat → Nat → Int32) (r c y : Int32) : Int32 := if hc g r c = 0 then -2 else if wi y 0 (g 2) = 0 then -2 else if sa a (r * 24 + c) y = 0 then 1 else -3
def gStick (g : Nat → Int32) (r c y : Int32) : Int32 := if hc g r c = 0 then -2 else if wi y (-1) (g 2) = 0 then -2 else 1
def aStick (g : Nat → Int32) (a : Nat → Nat → Int32) (r c y : Int32) : Nat → Nat → Int32 := if hc g r c = 0 then a else if wi y (-1) (g 2) = 0 then a else ups a 1 (r * 24 + c).toNatClampNeg y
theorem pu_sh {g : Nat → Int32} {a : Nat → Nat → Int32} {z y : Int32} : Sh g a g (pu a z y) := by
  unfold pu
  by_cases h : sk a z = 0
  · rw [if_pos h]; exact Sh.ar rfl rfl rfl rfl
  · rw [if_neg h]; exact Sh.ar rfl rfl rfl rfl
theorem pu_iv {fl : Nat} {g : Nat → Int32} {a : Nat → Nat → Int32} {z y : Int32} (h : IV fl g a) : IV fl g (pu a z y) := by
  unfold pu
  by_cases hs : sk a z = 0
  · rw [if_pos hs]; exact h.ar rfl rfl
  · rw [if_neg hs]; exact h.ar rfl rfl
theorem ho_sh {g : Nat → Int32} {a : Nat → Nat → Int32} {z y : Int32} : Sh g (ups a 1 z.toNatClampNeg y) g (ho a z y) := by
  unfold ho
  by_cases h : y = -1
  · rw [if_pos h]; exact Sh.rf
  · rw [if_neg h]; exact Sh.ar rfl rfl rfl rfl
theorem ho_iv {fl : Nat} {g : Nat → Int32} {a : Nat → Nat → Int32} {i j : Nat} {y : Int32} (h : IV fl g a) (hi : g 0 = nI 0 ∨ True) (hin : ∀ R C : Nat, g 0 = nI R → g 1 = nI C → R ≤ 8 → C ≤ 24 → i < R ∧ j < C) : IV fl g (ho a (nI i * 24 + nI j) y) := by
  obtain ⟨R, C, T, n, m, D, F, hd, hF, hr, ho1⟩ := id h
  obtain ⟨hiR, hjC⟩ := hin R C hd.1.1 hd.2.1.1 hd.1.2.2 hd.2.1.2.2
  have hR8 := hd.1.2.2
  have hC24 := hd.2.1.2.2
  have key : ∀ a1 : Nat → Nat → Int32, a1 5 = a 5 → a1 1 = upd (a 1) (nI i * 24 + nI j).toNatClampNeg y → IV fl g a1 := by
    intro a1 h5 h1
    refine ⟨R, C, T, n, m, D, F, hd, hF, by rw [h5]; exact hr, fun r c hr8 hc24 ho2 => ?_⟩
    rw [h1, pl_eq, nI_clamp (by omega), pk_un (by omega)]
    exact ho1 r c hr8 hc24 ho2
  unfold ho
  by_cases hy : y = -1
  · rw [if_pos hy]; exact key _ rfl rfl
  · rw [if_neg hy]; exact key _ rfl rfl
set_option maxHeartbeats 400000 in
set_option maxRecDepth 100000 in
theorem cv_write (E : En) (ad : Nat → Nat) (fl : Nat) (g : Nat → Int32) (a : Nat → Nat → Int32) (v : Nat → Int64) (tl : va_W) (r c y : Int32) (hV : CV fl g a) : Ct E mX4_write 2 0 0 [.ref (ad 19), .int r, .int c, .int y] (cw E ad fl g a v tl) (fun o w => ∃ (ad1 : Nat → Nat) (fl1 : Nat) (g1 : Nat → Int32) (a1 : Nat → Nat → Int32) (v1 : Nat → Int64), o = some (.int (gWrite g a r c y)) ∧ Sh g a g1 a1 ∧ CV fl1 g1 a1 ∧ ad1 19 = ad 19 ∧ w = cw E ad1 fl1 g1 a1 v1 tl) := by
  refine Ct.of (by decide) (Nat.le_of_ble_eq_true rfl) (fun X C hQ hin => ?_)
  have C : Cx E X cX4_write 5 RX4 (some .int) 2 80 0 0 := C
  obtain ⟨R, Cc, T, n, m, D, F, ⟨⟨d0, d0a, d0b⟩, ⟨d1, d1a, d1b⟩, ⟨d2, d2a, d2b⟩, ⟨d4, d4a⟩, d5, ⟨d6, d6a⟩, dcm, dn0, dn1⟩, ⟨dF, dF1, dF2⟩, drow, dout⟩ := id hV.1
  refine mg_aload_n C dX4_write_0 rfl ?_
  refine mg_get C inG_X4 fX4_10 (ci := 4) rfl rfl 19 rfl rfl dX4_write_1 ?_
  refine mg_iload_n C dX4_write_4 rfl ?_
  refine mg_iload_n C dX4_write_5 rfl ?_
  refine mg_callVN C (ct_X1_hasCell E _ _ _ _ _ _ _ _) oX4_54 18 rfl rfl rfl rfl rfl dX4_write_6 (fun o6 w6 z6 => ?_)
  obtain ⟨rfl, rfl⟩ := z6
  refine mg_v ?_
  refine mg_if_eq C 27 dX4_write_9 (by decide) (fun h9 => ?_) (fun h9 => ?_)
  · refine mg_bipush (v := (-2)) C dX4_write_27 (by decide) ?_
    exact mg_iret C hQ dX4_write_29 (⟨ad, fl, g, a, v, by rw [gWrite, if_pos h9] <;> first | rfl | decide, Sh.rf, hV, rfl, rfl⟩)
  · obtain ⟨i, j, rfl, hi, rfl, hj⟩ := hc_nat d0 ⟨d0a, d0b⟩ d1 ⟨d1a, d1b⟩ h9
    have hin9 : vp_in (nI i * 24 + nI j) 192 := (by rw [pl_eq]; exact vp_in_nI (by omega) (by decide))
    refine mg_iload_n C dX4_write_12 rfl ?_
    refine mg_iconst (v := 0) C dX4_write_13 (by decide) ?_
    refine mg_aload_n C dX4_write_14 rfl ?_
    refine mg_get C inG_X4 fX4_10 (ci := 4) rfl rfl 19 rfl rfl dX4_write_15 ?_
    refine mg_getN C inG_X1 fX4_58 (ci := 1) rfl rfl 18 rfl rfl dX4_write_18 ?_
    refine mg_callS C (ct_X4_within E _ _ _ _) oX4_39 rfl rfl rfl dX4_write_21 (fun o21 w21 z21 => ?_)
    obtain ⟨rfl, rfl⟩ := z21
    refine mg_v ?_
    refine mg_if_ne C 30 dX4_write_24 (by decide) (fun h24 => ?_) (fun h24 => ?_)
    · refine mg_aload_n C dX4_write_30 rfl ?_
      refine mg_get C inG_X4 fX4_10 (ci := 4) rfl rfl 19 rfl rfl dX4_write_31 ?_
      refine mg_iload_n C dX4_write_34 rfl ?_
      refine mg_iload_n C dX4_write_35 rfl ?_
      refine mg_callVN C (ct_X1_place E _ _ _ _ _ _ _ _) oX4_62 18 rfl rfl rfl rfl rfl dX4_write_36 (fun o36 w36 z36 => ?_)
      obtain ⟨rfl, rfl⟩ := z36
      refine mg_v ?_
      refine mg_istore C dX4_write_39 rfl ?_
      refine mg_lve (lv' := [(0, _), (1, _), (2, _), (3, _), (4, _)]) rfl ?_
      refine mg_aload_n C dX4_write_41 rfl ?_
      refine mg_get C inG_X4 fX4_10 (ci := 4) rfl rfl 19 rfl rfl dX4_write_42 ?_
      refine mg_iload C dX4_write_45 rfl ?_
      refine mg_iload_n C dX4_write_47 rfl ?_
      refine mg_callVN C (ct_X1_sticksAtAnother E _ _ _ _ _ _ _ _ hin9) oX4_66 18 rfl rfl rfl rfl rfl dX4_write_48 (fun o48 w48 z48 => ?_)
      obtain ⟨rfl, rfl⟩ := z48
      refine mg_v ?_
      refine mg_if_eq C 57 dX4_write_51 (by decide) (fun h51 => ?_) (fun h51 => ?_)
      · refine mg_aload_n C dX4_write_57 rfl ?_
        refine mg_get C inG_X4 fX4_10 (ci := 4) rfl rfl 19 rfl rfl dX4_write_58 ?_
        refine mg_iload C dX4_write_61 rfl ?_
        refine mg_iload_n C dX4_write_63 rfl ?_
        refine mg_callVN C (ct_X1_put E _ _ _ _ _ _ _ _ hin9) oX4_69 18 rfl rfl rfl rfl rfl dX4_write_64 (fun o64 w64 z64 => ?_)
        obtain ⟨rfl, rfl⟩ := z64
        refine mg_v0 ?_
        refine mg_iconst (v := 1) C dX4_write_67 (by decide) ?_
        exact mg_iret C hQ dX4_write_68 (by
    refine ⟨ad, fl, _, _, v, ?_, pu_sh, ⟨pu_iv hV.1, hV.2⟩, rfl, rfl⟩
    rw [gWrite, if_neg h9, if_neg h24, if_pos h51] <;> first | rfl | decide)
      · refine mg_bipush (v := (-3)) C dX4_write_54 (by decide) ?_
        exact mg_iret C hQ dX4_write_56 (⟨ad, fl, g, a, v, by rw [gWrite, if_neg h9, if_neg h24, if_neg h51] <;> first | rfl | decide, Sh.rf, hV, rfl, rfl⟩)
    · refine mg_bipush (v := (-2)) C dX4_write_27 (by decide) ?_
      exact mg_iret C hQ dX4_write_29 (⟨ad, fl, g, a, v, by rw [gWrite, if_neg h9, if_pos h24] <;> first | rfl | decide, Sh.rf, hV, rfl, rfl⟩)
set_option maxHeartbeats 400000 in
set_option maxRecDepth 100000 in
theorem cv_stick (E : En) (ad : Nat → Nat) (fl : Nat) (g : Nat → Int32) (a : Nat → Nat → Int32) (v : Nat → Int64) (tl : va_W) (r c y : Int32) (hV : CV fl g a) : Ct E mX4_stick 2 0 0 [.ref (ad 19), .int r, .int c, .int y] (cw E ad fl g a v tl) (fun o w => ∃ (ad1 : Nat → Nat) (fl1 : Nat) (g1 : Nat → Int32) (a1 : Nat → Nat → Int32) (v1 : Nat → Int64), o = some (.int (gStick g r c y)) ∧ Sh g (aStick g a r c y) g1 a1 ∧ CV fl1 g1 a1 ∧ ad1 19 = ad 19 ∧ w = cw E ad1 fl1 g1 a1 v1 tl) := by
  refine Ct.of (by decide) (Nat.le_of_ble_eq_true rfl) (fun X C hQ hin => ?_)
  have C : Cx E X cX4_stick 4 RX4 (some .int) 2 80 0 0 := C
  obtain ⟨R, Cc, T, n, m, D, F, ⟨⟨d0, d0a, d0b⟩, ⟨d1, d1a, d1b⟩, ⟨d2, d2a, d2b⟩, ⟨d4, d4a⟩, d5, ⟨d6, d6a⟩, dcm, dn0, dn1⟩, ⟨dF, dF1, dF2⟩, drow, dout⟩ := id hV.1
  refine mg_aload_n C dX4_stick_0 rfl ?_
  refine mg_get C inG_X4 fX4_10 (ci := 4) rfl rfl 19 rfl rfl dX4_stick_1 ?_
  refine mg_iload_n C dX4_stick_4 rfl ?_
  refine mg_iload_n C dX4_stick_5 rfl ?_
  refine mg_callVN C (ct_X1_hasCell E _ _ _ _ _ _ _ _) oX4_54 18 rfl rfl rfl rfl rfl dX4_stick_6 (fun o6 w6 z6 => ?_)
  obtain ⟨rfl, rfl⟩ := z6
  refine mg_v ?_
  refine mg_if_eq C 27 dX4_stick_9 (by decide) (fun h9 => ?_) (fun h9 => ?_)
  · refine mg_bipush (v := (-2)) C dX4_stick_27 (by decide) ?_
    exact mg_iret C hQ dX4_stick_29 (⟨ad, fl, g, a, v, by rw [gStick, if_pos h9] <;> first | rfl | decide, by rw [aStick, if_pos h9]; exact Sh.rf, hV, rfl, rfl⟩)
  · obtain ⟨i, j, rfl, hi, rfl, hj⟩ := hc_nat d0 ⟨d0a, d0b⟩ d1 ⟨d1a, d1b⟩ h9
    have hin9 : vp_in (nI i * 24 + nI j) 192 := (by rw [pl_eq]; exact vp_in_nI (by omega) (by decide))
    refine mg_iload_n C dX4_stick_12 rfl ?_
    refine mg_iconst (v := (-1)) C dX4_stick_13 (by decide) ?_
    refine mg_aload_n C dX4_stick_14 rfl ?_
    refine mg_get C inG_X4 fX4_10 (ci := 4) rfl rfl 19 rfl rfl dX4_stick_15 ?_
    refine mg_getN C inG_X1 fX4_58 (ci := 1) rfl rfl 18 rfl rfl dX4_stick_18 ?_
    refine mg_callS C (ct_X4_within E _ _ _ _) oX4_39 rfl rfl rfl dX4_stick_21 (fun o21 w21 z21 => ?_)
    obtain ⟨rfl, rfl⟩ := z21
    refine mg_v ?_
    refine mg_if_ne C 30 dX4_stick_24 (by decide) (fun h24 => ?_) (fun h24 => ?_)
    · refine mg_aload_n C dX4_stick_30 rfl ?_
      refine mg_get C inG_X4 fX4_10 (ci := 4) rfl rfl 19 rfl rfl dX4_stick_31 ?_
      refine mg_aload_n C dX4_stick_34 rfl ?_
      refine mg_get C inG_X4 fX4_10 (ci := 4) rfl rfl 19 rfl rfl dX4_stick_35 ?_
      refine mg_iload_n C dX4_stick_38 rfl ?_
      refine mg_iload_n C dX4_stick_39 rfl ?_
      refine mg_callVN C (ct_X1_place E _ _ _ _ _ _ _ _) oX4_62 18 rfl rfl rfl rfl rfl dX4_stick_40 (fun o40 w40 z40 => ?_)
      obtain ⟨rfl, rfl⟩ := z40
      refine mg_v ?_
      refine mg_iload_n C dX4_stick_43 rfl ?_
      refine mg_callVN C (ct_X1_hold E _ _ _ _ _ _ _ _ hin9) oX4_73 18 rfl rfl rfl rfl rfl dX4_stick_44 (fun o44 w44 z44 => ?_)
      obtain ⟨rfl, rfl⟩ := z44
      refine mg_v0 ?_
      refine mg_iconst (v := 1) C dX4_stick_47 (by decide) ?_
      exact mg_iret C hQ dX4_stick_48 (by
    refine ⟨ad, fl, _, _, v, ?_, ?_, ⟨ho_iv hV.1 (Or.inr trivial) (fun R1 C1 e0 e1 r8 c24 => ?_), hV.2⟩, rfl, rfl⟩
    · rw [gStick, if_neg h9, if_neg h24] <;> first | rfl | decide
    · rw [aStick, if_neg h9, if_neg h24]; exact ho_sh
    · have q0 := (nI_eq (by omega) (by omega)).mp (d0.symm.trans e0)
      have q1 := (nI_eq (by omega) (by omega)).mp (d1.symm.trans e1)
      omega)
    · refine mg_bipush (v := (-2)) C dX4_stick_27 (by decide) ?_
      exact mg_iret C hQ dX4_stick_29 (⟨ad, fl, g, a, v, by rw [gStick, if_neg h9, if_pos h24] <;> first | rfl | decide, by rw [aStick, if_neg h9, if_pos h24]; exact Sh.rf, hV, rfl, rfl⟩)
set_option maxHeartbeats 400000 in
set_option maxRecDepth 100000 in
theorem cv_cell (E : En) (ad : Nat → Nat) (fl : Nat) (g : Nat → Int32) (a : Nat → Nat → Int32) (v : Nat → Int64) (tl : va_W) (r c u : Int32) (hV : CV fl g a) : Ct E mX4_cell 2 0 0 [.ref (ad 19), .int r, .int c, .int u] (cw E ad fl g a v tl) (fun o w => ∃ (r : Int32) (ad1 : Nat → Nat) (fl1 : Nat) (g1 : Nat → Int32) (a1 : Nat → Nat → Int32) (v1 : Nat → Int64), o = some (.int r) ∧ Sh g a g1 a1 ∧ CV fl1 g1 a1 ∧ ad1 19 = ad 19 ∧ w = cw E ad1 fl1 g1 a1 v1 tl) := by
  refine Ct.of (by decide) (Nat.le_of_ble_eq_true rfl) (fun X C hQ hin => ?_)
  have C : Cx E X cX4_cell 4 RX4 (some .int) 2 80 0 0 := C
  obtain ⟨R, Cc, T, n, m, D, F, ⟨⟨d0, d0a, d0b⟩, ⟨d1, d1a, d1b⟩, ⟨d2, d2a, d2b⟩, ⟨d4, d4a⟩, d5, ⟨d6, d6a⟩, dcm, dn0, dn1⟩, ⟨dF, dF1, dF2⟩, drow, dout⟩ := id hV.1
  refine mg_aload_n C dX4_cell_0 rfl ?_
  refine mg_get C inG_X4 fX4_10 (ci := 4) rfl rfl 19 rfl rfl dX4_cell_1 ?_
  refine mg_iload_n C dX4_cell_4 rfl ?_
  refine mg_iload_n C dX4_cell_5 rfl ?_
  refine mg_callVN C (ct_X1_hasCell E _ _ _ _ _ _ _ _) oX4_54 18 rfl rfl rfl rfl rfl dX4_cell_6 (fun o6 w6 z6 => ?_)
  obtain ⟨rfl, rfl⟩ := z6
  refine mg_v ?_
  refine mg_if_eq C 21 dX4_cell_9 (by decide) (fun h9 => ?_) (fun h9 => ?_)
  · refine mg_bipush (v := (-2)) C dX4_cell_21 (by decide) ?_
    exact mg_iret C hQ dX4_cell_23 (⟨_, ad, fl, g, a, v, rfl, Sh.rf, hV, rfl, rfl⟩)
  · obtain ⟨i, j, rfl, hi, rfl, hj⟩ := hc_nat d0 ⟨d0a, d0b⟩ d1 ⟨d1a, d1b⟩ h9
    have hin9 : vp_in (nI i * 24 + nI j) 192 := (by rw [pl_eq]; exact vp_in_nI (by omega) (by decide))
    refine mg_iload_n C dX4_cell_12 rfl ?_
    refine mg_iconst (v := 0) C dX4_cell_13 (by decide) ?_
    refine mg_iconst (v := 2) C dX4_cell_14 (by decide) ?_
    refine mg_callS C (ct_X4_within E _ _ _ _) oX4_39 rfl rfl rfl dX4_cell_15 (fun o15 w15 z15 => ?_)
    obtain ⟨rfl, rfl⟩ := z15
    refine mg_v ?_
    refine mg_if_ne C 24 dX4_cell_18 (by decide) (fun h18 => ?_) (fun h18 => ?_)
    · refine mg_aload_n C dX4_cell_24 rfl ?_
      refine mg_get C inG_X4 fX4_10 (ci := 4) rfl rfl 19 rfl rfl dX4_cell_25 ?_
      refine mg_aload_n C dX4_cell_28 rfl ?_
      refine mg_get C inG_X4 fX4_10 (ci := 4) rfl rfl 19 rfl rfl dX4_cell_29 ?_
      refine mg_iload_n C dX4_cell_32 rfl ?_
      refine mg_iload_n C dX4_cell_33 rfl ?_
      refine mg_callVN C (ct_X1_place E _ _ _ _ _ _ _ _) oX4_62 18 rfl rfl rfl rfl rfl dX4_cell_34 (fun o34 w34 z34 => ?_)
      obtain ⟨rfl, rfl⟩ := z34
      refine mg_v ?_
      refine mg_iload_n C dX4_cell_37 rfl ?_
      refine mg_callVN C (ct_X1_tellCell E _ _ _ _ _ _ _ _ hin9) oX4_76 18 rfl rfl rfl rfl rfl dX4_cell_38 (fun o38 w38 z38 => ?_)
      obtain ⟨rfl, rfl⟩ := z38
      refine mg_v ?_
      exact mg_iret C hQ dX4_cell_41 (⟨_, ad, fl, g, a, v, rfl, Sh.rf, hV, rfl, rfl⟩)
    · refine mg_bipush (v := (-2)) C dX4_cell_21 (by decide) ?_
      exact mg_iret C hQ dX4_cell_23 (⟨_, ad, fl, g, a, v, rfl, Sh.rf, hV, rfl, rfl⟩)
def gInput (g : Nat → Int32) (a : Nat → Nat → Int32) (r x : Int32) : Int32 := if wi r 0 (g 0 - 1) = 0 then -2 else if wi x 0 255 = 0 then -2 else a 3 r.toNatClampNeg
def aInput (g : Nat → Int32) (a : Nat → Nat → Int32) (r x : Int32) : Nat → Nat → Int32 := if wi r 0 (g 0 - 1) = 0 then a else if wi x 0 255 = 0 then a else ups a 3 r.toNatClampNeg x
def gBits (g : Nat → Int32) (b : Int32) : Int32 := if wi b 1 16 = 0 then -2 else g 3
def sBits (g : Nat → Int32) (b : Int32) : Nat → Int32 := if wi b 1 16 = 0 then g else ug g 3 b
theorem CV.g3 {fl : Nat} {g : Nat → Int32} {a : Nat → Nat → Int32} {b : Int32} (h : CV fl g a) : CV fl (ug g 3 b) a := h
def gActAt (g : Nat → Int32) (a : Nat → Nat → Int32) (i u : Int32) : Int32 := if wi u 0 2 = 0 then -2 else if wi i 0 (g 15 - 1) = 0 then -1 else a 13 i.toNatClampNeg >>> ((6 - 3 * u : Int32) &&& 31) &&& 7
set_option maxHeartbeats 400000 in
set_option maxRecDepth 100000 in
theorem cv_input (E : En) (ad : Nat → Nat) (fl : Nat) (g : Nat → Int32) (a : Nat → Nat → Int32) (v : Nat → Int64) (tl : va_W) (r x : Int32) (hV : CV fl g a) : Ct E mX4_input 1 0 0 [.ref (ad 19), .int r, .int x] (cw E ad fl g a v tl) (fun o w => ∃ (ad1 : Nat → Nat) (fl1 : Nat) (g1 : Nat → Int32) (a1 : Nat → Nat → Int32) (v1 : Nat → Int64), o = some (.int (gInput g a r x)) ∧ Sh g (aInput g a r x) g1 a1 ∧ CV fl1 g1 a1 ∧ ad1 19 = ad 19 ∧ w = cw E ad1 fl1 g1 a1 v1 tl) := by
  refine Ct.of (by decide) (Nat.le_of_ble_eq_true rfl) (fun X C hQ hin => ?_)
  have C : Cx E X cX4_input 4 RX4 (some .int) 1 40 0 0 := C
  obtain ⟨R, Cc, T, n, m, D, F, ⟨⟨d0, d0a, d0b⟩, ⟨d1, d1a, d1b⟩, ⟨d2, d2a, d2b⟩, ⟨d4, d4a⟩, d5, ⟨d6, d6a⟩, dcm, dn0, dn1⟩, ⟨dF, dF1, dF2⟩, drow, dout⟩ := id hV.1
  refine mg_iload_n C dX4_input_0 rfl ?_
  refine mg_iconst (v := 0) C dX4_input_1 (by decide) ?_
  refine mg_aload_n C dX4_input_2 rfl ?_
  refine mg_get C inG_X4 fX4_10 (ci := 4) rfl rfl 19 rfl rfl dX4_input_3 ?_
  refine mg_getN C inG_X1 fX4_79 (ci := 1) rfl rfl 18 rfl rfl dX4_input_6 ?_
  refine mg_iconst (v := 1) C dX4_input_9 (by decide) ?_
  refine mg_isub C dX4_input_10 ?_
  refine mg_callS C (ct_X4_within E _ _ _ _) oX4_39 rfl rfl rfl dX4_input_11 (fun o11 w11 z11 => ?_)
  obtain ⟨rfl, rfl⟩ := z11
  refine mg_v ?_
  refine mg_if_eq C 28 dX4_input_14 (by decide) (fun h14 => ?_) (fun h14 => ?_)
  · refine mg_bipush (v := (-2)) C dX4_input_28 (by decide) ?_
    exact mg_iret C hQ dX4_input_30 (⟨ad, fl, g, a, v, by rw [gInput, if_pos h14] <;> first | rfl | decide, by rw [aInput, if_pos h14]; exact Sh.rf, hV, rfl, rfl⟩)
  · have hinr : vp_in r 8 := (by obtain ⟨i, ei, hi⟩ := wi_in d0 (by omega) h14; rw [ei]; exact vp_in_nI (by omega) (by decide))
    refine mg_iload_n C dX4_input_17 rfl ?_
    refine mg_iconst (v := 0) C dX4_input_18 (by decide) ?_
    refine mg_sipush (v := 255) C dX4_input_19 (by decide) ?_
    refine mg_callS C (ct_X4_within E _ _ _ _) oX4_39 rfl rfl rfl dX4_input_22 (fun o22 w22 z22 => ?_)
    obtain ⟨rfl, rfl⟩ := z22
    refine mg_v ?_
    refine mg_if_ne C 31 dX4_input_25 (by decide) (fun h25 => ?_) (fun h25 => ?_)
    · refine mg_aload_n C dX4_input_31 rfl ?_
      refine mg_get C inG_X4 fX4_10 (ci := 4) rfl rfl 19 rfl rfl dX4_input_32 ?_
      refine mg_getN C inG_X1 fX4_82 (ci := 1) rfl rfl 18 rfl rfl dX4_input_35 ?_
      refine mg_iload_n C dX4_input_38 rfl ?_
      refine mg_iald C 14 rfl (hinr) dX4_input_39 ?_
      refine mg_istore_n C dX4_input_40 rfl ?_
      refine mg_lve (lv' := [(0, _), (1, _), (2, _), (3, _)]) rfl ?_
      refine mg_aload_n C dX4_input_41 rfl ?_
      refine mg_get C inG_X4 fX4_10 (ci := 4) rfl rfl 19 rfl rfl dX4_input_42 ?_
      refine mg_getN C inG_X1 fX4_82 (ci := 1) rfl rfl 18 rfl rfl dX4_input_45 ?_
      refine mg_iload_n C dX4_input_48 rfl ?_
      refine mg_iload_n C dX4_input_49 rfl ?_
      refine mg_iast C 14 rfl (hinr) dX4_input_50 (ws' := (cw E ad fl g (ups a 3 (r : Int32).toNatClampNeg x) v tl)) rfl ?_
      refine mg_iload_n C dX4_input_51 rfl ?_
      exact mg_iret C hQ dX4_input_52 (⟨ad, fl, g, ups a 3 r.toNatClampNeg x, v, by rw [gInput, if_neg h14, if_neg h25] <;> first | rfl | decide, by rw [aInput, if_neg h14, if_neg h25]; exact Sh.rf, hV.ar rfl rfl, rfl, rfl⟩)
    · refine mg_bipush (v := (-2)) C dX4_input_28 (by decide) ?_
      exact mg_iret C hQ dX4_input_30 (⟨ad, fl, g, a, v, by rw [gInput, if_neg h14, if_pos h25] <;> first | rfl | decide, by rw [aInput, if_neg h14, if_pos h25]; exact Sh.rf, hV, rfl, rfl⟩)
set_option maxHeartbeats 400000 in
set_option maxRecDepth 100000 in
theorem cv_bits (E : En) (ad : Nat → Nat) (fl : Nat) (g : Nat → Int32) (a : Nat → Nat → Int32) (v : Nat → Int64) (tl : va_W) (b : Int32) (hV : CV fl g a) : Ct E mX4_bits 1 0 0 [.ref (ad 19), .int b] (cw E ad fl g a v tl) (fun o w => ∃ (ad1 : Nat → Nat) (fl1 : Nat) (g1 : Nat → Int32) (a1 : Nat → Nat → Int32) (v1 : Nat → Int64), o = some (.int (gBits g b)) ∧ Sh (sBits g b) a g1 a1 ∧ CV fl1 g1 a1 ∧ ad1 19 = ad 19 ∧ w = cw E ad1 fl1 g1 a1 v1 tl) := by
  refine Ct.of (by decide) (Nat.le_of_ble_eq_true rfl) (fun X C hQ hin => ?_)
  have C : Cx E X cX4_bits 3 RX4 (some .int) 1 40 0 0 := C
  obtain ⟨R, Cc, T, n, m, D, F, ⟨⟨d0, d0a, d0b⟩, ⟨d1, d1a, d1b⟩, ⟨d2, d2a, d2b⟩, ⟨d4, d4a⟩, d5, ⟨d6, d6a⟩, dcm, dn0, dn1⟩, ⟨dF, dF1, dF2⟩, drow, dout⟩ := id hV.1
  refine mg_iload_n C dX4_bits_0 rfl ?_
  refine mg_iconst (v := 1) C dX4_bits_1 (by decide) ?_
  refine mg_bipush (v := 16) C dX4_bits_2 (by decide) ?_
  refine mg_callS C (ct_X4_within E _ _ _ _) oX4_39 rfl rfl rfl dX4_bits_4 (fun o4 w4 z4 => ?_)
  obtain ⟨rfl, rfl⟩ := z4
  refine mg_v ?_
  refine mg_if_ne C 13 dX4_bits_7 (by decide) (fun h7 => ?_) (fun h7 => ?_)
  · refine mg_aload_n C dX4_bits_13 rfl ?_
    refine mg_get C inG_X4 fX4_10 (ci := 4) rfl rfl 19 rfl rfl dX4_bits_14 ?_
    refine mg_getN C inG_X1 fX4_86 (ci := 1) rfl rfl 18 rfl rfl dX4_bits_17 ?_
    refine mg_istore_n C dX4_bits_20 rfl ?_
    refine mg_lve (lv' := [(0, _), (1, _), (2, _)]) rfl ?_
    refine mg_aload_n C dX4_bits_21 rfl ?_
    refine mg_get C inG_X4 fX4_10 (ci := 4) rfl rfl 19 rfl rfl dX4_bits_22 ?_
    refine mg_iload_n C dX4_bits_25 rfl ?_
    refine mg_putN C inG_X1 fX4_86 (ci := 1) rfl rfl tyX1 tyX1_ok nmX1 rfl 18 rfl rfl rfl rfl dX4_bits_26 (ws' := (cw E ad fl (ug g 3 b) a v tl)) rfl ?_
    refine mg_iload_n C dX4_bits_29 rfl ?_
    exact mg_iret C hQ dX4_bits_30 (⟨ad, fl, ug g 3 b, a, v, by rw [gBits, if_neg h7] <;> first | rfl | decide, by rw [sBits, if_neg h7]; exact Sh.rf, hV.g3, rfl, rfl⟩)
  · refine mg_bipush (v := (-2)) C dX4_bits_10 (by decide) ?_
    exact mg_iret C hQ dX4_bits_12 (⟨ad, fl, g, a, v, by rw [gBits, if_pos h7] <;> first | rfl | decide, by rw [sBits, if_pos h7]; exact Sh.rf, hV, rfl, rfl⟩)
set_option maxHeartbeats 400000 in
set_option maxRecDepth 100000 in
theorem cv_where (E : En) (ad : Nat → Nat) (fl : Nat) (g : Nat → Int32) (a : Nat → Nat → Int32) (v : Nat → Int64) (tl : va_W)  (hV : CV fl g a) : Ct E mX4_where 0 0 0 [.ref (ad 19)] (cw E ad fl g a v tl) (fun o w => ∃ (ad1 : Nat → Nat) (fl1 : Nat) (g1 : Nat → Int32) (a1 : Nat → Nat → Int32) (v1 : Nat → Int64), o = some (.int (g 16)) ∧ Sh g a g1 a1 ∧ CV fl1 g1 a1 ∧ ad1 19 = ad 19 ∧ w = cw E ad1 fl1 g1 a1 v1 tl) := by
  refine Ct.of (by decide) (Nat.le_of_ble_eq_true rfl) (fun X C hQ hin => ?_)
  have C : Cx E X cX4_where 1 RX4 (some .int) 0 0 0 0 := C
  obtain ⟨R, Cc, T, n, m, D, F, ⟨⟨d0, d0a, d0b⟩, ⟨d1, d1a, d1b⟩, ⟨d2, d2a, d2b⟩, ⟨d4, d4a⟩, d5, ⟨d6, d6a⟩, dcm, dn0, dn1⟩, ⟨dF, dF1, dF2⟩, drow, dout⟩ := id hV.1
  refine mg_aload_n C dX4_where_0 rfl ?_
  refine mg_get C inG_X4 fX4_35 (ci := 4) rfl rfl 19 rfl rfl dX4_where_1 ?_
  refine mg_getN C inG_X2 fX4_176 (ci := 2) rfl rfl 4 rfl rfl dX4_where_4 ?_
  exact mg_iret C hQ dX4_where_7 (⟨ad, fl, g, a, v, rfl, Sh.rf, hV, rfl, rfl⟩)
set_option maxHeartbeats 400000 in
set_option maxRecDepth 100000 in
theorem cv_met (E : En) (ad : Nat → Nat) (fl : Nat) (g : Nat → Int32) (a : Nat → Nat → Int32) (v : Nat → Int64) (tl : va_W)  (hV : CV fl g a) : Ct E mX4_met 0 0 0 [.ref (ad 19)] (cw E ad fl g a v tl) (fun o w => ∃ (ad1 : Nat → Nat) (fl1 : Nat) (g1 : Nat → Int32) (a1 : Nat → Nat → Int32) (v1 : Nat → Int64), o = some (.int (g 14)) ∧ Sh g a g1 a1 ∧ CV fl1 g1 a1 ∧ ad1 19 = ad 19 ∧ w = cw E ad1 fl1 g1 a1 v1 tl) := by
  refine Ct.of (by decide) (Nat.le_of_ble_eq_true rfl) (fun X C hQ hin => ?_)
  have C : Cx E X cX4_met 1 RX4 (some .int) 0 0 0 0 := C
  obtain ⟨R, Cc, T, n, m, D, F, ⟨⟨d0, d0a, d0b⟩, ⟨d1, d1a, d1b⟩, ⟨d2, d2a, d2b⟩, ⟨d4, d4a⟩, d5, ⟨d6, d6a⟩, dcm, dn0, dn1⟩, ⟨dF, dF1, dF2⟩, drow, dout⟩ := id hV.1
  refine mg_aload_n C dX4_met_0 rfl ?_
  refine mg_get C inG_X4 fX4_35 (ci := 4) rfl rfl 19 rfl rfl dX4_met_1 ?_
  refine mg_getN C inG_X2 fX4_179 (ci := 2) rfl rfl 4 rfl rfl dX4_met_4 ?_
  exact mg_iret C hQ dX4_met_7 (⟨ad, fl, g, a, v, rfl, Sh.rf, hV, rfl, rfl⟩)
set_option maxHeartbeats 400000 in
set_option maxRecDepth 100000 in
theorem cv_actAt (E : En) (ad : Nat → Nat) (fl : Nat) (g : Nat → Int32) (a : Nat → Nat → Int32) (v : Nat → Int64) (tl : va_W) (i u : Int32) (hV : CV fl g a) : Ct E mX4_actAt 1 0 0 [.ref (ad 19), .int i, .int u] (cw E ad fl g a v tl) (fun o w => ∃ (ad1 : Nat → Nat) (fl1 : Nat) (g1 : Nat → Int32) (a1 : Nat → Nat → Int32) (v1 : Nat → Int64), o = some (.int (gActAt g a i u)) ∧ Sh g a g1 a1 ∧ CV fl1 g1 a1 ∧ ad1 19 = ad 19 ∧ w = cw E ad1 fl1 g1 a1 v1 tl) := by
  refine Ct.of (by decide) (Nat.le_of_ble_eq_true rfl) (fun X C hQ hin => ?_)
  have C : Cx E X cX4_actAt 3 RX4 (some .int) 1 40 0 0 := C
  obtain ⟨R, Cc, T, n, m, D, F, ⟨⟨d0, d0a, d0b⟩, ⟨d1, d1a, d1b⟩, ⟨d2, d2a, d2b⟩, ⟨d4, d4a⟩, d5, ⟨d6, d6a⟩, dcm, dn0, dn1⟩, ⟨dF, dF1, dF2⟩, drow, dout⟩ := id hV.1
  refine mg_iload_n C dX4_actAt_0 rfl ?_
  refine mg_iconst (v := 0) C dX4_actAt_1 (by decide) ?_
  refine mg_iconst (v := 2) C dX4_actAt_2 (by decide) ?_
  refine mg_callS C (ct_X4_within E _ _ _ _) oX4_39 rfl rfl rfl dX4_actAt_3 (fun o3 w3 z3 => ?_)
  obtain ⟨rfl, rfl⟩ := z3
  refine mg_v ?_
  refine mg_if_ne C 12 dX4_actAt_6 (by decide) (fun h6 => ?_) (fun h6 => ?_)
  · refine mg_iload_n C dX4_actAt_12 rfl ?_
    refine mg_iconst (v := 0) C dX4_actAt_13 (by decide) ?_
    refine mg_aload_n C dX4_actAt_14 rfl ?_
    refine mg_get C inG_X4 fX4_35 (ci := 4) rfl rfl 19 rfl rfl dX4_actAt_15 ?_
    refine mg_getN C inG_X2 fX4_167 (ci := 2) rfl rfl 4 rfl rfl dX4_actAt_18 ?_
    refine mg_iconst (v := 1) C dX4_actAt_21 (by decide) ?_
    refine mg_isub C dX4_actAt_22 ?_
    refine mg_callS C (ct_X4_within E _ _ _ _) oX4_39 rfl rfl rfl dX4_actAt_23 (fun o23 w23 z23 => ?_)
    obtain ⟨rfl, rfl⟩ := z23
    refine mg_v ?_
    refine mg_if_eq C 45 dX4_actAt_26 (by decide) (fun h26 => ?_) (fun h26 => ?_)
    · refine mg_iconst (v := (-1)) C dX4_actAt_45 (by decide) ?_
      exact mg_iret C hQ dX4_actAt_46 (⟨ad, fl, g, a, v, by rw [gActAt, if_neg h6, if_pos h26] <;> first | rfl | decide, Sh.rf, hV, rfl, rfl⟩)
    · have hini : vp_in i fl := (by obtain ⟨q, eq, hq⟩ := wi_in dF (by omega) h26; rw [eq]; exact vp_in_nI (by omega) (by omega))
      refine mg_aload_n C dX4_actAt_29 rfl ?_
      refine mg_get C inG_X4 fX4_35 (ci := 4) rfl rfl 19 rfl rfl dX4_actAt_30 ?_
      refine mg_getN C inG_X2 fX4_170 (ci := 2) rfl rfl 4 rfl rfl dX4_actAt_33 ?_
      refine mg_iload_n C dX4_actAt_36 rfl ?_
      refine mg_iald C 0 rfl (hini) dX4_actAt_37 ?_
      refine mg_iload_n C dX4_actAt_38 rfl ?_
      refine mg_callS C (ct_X4_actPart E _ _ _) oX4_173 rfl rfl rfl dX4_actAt_39 (fun o39 w39 z39 => ?_)
      obtain ⟨rfl, rfl⟩ := z39
      refine mg_v ?_
      refine mg_goto C 46 dX4_actAt_42 (by decide) ?_
      exact mg_iret C hQ dX4_actAt_46 (⟨ad, fl, g, a, v, by rw [gActAt, if_neg h6, if_neg h26] <;> first | rfl | decide, Sh.rf, hV, rfl, rfl⟩)
  · refine mg_bipush (v := (-2)) C dX4_actAt_9 (by decide) ?_
    exact mg_iret C hQ dX4_actAt_11 (⟨ad, fl, g, a, v, by rw [gActAt, if_pos h6] <;> first | rfl | decide, Sh.rf, hV, rfl, rfl⟩)
def bgs (g : Nat → Int32) (r c u : Int32) : Nat → Int32 := ug (ug (ug (ug (ug (rg g r c u) 4 0) 5 0) 6 0) 8 0) 9 0
def sMesh (g : Nat → Int32) (r c u : Int32) : Nat → Int32 := if wi r 1 8 = 0 then g else if wi c 1 24 = 0 then g else if wi u 1 15 = 0 then g else bgs g r c u
def aMesh (a : Nat → Nat → Int32) (r c u : Int32) : Nat → Nat → Int32 := if wi r 1 8 = 0 then a else if wi c 1 24 = 0 then a else if wi u 1 15 = 0 then a else ra a
theorem mesh_sh {g G : Nat → Int32} {a A : Nat → Nat → Int32} {r c u : Int32} (h : G = bgs g r c u) (h2 : A = ra a) : Sh G A (ug (dr (rg g r c u)) 9 0) (ra a) := by
  subst h; subst h2
  refine ⟨fun i hi => ?_, fun _ _ => rfl, fun _ _ => rfl, fun _ _ => rfl, fun _ _ => rfl⟩
  simp only [shl, List.mem_cons, List.not_mem_nil, or_false] at hi
  rcases hi with rfl | rfl | rfl | rfl | rfl | rfl | rfl | rfl | rfl | rfl | rfl | rfl <;> rfl
theorem wi_mk {x p q : Int32} {P Q : Nat} (hp : p.toInt = P) (hq : q.toInt = Q) (h : ¬ wi x p q = 0) : ∃ j : Nat, x = nI j ∧ P ≤ j ∧ j ≤ Q := by
  obtain ⟨j, e, l, u⟩ := wi_nat h (by omega)
  exact ⟨j, e, by omega, by omega⟩
theorem mesh_iv {fl : Nat} {g : Nat → Int32} {a : Nat → Nat → Int32} {r c u : Int32} (h : IV fl g a) (h1 : ¬ wi r 1 8 = 0) (h2 : ¬ wi c 1 24 = 0) (h3 : ¬ wi u 1 15 = 0) : IV fl (ug (dr (rg g r c u)) 9 0) (ra a) := by
  obtain ⟨R0, C0, T0, n0, m0, D0, F, hd, hF, hr, ho1⟩ := h
  obtain ⟨R, rfl, hR1, hR8⟩ := wi_mk (P := 1) (Q := 8) rfl rfl h1
  obtain ⟨C, rfl, hC1, hC2⟩ := wi_mk (P := 1) (Q := 24) rfl rfl h2
  obtain ⟨T, rfl, hT1, hT2⟩ := wi_mk (P := 1) (Q := 15) rfl rfl h3
  exact ⟨R, C, T, 0, 0, 0, F, ⟨⟨rfl, hR1, hR8⟩, ⟨rfl, hC1, hC2⟩, ⟨rfl, hT1, hT2⟩, ⟨rfl, Nat.zero_le _⟩, rfl, ⟨rfl, by omega⟩, by omega, fun _ => rfl, fun hh => absurd rfl hh⟩, hF, hr, fun _ _ _ _ _ => rfl⟩
set_option maxHeartbeats 400000 in
set_option maxRecDepth 100000 in
theorem cv_mesh (E : En) (ad : Nat → Nat) (fl : Nat) (g : Nat → Int32) (a : Nat → Nat → Int32) (v : Nat → Int64) (tl : va_W) (r c u : Int32) (hV : CV fl g a) : Ct E mX4_mesh 2 0 0 [.ref (ad 19), .int r, .int c, .int u] (cw E ad fl g a v tl) (fun o w => ∃ (ad1 : Nat → Nat) (fl1 : Nat) (g1 : Nat → Int32) (a1 : Nat → Nat → Int32) (v1 : Nat → Int64), o = some (.int (anMesh r c u)) ∧ Sh (sMesh g r c u) (aMesh a r c u) g1 a1 ∧ CV fl1 g1 a1 ∧ ad1 19 = ad 19 ∧ w = cw E ad1 fl1 g1 a1 v1 tl) := by
  refine Ct.of (by decide) (Nat.le_of_ble_eq_true rfl) (fun X C hQ hin => ?_)
  have C : Cx E X cX4_mesh 4 RX4 (some .int) 2 80 0 0 := C
  obtain ⟨R, Cc, T, n, m, D, F, ⟨⟨d0, d0a, d0b⟩, ⟨d1, d1a, d1b⟩, ⟨d2, d2a, d2b⟩, ⟨d4, d4a⟩, d5, ⟨d6, d6a⟩, dcm, dn0, dn1⟩, ⟨dF, dF1, dF2⟩, drow, dout⟩ := id hV.1
  refine mg_iload_n C dX4_mesh_0 rfl ?_
  refine mg_iconst (v := 1) C dX4_mesh_1 (by decide) ?_
  refine mg_bipush (v := 8) C dX4_mesh_2 (by decide) ?_
  refine mg_callS C (ct_X4_within E _ _ _ _) oX4_39 rfl rfl rfl dX4_mesh_4 (fun o4 w4 z4 => ?_)
  obtain ⟨rfl, rfl⟩ := z4
  refine mg_v ?_
  refine mg_if_eq C 30 dX4_mesh_7 (by decide) (fun h7 => ?_) (fun h7 => ?_)
  · refine mg_bipush (v := (-2)) C dX4_mesh_30 (by decide) ?_
    exact mg_iret C hQ dX4_mesh_32 (⟨ad, fl, g, a, v, by rw [anMesh, if_pos h7] <;> first | rfl | decide, by rw [sMesh, aMesh, if_pos h7, if_pos h7]; exact Sh.rf, hV, rfl, rfl⟩)
  · refine mg_iload_n C dX4_mesh_10 rfl ?_
    refine mg_iconst (v := 1) C dX4_mesh_11 (by decide) ?_
    refine mg_bipush (v := 24) C dX4_mesh_12 (by decide) ?_
    refine mg_callS C (ct_X4_within E _ _ _ _) oX4_39 rfl rfl rfl dX4_mesh_14 (fun o14 w14 z14 => ?_)
    obtain ⟨rfl, rfl⟩ := z14
    refine mg_v ?_
    refine mg_if_eq C 30 dX4_mesh_17 (by decide) (fun h17 => ?_) (fun h17 => ?_)
    · refine mg_bipush (v := (-2)) C dX4_mesh_30 (by decide) ?_
      exact mg_iret C hQ dX4_mesh_32 (⟨ad, fl, g, a, v, by rw [anMesh, if_neg h7, if_pos h17] <;> first | rfl | decide, by rw [sMesh, aMesh, if_neg h7, if_pos h17, if_neg h7, if_pos h17]; exact Sh.rf, hV, rfl, rfl⟩)
    · refine mg_iload_n C dX4_mesh_20 rfl ?_
      refine mg_iconst (v := 1) C dX4_mesh_21 (by decide) ?_
      refine mg_bipush (v := 15) C dX4_mesh_22 (by decide) ?_
      refine mg_callS C (ct_X4_within E _ _ _ _) oX4_39 rfl rfl rfl dX4_mesh_24 (fun o24 w24 z24 => ?_)
      obtain ⟨rfl, rfl⟩ := z24
      refine mg_v ?_
      refine mg_if_ne C 33 dX4_mesh_27 (by decide) (fun h27 => ?_) (fun h27 => ?_)
      · refine mg_aload_n C dX4_mesh_33 rfl ?_
        refine mg_get C inG_X4 fX4_10 (ci := 4) rfl rfl 19 rfl rfl dX4_mesh_34 ?_
        refine mg_iload_n C dX4_mesh_37 rfl ?_
        refine mg_iload_n C dX4_mesh_38 rfl ?_
        refine mg_iload_n C dX4_mesh_39 rfl ?_
        refine mg_callVN C (ct_X1_renew E _ _ _ _ _ _ _ _ _) oX4_43 18 rfl rfl rfl rfl rfl dX4_mesh_40 (fun o40 w40 z40 => ?_)
        obtain ⟨rfl, rfl⟩ := z40
        refine mg_v0 ?_
        refine mg_aload_n C dX4_mesh_43 rfl ?_
        refine mg_get C inG_X4 fX4_21 (ci := 4) rfl rfl 19 rfl rfl dX4_mesh_44 ?_
        refine mg_callVN C (ct_X3_drop E _ _ _ _ _ _) oX4_47 13 rfl rfl rfl rfl rfl dX4_mesh_47 (fun o47 w47 z47 => ?_)
        obtain ⟨rfl, rfl⟩ := z47
        refine mg_v0 ?_
        refine mg_aload_n C dX4_mesh_50 rfl ?_
        refine mg_get C inG_X4 fX4_28 (ci := 4) rfl rfl 19 rfl rfl dX4_mesh_51 ?_
        refine mg_iconst (v := 0) C dX4_mesh_54 (by decide) ?_
        refine mg_putN C inG_X0 fX4_50 (ci := 0) rfl rfl tyX0 tyX0_ok nmX0 rfl 7 rfl rfl rfl rfl dX4_mesh_55 (ws' := (cw E ad fl (ug (dr (rg g r c u)) 9 0) (ra a) v tl)) rfl ?_
        refine mg_iconst (v := 1) C dX4_mesh_58 (by decide) ?_
        exact mg_iret C hQ dX4_mesh_59 (by
    refine ⟨ad, fl, _, _, v, ?_, mesh_sh (by rw [sMesh, if_neg h7, if_neg h17, if_neg h27]) (by rw [aMesh, if_neg h7, if_neg h17, if_neg h27]), ⟨mesh_iv hV.1 h7 h17 h27, Or.inl rfl⟩, rfl, rfl⟩
    rw [anMesh, if_neg h7, if_neg h17, if_neg h27] <;> first | rfl | decide)
      · refine mg_bipush (v := (-2)) C dX4_mesh_30 (by decide) ?_
        exact mg_iret C hQ dX4_mesh_32 (⟨ad, fl, g, a, v, by rw [anMesh, if_neg h7, if_neg h17, if_pos h27] <;> first | rfl | decide, by rw [sMesh, aMesh, if_neg h7, if_neg h17, if_pos h27, if_neg h7, if_neg h17, if_pos h27]; exact Sh.rf, hV, rfl, rfl⟩)
end
