section
-- ===== PART A: goes FIRST, ahead of the names: the tables' words, and 'selects' of the private methods out of them =====
/-- a private method of a class that the tables say can be made, by its rows of tables_1 -/
def lw_okq (q : MethodName × Nat) : Prop := (q.1.cls ≠ "java/lang/invoke/MethodHandle" ∧ q.1.cls ≠ "java/lang/invoke/VarHandle") ∧ Cond.instantiable q.1.cls q.2 ∈ tables_1 ∧ Cond.privateMethod q.1 ∈ tables_1 ∧ Cond.instanceMethod q.1 ∈ tables_1
theorem lw_p0 : lw_okq (⟨"RebornDrivers", "isFree", "(I)Z"⟩, 14) := ⟨⟨by decide +kernel, by decide +kernel⟩, List.mem_of_getElem? (i := 11) (by decide +kernel), List.mem_of_getElem? (i := 204) (by decide +kernel), List.mem_of_getElem? (i := 205) (by decide +kernel)⟩
theorem lw_p1 : lw_okq (⟨"RebornDrivers$Operation", "begin", "(III)V"⟩, 6) := ⟨⟨by decide +kernel, by decide +kernel⟩, List.mem_of_getElem? (i := 126) (by decide +kernel), List.mem_of_getElem? (i := 214) (by decide +kernel), List.mem_of_getElem? (i := 215) (by decide +kernel)⟩
theorem lw_p2 : lw_okq (⟨"RebornDrivers$Line", "join", "(I)V"⟩, 2) := ⟨⟨by decide +kernel, by decide +kernel⟩, List.mem_of_getElem? (i := 21) (by decide +kernel), List.mem_of_getElem? (i := 218) (by decide +kernel), List.mem_of_getElem? (i := 219) (by decide +kernel)⟩
theorem lw_p3 : lw_okq (⟨"RebornDrivers$Driver", "beWatched", "(Z)V"⟩, 6) := ⟨⟨by decide +kernel, by decide +kernel⟩, List.mem_of_getElem? (i := 36) (by decide +kernel), List.mem_of_getElem? (i := 238) (by decide +kernel), List.mem_of_getElem? (i := 239) (by decide +kernel)⟩
theorem lw_p4 : lw_okq (⟨"RebornDrivers$Driver", "restart", "()V"⟩, 6) := ⟨⟨by decide +kernel, by decide +kernel⟩, List.mem_of_getElem? (i := 36) (by decide +kernel), List.mem_of_getElem? (i := 242) (by decide +kernel), List.mem_of_getElem? (i := 243) (by decide +kernel)⟩
theorem lw_p5 : lw_okq (⟨"RebornDrivers", "stepDisk", "()V"⟩, 14) := ⟨⟨by decide +kernel, by decide +kernel⟩, List.mem_of_getElem? (i := 11) (by decide +kernel), List.mem_of_getElem? (i := 246) (by decide +kernel), List.mem_of_getElem? (i := 247) (by decide +kernel)⟩
theorem lw_p6 : lw_okq (⟨"RebornDrivers$Driver", "takeStep", "()I"⟩, 6) := ⟨⟨by decide +kernel, by decide +kernel⟩, List.mem_of_getElem? (i := 36) (by decide +kernel), List.mem_of_getElem? (i := 250) (by decide +kernel), List.mem_of_getElem? (i := 251) (by decide +kernel)⟩
theorem lw_p7 : lw_okq (⟨"RebornDrivers$Driver", "beRefused", "()V"⟩, 6) := ⟨⟨by decide +kernel, by decide +kernel⟩, List.mem_of_getElem? (i := 36) (by decide +kernel), List.mem_of_getElem? (i := 254) (by decide +kernel), List.mem_of_getElem? (i := 255) (by decide +kernel)⟩
theorem lw_p8 : lw_okq (⟨"RebornDrivers$Driver", "die", "()V"⟩, 6) := ⟨⟨by decide +kernel, by decide +kernel⟩, List.mem_of_getElem? (i := 36) (by decide +kernel), List.mem_of_getElem? (i := 258) (by decide +kernel), List.mem_of_getElem? (i := 259) (by decide +kernel)⟩
theorem lw_p9 : lw_okq (⟨"RebornDrivers", "moveBlock", "()V"⟩, 14) := ⟨⟨by decide +kernel, by decide +kernel⟩, List.mem_of_getElem? (i := 11) (by decide +kernel), List.mem_of_getElem? (i := 262) (by decide +kernel), List.mem_of_getElem? (i := 263) (by decide +kernel)⟩
theorem lw_p10 : lw_okq (⟨"RebornDrivers", "stepConsole", "()V"⟩, 14) := ⟨⟨by decide +kernel, by decide +kernel⟩, List.mem_of_getElem? (i := 11) (by decide +kernel), List.mem_of_getElem? (i := 266) (by decide +kernel), List.mem_of_getElem? (i := 267) (by decide +kernel)⟩
theorem lw_p11 : lw_okq (⟨"RebornDrivers", "putOutCharacter", "(I)V"⟩, 14) := ⟨⟨by decide +kernel, by decide +kernel⟩, List.mem_of_getElem? (i := 11) (by decide +kernel), List.mem_of_getElem? (i := 270) (by decide +kernel), List.mem_of_getElem? (i := 271) (by decide +kernel)⟩
theorem lw_p12 : lw_okq (⟨"RebornDrivers", "serveFiles", "()I"⟩, 14) := ⟨⟨by decide +kernel, by decide +kernel⟩, List.mem_of_getElem? (i := 11) (by decide +kernel), List.mem_of_getElem? (i := 274) (by decide +kernel), List.mem_of_getElem? (i := 275) (by decide +kernel)⟩
theorem lw_p13 : lw_okq (⟨"RebornDrivers$Request", "isOpen", "()Z"⟩, 7) := ⟨⟨by decide +kernel, by decide +kernel⟩, List.mem_of_getElem? (i := 69) (by decide +kernel), List.mem_of_getElem? (i := 278) (by decide +kernel), List.mem_of_getElem? (i := 279) (by decide +kernel)⟩
theorem lw_p14 : lw_okq (⟨"RebornDrivers$Request", "wasGivenElsewhere", "(LRebornDrivers$Driver;)Z"⟩, 7) := ⟨⟨by decide +kernel, by decide +kernel⟩, List.mem_of_getElem? (i := 69) (by decide +kernel), List.mem_of_getElem? (i := 282) (by decide +kernel), List.mem_of_getElem? (i := 283) (by decide +kernel)⟩
theorem lw_p15 : lw_okq (⟨"RebornDrivers$Request", "giveTo", "(LRebornDrivers$Driver;)V"⟩, 7) := ⟨⟨by decide +kernel, by decide +kernel⟩, List.mem_of_getElem? (i := 69) (by decide +kernel), List.mem_of_getElem? (i := 286) (by decide +kernel), List.mem_of_getElem? (i := 287) (by decide +kernel)⟩
def lw_privs_1 : List (MethodName × Nat) := [(⟨"RebornDrivers", "isFree", "(I)Z"⟩, 14), (⟨"RebornDrivers$Operation", "begin", "(III)V"⟩, 6), (⟨"RebornDrivers$Line", "join", "(I)V"⟩, 2), (⟨"RebornDrivers$Driver", "beWatched", "(Z)V"⟩, 6), (⟨"RebornDrivers$Driver", "restart", "()V"⟩, 6), (⟨"RebornDrivers", "stepDisk", "()V"⟩, 14), (⟨"RebornDrivers$Driver", "takeStep", "()I"⟩, 6), (⟨"RebornDrivers$Driver", "beRefused", "()V"⟩, 6), (⟨"RebornDrivers$Driver", "die", "()V"⟩, 6), (⟨"RebornDrivers", "moveBlock", "()V"⟩, 14), (⟨"RebornDrivers", "stepConsole", "()V"⟩, 14), (⟨"RebornDrivers", "putOutCharacter", "(I)V"⟩, 14), (⟨"RebornDrivers", "serveFiles", "()I"⟩, 14), (⟨"RebornDrivers$Request", "isOpen", "()Z"⟩, 7), (⟨"RebornDrivers$Request", "wasGivenElsewhere", "(LRebornDrivers$Driver;)Z"⟩, 7), (⟨"RebornDrivers$Request", "giveTo", "(LRebornDrivers$Driver;)V"⟩, 7)]
theorem lw_r1 : ∀ q ∈ lw_privs_1, lw_okq q := List.forall_mem_cons.mpr ⟨lw_p0, List.forall_mem_cons.mpr ⟨lw_p1, List.forall_mem_cons.mpr ⟨lw_p2, List.forall_mem_cons.mpr ⟨lw_p3, List.forall_mem_cons.mpr ⟨lw_p4, List.forall_mem_cons.mpr ⟨lw_p5, List.forall_mem_cons.mpr ⟨lw_p6, List.forall_mem_cons.mpr ⟨lw_p7, List.forall_mem_cons.mpr ⟨lw_p8, List.forall_mem_cons.mpr ⟨lw_p9, List.forall_mem_cons.mpr ⟨lw_p10, List.forall_mem_cons.mpr ⟨lw_p11, List.forall_mem_cons.mpr ⟨lw_p12, List.forall_mem_cons.mpr ⟨lw_p13, List.forall_mem_cons.mpr ⟨lw_p14, List.forall_mem_cons.mpr ⟨lw_p15, fun _ h => absurd h List.not_mem_nil⟩⟩⟩⟩⟩⟩⟩⟩⟩⟩⟩⟩⟩⟩⟩⟩
theorem lw_p16 : lw_okq (⟨"RebornDrivers", "takeDiskAnswer", "()V"⟩, 14) := ⟨⟨by decide +kernel, by decide +kernel⟩, List.mem_of_getElem? (i := 11) (by decide +kernel), List.mem_of_getElem? (i := 290) (by decide +kernel), List.mem_of_getElem? (i := 291) (by decide +kernel)⟩
theorem lw_p17 : lw_okq (⟨"RebornDrivers$Cache", "hold", "(IIIZ)V"⟩, 4) := ⟨⟨by decide +kernel, by decide +kernel⟩, List.mem_of_getElem? (i := 100) (by decide +kernel), List.mem_of_getElem? (i := 294) (by decide +kernel), List.mem_of_getElem? (i := 295) (by decide +kernel)⟩
theorem lw_p18 : lw_okq (⟨"RebornDrivers$Request", "close", "()V"⟩, 7) := ⟨⟨by decide +kernel, by decide +kernel⟩, List.mem_of_getElem? (i := 69) (by decide +kernel), List.mem_of_getElem? (i := 298) (by decide +kernel), List.mem_of_getElem? (i := 299) (by decide +kernel)⟩
theorem lw_p19 : lw_okq (⟨"RebornDrivers$Line", "isEmpty", "()Z"⟩, 2) := ⟨⟨by decide +kernel, by decide +kernel⟩, List.mem_of_getElem? (i := 21) (by decide +kernel), List.mem_of_getElem? (i := 302) (by decide +kernel), List.mem_of_getElem? (i := 303) (by decide +kernel)⟩
theorem lw_p20 : lw_okq (⟨"RebornDrivers$Line", "head", "()I"⟩, 2) := ⟨⟨by decide +kernel, by decide +kernel⟩, List.mem_of_getElem? (i := 21) (by decide +kernel), List.mem_of_getElem? (i := 306) (by decide +kernel), List.mem_of_getElem? (i := 307) (by decide +kernel)⟩
theorem lw_p21 : lw_okq (⟨"RebornDrivers", "goOnWith", "(LRebornDrivers$Operation;)Z"⟩, 14) := ⟨⟨by decide +kernel, by decide +kernel⟩, List.mem_of_getElem? (i := 11) (by decide +kernel), List.mem_of_getElem? (i := 310) (by decide +kernel), List.mem_of_getElem? (i := 311) (by decide +kernel)⟩
theorem lw_p22 : lw_okq (⟨"RebornDrivers", "goOnWithSync", "(LRebornDrivers$Operation;)Z"⟩, 14) := ⟨⟨by decide +kernel, by decide +kernel⟩, List.mem_of_getElem? (i := 11) (by decide +kernel), List.mem_of_getElem? (i := 314) (by decide +kernel), List.mem_of_getElem? (i := 315) (by decide +kernel)⟩
theorem lw_p23 : lw_okq (⟨"RebornDrivers$Cache", "dirtySlotOfLowestBlock", "()I"⟩, 4) := ⟨⟨by decide +kernel, by decide +kernel⟩, List.mem_of_getElem? (i := 100) (by decide +kernel), List.mem_of_getElem? (i := 318) (by decide +kernel), List.mem_of_getElem? (i := 319) (by decide +kernel)⟩
theorem lw_p24 : lw_okq (⟨"RebornDrivers$Operation", "finish", "(I)V"⟩, 6) := ⟨⟨by decide +kernel, by decide +kernel⟩, List.mem_of_getElem? (i := 126) (by decide +kernel), List.mem_of_getElem? (i := 322) (by decide +kernel), List.mem_of_getElem? (i := 323) (by decide +kernel)⟩
theorem lw_p25 : lw_okq (⟨"RebornDrivers", "askToWriteOut", "(I)V"⟩, 14) := ⟨⟨by decide +kernel, by decide +kernel⟩, List.mem_of_getElem? (i := 11) (by decide +kernel), List.mem_of_getElem? (i := 326) (by decide +kernel), List.mem_of_getElem? (i := 327) (by decide +kernel)⟩
theorem lw_p26 : lw_okq (⟨"RebornDrivers$Request", "open", "(I)V"⟩, 7) := ⟨⟨by decide +kernel, by decide +kernel⟩, List.mem_of_getElem? (i := 69) (by decide +kernel), List.mem_of_getElem? (i := 330) (by decide +kernel), List.mem_of_getElem? (i := 331) (by decide +kernel)⟩
theorem lw_p27 : lw_okq (⟨"RebornDrivers$Cache", "find", "(I)I"⟩, 4) := ⟨⟨by decide +kernel, by decide +kernel⟩, List.mem_of_getElem? (i := 100) (by decide +kernel), List.mem_of_getElem? (i := 334) (by decide +kernel), List.mem_of_getElem? (i := 335) (by decide +kernel)⟩
theorem lw_p28 : lw_okq (⟨"RebornDrivers", "makeRoomFor", "(LRebornDrivers$Operation;)Z"⟩, 14) := ⟨⟨by decide +kernel, by decide +kernel⟩, List.mem_of_getElem? (i := 11) (by decide +kernel), List.mem_of_getElem? (i := 338) (by decide +kernel), List.mem_of_getElem? (i := 339) (by decide +kernel)⟩
theorem lw_p29 : lw_okq (⟨"RebornDrivers$Cache", "slotToFill", "()I"⟩, 4) := ⟨⟨by decide +kernel, by decide +kernel⟩, List.mem_of_getElem? (i := 100) (by decide +kernel), List.mem_of_getElem? (i := 342) (by decide +kernel), List.mem_of_getElem? (i := 343) (by decide +kernel)⟩
theorem lw_p30 : lw_okq (⟨"RebornDrivers$Cache", "empty", "(I)V"⟩, 4) := ⟨⟨by decide +kernel, by decide +kernel⟩, List.mem_of_getElem? (i := 100) (by decide +kernel), List.mem_of_getElem? (i := 347) (by decide +kernel), List.mem_of_getElem? (i := 348) (by decide +kernel)⟩
theorem lw_p31 : lw_okq (⟨"RebornDrivers", "askToReadIn", "(II)V"⟩, 14) := ⟨⟨by decide +kernel, by decide +kernel⟩, List.mem_of_getElem? (i := 11) (by decide +kernel), List.mem_of_getElem? (i := 352) (by decide +kernel), List.mem_of_getElem? (i := 353) (by decide +kernel)⟩
def lw_privs_2 : List (MethodName × Nat) := [(⟨"RebornDrivers", "takeDiskAnswer", "()V"⟩, 14), (⟨"RebornDrivers$Cache", "hold", "(IIIZ)V"⟩, 4), (⟨"RebornDrivers$Request", "close", "()V"⟩, 7), (⟨"RebornDrivers$Line", "isEmpty", "()Z"⟩, 2), (⟨"RebornDrivers$Line", "head", "()I"⟩, 2), (⟨"RebornDrivers", "goOnWith", "(LRebornDrivers$Operation;)Z"⟩, 14), (⟨"RebornDrivers", "goOnWithSync", "(LRebornDrivers$Operation;)Z"⟩, 14), (⟨"RebornDrivers$Cache", "dirtySlotOfLowestBlock", "()I"⟩, 4), (⟨"RebornDrivers$Operation", "finish", "(I)V"⟩, 6), (⟨"RebornDrivers", "askToWriteOut", "(I)V"⟩, 14), (⟨"RebornDrivers$Request", "open", "(I)V"⟩, 7), (⟨"RebornDrivers$Cache", "find", "(I)I"⟩, 4), (⟨"RebornDrivers", "makeRoomFor", "(LRebornDrivers$Operation;)Z"⟩, 14), (⟨"RebornDrivers$Cache", "slotToFill", "()I"⟩, 4), (⟨"RebornDrivers$Cache", "empty", "(I)V"⟩, 4), (⟨"RebornDrivers", "askToReadIn", "(II)V"⟩, 14)]
theorem lw_r2 : ∀ q ∈ lw_privs_2, lw_okq q := List.forall_mem_cons.mpr ⟨lw_p16, List.forall_mem_cons.mpr ⟨lw_p17, List.forall_mem_cons.mpr ⟨lw_p18, List.forall_mem_cons.mpr ⟨lw_p19, List.forall_mem_cons.mpr ⟨lw_p20, List.forall_mem_cons.mpr ⟨lw_p21, List.forall_mem_cons.mpr ⟨lw_p22, List.forall_mem_cons.mpr ⟨lw_p23, List.forall_mem_cons.mpr ⟨lw_p24, List.forall_mem_cons.mpr ⟨lw_p25, List.forall_mem_cons.mpr ⟨lw_p26, List.forall_mem_cons.mpr ⟨lw_p27, List.forall_mem_cons.mpr ⟨lw_p28, List.forall_mem_cons.mpr ⟨lw_p29, List.forall_mem_cons.mpr ⟨lw_p30, List.forall_mem_cons.mpr ⟨lw_p31, fun _ h => absurd h List.not_mem_nil⟩⟩⟩⟩⟩⟩⟩⟩⟩⟩⟩⟩⟩⟩⟩⟩
theorem lw_p32 : lw_okq (⟨"RebornDrivers$Line", "dropHead", "()V"⟩, 2) := ⟨⟨by decide +kernel, by decide +kernel⟩, List.mem_of_getElem? (i := 21) (by decide +kernel), List.mem_of_getElem? (i := 356) (by decide +kernel), List.mem_of_getElem? (i := 357) (by decide +kernel)⟩
theorem lw_p33 : lw_okq (⟨"RebornDrivers", "serveTerminal", "()I"⟩, 14) := ⟨⟨by decide +kernel, by decide +kernel⟩, List.mem_of_getElem? (i := 11) (by decide +kernel), List.mem_of_getElem? (i := 363) (by decide +kernel), List.mem_of_getElem? (i := 364) (by decide +kernel)⟩
theorem lw_p34 : lw_okq (⟨"RebornDrivers$Operation", "fail", "()V"⟩, 6) := ⟨⟨by decide +kernel, by decide +kernel⟩, List.mem_of_getElem? (i := 126) (by decide +kernel), List.mem_of_getElem? (i := 367) (by decide +kernel), List.mem_of_getElem? (i := 368) (by decide +kernel)⟩
theorem lw_p35 : lw_okq (⟨"RebornDrivers", "askToPutOut", "(I)V"⟩, 14) := ⟨⟨by decide +kernel, by decide +kernel⟩, List.mem_of_getElem? (i := 11) (by decide +kernel), List.mem_of_getElem? (i := 371) (by decide +kernel), List.mem_of_getElem? (i := 372) (by decide +kernel)⟩
theorem lw_p36 : lw_okq (⟨"RebornDrivers", "driverOf", "(I)LRebornDrivers$Driver;"⟩, 14) := ⟨⟨by decide +kernel, by decide +kernel⟩, List.mem_of_getElem? (i := 11) (by decide +kernel), List.mem_of_getElem? (i := 382) (by decide +kernel), List.mem_of_getElem? (i := 383) (by decide +kernel)⟩
theorem lw_p37 : lw_okq (⟨"RebornDrivers$Driver", "suffer", "(I)Z"⟩, 6) := ⟨⟨by decide +kernel, by decide +kernel⟩, List.mem_of_getElem? (i := 36) (by decide +kernel), List.mem_of_getElem? (i := 386) (by decide +kernel), List.mem_of_getElem? (i := 387) (by decide +kernel)⟩
theorem lw_p38 : lw_okq (⟨"RebornDrivers$Request", "progress", "()I"⟩, 7) := ⟨⟨by decide +kernel, by decide +kernel⟩, List.mem_of_getElem? (i := 69) (by decide +kernel), List.mem_of_getElem? (i := 422) (by decide +kernel), List.mem_of_getElem? (i := 423) (by decide +kernel)⟩
theorem lw_p39 : lw_okq (⟨"RebornDriversModel", "begin", "(IIII)Z"⟩, 30) := ⟨⟨by decide +kernel, by decide +kernel⟩, List.mem_of_getElem? (i := 434) (by decide +kernel), List.mem_of_getElem? (i := 535) (by decide +kernel), List.mem_of_getElem? (i := 536) (by decide +kernel)⟩
theorem lw_p40 : lw_okq (⟨"RebornDriversModel", "pending", "()I"⟩, 30) := ⟨⟨by decide +kernel, by decide +kernel⟩, List.mem_of_getElem? (i := 434) (by decide +kernel), List.mem_of_getElem? (i := 555) (by decide +kernel), List.mem_of_getElem? (i := 556) (by decide +kernel)⟩
theorem lw_p41 : lw_okq (⟨"RebornDriversModel", "reincarnate", "(I)V"⟩, 30) := ⟨⟨by decide +kernel, by decide +kernel⟩, List.mem_of_getElem? (i := 434) (by decide +kernel), List.mem_of_getElem? (i := 559) (by decide +kernel), List.mem_of_getElem? (i := 560) (by decide +kernel)⟩
theorem lw_p42 : lw_okq (⟨"RebornDriversModel", "step", "(I)V"⟩, 30) := ⟨⟨by decide +kernel, by decide +kernel⟩, List.mem_of_getElem? (i := 434) (by decide +kernel), List.mem_of_getElem? (i := 563) (by decide +kernel), List.mem_of_getElem? (i := 564) (by decide +kernel)⟩
theorem lw_p43 : lw_okq (⟨"RebornDriversModel", "move", "()V"⟩, 30) := ⟨⟨by decide +kernel, by decide +kernel⟩, List.mem_of_getElem? (i := 434) (by decide +kernel), List.mem_of_getElem? (i := 567) (by decide +kernel), List.mem_of_getElem? (i := 568) (by decide +kernel)⟩
theorem lw_p44 : lw_okq (⟨"RebornDriversModel", "show", "()V"⟩, 30) := ⟨⟨by decide +kernel, by decide +kernel⟩, List.mem_of_getElem? (i := 434) (by decide +kernel), List.mem_of_getElem? (i := 571) (by decide +kernel), List.mem_of_getElem? (i := 572) (by decide +kernel)⟩
theorem lw_p45 : lw_okq (⟨"RebornDriversModel", "head", "(I)I"⟩, 30) := ⟨⟨by decide +kernel, by decide +kernel⟩, List.mem_of_getElem? (i := 434) (by decide +kernel), List.mem_of_getElem? (i := 575) (by decide +kernel), List.mem_of_getElem? (i := 576) (by decide +kernel)⟩
theorem lw_p46 : lw_okq (⟨"RebornDriversModel", "stands", "(II)Z"⟩, 30) := ⟨⟨by decide +kernel, by decide +kernel⟩, List.mem_of_getElem? (i := 434) (by decide +kernel), List.mem_of_getElem? (i := 579) (by decide +kernel), List.mem_of_getElem? (i := 580) (by decide +kernel)⟩
theorem lw_p47 : lw_okq (⟨"RebornDriversModel", "serveFiles", "()V"⟩, 30) := ⟨⟨by decide +kernel, by decide +kernel⟩, List.mem_of_getElem? (i := 434) (by decide +kernel), List.mem_of_getElem? (i := 583) (by decide +kernel), List.mem_of_getElem? (i := 584) (by decide +kernel)⟩
def lw_privs_3 : List (MethodName × Nat) := [(⟨"RebornDrivers$Line", "dropHead", "()V"⟩, 2), (⟨"RebornDrivers", "serveTerminal", "()I"⟩, 14), (⟨"RebornDrivers$Operation", "fail", "()V"⟩, 6), (⟨"RebornDrivers", "askToPutOut", "(I)V"⟩, 14), (⟨"RebornDrivers", "driverOf", "(I)LRebornDrivers$Driver;"⟩, 14), (⟨"RebornDrivers$Driver", "suffer", "(I)Z"⟩, 6), (⟨"RebornDrivers$Request", "progress", "()I"⟩, 7), (⟨"RebornDriversModel", "begin", "(IIII)Z"⟩, 30), (⟨"RebornDriversModel", "pending", "()I"⟩, 30), (⟨"RebornDriversModel", "reincarnate", "(I)V"⟩, 30), (⟨"RebornDriversModel", "step", "(I)V"⟩, 30), (⟨"RebornDriversModel", "move", "()V"⟩, 30), (⟨"RebornDriversModel", "show", "()V"⟩, 30), (⟨"RebornDriversModel", "head", "(I)I"⟩, 30), (⟨"RebornDriversModel", "stands", "(II)Z"⟩, 30), (⟨"RebornDriversModel", "serveFiles", "()V"⟩, 30)]
theorem lw_r3 : ∀ q ∈ lw_privs_3, lw_okq q := List.forall_mem_cons.mpr ⟨lw_p32, List.forall_mem_cons.mpr ⟨lw_p33, List.forall_mem_cons.mpr ⟨lw_p34, List.forall_mem_cons.mpr ⟨lw_p35, List.forall_mem_cons.mpr ⟨lw_p36, List.forall_mem_cons.mpr ⟨lw_p37, List.forall_mem_cons.mpr ⟨lw_p38, List.forall_mem_cons.mpr ⟨lw_p39, List.forall_mem_cons.mpr ⟨lw_p40, List.forall_mem_cons.mpr ⟨lw_p41, List.forall_mem_cons.mpr ⟨lw_p42, List.forall_mem_cons.mpr ⟨lw_p43, List.forall_mem_cons.mpr ⟨lw_p44, List.forall_mem_cons.mpr ⟨lw_p45, List.forall_mem_cons.mpr ⟨lw_p46, List.forall_mem_cons.mpr ⟨lw_p47, fun _ h => absurd h List.not_mem_nil⟩⟩⟩⟩⟩⟩⟩⟩⟩⟩⟩⟩⟩⟩⟩⟩
theorem lw_p48 : lw_okq (⟨"RebornDriversModel", "give", "(I)V"⟩, 30) := ⟨⟨by decide +kernel, by decide +kernel⟩, List.mem_of_getElem? (i := 434) (by decide +kernel), List.mem_of_getElem? (i := 587) (by decide +kernel), List.mem_of_getElem? (i := 588) (by decide +kernel)⟩
theorem lw_p49 : lw_okq (⟨"RebornDriversModel", "flush", "(I)V"⟩, 30) := ⟨⟨by decide +kernel, by decide +kernel⟩, List.mem_of_getElem? (i := 434) (by decide +kernel), List.mem_of_getElem? (i := 591) (by decide +kernel), List.mem_of_getElem? (i := 592) (by decide +kernel)⟩
theorem lw_p50 : lw_okq (⟨"RebornDriversModel", "end", "(III)V"⟩, 30) := ⟨⟨by decide +kernel, by decide +kernel⟩, List.mem_of_getElem? (i := 434) (by decide +kernel), List.mem_of_getElem? (i := 595) (by decide +kernel), List.mem_of_getElem? (i := 596) (by decide +kernel)⟩
theorem lw_p51 : lw_okq (⟨"RebornDriversModel", "demand", "(IZI)V"⟩, 30) := ⟨⟨by decide +kernel, by decide +kernel⟩, List.mem_of_getElem? (i := 434) (by decide +kernel), List.mem_of_getElem? (i := 599) (by decide +kernel), List.mem_of_getElem? (i := 600) (by decide +kernel)⟩
theorem lw_p52 : lw_okq (⟨"RebornDriversModel", "access", "(I)V"⟩, 30) := ⟨⟨by decide +kernel, by decide +kernel⟩, List.mem_of_getElem? (i := 434) (by decide +kernel), List.mem_of_getElem? (i := 603) (by decide +kernel), List.mem_of_getElem? (i := 604) (by decide +kernel)⟩
theorem lw_p53 : lw_okq (⟨"RebornDriversModel", "slotWith", "(I)I"⟩, 30) := ⟨⟨by decide +kernel, by decide +kernel⟩, List.mem_of_getElem? (i := 434) (by decide +kernel), List.mem_of_getElem? (i := 607) (by decide +kernel), List.mem_of_getElem? (i := 608) (by decide +kernel)⟩
theorem lw_p54 : lw_okq (⟨"RebornDriversModel", "use", "(I)V"⟩, 30) := ⟨⟨by decide +kernel, by decide +kernel⟩, List.mem_of_getElem? (i := 434) (by decide +kernel), List.mem_of_getElem? (i := 611) (by decide +kernel), List.mem_of_getElem? (i := 612) (by decide +kernel)⟩
theorem lw_p55 : lw_okq (⟨"RebornDriversModel", "fill", "(II)V"⟩, 30) := ⟨⟨by decide +kernel, by decide +kernel⟩, List.mem_of_getElem? (i := 434) (by decide +kernel), List.mem_of_getElem? (i := 615) (by decide +kernel), List.mem_of_getElem? (i := 616) (by decide +kernel)⟩
theorem lw_p56 : lw_okq (⟨"RebornDriversModel", "slotToTake", "()I"⟩, 30) := ⟨⟨by decide +kernel, by decide +kernel⟩, List.mem_of_getElem? (i := 434) (by decide +kernel), List.mem_of_getElem? (i := 619) (by decide +kernel), List.mem_of_getElem? (i := 620) (by decide +kernel)⟩
theorem lw_p57 : lw_okq (⟨"RebornDriversModel", "serveTerminal", "()V"⟩, 30) := ⟨⟨by decide +kernel, by decide +kernel⟩, List.mem_of_getElem? (i := 434) (by decide +kernel), List.mem_of_getElem? (i := 623) (by decide +kernel), List.mem_of_getElem? (i := 624) (by decide +kernel)⟩
def lw_privs_4 : List (MethodName × Nat) := [(⟨"RebornDriversModel", "give", "(I)V"⟩, 30), (⟨"RebornDriversModel", "flush", "(I)V"⟩, 30), (⟨"RebornDriversModel", "end", "(III)V"⟩, 30), (⟨"RebornDriversModel", "demand", "(IZI)V"⟩, 30), (⟨"RebornDriversModel", "access", "(I)V"⟩, 30), (⟨"RebornDriversModel", "slotWith", "(I)I"⟩, 30), (⟨"RebornDriversModel", "use", "(I)V"⟩, 30), (⟨"RebornDriversModel", "fill", "(II)V"⟩, 30), (⟨"RebornDriversModel", "slotToTake", "()I"⟩, 30), (⟨"RebornDriversModel", "serveTerminal", "()V"⟩, 30)]
theorem lw_r4 : ∀ q ∈ lw_privs_4, lw_okq q := List.forall_mem_cons.mpr ⟨lw_p48, List.forall_mem_cons.mpr ⟨lw_p49, List.forall_mem_cons.mpr ⟨lw_p50, List.forall_mem_cons.mpr ⟨lw_p51, List.forall_mem_cons.mpr ⟨lw_p52, List.forall_mem_cons.mpr ⟨lw_p53, List.forall_mem_cons.mpr ⟨lw_p54, List.forall_mem_cons.mpr ⟨lw_p55, List.forall_mem_cons.mpr ⟨lw_p56, List.forall_mem_cons.mpr ⟨lw_p57, fun _ h => absurd h List.not_mem_nil⟩⟩⟩⟩⟩⟩⟩⟩⟩⟩
def lw_privs : List (MethodName × Nat) := lw_privs_1 ++ (lw_privs_2 ++ (lw_privs_3 ++ (lw_privs_4)))
def lw_tbl : List Cond := k2_sels lw_privs ++ tables_1
theorem lw_privs_ok : ∀ q ∈ lw_privs, lw_okq q := by
  show ∀ q ∈ lw_privs_1 ++ (lw_privs_2 ++ (lw_privs_3 ++ (lw_privs_4))), lw_okq q
  exact List.forall_mem_append.mpr ⟨lw_r1, List.forall_mem_append.mpr ⟨lw_r2, List.forall_mem_append.mpr ⟨lw_r3, lw_r4⟩⟩⟩
end
section
/-! names: classes, fields, methods (by my own program) -/
/-- the words of the tables that every call keeps; beside them the links between nest mates -/
def kx_isN : Cond → Bool
  | .fieldLinkNest .. => true
  | .methodLinkNest .. => true
  | _ => false
def kx_tbl : List Cond := lw_tbl.filter goodWord
def kx_nl : List Cond := lw_tbl.filter kx_isN
def R_RD : String := "RebornDrivers"
def F_RD : u_T := fun k => match k with
  | 0 => ("RebornDrivers", "pingPeriod", "I", true)
  | 1 => ("RebornDrivers", "operations", "[LRebornDrivers$Operation;", true)
  | 2 => ("RebornDrivers", "fileLine", "LRebornDrivers$Line;", true)
  | 3 => ("RebornDrivers", "terminalLine", "LRebornDrivers$Line;", true)
  | 4 => ("RebornDrivers", "disk", "LRebornDrivers$Driver;", true)
  | 5 => ("RebornDrivers", "console", "LRebornDrivers$Driver;", true)
  | 6 => ("RebornDrivers", "fileRequest", "LRebornDrivers$Request;", true)
  | 7 => ("RebornDrivers", "terminalRequest", "LRebornDrivers$Request;", true)
  | 8 => ("RebornDrivers", "cache", "LRebornDrivers$Cache;", true)
  | 9 => ("RebornDrivers", "deviceBlocks", "[I", true)
  | 10 => ("RebornDrivers", "putOut", "[I", true)
  | 11 => ("RebornDrivers", "putOutLength", "I", false)
  | 12 => ("RebornDrivers", "buffer", "I", false)
  | _ => ("RebornDrivers", "time", "I", false)
def t_RD : Nat → FieldType := fun k => match k with
  | 0 => .int
  | 1 => .array (.object "RebornDrivers$Operation")
  | 2 => .object "RebornDrivers$Line"
  | 3 => .object "RebornDrivers$Line"
  | 4 => .object "RebornDrivers$Driver"
  | 5 => .object "RebornDrivers$Driver"
  | 6 => .object "RebornDrivers$Request"
  | 7 => .object "RebornDrivers$Request"
  | 8 => .object "RebornDrivers$Cache"
  | 9 => .array .int
  | 10 => .array .int
  | 11 => .int
  | 12 => .int
  | _ => .int
def R_Op : String := "RebornDrivers$Operation"
def F_Op : u_T := fun k => match k with
  | 0 => ("RebornDrivers$Operation", "kind", "I", false)
  | 1 => ("RebornDrivers$Operation", "block", "I", false)
  | 2 => ("RebornDrivers$Operation", "value", "I", false)
  | 3 => ("RebornDrivers$Operation", "writesAsked", "I", false)
  | 4 => ("RebornDrivers$Operation", "state", "I", false)
  | _ => ("RebornDrivers$Operation", "result", "I", false)
def t_Op : Nat → FieldType := fun k => match k with
  | 0 => .int
  | 1 => .int
  | 2 => .int
  | 3 => .int
  | 4 => .int
  | _ => .int
def R_Ln : String := "RebornDrivers$Line"
def F_Ln : u_T := fun k => match k with
  | 0 => ("RebornDrivers$Line", "users", "[I", true)
  | _ => ("RebornDrivers$Line", "length", "I", false)
def t_Ln : Nat → FieldType := fun k => match k with
  | 0 => .array .int
  | _ => .int
def R_Dr : String := "RebornDrivers$Driver"
def F_Dr : u_T := fun k => match k with
  | 0 => ("RebornDrivers$Driver", "endpoint", "I", false)
  | 1 => ("RebornDrivers$Driver", "condition", "I", false)
  | 2 => ("RebornDrivers$Driver", "stage", "I", false)
  | 3 => ("RebornDrivers$Driver", "hasAnswered", "Z", false)
  | 4 => ("RebornDrivers$Driver", "badness", "I", false)
  | _ => ("RebornDrivers$Driver", "refusals", "I", false)
def t_Dr : Nat → FieldType := fun k => match k with
  | 0 => .int
  | 1 => .int
  | 2 => .int
  | 3 => .boolean
  | 4 => .int
  | _ => .int
def R_Rq : String := "RebornDrivers$Request"
def F_Rq : u_T := fun k => match k with
  | 0 => ("RebornDrivers$Request", "kind", "I", false)
  | 1 => ("RebornDrivers$Request", "block", "I", false)
  | 2 => ("RebornDrivers$Request", "slot", "I", false)
  | 3 => ("RebornDrivers$Request", "character", "I", false)
  | 4 => ("RebornDrivers$Request", "given", "Z", false)
  | 5 => ("RebornDrivers$Request", "answered", "Z", false)
  | _ => ("RebornDrivers$Request", "givenTo", "I", false)
def t_Rq : Nat → FieldType := fun k => match k with
  | 0 => .int
  | 1 => .int
  | 2 => .int
  | 3 => .int
  | 4 => .boolean
  | 5 => .boolean
  | _ => .int
def R_Ca : String := "RebornDrivers$Cache"
def F_Ca : u_T := fun k => match k with
  | 0 => ("RebornDrivers$Cache", "blocks", "[I", true)
  | 1 => ("RebornDrivers$Cache", "values", "[I", true)
  | 2 => ("RebornDrivers$Cache", "dirty", "[Z", true)
  | _ => ("RebornDrivers$Cache", "usedAt", "[I", true)
def t_Ca : Nat → FieldType := fun k => match k with
  | 0 => .array .int
  | 1 => .array .int
  | 2 => .array .boolean
  | _ => .array .int
def R_Md : String := "RebornDriversModel"
def F_Md : u_T := fun k => match k with
  | 0 => ("RebornDriversModel", "period", "I", true)
  | 1 => ("RebornDriversModel", "now", "I", false)
  | 2 => ("RebornDriversModel", "begun", "I", false)
  | 3 => ("RebornDriversModel", "kind", "[I", true)
  | 4 => ("RebornDriversModel", "block", "[I", true)
  | 5 => ("RebornDriversModel", "number", "[I", true)
  | 6 => ("RebornDriversModel", "order", "[I", true)
  | 7 => ("RebornDriversModel", "state", "[I", true)
  | 8 => ("RebornDriversModel", "result", "[I", true)
  | 9 => ("RebornDriversModel", "flushes", "[I", true)
  | 10 => ("RebornDriversModel", "device", "[I", true)
  | 11 => ("RebornDriversModel", "output", "[I", true)
  | 12 => ("RebornDriversModel", "put", "I", false)
  | 13 => ("RebornDriversModel", "endpoint", "[I", true)
  | 14 => ("RebornDriversModel", "health", "[I", true)
  | 15 => ("RebornDriversModel", "bad", "[I", true)
  | 16 => ("RebornDriversModel", "stage", "[I", true)
  | 17 => ("RebornDriversModel", "refusals", "[I", true)
  | 18 => ("RebornDriversModel", "silent", "[Z", true)
  | 19 => ("RebornDriversModel", "request", "[I", true)
  | 20 => ("RebornDriversModel", "given", "[I", true)
  | 21 => ("RebornDriversModel", "slotOf", "I", false)
  | 22 => ("RebornDriversModel", "bringing", "Z", false)
  | 23 => ("RebornDriversModel", "wanted", "I", false)
  | 24 => ("RebornDriversModel", "buffer", "I", false)
  | 25 => ("RebornDriversModel", "held", "[I", true)
  | 26 => ("RebornDriversModel", "value", "[I", true)
  | 27 => ("RebornDriversModel", "dirty", "[Z", true)
  | 28 => ("RebornDriversModel", "used", "[I", true)
  | _ => ("RebornDriversModel", "uses", "I", false)
def t_Md : Nat → FieldType := fun k => match k with
  | 0 => .int
  | 1 => .int
  | 2 => .int
  | 3 => .array .int
  | 4 => .array .int
  | 5 => .array .int
  | 6 => .array .int
  | 7 => .array .int
  | 8 => .array .int
  | 9 => .array .int
  | 10 => .array .int
  | 11 => .array .int
  | 12 => .int
  | 13 => .array .int
  | 14 => .array .int
  | 15 => .array .int
  | 16 => .array .int
  | 17 => .array .int
  | 18 => .array .boolean
  | 19 => .array .int
  | 20 => .array .int
  | 21 => .int
  | 22 => .boolean
  | 23 => .int
  | 24 => .int
  | 25 => .array .int
  | 26 => .array .int
  | 27 => .array .boolean
  | 28 => .array .int
  | _ => .int
abbrev classes : List vw_C := [(R_RD, F_RD, 14), (R_Op, F_Op, 6), (R_Ln, F_Ln, 2), (R_Dr, F_Dr, 6), (R_Rq, F_Rq, 7), (R_Ca, F_Ca, 4), (R_Md, F_Md, 30)]
abbrev b_RD_init : ByteArray := prog_1_method_1_code
def y_RD_init : MethodName := ⟨"RebornDrivers", "<init>", "(I)V"⟩
abbrev b_Ln_init : ByteArray := prog_4_method_1_code
def y_Ln_init : MethodName := ⟨"RebornDrivers$Line", "<init>", "()V"⟩
abbrev b_Dr_init : ByteArray := prog_3_method_1_code
def y_Dr_init : MethodName := ⟨"RebornDrivers$Driver", "<init>", "()V"⟩
abbrev b_Rq_init : ByteArray := prog_6_method_1_code
def y_Rq_init : MethodName := ⟨"RebornDrivers$Request", "<init>", "()V"⟩
abbrev b_Ca_init : ByteArray := prog_2_method_1_code
def y_Ca_init : MethodName := ⟨"RebornDrivers$Cache", "<init>", "()V"⟩
abbrev b_Ar_fill : ByteArray := prog_10_method_103_code
def y_Ar_fill : MethodName := ⟨"java/util/Arrays", "fill", "([II)V"⟩
abbrev b_Op_init : ByteArray := prog_5_method_1_code
def y_Op_init : MethodName := ⟨"RebornDrivers$Operation", "<init>", "()V"⟩
abbrev b_RD_read : ByteArray := prog_1_method_2_code
def y_RD_read : MethodName := ⟨"RebornDrivers", "read", "(II)Z"⟩
abbrev b_RD_isFree : ByteArray := prog_1_method_20_code
def y_RD_isFree : MethodName := ⟨"RebornDrivers", "isFree", "(I)Z"⟩
abbrev b_RD_isUser : ByteArray := prog_1_method_17_code
def y_RD_isUser : MethodName := ⟨"RebornDrivers", "isUser", "(I)Z"⟩
abbrev b_RD_isBlock : ByteArray := prog_1_method_18_code
def y_RD_isBlock : MethodName := ⟨"RebornDrivers", "isBlock", "(I)Z"⟩
abbrev b_Op_begin : ByteArray := prog_5_method_2_code
def y_Op_begin : MethodName := ⟨"RebornDrivers$Operation", "begin", "(III)V"⟩
abbrev b_Ln_join : ByteArray := prog_4_method_4_code
def y_Ln_join : MethodName := ⟨"RebornDrivers$Line", "join", "(I)V"⟩
abbrev b_RD_write : ByteArray := prog_1_method_3_code
def y_RD_write : MethodName := ⟨"RebornDrivers", "write", "(III)Z"⟩
abbrev b_RD_sync : ByteArray := prog_1_method_4_code
def y_RD_sync : MethodName := ⟨"RebornDrivers", "sync", "(I)Z"⟩
abbrev b_RD_print : ByteArray := prog_1_method_5_code
def y_RD_print : MethodName := ⟨"RebornDrivers", "print", "(II)Z"⟩
abbrev b_RD_tick : ByteArray := prog_1_method_6_code
def y_RD_tick : MethodName := ⟨"RebornDrivers", "tick", "()I"⟩
abbrev b_Dr_beWatched : ByteArray := prog_3_method_4_code
def y_Dr_beWatched : MethodName := ⟨"RebornDrivers$Driver", "beWatched", "(Z)V"⟩
abbrev b_Dr_restart : ByteArray := prog_3_method_5_code
def y_Dr_restart : MethodName := ⟨"RebornDrivers$Driver", "restart", "()V"⟩
abbrev b_RD_stepDisk : ByteArray := prog_1_method_22_code
def y_RD_stepDisk : MethodName := ⟨"RebornDrivers", "stepDisk", "()V"⟩
abbrev b_Dr_takeStep : ByteArray := prog_3_method_6_code
def y_Dr_takeStep : MethodName := ⟨"RebornDrivers$Driver", "takeStep", "()I"⟩
abbrev b_Dr_beRefused : ByteArray := prog_3_method_7_code
def y_Dr_beRefused : MethodName := ⟨"RebornDrivers$Driver", "beRefused", "()V"⟩
abbrev b_Dr_die : ByteArray := prog_3_method_3_code
def y_Dr_die : MethodName := ⟨"RebornDrivers$Driver", "die", "()V"⟩
abbrev b_RD_moveBlock : ByteArray := prog_1_method_23_code
def y_RD_moveBlock : MethodName := ⟨"RebornDrivers", "moveBlock", "()V"⟩
abbrev b_RD_stepConsole : ByteArray := prog_1_method_24_code
def y_RD_stepConsole : MethodName := ⟨"RebornDrivers", "stepConsole", "()V"⟩
abbrev b_RD_putOutCharacter : ByteArray := prog_1_method_25_code
def y_RD_putOutCharacter : MethodName := ⟨"RebornDrivers", "putOutCharacter", "(I)V"⟩
abbrev b_RD_serveFiles : ByteArray := prog_1_method_26_code
def y_RD_serveFiles : MethodName := ⟨"RebornDrivers", "serveFiles", "()I"⟩
abbrev b_Rq_isOpen : ByteArray := prog_6_method_2_code
def y_Rq_isOpen : MethodName := ⟨"RebornDrivers$Request", "isOpen", "()Z"⟩
abbrev b_Rq_wasGivenElsewhere : ByteArray := prog_6_method_5_code
def y_Rq_wasGivenElsewhere : MethodName := ⟨"RebornDrivers$Request", "wasGivenElsewhere", "(LRebornDrivers$Driver;)Z"⟩
abbrev b_Rq_giveTo : ByteArray := prog_6_method_6_code
def y_Rq_giveTo : MethodName := ⟨"RebornDrivers$Request", "giveTo", "(LRebornDrivers$Driver;)V"⟩
abbrev b_RD_takeDiskAnswer : ByteArray := prog_1_method_27_code
def y_RD_takeDiskAnswer : MethodName := ⟨"RebornDrivers", "takeDiskAnswer", "()V"⟩
abbrev b_Ca_hold : ByteArray := prog_2_method_5_code
def y_Ca_hold : MethodName := ⟨"RebornDrivers$Cache", "hold", "(IIIZ)V"⟩
abbrev b_Rq_close : ByteArray := prog_6_method_4_code
def y_Rq_close : MethodName := ⟨"RebornDrivers$Request", "close", "()V"⟩
abbrev b_Ln_isEmpty : ByteArray := prog_4_method_2_code
def y_Ln_isEmpty : MethodName := ⟨"RebornDrivers$Line", "isEmpty", "()Z"⟩
abbrev b_Ln_head : ByteArray := prog_4_method_3_code
def y_Ln_head : MethodName := ⟨"RebornDrivers$Line", "head", "()I"⟩
abbrev b_RD_goOnWith : ByteArray := prog_1_method_28_code
def y_RD_goOnWith : MethodName := ⟨"RebornDrivers", "goOnWith", "(LRebornDrivers$Operation;)Z"⟩
abbrev b_RD_goOnWithSync : ByteArray := prog_1_method_30_code
def y_RD_goOnWithSync : MethodName := ⟨"RebornDrivers", "goOnWithSync", "(LRebornDrivers$Operation;)Z"⟩
abbrev b_Ca_dirtySlotOfLowestBlock : ByteArray := prog_2_method_4_code
def y_Ca_dirtySlotOfLowestBlock : MethodName := ⟨"RebornDrivers$Cache", "dirtySlotOfLowestBlock", "()I"⟩
abbrev b_Op_finish : ByteArray := prog_5_method_3_code
def y_Op_finish : MethodName := ⟨"RebornDrivers$Operation", "finish", "(I)V"⟩
abbrev b_RD_askToWriteOut : ByteArray := prog_1_method_31_code
def y_RD_askToWriteOut : MethodName := ⟨"RebornDrivers", "askToWriteOut", "(I)V"⟩
abbrev b_Rq_open : ByteArray := prog_6_method_3_code
def y_Rq_open : MethodName := ⟨"RebornDrivers$Request", "open", "(I)V"⟩
abbrev b_Ca_find : ByteArray := prog_2_method_2_code
def y_Ca_find : MethodName := ⟨"RebornDrivers$Cache", "find", "(I)I"⟩
abbrev b_RD_makeRoomFor : ByteArray := prog_1_method_29_code
def y_RD_makeRoomFor : MethodName := ⟨"RebornDrivers", "makeRoomFor", "(LRebornDrivers$Operation;)Z"⟩
abbrev b_Ca_slotToFill : ByteArray := prog_2_method_3_code
def y_Ca_slotToFill : MethodName := ⟨"RebornDrivers$Cache", "slotToFill", "()I"⟩
abbrev b_Ca_empty : ByteArray := prog_2_method_6_code
def y_Ca_empty : MethodName := ⟨"RebornDrivers$Cache", "empty", "(I)V"⟩
abbrev b_RD_askToReadIn : ByteArray := prog_1_method_32_code
def y_RD_askToReadIn : MethodName := ⟨"RebornDrivers", "askToReadIn", "(II)V"⟩
abbrev b_Ln_dropHead : ByteArray := prog_4_method_5_code
def y_Ln_dropHead : MethodName := ⟨"RebornDrivers$Line", "dropHead", "()V"⟩
abbrev b_RD_serveTerminal : ByteArray := prog_1_method_33_code
def y_RD_serveTerminal : MethodName := ⟨"RebornDrivers", "serveTerminal", "()I"⟩
abbrev b_Op_fail : ByteArray := prog_5_method_4_code
def y_Op_fail : MethodName := ⟨"RebornDrivers$Operation", "fail", "()V"⟩
abbrev b_RD_askToPutOut : ByteArray := prog_1_method_34_code
def y_RD_askToPutOut : MethodName := ⟨"RebornDrivers", "askToPutOut", "(I)V"⟩
abbrev b_RD_fault : ByteArray := prog_1_method_7_code
def y_RD_fault : MethodName := ⟨"RebornDrivers", "fault", "(II)Z"⟩
abbrev b_RD_isDriver : ByteArray := prog_1_method_19_code
def y_RD_isDriver : MethodName := ⟨"RebornDrivers", "isDriver", "(I)Z"⟩
abbrev b_RD_driverOf : ByteArray := prog_1_method_21_code
def y_RD_driverOf : MethodName := ⟨"RebornDrivers", "driverOf", "(I)LRebornDrivers$Driver;"⟩
abbrev b_Dr_suffer : ByteArray := prog_3_method_2_code
def y_Dr_suffer : MethodName := ⟨"RebornDrivers$Driver", "suffer", "(I)Z"⟩
abbrev b_RD_state : ByteArray := prog_1_method_8_code
def y_RD_state : MethodName := ⟨"RebornDrivers", "state", "(I)I"⟩
abbrev b_RD_result : ByteArray := prog_1_method_9_code
def y_RD_result : MethodName := ⟨"RebornDrivers", "result", "(I)I"⟩
abbrev b_RD_line : ByteArray := prog_1_method_10_code
def y_RD_line : MethodName := ⟨"RebornDrivers", "line", "(I)I"⟩
abbrev b_RD_device : ByteArray := prog_1_method_11_code
def y_RD_device : MethodName := ⟨"RebornDrivers", "device", "(I)I"⟩
abbrev b_RD_slot : ByteArray := prog_1_method_12_code
def y_RD_slot : MethodName := ⟨"RebornDrivers", "slot", "(II)I"⟩
abbrev b_RD_output : ByteArray := prog_1_method_13_code
def y_RD_output : MethodName := ⟨"RebornDrivers", "output", "(I)I"⟩
abbrev b_RD_driver : ByteArray := prog_1_method_14_code
def y_RD_driver : MethodName := ⟨"RebornDrivers", "driver", "(II)I"⟩
abbrev b_RD_request : ByteArray := prog_1_method_15_code
def y_RD_request : MethodName := ⟨"RebornDrivers", "request", "(I)I"⟩
abbrev b_Rq_progress : ByteArray := prog_6_method_7_code
def y_Rq_progress : MethodName := ⟨"RebornDrivers$Request", "progress", "()I"⟩
abbrev b_RD_now : ByteArray := prog_1_method_16_code
def y_RD_now : MethodName := ⟨"RebornDrivers", "now", "()I"⟩
abbrev b_Lw_cell : ByteArray := method_2_code
def y_Lw_cell : MethodName := ⟨"RebornDriversLaw", "cell", "([II)I"⟩
abbrev b_Md_init : ByteArray := prog_8_method_1_code
def y_Md_init : MethodName := ⟨"RebornDriversModel", "<init>", "(I)V"⟩
abbrev b_Md_read : ByteArray := prog_8_method_3_code
def y_Md_read : MethodName := ⟨"RebornDriversModel", "read", "(II)Z"⟩
abbrev b_Md_begin : ByteArray := prog_8_method_2_code
def y_Md_begin : MethodName := ⟨"RebornDriversModel", "begin", "(IIII)Z"⟩
abbrev b_Md_write : ByteArray := prog_8_method_4_code
def y_Md_write : MethodName := ⟨"RebornDriversModel", "write", "(III)Z"⟩
abbrev b_Md_sync : ByteArray := prog_8_method_5_code
def y_Md_sync : MethodName := ⟨"RebornDriversModel", "sync", "(I)Z"⟩
abbrev b_Md_print : ByteArray := prog_8_method_6_code
def y_Md_print : MethodName := ⟨"RebornDriversModel", "print", "(II)Z"⟩
abbrev b_Md_tick : ByteArray := prog_8_method_25_code
def y_Md_tick : MethodName := ⟨"RebornDriversModel", "tick", "()I"⟩
abbrev b_Md_pending : ByteArray := prog_8_method_10_code
def y_Md_pending : MethodName := ⟨"RebornDriversModel", "pending", "()I"⟩
abbrev b_Md_reincarnate : ByteArray := prog_8_method_11_code
def y_Md_reincarnate : MethodName := ⟨"RebornDriversModel", "reincarnate", "(I)V"⟩
abbrev b_Md_step : ByteArray := prog_8_method_12_code
def y_Md_step : MethodName := ⟨"RebornDriversModel", "step", "(I)V"⟩
abbrev b_Md_move : ByteArray := prog_8_method_13_code
def y_Md_move : MethodName := ⟨"RebornDriversModel", "move", "()V"⟩
abbrev b_Md_show : ByteArray := prog_8_method_14_code
def y_Md_show : MethodName := ⟨"RebornDriversModel", "show", "()V"⟩
abbrev b_Md_head : ByteArray := prog_8_method_8_code
def y_Md_head : MethodName := ⟨"RebornDriversModel", "head", "(I)I"⟩
abbrev b_Md_stands : ByteArray := prog_8_method_7_code
def y_Md_stands : MethodName := ⟨"RebornDriversModel", "stands", "(II)Z"⟩
abbrev b_Md_serveFiles : ByteArray := prog_8_method_23_code
def y_Md_serveFiles : MethodName := ⟨"RebornDriversModel", "serveFiles", "()V"⟩
abbrev b_Md_give : ByteArray := prog_8_method_15_code
def y_Md_give : MethodName := ⟨"RebornDriversModel", "give", "(I)V"⟩
abbrev b_Md_flush : ByteArray := prog_8_method_22_code
def y_Md_flush : MethodName := ⟨"RebornDriversModel", "flush", "(I)V"⟩
abbrev b_Md_end : ByteArray := prog_8_method_9_code
def y_Md_end : MethodName := ⟨"RebornDriversModel", "end", "(III)V"⟩
abbrev b_Md_demand : ByteArray := prog_8_method_16_code
def y_Md_demand : MethodName := ⟨"RebornDriversModel", "demand", "(IZI)V"⟩
abbrev b_Md_access : ByteArray := prog_8_method_21_code
def y_Md_access : MethodName := ⟨"RebornDriversModel", "access", "(I)V"⟩
abbrev b_Md_slotWith : ByteArray := prog_8_method_17_code
def y_Md_slotWith : MethodName := ⟨"RebornDriversModel", "slotWith", "(I)I"⟩
abbrev b_Md_use : ByteArray := prog_8_method_19_code
def y_Md_use : MethodName := ⟨"RebornDriversModel", "use", "(I)V"⟩
abbrev b_Md_fill : ByteArray := prog_8_method_20_code
def y_Md_fill : MethodName := ⟨"RebornDriversModel", "fill", "(II)V"⟩
abbrev b_Md_slotToTake : ByteArray := prog_8_method_18_code
def y_Md_slotToTake : MethodName := ⟨"RebornDriversModel", "slotToTake", "()I"⟩
abbrev b_Md_serveTerminal : ByteArray := prog_8_method_24_code
def y_Md_serveTerminal : MethodName := ⟨"RebornDriversModel", "serveTerminal", "()V"⟩
abbrev b_Md_fault : ByteArray := prog_8_method_26_code
def y_Md_fault : MethodName := ⟨"RebornDriversModel", "fault", "(II)Z"⟩
abbrev b_Md_state : ByteArray := prog_8_method_27_code
def y_Md_state : MethodName := ⟨"RebornDriversModel", "state", "(I)I"⟩
abbrev b_Md_result : ByteArray := prog_8_method_28_code
def y_Md_result : MethodName := ⟨"RebornDriversModel", "result", "(I)I"⟩
abbrev b_Md_line : ByteArray := prog_8_method_29_code
def y_Md_line : MethodName := ⟨"RebornDriversModel", "line", "(I)I"⟩
abbrev b_Md_device : ByteArray := prog_8_method_30_code
def y_Md_device : MethodName := ⟨"RebornDriversModel", "device", "(I)I"⟩
abbrev b_Md_slot : ByteArray := prog_8_method_31_code
def y_Md_slot : MethodName := ⟨"RebornDriversModel", "slot", "(II)I"⟩
abbrev b_Md_output : ByteArray := prog_8_method_32_code
def y_Md_output : MethodName := ⟨"RebornDriversModel", "output", "(I)I"⟩
abbrev b_Md_driver : ByteArray := prog_8_method_33_code
def y_Md_driver : MethodName := ⟨"RebornDriversModel", "driver", "(II)I"⟩
abbrev b_Md_request : ByteArray := prog_8_method_34_code
def y_Md_request : MethodName := ⟨"RebornDriversModel", "request", "(I)I"⟩
abbrev b_Md_now : ByteArray := prog_8_method_35_code
def y_Md_now : MethodName := ⟨"RebornDriversModel", "now", "()I"⟩
theorem n_RD : ∀ a, a < 14 → ∀ b, b < 14 → a ≠ b → (F_RD a).2.1 ≠ (F_RD b).2.1 := by decide +kernel
theorem t_RD_ok : ∀ k, k < 14 → parseFieldDescriptor (F_RD k).2.2.1 = some (t_RD k) := by decide +kernel
set_option maxRecDepth 20000 in
theorem in_RD : ∀ w ∈ u_ws R_RD F_RD 14, w ∈ kx_tbl := by decide +kernel
theorem n_Op : ∀ a, a < 6 → ∀ b, b < 6 → a ≠ b → (F_Op a).2.1 ≠ (F_Op b).2.1 := by decide +kernel
theorem t_Op_ok : ∀ k, k < 6 → parseFieldDescriptor (F_Op k).2.2.1 = some (t_Op k) := by decide +kernel
set_option maxRecDepth 20000 in
theorem in_Op : ∀ w ∈ u_ws R_Op F_Op 6, w ∈ kx_tbl := by decide +kernel
theorem n_Ln : ∀ a, a < 2 → ∀ b, b < 2 → a ≠ b → (F_Ln a).2.1 ≠ (F_Ln b).2.1 := by decide +kernel
theorem t_Ln_ok : ∀ k, k < 2 → parseFieldDescriptor (F_Ln k).2.2.1 = some (t_Ln k) := by decide +kernel
set_option maxRecDepth 20000 in
theorem in_Ln : ∀ w ∈ u_ws R_Ln F_Ln 2, w ∈ kx_tbl := by decide +kernel
theorem n_Dr : ∀ a, a < 6 → ∀ b, b < 6 → a ≠ b → (F_Dr a).2.1 ≠ (F_Dr b).2.1 := by decide +kernel
theorem t_Dr_ok : ∀ k, k < 6 → parseFieldDescriptor (F_Dr k).2.2.1 = some (t_Dr k) := by decide +kernel
set_option maxRecDepth 20000 in
theorem in_Dr : ∀ w ∈ u_ws R_Dr F_Dr 6, w ∈ kx_tbl := by decide +kernel
theorem n_Rq : ∀ a, a < 7 → ∀ b, b < 7 → a ≠ b → (F_Rq a).2.1 ≠ (F_Rq b).2.1 := by decide +kernel
theorem t_Rq_ok : ∀ k, k < 7 → parseFieldDescriptor (F_Rq k).2.2.1 = some (t_Rq k) := by decide +kernel
set_option maxRecDepth 20000 in
theorem in_Rq : ∀ w ∈ u_ws R_Rq F_Rq 7, w ∈ kx_tbl := by decide +kernel
theorem n_Ca : ∀ a, a < 4 → ∀ b, b < 4 → a ≠ b → (F_Ca a).2.1 ≠ (F_Ca b).2.1 := by decide +kernel
theorem t_Ca_ok : ∀ k, k < 4 → parseFieldDescriptor (F_Ca k).2.2.1 = some (t_Ca k) := by decide +kernel
set_option maxRecDepth 20000 in
theorem in_Ca : ∀ w ∈ u_ws R_Ca F_Ca 4, w ∈ kx_tbl := by decide +kernel
theorem n_Md : ∀ a, a < 30 → ∀ b, b < 30 → a ≠ b → (F_Md a).2.1 ≠ (F_Md b).2.1 := by decide +kernel
theorem t_Md_ok : ∀ k, k < 30 → parseFieldDescriptor (F_Md k).2.2.1 = some (t_Md k) := by decide +kernel
set_option maxRecDepth 20000 in
theorem in_Md : ∀ w ∈ u_ws R_Md F_Md 30, w ∈ kx_tbl := by decide +kernel
theorem kx_tbl_good : ∀ w ∈ kx_tbl, (w.onTables && w.keeps) = true ∨ ∃ ty, w = .arrayClass ty := fun w h => good_of_word (List.mem_filter.mp h).2
end
section
theorem d_Ln_init_0 : decode b_Ln_init 0 = .ok (.aload_n 0, 1) := by decide +kernel
theorem d_Ln_init_1 : decode b_Ln_init 1 = .ok (.invokespecial 3, 3) := by decide +kernel
theorem d_Ln_init_4 : decode b_Ln_init 4 = .ok (.aload_n 0, 1) := by decide +kernel
theorem d_Ln_init_5 : decode b_Ln_init 5 = .ok (.iconst 4, 1) := by decide +kernel
theorem d_Ln_init_6 : decode b_Ln_init 6 = .ok (.newarray .int, 2) := by decide +kernel
theorem d_Ln_init_8 : decode b_Ln_init 8 = .ok (.putfield 9, 3) := by decide +kernel
theorem d_Ln_init_11 : decode b_Ln_init 11 = .ok (.return_, 1) := by decide +kernel
theorem d_Dr_init_0 : decode b_Dr_init 0 = .ok (.aload_n 0, 1) := by decide +kernel
theorem d_Dr_init_1 : decode b_Dr_init 1 = .ok (.invokespecial 3, 3) := by decide +kernel
theorem d_Dr_init_4 : decode b_Dr_init 4 = .ok (.aload_n 0, 1) := by decide +kernel
theorem d_Dr_init_5 : decode b_Dr_init 5 = .ok (.iconst 0, 1) := by decide +kernel
theorem d_Dr_init_6 : decode b_Dr_init 6 = .ok (.putfield 11, 3) := by decide +kernel
theorem d_Dr_init_9 : decode b_Dr_init 9 = .ok (.aload_n 0, 1) := by decide +kernel
theorem d_Dr_init_10 : decode b_Dr_init 10 = .ok (.iconst (-1), 1) := by decide +kernel
theorem d_Dr_init_11 : decode b_Dr_init 11 = .ok (.putfield 15, 3) := by decide +kernel
theorem d_Dr_init_14 : decode b_Dr_init 14 = .ok (.aload_n 0, 1) := by decide +kernel
theorem d_Dr_init_15 : decode b_Dr_init 15 = .ok (.iconst 1, 1) := by decide +kernel
theorem d_Dr_init_16 : decode b_Dr_init 16 = .ok (.putfield 18, 3) := by decide +kernel
theorem d_Dr_init_19 : decode b_Dr_init 19 = .ok (.aload_n 0, 1) := by decide +kernel
theorem d_Dr_init_20 : decode b_Dr_init 20 = .ok (.iconst 0, 1) := by decide +kernel
theorem d_Dr_init_21 : decode b_Dr_init 21 = .ok (.putfield 22, 3) := by decide +kernel
theorem d_Dr_init_24 : decode b_Dr_init 24 = .ok (.return_, 1) := by decide +kernel
theorem d_Rq_init_0 : decode b_Rq_init 0 = .ok (.aload_n 0, 1) := by decide +kernel
theorem d_Rq_init_1 : decode b_Rq_init 1 = .ok (.invokespecial 1, 3) := by decide +kernel
theorem d_Rq_init_4 : decode b_Rq_init 4 = .ok (.aload_n 0, 1) := by decide +kernel
theorem d_Rq_init_5 : decode b_Rq_init 5 = .ok (.iconst 0, 1) := by decide +kernel
theorem d_Rq_init_6 : decode b_Rq_init 6 = .ok (.putfield 9, 3) := by decide +kernel
theorem d_Rq_init_9 : decode b_Rq_init 9 = .ok (.return_, 1) := by decide +kernel
theorem d_Ca_init_0 : decode b_Ca_init 0 = .ok (.aload_n 0, 1) := by decide +kernel
theorem d_Ca_init_1 : decode b_Ca_init 1 = .ok (.invokespecial 3, 3) := by decide +kernel
theorem d_Ca_init_4 : decode b_Ca_init 4 = .ok (.aload_n 0, 1) := by decide +kernel
theorem d_Ca_init_5 : decode b_Ca_init 5 = .ok (.iconst 3, 1) := by decide +kernel
theorem d_Ca_init_6 : decode b_Ca_init 6 = .ok (.newarray .int, 2) := by decide +kernel
theorem d_Ca_init_8 : decode b_Ca_init 8 = .ok (.putfield 9, 3) := by decide +kernel
theorem d_Ca_init_11 : decode b_Ca_init 11 = .ok (.aload_n 0, 1) := by decide +kernel
theorem d_Ca_init_12 : decode b_Ca_init 12 = .ok (.iconst 3, 1) := by decide +kernel
theorem d_Ca_init_13 : decode b_Ca_init 13 = .ok (.newarray .int, 2) := by decide +kernel
theorem d_Ca_init_15 : decode b_Ca_init 15 = .ok (.putfield 15, 3) := by decide +kernel
theorem d_Ca_init_18 : decode b_Ca_init 18 = .ok (.aload_n 0, 1) := by decide +kernel
theorem d_Ca_init_19 : decode b_Ca_init 19 = .ok (.iconst 3, 1) := by decide +kernel
theorem d_Ca_init_20 : decode b_Ca_init 20 = .ok (.newarray .boolean, 2) := by decide +kernel
theorem d_Ca_init_22 : decode b_Ca_init 22 = .ok (.putfield 18, 3) := by decide +kernel
theorem d_Ca_init_25 : decode b_Ca_init 25 = .ok (.aload_n 0, 1) := by decide +kernel
theorem d_Ca_init_26 : decode b_Ca_init 26 = .ok (.iconst 3, 1) := by decide +kernel
theorem d_Ca_init_27 : decode b_Ca_init 27 = .ok (.newarray .int, 2) := by decide +kernel
theorem d_Ca_init_29 : decode b_Ca_init 29 = .ok (.putfield 22, 3) := by decide +kernel
theorem d_Ca_init_32 : decode b_Ca_init 32 = .ok (.aload_n 0, 1) := by decide +kernel
theorem d_Ca_init_33 : decode b_Ca_init 33 = .ok (.getfield 9, 3) := by decide +kernel
theorem d_Ca_init_36 : decode b_Ca_init 36 = .ok (.iconst (-1), 1) := by decide +kernel
theorem d_Ca_init_37 : decode b_Ca_init 37 = .ok (.invokestatic 25, 3) := by decide +kernel
theorem d_Ca_init_40 : decode b_Ca_init 40 = .ok (.return_, 1) := by decide +kernel
theorem d_Ar_fill_0 : decode b_Ar_fill 0 = .ok (.iconst 0, 1) := by decide +kernel
theorem d_Ar_fill_1 : decode b_Ar_fill 1 = .ok (.istore_n 2, 1) := by decide +kernel
theorem d_Ar_fill_2 : decode b_Ar_fill 2 = .ok (.aload_n 0, 1) := by decide +kernel
theorem d_Ar_fill_3 : decode b_Ar_fill 3 = .ok (.arraylength, 1) := by decide +kernel
theorem d_Ar_fill_4 : decode b_Ar_fill 4 = .ok (.istore_n 3, 1) := by decide +kernel
theorem d_Ar_fill_5 : decode b_Ar_fill 5 = .ok (.iload_n 2, 1) := by decide +kernel
theorem d_Ar_fill_6 : decode b_Ar_fill 6 = .ok (.iload_n 3, 1) := by decide +kernel
theorem d_Ar_fill_7 : decode b_Ar_fill 7 = .ok (.if_icmp .ge 13, 3) := by decide +kernel
theorem d_Ar_fill_10 : decode b_Ar_fill 10 = .ok (.aload_n 0, 1) := by decide +kernel
theorem d_Ar_fill_11 : decode b_Ar_fill 11 = .ok (.iload_n 2, 1) := by decide +kernel
theorem d_Ar_fill_12 : decode b_Ar_fill 12 = .ok (.iload_n 1, 1) := by decide +kernel
theorem d_Ar_fill_13 : decode b_Ar_fill 13 = .ok (.iastore, 1) := by decide +kernel
theorem d_Ar_fill_14 : decode b_Ar_fill 14 = .ok (.iinc 2 1, 3) := by decide +kernel
theorem d_Ar_fill_17 : decode b_Ar_fill 17 = .ok (.goto (-12), 3) := by decide +kernel
theorem d_Ar_fill_20 : decode b_Ar_fill 20 = .ok (.return_, 1) := by decide +kernel
theorem d_Op_init_0 : decode b_Op_init 0 = .ok (.aload_n 0, 1) := by decide +kernel
theorem d_Op_init_1 : decode b_Op_init 1 = .ok (.invokespecial 1, 3) := by decide +kernel
theorem d_Op_init_4 : decode b_Op_init 4 = .ok (.return_, 1) := by decide +kernel
theorem d_Op_begin_0 : decode b_Op_begin 0 = .ok (.aload_n 0, 1) := by decide +kernel
theorem d_Op_begin_1 : decode b_Op_begin 1 = .ok (.iload_n 1, 1) := by decide +kernel
theorem d_Op_begin_2 : decode b_Op_begin 2 = .ok (.putfield 7, 3) := by decide +kernel
theorem d_Op_begin_5 : decode b_Op_begin 5 = .ok (.aload_n 0, 1) := by decide +kernel
theorem d_Op_begin_6 : decode b_Op_begin 6 = .ok (.iload_n 2, 1) := by decide +kernel
theorem d_Op_begin_7 : decode b_Op_begin 7 = .ok (.putfield 13, 3) := by decide +kernel
theorem d_Op_begin_10 : decode b_Op_begin 10 = .ok (.aload_n 0, 1) := by decide +kernel
theorem d_Op_begin_11 : decode b_Op_begin 11 = .ok (.iload_n 3, 1) := by decide +kernel
theorem d_Op_begin_12 : decode b_Op_begin 12 = .ok (.putfield 16, 3) := by decide +kernel
theorem d_Op_begin_15 : decode b_Op_begin 15 = .ok (.aload_n 0, 1) := by decide +kernel
theorem d_Op_begin_16 : decode b_Op_begin 16 = .ok (.iconst 0, 1) := by decide +kernel
theorem d_Op_begin_17 : decode b_Op_begin 17 = .ok (.putfield 19, 3) := by decide +kernel
theorem d_Op_begin_20 : decode b_Op_begin 20 = .ok (.aload_n 0, 1) := by decide +kernel
theorem d_Op_begin_21 : decode b_Op_begin 21 = .ok (.iconst 1, 1) := by decide +kernel
theorem d_Op_begin_22 : decode b_Op_begin 22 = .ok (.putfield 22, 3) := by decide +kernel
theorem d_Op_begin_25 : decode b_Op_begin 25 = .ok (.aload_n 0, 1) := by decide +kernel
theorem d_Op_begin_26 : decode b_Op_begin 26 = .ok (.iconst 0, 1) := by decide +kernel
theorem d_Op_begin_27 : decode b_Op_begin 27 = .ok (.putfield 25, 3) := by decide +kernel
theorem d_Op_begin_30 : decode b_Op_begin 30 = .ok (.return_, 1) := by decide +kernel
theorem d_Ln_join_0 : decode b_Ln_join 0 = .ok (.aload_n 0, 1) := by decide +kernel
theorem d_Ln_join_1 : decode b_Ln_join 1 = .ok (.getfield 15, 3) := by decide +kernel
theorem d_Ln_join_4 : decode b_Ln_join 4 = .ok (.iconst 4, 1) := by decide +kernel
theorem d_Ln_join_5 : decode b_Ln_join 5 = .ok (.if_icmp .ge 23, 3) := by decide +kernel
theorem d_Ln_join_8 : decode b_Ln_join 8 = .ok (.aload_n 0, 1) := by decide +kernel
theorem d_Ln_join_9 : decode b_Ln_join 9 = .ok (.getfield 9, 3) := by decide +kernel
theorem d_Ln_join_12 : decode b_Ln_join 12 = .ok (.aload_n 0, 1) := by decide +kernel
theorem d_Ln_join_13 : decode b_Ln_join 13 = .ok (.getfield 15, 3) := by decide +kernel
theorem d_Ln_join_16 : decode b_Ln_join 16 = .ok (.iload_n 1, 1) := by decide +kernel
theorem d_Ln_join_17 : decode b_Ln_join 17 = .ok (.iastore, 1) := by decide +kernel
theorem d_Ln_join_18 : decode b_Ln_join 18 = .ok (.aload_n 0, 1) := by decide +kernel
theorem d_Ln_join_19 : decode b_Ln_join 19 = .ok (.dup, 1) := by decide +kernel
theorem d_Ln_join_20 : decode b_Ln_join 20 = .ok (.getfield 15, 3) := by decide +kernel
theorem d_Ln_join_23 : decode b_Ln_join 23 = .ok (.iconst 1, 1) := by decide +kernel
theorem d_Ln_join_24 : decode b_Ln_join 24 = .ok (.iadd, 1) := by decide +kernel
theorem d_Ln_join_25 : decode b_Ln_join 25 = .ok (.putfield 15, 3) := by decide +kernel
theorem d_Ln_join_28 : decode b_Ln_join 28 = .ok (.return_, 1) := by decide +kernel
theorem d_Dr_beWatched_0 : decode b_Dr_beWatched 0 = .ok (.aload_n 0, 1) := by decide +kernel
theorem d_Dr_beWatched_1 : decode b_Dr_beWatched 1 = .ok (.getfield 11, 3) := by decide +kernel
theorem d_Dr_beWatched_4 : decode b_Dr_beWatched 4 = .ok (.iconst 2, 1) := by decide +kernel
theorem d_Dr_beWatched_5 : decode b_Dr_beWatched 5 = .ok (.if_icmp .eq 14, 3) := by decide +kernel
theorem d_Dr_beWatched_8 : decode b_Dr_beWatched 8 = .ok (.iload_n 1, 1) := by decide +kernel
theorem d_Dr_beWatched_9 : decode b_Dr_beWatched 9 = .ok (.ifCond .eq 17, 3) := by decide +kernel
theorem d_Dr_beWatched_12 : decode b_Dr_beWatched 12 = .ok (.aload_n 0, 1) := by decide +kernel
theorem d_Dr_beWatched_13 : decode b_Dr_beWatched 13 = .ok (.getfield 18, 3) := by decide +kernel
theorem d_Dr_beWatched_16 : decode b_Dr_beWatched 16 = .ok (.ifCond .ne 10, 3) := by decide +kernel
theorem d_Dr_beWatched_19 : decode b_Dr_beWatched 19 = .ok (.aload_n 0, 1) := by decide +kernel
theorem d_Dr_beWatched_20 : decode b_Dr_beWatched 20 = .ok (.invokevirtual 28, 3) := by decide +kernel
theorem d_Dr_beWatched_23 : decode b_Dr_beWatched 23 = .ok (.goto 12, 3) := by decide +kernel
theorem d_Dr_beWatched_26 : decode b_Dr_beWatched 26 = .ok (.iload_n 1, 1) := by decide +kernel
theorem d_Dr_beWatched_27 : decode b_Dr_beWatched 27 = .ok (.ifCond .eq 8, 3) := by decide +kernel
theorem d_Dr_beWatched_30 : decode b_Dr_beWatched 30 = .ok (.aload_n 0, 1) := by decide +kernel
theorem d_Dr_beWatched_31 : decode b_Dr_beWatched 31 = .ok (.iconst 0, 1) := by decide +kernel
theorem d_Dr_beWatched_32 : decode b_Dr_beWatched 32 = .ok (.putfield 18, 3) := by decide +kernel
theorem d_Dr_beWatched_35 : decode b_Dr_beWatched 35 = .ok (.return_, 1) := by decide +kernel
theorem d_Dr_restart_0 : decode b_Dr_restart 0 = .ok (.aload_n 0, 1) := by decide +kernel
theorem d_Dr_restart_1 : decode b_Dr_restart 1 = .ok (.dup, 1) := by decide +kernel
theorem d_Dr_restart_2 : decode b_Dr_restart 2 = .ok (.getfield 31, 3) := by decide +kernel
theorem d_Dr_restart_5 : decode b_Dr_restart 5 = .ok (.iconst 1, 1) := by decide +kernel
theorem d_Dr_restart_6 : decode b_Dr_restart 6 = .ok (.iadd, 1) := by decide +kernel
theorem d_Dr_restart_7 : decode b_Dr_restart 7 = .ok (.putfield 31, 3) := by decide +kernel
theorem d_Dr_restart_10 : decode b_Dr_restart 10 = .ok (.aload_n 0, 1) := by decide +kernel
theorem d_Dr_restart_11 : decode b_Dr_restart 11 = .ok (.iconst 0, 1) := by decide +kernel
theorem d_Dr_restart_12 : decode b_Dr_restart 12 = .ok (.putfield 11, 3) := by decide +kernel
theorem d_Dr_restart_15 : decode b_Dr_restart 15 = .ok (.aload_n 0, 1) := by decide +kernel
theorem d_Dr_restart_16 : decode b_Dr_restart 16 = .ok (.iconst (-1), 1) := by decide +kernel
theorem d_Dr_restart_17 : decode b_Dr_restart 17 = .ok (.putfield 15, 3) := by decide +kernel
theorem d_Dr_restart_20 : decode b_Dr_restart 20 = .ok (.aload_n 0, 1) := by decide +kernel
theorem d_Dr_restart_21 : decode b_Dr_restart 21 = .ok (.iconst 1, 1) := by decide +kernel
theorem d_Dr_restart_22 : decode b_Dr_restart 22 = .ok (.putfield 18, 3) := by decide +kernel
theorem d_Dr_restart_25 : decode b_Dr_restart 25 = .ok (.aload_n 0, 1) := by decide +kernel
theorem d_Dr_restart_26 : decode b_Dr_restart 26 = .ok (.iconst 0, 1) := by decide +kernel
theorem d_Dr_restart_27 : decode b_Dr_restart 27 = .ok (.putfield 22, 3) := by decide +kernel
theorem d_Dr_restart_30 : decode b_Dr_restart 30 = .ok (.return_, 1) := by decide +kernel
theorem d_Dr_takeStep_0 : decode b_Dr_takeStep 0 = .ok (.aload_n 0, 1) := by decide +kernel
theorem d_Dr_takeStep_1 : decode b_Dr_takeStep 1 = .ok (.getfield 11, 3) := by decide +kernel
theorem d_Dr_takeStep_4 : decode b_Dr_takeStep 4 = .ok (.ifCond .eq 5, 3) := by decide +kernel
theorem d_Dr_takeStep_7 : decode b_Dr_takeStep 7 = .ok (.iconst (-1), 1) := by decide +kernel
theorem d_Dr_takeStep_8 : decode b_Dr_takeStep 8 = .ok (.ireturn, 1) := by decide +kernel
theorem d_Dr_takeStep_9 : decode b_Dr_takeStep 9 = .ok (.aload_n 0, 1) := by decide +kernel
theorem d_Dr_takeStep_10 : decode b_Dr_takeStep 10 = .ok (.iconst 1, 1) := by decide +kernel
theorem d_Dr_takeStep_11 : decode b_Dr_takeStep 11 = .ok (.putfield 18, 3) := by decide +kernel
theorem d_Dr_takeStep_14 : decode b_Dr_takeStep 14 = .ok (.aload_n 0, 1) := by decide +kernel
theorem d_Dr_takeStep_15 : decode b_Dr_takeStep 15 = .ok (.getfield 22, 3) := by decide +kernel
theorem d_Dr_takeStep_18 : decode b_Dr_takeStep 18 = .ok (.ifCond .eq 9, 3) := by decide +kernel
theorem d_Dr_takeStep_21 : decode b_Dr_takeStep 21 = .ok (.aload_n 0, 1) := by decide +kernel
theorem d_Dr_takeStep_22 : decode b_Dr_takeStep 22 = .ok (.invokevirtual 34, 3) := by decide +kernel
theorem d_Dr_takeStep_25 : decode b_Dr_takeStep 25 = .ok (.iconst (-1), 1) := by decide +kernel
theorem d_Dr_takeStep_26 : decode b_Dr_takeStep 26 = .ok (.ireturn, 1) := by decide +kernel
theorem d_Dr_takeStep_27 : decode b_Dr_takeStep 27 = .ok (.aload_n 0, 1) := by decide +kernel
theorem d_Dr_takeStep_28 : decode b_Dr_takeStep 28 = .ok (.getfield 15, 3) := by decide +kernel
theorem d_Dr_takeStep_31 : decode b_Dr_takeStep 31 = .ok (.istore_n 1, 1) := by decide +kernel
theorem d_Dr_takeStep_32 : decode b_Dr_takeStep 32 = .ok (.iload_n 1, 1) := by decide +kernel
theorem d_Dr_takeStep_33 : decode b_Dr_takeStep 33 = .ok (.iconst 2, 1) := by decide +kernel
theorem d_Dr_takeStep_34 : decode b_Dr_takeStep 34 = .ok (.if_icmp .ne 11, 3) := by decide +kernel
theorem d_Dr_takeStep_37 : decode b_Dr_takeStep 37 = .ok (.aload_n 0, 1) := by decide +kernel
theorem d_Dr_takeStep_38 : decode b_Dr_takeStep 38 = .ok (.iconst (-1), 1) := by decide +kernel
theorem d_Dr_takeStep_39 : decode b_Dr_takeStep 39 = .ok (.putfield 15, 3) := by decide +kernel
theorem d_Dr_takeStep_42 : decode b_Dr_takeStep 42 = .ok (.goto 18, 3) := by decide +kernel
theorem d_Dr_takeStep_45 : decode b_Dr_takeStep 45 = .ok (.iload_n 1, 1) := by decide +kernel
theorem d_Dr_takeStep_46 : decode b_Dr_takeStep 46 = .ok (.iconst (-1), 1) := by decide +kernel
theorem d_Dr_takeStep_47 : decode b_Dr_takeStep 47 = .ok (.if_icmp .eq 13, 3) := by decide +kernel
theorem d_Dr_takeStep_50 : decode b_Dr_takeStep 50 = .ok (.aload_n 0, 1) := by decide +kernel
theorem d_Dr_takeStep_51 : decode b_Dr_takeStep 51 = .ok (.dup, 1) := by decide +kernel
theorem d_Dr_takeStep_52 : decode b_Dr_takeStep 52 = .ok (.getfield 15, 3) := by decide +kernel
theorem d_Dr_takeStep_55 : decode b_Dr_takeStep 55 = .ok (.iconst 1, 1) := by decide +kernel
theorem d_Dr_takeStep_56 : decode b_Dr_takeStep 56 = .ok (.iadd, 1) := by decide +kernel
theorem d_Dr_takeStep_57 : decode b_Dr_takeStep 57 = .ok (.putfield 15, 3) := by decide +kernel
theorem d_Dr_takeStep_60 : decode b_Dr_takeStep 60 = .ok (.iload_n 1, 1) := by decide +kernel
theorem d_Dr_takeStep_61 : decode b_Dr_takeStep 61 = .ok (.ireturn, 1) := by decide +kernel
theorem d_Dr_beRefused_0 : decode b_Dr_beRefused 0 = .ok (.aload_n 0, 1) := by decide +kernel
theorem d_Dr_beRefused_1 : decode b_Dr_beRefused 1 = .ok (.dup, 1) := by decide +kernel
theorem d_Dr_beRefused_2 : decode b_Dr_beRefused 2 = .ok (.getfield 37, 3) := by decide +kernel
theorem d_Dr_beRefused_5 : decode b_Dr_beRefused 5 = .ok (.iconst 1, 1) := by decide +kernel
theorem d_Dr_beRefused_6 : decode b_Dr_beRefused 6 = .ok (.iadd, 1) := by decide +kernel
theorem d_Dr_beRefused_7 : decode b_Dr_beRefused 7 = .ok (.putfield 37, 3) := by decide +kernel
theorem d_Dr_beRefused_10 : decode b_Dr_beRefused 10 = .ok (.aload_n 0, 1) := by decide +kernel
theorem d_Dr_beRefused_11 : decode b_Dr_beRefused 11 = .ok (.getfield 22, 3) := by decide +kernel
theorem d_Dr_beRefused_14 : decode b_Dr_beRefused 14 = .ok (.iconst 3, 1) := by decide +kernel
theorem d_Dr_beRefused_15 : decode b_Dr_beRefused 15 = .ok (.if_icmp .ne 7, 3) := by decide +kernel
theorem d_Dr_beRefused_18 : decode b_Dr_beRefused 18 = .ok (.aload_n 0, 1) := by decide +kernel
theorem d_Dr_beRefused_19 : decode b_Dr_beRefused 19 = .ok (.invokevirtual 25, 3) := by decide +kernel
theorem d_Dr_beRefused_22 : decode b_Dr_beRefused 22 = .ok (.aload_n 0, 1) := by decide +kernel
theorem d_Dr_beRefused_23 : decode b_Dr_beRefused 23 = .ok (.iconst 0, 1) := by decide +kernel
theorem d_Dr_beRefused_24 : decode b_Dr_beRefused 24 = .ok (.putfield 22, 3) := by decide +kernel
theorem d_Dr_beRefused_27 : decode b_Dr_beRefused 27 = .ok (.return_, 1) := by decide +kernel
theorem d_Dr_die_0 : decode b_Dr_die 0 = .ok (.aload_n 0, 1) := by decide +kernel
theorem d_Dr_die_1 : decode b_Dr_die 1 = .ok (.iconst 2, 1) := by decide +kernel
theorem d_Dr_die_2 : decode b_Dr_die 2 = .ok (.putfield 11, 3) := by decide +kernel
theorem d_Dr_die_5 : decode b_Dr_die 5 = .ok (.aload_n 0, 1) := by decide +kernel
theorem d_Dr_die_6 : decode b_Dr_die 6 = .ok (.iconst (-1), 1) := by decide +kernel
theorem d_Dr_die_7 : decode b_Dr_die 7 = .ok (.putfield 15, 3) := by decide +kernel
theorem d_Dr_die_10 : decode b_Dr_die 10 = .ok (.aload_n 0, 1) := by decide +kernel
theorem d_Dr_die_11 : decode b_Dr_die 11 = .ok (.iconst 0, 1) := by decide +kernel
theorem d_Dr_die_12 : decode b_Dr_die 12 = .ok (.putfield 22, 3) := by decide +kernel
theorem d_Dr_die_15 : decode b_Dr_die 15 = .ok (.return_, 1) := by decide +kernel
theorem d_Rq_isOpen_0 : decode b_Rq_isOpen 0 = .ok (.aload_n 0, 1) := by decide +kernel
theorem d_Rq_isOpen_1 : decode b_Rq_isOpen 1 = .ok (.getfield 9, 3) := by decide +kernel
theorem d_Rq_isOpen_4 : decode b_Rq_isOpen 4 = .ok (.ifCond .eq 7, 3) := by decide +kernel
theorem d_Rq_isOpen_7 : decode b_Rq_isOpen 7 = .ok (.iconst 1, 1) := by decide +kernel
theorem d_Rq_isOpen_8 : decode b_Rq_isOpen 8 = .ok (.goto 4, 3) := by decide +kernel
theorem d_Rq_isOpen_11 : decode b_Rq_isOpen 11 = .ok (.iconst 0, 1) := by decide +kernel
theorem d_Rq_isOpen_12 : decode b_Rq_isOpen 12 = .ok (.ireturn, 1) := by decide +kernel
theorem d_Rq_wasGivenElsewhere_0 : decode b_Rq_wasGivenElsewhere 0 = .ok (.aload_n 0, 1) := by decide +kernel
theorem d_Rq_wasGivenElsewhere_1 : decode b_Rq_wasGivenElsewhere 1 = .ok (.getfield 13, 3) := by decide +kernel
theorem d_Rq_wasGivenElsewhere_4 : decode b_Rq_wasGivenElsewhere 4 = .ok (.ifCond .eq 18, 3) := by decide +kernel
theorem d_Rq_wasGivenElsewhere_7 : decode b_Rq_wasGivenElsewhere 7 = .ok (.aload_n 0, 1) := by decide +kernel
theorem d_Rq_wasGivenElsewhere_8 : decode b_Rq_wasGivenElsewhere 8 = .ok (.getfield 20, 3) := by decide +kernel
theorem d_Rq_wasGivenElsewhere_11 : decode b_Rq_wasGivenElsewhere 11 = .ok (.aload_n 1, 1) := by decide +kernel
theorem d_Rq_wasGivenElsewhere_12 : decode b_Rq_wasGivenElsewhere 12 = .ok (.getfield 23, 3) := by decide +kernel
theorem d_Rq_wasGivenElsewhere_15 : decode b_Rq_wasGivenElsewhere 15 = .ok (.if_icmp .eq 7, 3) := by decide +kernel
theorem d_Rq_wasGivenElsewhere_18 : decode b_Rq_wasGivenElsewhere 18 = .ok (.iconst 1, 1) := by decide +kernel
theorem d_Rq_wasGivenElsewhere_19 : decode b_Rq_wasGivenElsewhere 19 = .ok (.goto 4, 3) := by decide +kernel
theorem d_Rq_wasGivenElsewhere_22 : decode b_Rq_wasGivenElsewhere 22 = .ok (.iconst 0, 1) := by decide +kernel
theorem d_Rq_wasGivenElsewhere_23 : decode b_Rq_wasGivenElsewhere 23 = .ok (.ireturn, 1) := by decide +kernel
theorem d_Rq_giveTo_0 : decode b_Rq_giveTo 0 = .ok (.aload_n 1, 1) := by decide +kernel
theorem d_Rq_giveTo_1 : decode b_Rq_giveTo 1 = .ok (.getfield 28, 3) := by decide +kernel
theorem d_Rq_giveTo_4 : decode b_Rq_giveTo 4 = .ok (.iconst 2, 1) := by decide +kernel
theorem d_Rq_giveTo_5 : decode b_Rq_giveTo 5 = .ok (.if_icmp .ne 9, 3) := by decide +kernel
theorem d_Rq_giveTo_8 : decode b_Rq_giveTo 8 = .ok (.aload_n 0, 1) := by decide +kernel
theorem d_Rq_giveTo_9 : decode b_Rq_giveTo 9 = .ok (.iconst 0, 1) := by decide +kernel
theorem d_Rq_giveTo_10 : decode b_Rq_giveTo 10 = .ok (.putfield 13, 3) := by decide +kernel
theorem d_Rq_giveTo_13 : decode b_Rq_giveTo 13 = .ok (.return_, 1) := by decide +kernel
theorem d_Rq_giveTo_14 : decode b_Rq_giveTo 14 = .ok (.aload_n 1, 1) := by decide +kernel
theorem d_Rq_giveTo_15 : decode b_Rq_giveTo 15 = .ok (.iconst 0, 1) := by decide +kernel
theorem d_Rq_giveTo_16 : decode b_Rq_giveTo 16 = .ok (.putfield 31, 3) := by decide +kernel
theorem d_Rq_giveTo_19 : decode b_Rq_giveTo 19 = .ok (.aload_n 0, 1) := by decide +kernel
theorem d_Rq_giveTo_20 : decode b_Rq_giveTo 20 = .ok (.iconst 1, 1) := by decide +kernel
theorem d_Rq_giveTo_21 : decode b_Rq_giveTo 21 = .ok (.putfield 13, 3) := by decide +kernel
theorem d_Rq_giveTo_24 : decode b_Rq_giveTo 24 = .ok (.aload_n 0, 1) := by decide +kernel
theorem d_Rq_giveTo_25 : decode b_Rq_giveTo 25 = .ok (.iconst 0, 1) := by decide +kernel
theorem d_Rq_giveTo_26 : decode b_Rq_giveTo 26 = .ok (.putfield 17, 3) := by decide +kernel
theorem d_Rq_giveTo_29 : decode b_Rq_giveTo 29 = .ok (.aload_n 0, 1) := by decide +kernel
theorem d_Rq_giveTo_30 : decode b_Rq_giveTo 30 = .ok (.aload_n 1, 1) := by decide +kernel
theorem d_Rq_giveTo_31 : decode b_Rq_giveTo 31 = .ok (.getfield 23, 3) := by decide +kernel
theorem d_Rq_giveTo_34 : decode b_Rq_giveTo 34 = .ok (.putfield 20, 3) := by decide +kernel
theorem d_Rq_giveTo_37 : decode b_Rq_giveTo 37 = .ok (.return_, 1) := by decide +kernel
theorem d_Ca_hold_0 : decode b_Ca_hold 0 = .ok (.aload_n 0, 1) := by decide +kernel
theorem d_Ca_hold_1 : decode b_Ca_hold 1 = .ok (.getfield 9, 3) := by decide +kernel
theorem d_Ca_hold_4 : decode b_Ca_hold 4 = .ok (.iload_n 1, 1) := by decide +kernel
theorem d_Ca_hold_5 : decode b_Ca_hold 5 = .ok (.iload_n 2, 1) := by decide +kernel
theorem d_Ca_hold_6 : decode b_Ca_hold 6 = .ok (.iastore, 1) := by decide +kernel
theorem d_Ca_hold_7 : decode b_Ca_hold 7 = .ok (.aload_n 0, 1) := by decide +kernel
theorem d_Ca_hold_8 : decode b_Ca_hold 8 = .ok (.getfield 15, 3) := by decide +kernel
theorem d_Ca_hold_11 : decode b_Ca_hold 11 = .ok (.iload_n 1, 1) := by decide +kernel
theorem d_Ca_hold_12 : decode b_Ca_hold 12 = .ok (.iload_n 3, 1) := by decide +kernel
theorem d_Ca_hold_13 : decode b_Ca_hold 13 = .ok (.iastore, 1) := by decide +kernel
theorem d_Ca_hold_14 : decode b_Ca_hold 14 = .ok (.aload_n 0, 1) := by decide +kernel
theorem d_Ca_hold_15 : decode b_Ca_hold 15 = .ok (.getfield 18, 3) := by decide +kernel
theorem d_Ca_hold_18 : decode b_Ca_hold 18 = .ok (.iload_n 1, 1) := by decide +kernel
theorem d_Ca_hold_19 : decode b_Ca_hold 19 = .ok (.iload 4, 2) := by decide +kernel
theorem d_Ca_hold_21 : decode b_Ca_hold 21 = .ok (.bastore, 1) := by decide +kernel
theorem d_Ca_hold_22 : decode b_Ca_hold 22 = .ok (.return_, 1) := by decide +kernel
theorem d_Rq_close_0 : decode b_Rq_close 0 = .ok (.aload_n 0, 1) := by decide +kernel
theorem d_Rq_close_1 : decode b_Rq_close 1 = .ok (.iconst 0, 1) := by decide +kernel
theorem d_Rq_close_2 : decode b_Rq_close 2 = .ok (.putfield 9, 3) := by decide +kernel
theorem d_Rq_close_5 : decode b_Rq_close 5 = .ok (.return_, 1) := by decide +kernel
theorem d_Ln_isEmpty_0 : decode b_Ln_isEmpty 0 = .ok (.aload_n 0, 1) := by decide +kernel
theorem d_Ln_isEmpty_1 : decode b_Ln_isEmpty 1 = .ok (.getfield 15, 3) := by decide +kernel
theorem d_Ln_isEmpty_4 : decode b_Ln_isEmpty 4 = .ok (.ifCond .ne 7, 3) := by decide +kernel
theorem d_Ln_isEmpty_7 : decode b_Ln_isEmpty 7 = .ok (.iconst 1, 1) := by decide +kernel
theorem d_Ln_isEmpty_8 : decode b_Ln_isEmpty 8 = .ok (.goto 4, 3) := by decide +kernel
theorem d_Ln_isEmpty_11 : decode b_Ln_isEmpty 11 = .ok (.iconst 0, 1) := by decide +kernel
theorem d_Ln_isEmpty_12 : decode b_Ln_isEmpty 12 = .ok (.ireturn, 1) := by decide +kernel
theorem d_Ln_head_0 : decode b_Ln_head 0 = .ok (.aload_n 0, 1) := by decide +kernel
theorem d_Ln_head_1 : decode b_Ln_head 1 = .ok (.getfield 9, 3) := by decide +kernel
theorem d_Ln_head_4 : decode b_Ln_head 4 = .ok (.iconst 0, 1) := by decide +kernel
theorem d_Ln_head_5 : decode b_Ln_head 5 = .ok (.iaload, 1) := by decide +kernel
theorem d_Ln_head_6 : decode b_Ln_head 6 = .ok (.ireturn, 1) := by decide +kernel
theorem d_Ca_dirtySlotOfLowestBlock_0 : decode b_Ca_dirtySlotOfLowestBlock 0 = .ok (.iconst (-1), 1) := by decide +kernel
theorem d_Ca_dirtySlotOfLowestBlock_1 : decode b_Ca_dirtySlotOfLowestBlock 1 = .ok (.istore_n 1, 1) := by decide +kernel
theorem d_Ca_dirtySlotOfLowestBlock_2 : decode b_Ca_dirtySlotOfLowestBlock 2 = .ok (.iconst 0, 1) := by decide +kernel
theorem d_Ca_dirtySlotOfLowestBlock_3 : decode b_Ca_dirtySlotOfLowestBlock 3 = .ok (.istore_n 2, 1) := by decide +kernel
theorem d_Ca_dirtySlotOfLowestBlock_4 : decode b_Ca_dirtySlotOfLowestBlock 4 = .ok (.iload_n 2, 1) := by decide +kernel
theorem d_Ca_dirtySlotOfLowestBlock_5 : decode b_Ca_dirtySlotOfLowestBlock 5 = .ok (.iconst 3, 1) := by decide +kernel
theorem d_Ca_dirtySlotOfLowestBlock_6 : decode b_Ca_dirtySlotOfLowestBlock 6 = .ok (.if_icmp .ge 40, 3) := by decide +kernel
theorem d_Ca_dirtySlotOfLowestBlock_9 : decode b_Ca_dirtySlotOfLowestBlock 9 = .ok (.aload_n 0, 1) := by decide +kernel
theorem d_Ca_dirtySlotOfLowestBlock_10 : decode b_Ca_dirtySlotOfLowestBlock 10 = .ok (.getfield 18, 3) := by decide +kernel
theorem d_Ca_dirtySlotOfLowestBlock_13 : decode b_Ca_dirtySlotOfLowestBlock 13 = .ok (.iload_n 2, 1) := by decide +kernel
theorem d_Ca_dirtySlotOfLowestBlock_14 : decode b_Ca_dirtySlotOfLowestBlock 14 = .ok (.baload, 1) := by decide +kernel
theorem d_Ca_dirtySlotOfLowestBlock_15 : decode b_Ca_dirtySlotOfLowestBlock 15 = .ok (.ifCond .eq 25, 3) := by decide +kernel
theorem d_Ca_dirtySlotOfLowestBlock_18 : decode b_Ca_dirtySlotOfLowestBlock 18 = .ok (.iload_n 1, 1) := by decide +kernel
theorem d_Ca_dirtySlotOfLowestBlock_19 : decode b_Ca_dirtySlotOfLowestBlock 19 = .ok (.iconst (-1), 1) := by decide +kernel
theorem d_Ca_dirtySlotOfLowestBlock_20 : decode b_Ca_dirtySlotOfLowestBlock 20 = .ok (.if_icmp .eq 18, 3) := by decide +kernel
theorem d_Ca_dirtySlotOfLowestBlock_23 : decode b_Ca_dirtySlotOfLowestBlock 23 = .ok (.aload_n 0, 1) := by decide +kernel
theorem d_Ca_dirtySlotOfLowestBlock_24 : decode b_Ca_dirtySlotOfLowestBlock 24 = .ok (.getfield 9, 3) := by decide +kernel
theorem d_Ca_dirtySlotOfLowestBlock_27 : decode b_Ca_dirtySlotOfLowestBlock 27 = .ok (.iload_n 2, 1) := by decide +kernel
theorem d_Ca_dirtySlotOfLowestBlock_28 : decode b_Ca_dirtySlotOfLowestBlock 28 = .ok (.iaload, 1) := by decide +kernel
theorem d_Ca_dirtySlotOfLowestBlock_29 : decode b_Ca_dirtySlotOfLowestBlock 29 = .ok (.aload_n 0, 1) := by decide +kernel
theorem d_Ca_dirtySlotOfLowestBlock_30 : decode b_Ca_dirtySlotOfLowestBlock 30 = .ok (.getfield 9, 3) := by decide +kernel
theorem d_Ca_dirtySlotOfLowestBlock_33 : decode b_Ca_dirtySlotOfLowestBlock 33 = .ok (.iload_n 1, 1) := by decide +kernel
theorem d_Ca_dirtySlotOfLowestBlock_34 : decode b_Ca_dirtySlotOfLowestBlock 34 = .ok (.iaload, 1) := by decide +kernel
theorem d_Ca_dirtySlotOfLowestBlock_35 : decode b_Ca_dirtySlotOfLowestBlock 35 = .ok (.if_icmp .ge 5, 3) := by decide +kernel
theorem d_Ca_dirtySlotOfLowestBlock_38 : decode b_Ca_dirtySlotOfLowestBlock 38 = .ok (.iload_n 2, 1) := by decide +kernel
theorem d_Ca_dirtySlotOfLowestBlock_39 : decode b_Ca_dirtySlotOfLowestBlock 39 = .ok (.istore_n 1, 1) := by decide +kernel
theorem d_Ca_dirtySlotOfLowestBlock_40 : decode b_Ca_dirtySlotOfLowestBlock 40 = .ok (.iinc 2 1, 3) := by decide +kernel
theorem d_Ca_dirtySlotOfLowestBlock_43 : decode b_Ca_dirtySlotOfLowestBlock 43 = .ok (.goto (-39), 3) := by decide +kernel
theorem d_Ca_dirtySlotOfLowestBlock_46 : decode b_Ca_dirtySlotOfLowestBlock 46 = .ok (.iload_n 1, 1) := by decide +kernel
theorem d_Ca_dirtySlotOfLowestBlock_47 : decode b_Ca_dirtySlotOfLowestBlock 47 = .ok (.ireturn, 1) := by decide +kernel
theorem d_Op_finish_0 : decode b_Op_finish 0 = .ok (.aload_n 0, 1) := by decide +kernel
theorem d_Op_finish_1 : decode b_Op_finish 1 = .ok (.iconst 2, 1) := by decide +kernel
theorem d_Op_finish_2 : decode b_Op_finish 2 = .ok (.putfield 22, 3) := by decide +kernel
theorem d_Op_finish_5 : decode b_Op_finish 5 = .ok (.aload_n 0, 1) := by decide +kernel
theorem d_Op_finish_6 : decode b_Op_finish 6 = .ok (.iload_n 1, 1) := by decide +kernel
theorem d_Op_finish_7 : decode b_Op_finish 7 = .ok (.putfield 25, 3) := by decide +kernel
theorem d_Op_finish_10 : decode b_Op_finish 10 = .ok (.return_, 1) := by decide +kernel
theorem d_Rq_open_0 : decode b_Rq_open 0 = .ok (.aload_n 0, 1) := by decide +kernel
theorem d_Rq_open_1 : decode b_Rq_open 1 = .ok (.iload_n 1, 1) := by decide +kernel
theorem d_Rq_open_2 : decode b_Rq_open 2 = .ok (.putfield 9, 3) := by decide +kernel
theorem d_Rq_open_5 : decode b_Rq_open 5 = .ok (.aload_n 0, 1) := by decide +kernel
theorem d_Rq_open_6 : decode b_Rq_open 6 = .ok (.iconst 0, 1) := by decide +kernel
theorem d_Rq_open_7 : decode b_Rq_open 7 = .ok (.putfield 13, 3) := by decide +kernel
theorem d_Rq_open_10 : decode b_Rq_open 10 = .ok (.aload_n 0, 1) := by decide +kernel
theorem d_Rq_open_11 : decode b_Rq_open 11 = .ok (.iconst 0, 1) := by decide +kernel
theorem d_Rq_open_12 : decode b_Rq_open 12 = .ok (.putfield 17, 3) := by decide +kernel
theorem d_Rq_open_15 : decode b_Rq_open 15 = .ok (.return_, 1) := by decide +kernel
theorem d_Ca_find_0 : decode b_Ca_find 0 = .ok (.iconst 0, 1) := by decide +kernel
theorem d_Ca_find_1 : decode b_Ca_find 1 = .ok (.istore_n 2, 1) := by decide +kernel
theorem d_Ca_find_2 : decode b_Ca_find 2 = .ok (.iload_n 2, 1) := by decide +kernel
theorem d_Ca_find_3 : decode b_Ca_find 3 = .ok (.iconst 3, 1) := by decide +kernel
theorem d_Ca_find_4 : decode b_Ca_find 4 = .ok (.if_icmp .ge 21, 3) := by decide +kernel
theorem d_Ca_find_7 : decode b_Ca_find 7 = .ok (.aload_n 0, 1) := by decide +kernel
theorem d_Ca_find_8 : decode b_Ca_find 8 = .ok (.getfield 9, 3) := by decide +kernel
theorem d_Ca_find_11 : decode b_Ca_find 11 = .ok (.iload_n 2, 1) := by decide +kernel
theorem d_Ca_find_12 : decode b_Ca_find 12 = .ok (.iaload, 1) := by decide +kernel
theorem d_Ca_find_13 : decode b_Ca_find 13 = .ok (.iload_n 1, 1) := by decide +kernel
theorem d_Ca_find_14 : decode b_Ca_find 14 = .ok (.if_icmp .ne 5, 3) := by decide +kernel
theorem d_Ca_find_17 : decode b_Ca_find 17 = .ok (.iload_n 2, 1) := by decide +kernel
theorem d_Ca_find_18 : decode b_Ca_find 18 = .ok (.ireturn, 1) := by decide +kernel
theorem d_Ca_find_19 : decode b_Ca_find 19 = .ok (.iinc 2 1, 3) := by decide +kernel
theorem d_Ca_find_22 : decode b_Ca_find 22 = .ok (.goto (-20), 3) := by decide +kernel
theorem d_Ca_find_25 : decode b_Ca_find 25 = .ok (.iconst (-1), 1) := by decide +kernel
theorem d_Ca_find_26 : decode b_Ca_find 26 = .ok (.ireturn, 1) := by decide +kernel
theorem d_Ca_slotToFill_0 : decode b_Ca_slotToFill 0 = .ok (.aload_n 0, 1) := by decide +kernel
theorem d_Ca_slotToFill_1 : decode b_Ca_slotToFill 1 = .ok (.iconst (-1), 1) := by decide +kernel
theorem d_Ca_slotToFill_2 : decode b_Ca_slotToFill 2 = .ok (.invokevirtual 31, 3) := by decide +kernel
theorem d_Ca_slotToFill_5 : decode b_Ca_slotToFill 5 = .ok (.istore_n 1, 1) := by decide +kernel
theorem d_Ca_slotToFill_6 : decode b_Ca_slotToFill 6 = .ok (.iload_n 1, 1) := by decide +kernel
theorem d_Ca_slotToFill_7 : decode b_Ca_slotToFill 7 = .ok (.iconst (-1), 1) := by decide +kernel
theorem d_Ca_slotToFill_8 : decode b_Ca_slotToFill 8 = .ok (.if_icmp .eq 5, 3) := by decide +kernel
theorem d_Ca_slotToFill_11 : decode b_Ca_slotToFill 11 = .ok (.iload_n 1, 1) := by decide +kernel
theorem d_Ca_slotToFill_12 : decode b_Ca_slotToFill 12 = .ok (.ireturn, 1) := by decide +kernel
theorem d_Ca_slotToFill_13 : decode b_Ca_slotToFill 13 = .ok (.iconst 0, 1) := by decide +kernel
theorem d_Ca_slotToFill_14 : decode b_Ca_slotToFill 14 = .ok (.istore_n 2, 1) := by decide +kernel
theorem d_Ca_slotToFill_15 : decode b_Ca_slotToFill 15 = .ok (.iconst 1, 1) := by decide +kernel
theorem d_Ca_slotToFill_16 : decode b_Ca_slotToFill 16 = .ok (.istore_n 3, 1) := by decide +kernel
theorem d_Ca_slotToFill_17 : decode b_Ca_slotToFill 17 = .ok (.iload_n 3, 1) := by decide +kernel
theorem d_Ca_slotToFill_18 : decode b_Ca_slotToFill 18 = .ok (.iconst 3, 1) := by decide +kernel
theorem d_Ca_slotToFill_19 : decode b_Ca_slotToFill 19 = .ok (.if_icmp .ge 26, 3) := by decide +kernel
theorem d_Ca_slotToFill_22 : decode b_Ca_slotToFill 22 = .ok (.aload_n 0, 1) := by decide +kernel
theorem d_Ca_slotToFill_23 : decode b_Ca_slotToFill 23 = .ok (.getfield 22, 3) := by decide +kernel
theorem d_Ca_slotToFill_26 : decode b_Ca_slotToFill 26 = .ok (.iload_n 3, 1) := by decide +kernel
theorem d_Ca_slotToFill_27 : decode b_Ca_slotToFill 27 = .ok (.iaload, 1) := by decide +kernel
theorem d_Ca_slotToFill_28 : decode b_Ca_slotToFill 28 = .ok (.aload_n 0, 1) := by decide +kernel
theorem d_Ca_slotToFill_29 : decode b_Ca_slotToFill 29 = .ok (.getfield 22, 3) := by decide +kernel
theorem d_Ca_slotToFill_32 : decode b_Ca_slotToFill 32 = .ok (.iload_n 2, 1) := by decide +kernel
theorem d_Ca_slotToFill_33 : decode b_Ca_slotToFill 33 = .ok (.iaload, 1) := by decide +kernel
theorem d_Ca_slotToFill_34 : decode b_Ca_slotToFill 34 = .ok (.if_icmp .ge 5, 3) := by decide +kernel
theorem d_Ca_slotToFill_37 : decode b_Ca_slotToFill 37 = .ok (.iload_n 3, 1) := by decide +kernel
theorem d_Ca_slotToFill_38 : decode b_Ca_slotToFill 38 = .ok (.istore_n 2, 1) := by decide +kernel
theorem d_Ca_slotToFill_39 : decode b_Ca_slotToFill 39 = .ok (.iinc 3 1, 3) := by decide +kernel
theorem d_Ca_slotToFill_42 : decode b_Ca_slotToFill 42 = .ok (.goto (-25), 3) := by decide +kernel
theorem d_Ca_slotToFill_45 : decode b_Ca_slotToFill 45 = .ok (.iload_n 2, 1) := by decide +kernel
theorem d_Ca_slotToFill_46 : decode b_Ca_slotToFill 46 = .ok (.ireturn, 1) := by decide +kernel
theorem d_Ca_empty_0 : decode b_Ca_empty 0 = .ok (.aload_n 0, 1) := by decide +kernel
theorem d_Ca_empty_1 : decode b_Ca_empty 1 = .ok (.iload_n 1, 1) := by decide +kernel
theorem d_Ca_empty_2 : decode b_Ca_empty 2 = .ok (.iconst (-1), 1) := by decide +kernel
theorem d_Ca_empty_3 : decode b_Ca_empty 3 = .ok (.iconst 0, 1) := by decide +kernel
theorem d_Ca_empty_4 : decode b_Ca_empty 4 = .ok (.iconst 0, 1) := by decide +kernel
theorem d_Ca_empty_5 : decode b_Ca_empty 5 = .ok (.invokevirtual 35, 3) := by decide +kernel
theorem d_Ca_empty_8 : decode b_Ca_empty 8 = .ok (.return_, 1) := by decide +kernel
theorem d_Ln_dropHead_0 : decode b_Ln_dropHead 0 = .ok (.iconst 1, 1) := by decide +kernel
theorem d_Ln_dropHead_1 : decode b_Ln_dropHead 1 = .ok (.istore_n 1, 1) := by decide +kernel
theorem d_Ln_dropHead_2 : decode b_Ln_dropHead 2 = .ok (.iload_n 1, 1) := by decide +kernel
theorem d_Ln_dropHead_3 : decode b_Ln_dropHead 3 = .ok (.aload_n 0, 1) := by decide +kernel
theorem d_Ln_dropHead_4 : decode b_Ln_dropHead 4 = .ok (.getfield 15, 3) := by decide +kernel
theorem d_Ln_dropHead_7 : decode b_Ln_dropHead 7 = .ok (.if_icmp .ge 23, 3) := by decide +kernel
theorem d_Ln_dropHead_10 : decode b_Ln_dropHead 10 = .ok (.aload_n 0, 1) := by decide +kernel
theorem d_Ln_dropHead_11 : decode b_Ln_dropHead 11 = .ok (.getfield 9, 3) := by decide +kernel
theorem d_Ln_dropHead_14 : decode b_Ln_dropHead 14 = .ok (.iload_n 1, 1) := by decide +kernel
theorem d_Ln_dropHead_15 : decode b_Ln_dropHead 15 = .ok (.iconst 1, 1) := by decide +kernel
theorem d_Ln_dropHead_16 : decode b_Ln_dropHead 16 = .ok (.isub, 1) := by decide +kernel
theorem d_Ln_dropHead_17 : decode b_Ln_dropHead 17 = .ok (.aload_n 0, 1) := by decide +kernel
theorem d_Ln_dropHead_18 : decode b_Ln_dropHead 18 = .ok (.getfield 9, 3) := by decide +kernel
theorem d_Ln_dropHead_21 : decode b_Ln_dropHead 21 = .ok (.iload_n 1, 1) := by decide +kernel
theorem d_Ln_dropHead_22 : decode b_Ln_dropHead 22 = .ok (.iaload, 1) := by decide +kernel
theorem d_Ln_dropHead_23 : decode b_Ln_dropHead 23 = .ok (.iastore, 1) := by decide +kernel
theorem d_Ln_dropHead_24 : decode b_Ln_dropHead 24 = .ok (.iinc 1 1, 3) := by decide +kernel
theorem d_Ln_dropHead_27 : decode b_Ln_dropHead 27 = .ok (.goto (-25), 3) := by decide +kernel
theorem d_Ln_dropHead_30 : decode b_Ln_dropHead 30 = .ok (.aload_n 0, 1) := by decide +kernel
theorem d_Ln_dropHead_31 : decode b_Ln_dropHead 31 = .ok (.aload_n 0, 1) := by decide +kernel
theorem d_Ln_dropHead_32 : decode b_Ln_dropHead 32 = .ok (.getfield 15, 3) := by decide +kernel
theorem d_Ln_dropHead_35 : decode b_Ln_dropHead 35 = .ok (.iconst 1, 1) := by decide +kernel
theorem d_Ln_dropHead_36 : decode b_Ln_dropHead 36 = .ok (.isub, 1) := by decide +kernel
theorem d_Ln_dropHead_37 : decode b_Ln_dropHead 37 = .ok (.iconst 0, 1) := by decide +kernel
theorem d_Ln_dropHead_38 : decode b_Ln_dropHead 38 = .ok (.invokestatic 19, 3) := by decide +kernel
theorem d_Ln_dropHead_41 : decode b_Ln_dropHead 41 = .ok (.putfield 15, 3) := by decide +kernel
theorem d_Ln_dropHead_44 : decode b_Ln_dropHead 44 = .ok (.return_, 1) := by decide +kernel
theorem d_Op_fail_0 : decode b_Op_fail 0 = .ok (.aload_n 0, 1) := by decide +kernel
theorem d_Op_fail_1 : decode b_Op_fail 1 = .ok (.iconst 3, 1) := by decide +kernel
theorem d_Op_fail_2 : decode b_Op_fail 2 = .ok (.putfield 22, 3) := by decide +kernel
theorem d_Op_fail_5 : decode b_Op_fail 5 = .ok (.aload_n 0, 1) := by decide +kernel
theorem d_Op_fail_6 : decode b_Op_fail 6 = .ok (.bipush (-5), 2) := by decide +kernel
theorem d_Op_fail_8 : decode b_Op_fail 8 = .ok (.putfield 25, 3) := by decide +kernel
theorem d_Op_fail_11 : decode b_Op_fail 11 = .ok (.return_, 1) := by decide +kernel
theorem d_Dr_suffer_0 : decode b_Dr_suffer 0 = .ok (.aload_n 0, 1) := by decide +kernel
theorem d_Dr_suffer_1 : decode b_Dr_suffer 1 = .ok (.getfield 11, 3) := by decide +kernel
theorem d_Dr_suffer_4 : decode b_Dr_suffer 4 = .ok (.iconst 2, 1) := by decide +kernel
theorem d_Dr_suffer_5 : decode b_Dr_suffer 5 = .ok (.if_icmp .eq 15, 3) := by decide +kernel
theorem d_Dr_suffer_8 : decode b_Dr_suffer 8 = .ok (.aload_n 0, 1) := by decide +kernel
theorem d_Dr_suffer_9 : decode b_Dr_suffer 9 = .ok (.getfield 11, 3) := by decide +kernel
theorem d_Dr_suffer_12 : decode b_Dr_suffer 12 = .ok (.iconst 1, 1) := by decide +kernel
theorem d_Dr_suffer_13 : decode b_Dr_suffer 13 = .ok (.if_icmp .ne 9, 3) := by decide +kernel
theorem d_Dr_suffer_16 : decode b_Dr_suffer 16 = .ok (.iload_n 1, 1) := by decide +kernel
theorem d_Dr_suffer_17 : decode b_Dr_suffer 17 = .ok (.ifCond .eq 5, 3) := by decide +kernel
theorem d_Dr_suffer_20 : decode b_Dr_suffer 20 = .ok (.iconst 0, 1) := by decide +kernel
theorem d_Dr_suffer_21 : decode b_Dr_suffer 21 = .ok (.ireturn, 1) := by decide +kernel
theorem d_Dr_suffer_22 : decode b_Dr_suffer 22 = .ok (.iload_n 1, 1) := by decide +kernel
theorem d_Dr_suffer_23 : decode b_Dr_suffer 23 = .ok (.ifCond .ne 10, 3) := by decide +kernel
theorem d_Dr_suffer_26 : decode b_Dr_suffer 26 = .ok (.aload_n 0, 1) := by decide +kernel
theorem d_Dr_suffer_27 : decode b_Dr_suffer 27 = .ok (.invokevirtual 25, 3) := by decide +kernel
theorem d_Dr_suffer_30 : decode b_Dr_suffer 30 = .ok (.goto 21, 3) := by decide +kernel
theorem d_Dr_suffer_33 : decode b_Dr_suffer 33 = .ok (.iload_n 1, 1) := by decide +kernel
theorem d_Dr_suffer_34 : decode b_Dr_suffer 34 = .ok (.iconst 1, 1) := by decide +kernel
theorem d_Dr_suffer_35 : decode b_Dr_suffer 35 = .ok (.if_icmp .ne 11, 3) := by decide +kernel
theorem d_Dr_suffer_38 : decode b_Dr_suffer 38 = .ok (.aload_n 0, 1) := by decide +kernel
theorem d_Dr_suffer_39 : decode b_Dr_suffer 39 = .ok (.iconst 1, 1) := by decide +kernel
theorem d_Dr_suffer_40 : decode b_Dr_suffer 40 = .ok (.putfield 11, 3) := by decide +kernel
theorem d_Dr_suffer_43 : decode b_Dr_suffer 43 = .ok (.goto 8, 3) := by decide +kernel
theorem d_Dr_suffer_46 : decode b_Dr_suffer 46 = .ok (.aload_n 0, 1) := by decide +kernel
theorem d_Dr_suffer_47 : decode b_Dr_suffer 47 = .ok (.iload_n 1, 1) := by decide +kernel
theorem d_Dr_suffer_48 : decode b_Dr_suffer 48 = .ok (.putfield 22, 3) := by decide +kernel
theorem d_Dr_suffer_51 : decode b_Dr_suffer 51 = .ok (.iconst 1, 1) := by decide +kernel
theorem d_Dr_suffer_52 : decode b_Dr_suffer 52 = .ok (.ireturn, 1) := by decide +kernel
theorem d_Rq_progress_0 : decode b_Rq_progress 0 = .ok (.aload_n 0, 1) := by decide +kernel
theorem d_Rq_progress_1 : decode b_Rq_progress 1 = .ok (.invokevirtual 34, 3) := by decide +kernel
theorem d_Rq_progress_4 : decode b_Rq_progress 4 = .ok (.ifCond .ne 5, 3) := by decide +kernel
theorem d_Rq_progress_7 : decode b_Rq_progress 7 = .ok (.iconst 0, 1) := by decide +kernel
theorem d_Rq_progress_8 : decode b_Rq_progress 8 = .ok (.ireturn, 1) := by decide +kernel
theorem d_Rq_progress_9 : decode b_Rq_progress 9 = .ok (.aload_n 0, 1) := by decide +kernel
theorem d_Rq_progress_10 : decode b_Rq_progress 10 = .ok (.getfield 13, 3) := by decide +kernel
theorem d_Rq_progress_13 : decode b_Rq_progress 13 = .ok (.ifCond .eq 7, 3) := by decide +kernel
theorem d_Rq_progress_16 : decode b_Rq_progress 16 = .ok (.iconst 2, 1) := by decide +kernel
theorem d_Rq_progress_17 : decode b_Rq_progress 17 = .ok (.goto 4, 3) := by decide +kernel
theorem d_Rq_progress_20 : decode b_Rq_progress 20 = .ok (.iconst 1, 1) := by decide +kernel
theorem d_Rq_progress_21 : decode b_Rq_progress 21 = .ok (.ireturn, 1) := by decide +kernel
end
section
/-! kx: my own rows over the kit's: one table of words for all contracts, one world hypothesis, contracts of one form -/
def kx_N (U : State) : Prop := (∀ w ∈ kx_nl, va_Nw w U) ∧ va_AO "RebornDrivers$Operation" U
theorem kx_N.same {u U : State} (h : u.vm = U.vm) (hN : kx_N u) : kx_N U := by
  refine ⟨fun w hw => ?_, va_AO.moved (by rw [h]; exact Vm.Alike.refl U.vm) hN.2⟩
  have h1 := hN.1 w hw
  have h2 : kx_isN w = true := (List.mem_filter.mp hw).2
  cases w <;> first | (simp [kx_isN] at h2; done) | exact va_tabs rfl h h1
theorem kx_N.warm {s U : State} (hN : kx_N s) (hW : s.WarmedH U.vm) : kx_N U := by
  refine ⟨fun w hw => ?_, va_AO.moved hW.alike hN.2⟩
  have h1 := hN.1 w hw
  have h2 : kx_isN w = true := (List.mem_filter.mp hw).2
  cases w <;> first | (simp [kx_isN] at h2; done) | exact va_Nw.warmF hW h1 | exact va_Nw.warmM hW h1
def kx_w (D : va_G) (tys : List (ClassId × FieldType)) (A : Nat → Prop) (s : State) (ws : va_W) (H : Heap) (locs : List Loc) : Prop :=
  va_K D classes tys s ∧ va_P D classes ws H ∧ va_D A ws ∧ va_S A s.heap H locs ∧ (∀ q, s.heap.size ≤ q → A q) ∧ kx_N s
/-- a field that code of class 'own' reads under 'index': field k of class ci -/
def kx_f (own : String) (index ci k : Nat) : Prop := ∃ (C : String) (T : u_T) (N : Nat), classes[ci]? = some (C, T, N) ∧ k < N ∧ (∀ w ∈ u_ws C T N, w ∈ kx_tbl) ∧ (Cond.fieldLink own index (T k).1 (T k).2.1 (T k).2.2.1 ∈ kx_tbl ∨ ∃ host, Cond.fieldLinkNest own index (T k).1 (T k).2.1 (T k).2.2.1 host ∈ kx_nl)
/-- and writes -/
def kx_q (own : String) (index ci k : Nat) (ty : FieldType) : Prop := ∃ (C : String) (T : u_T) (N : Nat) (ty0 : Nat → FieldType), classes[ci]? = some (C, T, N) ∧ k < N ∧ (∀ w ∈ u_ws C T N, w ∈ kx_tbl) ∧ (Cond.fieldLink own index (T k).1 (T k).2.1 (T k).2.2.1 ∈ kx_tbl ∨ ∃ host, Cond.fieldLinkNest own index (T k).1 (T k).2.1 (T k).2.2.1 host ∈ kx_nl) ∧ (∀ k, k < N → parseFieldDescriptor (T k).2.2.1 = some (ty0 k)) ∧ (∀ a, a < N → ∀ b, b < N → a ≠ b → (T a).2.1 ≠ (T b).2.1) ∧ (T k).2.2.2 = false ∧ parseFieldDescriptor (T k).2.2.1 = some ty
/-- a final field that a constructor of class 'own' writes -/
def kx_qF (own : String) (index ci k : Nat) (ty : FieldType) : Prop := ∃ (C : String) (T : u_T) (N : Nat) (ty0 : Nat → FieldType), classes[ci]? = some (C, T, N) ∧ k < N ∧ (∀ w ∈ u_ws C T N, w ∈ kx_tbl) ∧ Cond.fieldLink own index (T k).1 (T k).2.1 (T k).2.2.1 ∈ kx_tbl ∧ (∀ k, k < N → parseFieldDescriptor (T k).2.2.1 = some (ty0 k)) ∧ (∀ a, a < N → ∀ b, b < N → a ≠ b → (T a).2.1 ≠ (T b).2.1) ∧ (T k).2.2.2 = true ∧ parseFieldDescriptor (T k).2.2.1 = some ty ∧ (T k).1 = own
/-- an object that code of class 'own' makes under 'index' -/
def kx_n (own : String) (index ci : Nat) (fs : List Value) : Prop := ∃ (C : String) (T : u_T) (ty0 : Nat → FieldType), classes[ci]? = some (C, T, fs.length) ∧ (∀ w ∈ u_ws C T fs.length, w ∈ kx_tbl) ∧ (∀ k, k < fs.length → parseFieldDescriptor (T k).2.2.1 = some (ty0 k)) ∧ Cond.classLink own index C ∈ kx_tbl ∧ Cond.instantiable C fs.length ∈ kx_tbl ∧ Cond.initialized C ∈ kx_tbl ∧ ∀ j, j < fs.length → defaultValue (ty0 j) = vp_V fs j
/-- a method that code of class 'own' calls under 'index' -/
def kx_m (own : String) (index : Nat) (y : MethodName) (bytes : ByteArray) (maxL : Nat) (ret : Option FieldType) (n : Nat) : Prop :=
  Cond.code y bytes maxL ret ∈ kx_tbl ∧ Cond.initialized y.cls ∈ kx_tbl ∧ (y.cls ≠ "java/lang/invoke/MethodHandle" ∧ y.cls ≠ "java/lang/invoke/VarHandle" ∧ (parseMethodDescriptor y.desc).map (fun d => d.parameters.length) = some n) ∧ (Cond.methodLink own index y ∈ kx_tbl ∨ ∃ host, Cond.methodLinkNest own index y host ∈ kx_nl)
theorem kx_good {y : MethodName} {bytes : ByteArray} {maxL : Nat} {ret : Option FieldType} (h : Cond.code y bytes maxL ret ∈ kx_tbl) : GoodIn kx_tbl (Cond.code y bytes maxL ret :: kx_tbl) := by
  intro w hw
  rcases List.mem_cons.mp hw with rfl | hw
  · exact ⟨h, kx_tbl_good _ h⟩
  · exact ⟨hw, kx_tbl_good _ hw⟩
theorem kx_w.sub {D : va_G} {tys : List (ClassId × FieldType)} {A : Nat → Prop} {s : State} {ws ws' : va_W} {H : Heap} {locs : List Loc} (h : kx_w D tys A s ws H locs) (is : List Nat) (hn : va_nd is = true) (hs : is.map (fun i => ws[i]?) = ws'.map some) : kx_w D tys A s ws' H locs := by
  refine ⟨h.1, h.2.1.sub is ?_, h.2.2.1.sub is hn hs, h.2.2.2⟩
  have : ∀ (l : List Nat) (w : va_W), l.map (fun i => ws[i]?) = w.map some → l.filterMap (fun i => ws[i]?) = w := by
    intro l
    induction l with
    | nil => intro w h; cases w with
      | nil => rfl
      | cons x w => cases h
    | cons i l ih => intro w h; cases w with
      | nil => cases h
      | cons x w =>
        simp only [List.map_cons, List.cons.injEq] at h
        rw [List.filterMap_cons, h.1, ih w h.2]
  exact this is ws' hs
/-- contracts -/
def kx_Pre (D : va_G) (tys : List (ClassId × FieldType)) (av : List Value) (ws : va_W) (sz : Nat) : Array Value → State → Prop := va_Pc av (fun U => U.heap.size = sz ∧ va_P D classes ws U.heap ∧ va_K D classes tys U ∧ va_D (fun _ => True) ws ∧ kx_N U)
def kx_B (D : va_G) (tys : List (ClassId × FieldType)) (A : Nat → Prop) (w : va_W) (t : State) : Prop := va_P D classes w t.heap ∧ va_K D classes tys t ∧ va_D A w
def kx_R (k mc ms : Nat) : Room := { frames := k, cells := mc, slots := ms, locals := 24 * k }
def kx_Ci {S : Type} (l : Launch) (y : MethodName) (bytes : ByteArray) (maxL : Nat) (ret : Option FieldType) (k mc ms : Nat) (D : va_G) (tys : List (ClassId × FieldType)) (av : List Value) (ws : va_W) (post : Int32 → S → Prop) (w1 : S → va_W) : Prop :=
  ∀ sz, Met l y (Cond.code y bytes maxL ret :: kx_tbl) (kx_R k mc ms) (kx_Pre D tys av ws sz) (va_Qi post (fun u t => kx_B D tys (va_A ws sz) (w1 u) t) (va_A ws sz)) mc ms (va_A ws sz)
def kx_Cv {S : Type} (l : Launch) (y : MethodName) (bytes : ByteArray) (maxL : Nat) (k mc ms : Nat) (D : va_G) (tys : List (ClassId × FieldType)) (av : List Value) (ws : va_W) (post : S → Prop) (w1 : S → va_W) : Prop :=
  ∀ sz, Met l y (Cond.code y bytes maxL none :: kx_tbl) (kx_R k mc ms) (kx_Pre D tys av ws sz) (va_Qv post (fun u t => kx_B D tys (va_A ws sz) (w1 u) t) (va_A ws sz)) mc ms (va_A ws sz)
def kx_Cr {S : Type} (l : Launch) (y : MethodName) (bytes : ByteArray) (maxL : Nat) (ret : Option FieldType) (k mc ms : Nat) (D : va_G) (tys : List (ClassId × FieldType)) (av : List Value) (ws : va_W) (post : S → Prop) (ra : S → Nat) (w1 : S → va_W) : Prop :=
  ∀ sz, Met l y (Cond.code y bytes maxL ret :: kx_tbl) (kx_R k mc ms) (kx_Pre D tys av ws sz) (va_Qr post (fun u a t => a = ra u ∧ kx_B D tys (va_A ws sz) (w1 u) t) (va_A ws sz)) mc ms (va_A ws sz)
/-- what a walk starts with -/
def kx_In (p : Program) (s : State) (m : MethodId) (args : Array Value) (meth : Method) (c : Code) (y : MethodName) (bytes : ByteArray) (maxL : Nat) (ret : Option FieldType) : Prop :=
  CallFix p m c bytes maxL s args kx_tbl y.cls ∧ meth.sig.returnType = ret ∧ meth.locks = false ∧ meth.name = y.name
theorem kx_enter {l : Launch} {y : MethodName} {bytes : ByteArray} {maxL : Nat} {ret : Option FieldType} {rm : Room} {mc ms : Nat} {D : va_G} {tys : List (ClassId × FieldType)} {av : List Value} {ws : va_W} {Qf : (Nat → Prop) → Array Value → State → Outcome → State → Prop} (hy : plainName y.cls = true) (hlen : (lg_sl av).length ≤ maxL)
    (body : ∀ p e s m below meth c ls A H, kx_In p s m av.toArray meth c y bytes maxL ret → lv_has ls maxL (lv_args 0 av) → kx_w D tys A s ws H [] →
      W p l e rm s m av.toArray below meth c H [] 0 0 (MQ below (Qf A) av.toArray s mc ms A) (F0 m 0 ls [])) (sz : Nat) :
    Met l y (Cond.code y bytes maxL ret :: kx_tbl) rm (kx_Pre D tys av ws sz) (Qf (va_A ws sz)) mc ms (va_A ws sz) := by
  refine Met.ofW (cc := bytes) (maxL := maxL) (ret := ret) hy rfl ?_
  intro p e s m args below meth c s₁ B hml hv
  obtain ⟨rfl, hsz, hP, hK, hD0, hN0⟩ := hv
  have hts := atoms_spec (ws := Cond.code y bytes maxL ret :: kx_tbl) B.pre
  subst hsz
  have hl := lv_entry av (n := maxL) hlen
  rw [lg_entry_eq]
  exact body p e s m below meth c _ _ s.heap ⟨⟨B.exec, B.bytes, hml, findClass_of_methodNamed B.named, fun w hw => hts w (List.mem_cons_of_mem _ hw)⟩, B.returns, B.notSynchronized, (name_of_methodNamed B.named B.method).1⟩ hl ⟨hK, hP, hD0.self, va_S.rf, fun q h => Or.inr h, hN0⟩
theorem kx_enter_i {S : Type} {l : Launch} {y : MethodName} {bytes : ByteArray} {maxL : Nat} {ret : Option FieldType} {k mc ms : Nat} {D : va_G} {tys : List (ClassId × FieldType)} {av : List Value} {ws : va_W} {post : Int32 → S → Prop} {w1 : S → va_W} (hy : plainName y.cls = true) (hlen : (lg_sl av).length ≤ maxL)
    (body : ∀ p e s m below meth c ls A H, kx_In p s m av.toArray meth c y bytes maxL ret → lv_has ls maxL (lv_args 0 av) → kx_w D tys A s ws H [] →
      W p l e (kx_R k mc ms) s m av.toArray below meth c H [] 0 0 (MQ below (va_Qi post (fun u t => kx_B D tys A (w1 u) t) A) av.toArray s mc ms A) (F0 m 0 ls [])) : kx_Ci l y bytes maxL ret k mc ms D tys av ws post w1 :=
  fun sz => kx_enter (Qf := fun A => va_Qi post (fun u t => kx_B D tys A (w1 u) t) A) hy hlen body sz
theorem kx_enter_v {S : Type} {l : Launch} {y : MethodName} {bytes : ByteArray} {maxL : Nat} {k mc ms : Nat} {D : va_G} {tys : List (ClassId × FieldType)} {av : List Value} {ws : va_W} {post : S → Prop} {w1 : S → va_W} (hy : plainName y.cls = true) (hlen : (lg_sl av).length ≤ maxL)
    (body : ∀ p e s m below meth c ls A H, kx_In p s m av.toArray meth c y bytes maxL none → lv_has ls maxL (lv_args 0 av) → kx_w D tys A s ws H [] →
      W p l e (kx_R k mc ms) s m av.toArray below meth c H [] 0 0 (MQ below (va_Qv post (fun u t => kx_B D tys A (w1 u) t) A) av.toArray s mc ms A) (F0 m 0 ls [])) : kx_Cv l y bytes maxL k mc ms D tys av ws post w1 :=
  fun sz => kx_enter (Qf := fun A => va_Qv post (fun u t => kx_B D tys A (w1 u) t) A) hy hlen body sz
theorem kx_enter_r {S : Type} {l : Launch} {y : MethodName} {bytes : ByteArray} {maxL : Nat} {ret : Option FieldType} {k mc ms : Nat} {D : va_G} {tys : List (ClassId × FieldType)} {av : List Value} {ws : va_W} {post : S → Prop} {ra : S → Nat} {w1 : S → va_W} (hy : plainName y.cls = true) (hlen : (lg_sl av).length ≤ maxL)
    (body : ∀ p e s m below meth c ls A H, kx_In p s m av.toArray meth c y bytes maxL ret → lv_has ls maxL (lv_args 0 av) → kx_w D tys A s ws H [] →
      W p l e (kx_R k mc ms) s m av.toArray below meth c H [] 0 0 (MQ below (va_Qr post (fun u a t => a = ra u ∧ kx_B D tys A (w1 u) t) A) av.toArray s mc ms A) (F0 m 0 ls [])) : kx_Cr l y bytes maxL ret k mc ms D tys av ws post ra w1 :=
  fun sz => kx_enter (Qf := fun A => va_Qr post (fun u a t => a = ra u ∧ kx_B D tys A (w1 u) t) A) hy hlen body sz
/-- small numbers -/
theorem kx_lt {i : Int32} {n : Nat} (h : vp_in i n) : i.toNatClampNeg < n := Nat.not_le.mp fun q => h (Or.inr q)
theorem kx_c3 {i : Int32} (h : vp_in i 3) : i.toNatClampNeg = 0 ∨ i.toNatClampNeg = 1 ∨ i.toNatClampNeg = 2 := by
  have := kx_lt h
  omega
theorem kx_c4 {i : Int32} (h : vp_in i 4) : i.toNatClampNeg = 0 ∨ i.toNatClampNeg = 1 ∨ i.toNatClampNeg = 2 ∨ i.toNatClampNeg = 3 := by
  have := kx_lt h
  omega
theorem kx_i2 {x N : Int32} {n : Nat} (hN : N.toInt = n) (h0 : ¬ x < 0) (h1 : ¬ N ≤ x) : vp_in x n := by
  rw [Int32.lt_iff_toInt_lt, show (0 : Int32).toInt = 0 from rfl] at h0
  rw [Int32.le_iff_toInt_le, hN] at h1
  exact vp_in_iff.mpr ⟨by omega, by omega⟩
theorem kx_i3 {x N : Int32} {n : Nat} (hN : N.toInt = n) (h0 : 0 ≤ x) (h1 : ¬ N ≤ x) : vp_in x n := by
  rw [Int32.le_iff_toInt_le, show (0 : Int32).toInt = 0 from rfl] at h0
  rw [Int32.le_iff_toInt_le, hN] at h1
  exact vp_in_iff.mpr ⟨by omega, by omega⟩
theorem kx_ne {x k : Int32} (h : ¬ x = k) : ¬ x.toInt = k.toInt := fun e => h (Int32.toInt_inj.mp e)
theorem kx_sw2 {x : Int32} (h0 : ¬ x = 0) (h1 : ¬ x = 1) : x.toInt < 0 ∨ 1 < x.toInt := by
  have a := kx_ne h0; have b := kx_ne h1
  rw [show (0 : Int32).toInt = 0 from rfl] at a; rw [show (1 : Int32).toInt = 1 from rfl] at b
  omega
theorem kx_sw3 {x : Int32} (h0 : ¬ x = 0) (h1 : ¬ x = 1) (h2 : ¬ x = 2) : x.toInt < 0 ∨ 2 < x.toInt := by
  have a := kx_ne h0; have b := kx_ne h1; have c := kx_ne h2
  rw [show (0 : Int32).toInt = 0 from rfl] at a; rw [show (1 : Int32).toInt = 1 from rfl] at b; rw [show (2 : Int32).toInt = 2 from rfl] at c
  omega
theorem kx_sw5 {x : Int32} (h0 : ¬ x = 0) (h1 : ¬ x = 1) (h2 : ¬ x = 2) (h3 : ¬ x = 3) (h4 : ¬ x = 4) : x.toInt < 0 ∨ 4 < x.toInt := by
  have a := kx_ne h0; have b := kx_ne h1; have c := kx_ne h2; have d := kx_ne h3; have f := kx_ne h4
  rw [show (0 : Int32).toInt = 0 from rfl] at a; rw [show (1 : Int32).toInt = 1 from rfl] at b; rw [show (2 : Int32).toInt = 2 from rfl] at c; rw [show (3 : Int32).toInt = 3 from rfl] at d; rw [show (4 : Int32).toInt = 4 from rfl] at f
  omega
section KX
variable {p : Program} {l : Launch} {e : Env} {R : Room} {s : State} {m : MethodId} {args : Array Value} {below : List Frame} {meth : Method} {c : Code} {H : Heap} {locs : List Loc} {cells slots : Nat} {Q : State → Prop}
variable {cc : ByteArray} {pc nL : Nat} {ls : Array Slot} {rest : List Value} {D : va_G} {A : Nat → Prop} {a : Nat} {tys : List (ClassId × FieldType)} {ws : va_W} {own : String}
theorem kx_top {x v : Int32} (h : x = v) (k : W p l e R s m args below meth c H locs cells slots Q (F0 m pc ls (.int v :: rest))) : W p l e R s m args below meth c H locs cells slots Q (F0 m pc ls (.int x :: rest)) := by rw [h]; exact k
theorem kx_get (S : CallFix p m c cc nL s args kx_tbl own) (hw : kx_w D tys A s ws H locs) {ci k index : Nat} (F : kx_f own index ci k) (q0 : Nat) {fs : List Value} (he : ws[q0]? = some (a, .inr (ci, fs))) {v : Value} (hv : fs[k]? = some v) (hdg : decode cc pc = .ok (.getfield index, 3))
    (kk : W p l e R s m args below meth c H locs cells slots Q (F0 m (pc + 3) ls (v :: rest))) : W p l e R s m args below meth c H locs cells slots Q (F0 m pc ls (.ref a :: rest)) := by
  obtain ⟨C, T, N, hc, hk, hin, hl⟩ := F
  obtain ⟨hx, hb, -, hown, hts⟩ := S
  rcases hl with hl | ⟨host, hl⟩
  · exact va_get hx hb hts hin hown hw.1 hw.2.1 q0 he hc k hk (hts _ hl) (fun _ h => h) hv hdg kk
  · exact va_getN hx hb hts hin hown hw.1 hw.2.1 q0 he hc k hk (va_Nw.use rfl (hw.2.2.2.2.2.1 _ hl)) (fun _ h => h) hv hdg kk
theorem kx_put (S : CallFix p m c cc nL s args kx_tbl own) (hw : kx_w D tys A s ws H locs) {ci k index : Nat} {ty : FieldType} (F : kx_q own index ci k ty) (q0 : Nat) {fs : List Value} (he : ws[q0]? = some (a, .inr (ci, fs))) {v : Value} (hn : narrow ty v = v) (hfit : fits ty v = true) (hl : k < fs.length) (hdg : decode cc pc = .ok (.putfield index, 3))
    (kk : ∀ (H1 : Heap) (locs1 : List Loc), kx_w D tys A s (ws.set q0 (a, .inr (ci, fs.set k v))) H1 locs1 → W p l e R s m args below meth c H1 locs1 cells slots Q (F0 m (pc + 3) ls rest)) : W p l e R s m args below meth c H locs cells slots Q (F0 m pc ls (v :: .ref a :: rest)) := by
  obtain ⟨C, T, N, ty0, hc, hk, hin, hlk, hty, hnm, hfin, hd⟩ := F
  obtain ⟨hx, hb, -, hown, hts⟩ := S
  rcases hlk with hlk | ⟨host, hlk⟩
  · exact va_put hx hb hts hin ty0 hty hnm hown hw.1 hw.2.1 hw.2.2.1 hw.2.2.2.1 q0 he hc k hk (hts _ hlk) (fun _ h => h) hfin hd hn hfit hl hdg (fun H1 locs1 h1 h2 h3 => kk H1 locs1 ⟨hw.1, h1, h2, h3, hw.2.2.2.2⟩)
  · exact va_putN hx hb hts hin ty0 hty hnm hown hw.1 hw.2.1 hw.2.2.1 hw.2.2.2.1 q0 he hc k hk (va_Nw.use rfl (hw.2.2.2.2.2.1 _ hlk)) (fun _ h => h) hfin hd hn hfit hl hdg (fun H1 locs1 h1 h2 h3 => kk H1 locs1 ⟨hw.1, h1, h2, h3, hw.2.2.2.2⟩)
theorem kx_putF (S : CallFix p m c cc nL s args kx_tbl own) (hin2 : meth.name = "<init>") (hw : kx_w D tys A s ws H locs) {ci k index : Nat} {ty : FieldType} (F : kx_qF own index ci k ty) (q0 : Nat) {fs : List Value} (he : ws[q0]? = some (a, .inr (ci, fs))) {v : Value} (hn : narrow ty v = v) (hfit : fits ty v = true) (hl : k < fs.length) (hdg : decode cc pc = .ok (.putfield index, 3))
    (kk : ∀ (H1 : Heap) (locs1 : List Loc), kx_w D tys A s (ws.set q0 (a, .inr (ci, fs.set k v))) H1 locs1 → W p l e R s m args below meth c H1 locs1 cells slots Q (F0 m (pc + 3) ls rest)) : W p l e R s m args below meth c H locs cells slots Q (F0 m pc ls (v :: .ref a :: rest)) := by
  obtain ⟨C, T, N, ty0, hc, hk, hin, hlk, hty, hnm, hfin, hd, hde⟩ := F
  obtain ⟨hx, hb, -, hown, hts⟩ := S
  exact va_putF hx hb hts hin ty0 hty hnm hown hw.1 hw.2.1 hw.2.2.1 hw.2.2.2.1 q0 he hc k hk (hts _ hlk) (fun _ h => h) hfin hin2 hde hd hn hfit hl hdg (fun H1 locs1 h1 h2 h3 => kk H1 locs1 ⟨hw.1, h1, h2, h3, hw.2.2.2.2⟩)
theorem kx_new (S : CallFix p m c cc nL s args kx_tbl own) (hw : kx_w D tys A s ws H locs) {ci index : Nat} {fs : List Value} (F : kx_n own index ci fs) (hcells : cells + 1 ≤ R.cells) (hslots : slots + fs.length ≤ R.slots) (hdg : decode cc pc = .ok (.new index, 3))
    (kk : ∀ (q : Nat) (H1 : Heap), kx_w D tys A s (ws ++ [(q, .inr (ci, fs))]) H1 locs → W p l e R s m args below meth c H1 locs (cells + 1) (slots + fs.length) Q (F0 m (pc + 3) ls (.ref q :: rest))) : W p l e R s m args below meth c H locs cells slots Q (F0 m pc ls rest) := by
  obtain ⟨C, T, ty0, hc, hin, hty, h1, h2, h3, h4⟩ := F
  obtain ⟨hx, hb, -, hown, hts⟩ := S
  exact va_new hx hb hts hin ty0 hty hown (hts _ h1) (hts _ h2) (hts _ h3) hw.1 hw.2.1 hw.2.2.1 hw.2.2.2.1 hw.2.2.2.2.1 hc h4 hcells hslots hdg (fun q H1 g1 g2 g3 => kk q H1 ⟨hw.1, g1, g2, g3, hw.2.2.2.2⟩)
theorem kx_init (S : CallFix p m c cc nL s args kx_tbl own) {idx : Nat} (F : Cond.methodLink own idx Lib.objectInit ∈ kx_tbl ∧ Cond.instanceMethod Lib.objectInit ∈ kx_tbl ∧ Cond.code Lib.objectInit ⟨#[0xb1]⟩ 1 none ∈ kx_tbl) (hsz : ls.size = nL) (hd : decode cc pc = .ok (.invokespecial idx, 3)) (hframes : 1 ≤ R.frames) (hlocals : (rest.map fun v => v.category).sum + 12 ≤ R.locals)
    (kk : W p l e R s m args below meth c H locs cells slots Q (F0 m (pc + 3) ls rest)) : W p l e R s m args below meth c H locs cells slots Q (F0 m pc ls (.ref a :: rest)) := by
  obtain ⟨hx, hb, hml, hown, hts⟩ := S
  refine W.objInit hx hb hown (hts _ F.1) (hts _ F.2.1) (hts _ F.2.2) rfl (by rw [hml]; exact hsz) rfl hd hframes ?_ kk
  show 2 * 0 + _ + 12 ≤ _
  omega
theorem kx_iald (S : CallFix p m c cc nL s args kx_tbl own) (hw : kx_w D tys A s ws H locs) (q0 t0 : Nat) {cA : ClassId} {n : Nat} {f : Nat → Int32} (ha : ws[q0]? = some (a, .inl (cA, n, .inl f))) (ht : tys[t0]? = some (cA, .int)) {i : Int32} {j : Nat} (hj : i.toNatClampNeg = j) (hin : vp_in i n) (hdg : decode cc pc = .ok (.iaload, 1))
    (kk : W p l e R s m args below meth c H locs cells slots Q (F0 m (pc + 1) ls (.int (f j) :: rest))) : W p l e R s m args below meth c H locs cells slots Q (F0 m pc ls (.int i :: .ref a :: rest)) := by
  subst hj
  exact va_iald S.1 S.2.1 hw.1 hw.2.1 q0 t0 ha ht hin hdg kk
theorem kx_zald (S : CallFix p m c cc nL s args kx_tbl own) (hw : kx_w D tys A s ws H locs) (q0 t0 : Nat) {cA : ClassId} {n : Nat} {f : Nat → Int32} (ha : ws[q0]? = some (a, .inl (cA, n, .inl f))) (ht : tys[t0]? = some (cA, .boolean)) {i : Int32} {j : Nat} (hj : i.toNatClampNeg = j) (hin : vp_in i n) (hdg : decode cc pc = .ok (.baload, 1))
    (kk : W p l e R s m args below meth c H locs cells slots Q (F0 m (pc + 1) ls (.int (f j) :: rest))) : W p l e R s m args below meth c H locs cells slots Q (F0 m pc ls (.int i :: .ref a :: rest)) := by
  subst hj
  exact va_zald S.1 S.2.1 hw.1 hw.2.1 q0 t0 ha ht hin hdg kk
theorem kx_aald (S : CallFix p m c cc nL s args kx_tbl own) (hw : kx_w D tys A s ws H locs) (q0 t0 : Nat) {cA : ClassId} {C : String} {n : Nat} {f : Nat → Option Nat} (ha : ws[q0]? = some (a, .inl (cA, n, .inr (.inr (.inr (.inr f)))))) (ht : tys[t0]? = some (cA, .object C)) {i : Int32} {b : Nat} (hj : f i.toNatClampNeg = some b) (hin : vp_in i n) (hdg : decode cc pc = .ok (.aaload, 1))
    (kk : W p l e R s m args below meth c H locs cells slots Q (F0 m (pc + 1) ls (.ref b :: rest))) : W p l e R s m args below meth c H locs cells slots Q (F0 m pc ls (.int i :: .ref a :: rest)) := by
  refine va_aldq S.1 S.2.1 hw.1 hw.2.1 q0 t0 ha ht hin hdg ?_
  rw [hj]
  exact kk
theorem kx_iast (S : CallFix p m c cc nL s args kx_tbl own) (hw : kx_w D tys A s ws H locs) (q0 t0 : Nat) {cA : ClassId} {n : Nat} {f : Nat → Int32} (ha : ws[q0]? = some (a, .inl (cA, n, .inl f))) (ht : tys[t0]? = some (cA, .int)) {i x : Int32} {j : Nat} (hj : i.toNatClampNeg = j) (hin : vp_in i n) (hdg : decode cc pc = .ok (.iastore, 1))
    (kk : ∀ (H1 : Heap) (locs1 : List Loc), kx_w D tys A s (ws.set q0 (a, .inl (cA, n, .inl (upd f j x)))) H1 locs1 → W p l e R s m args below meth c H1 locs1 cells slots Q (F0 m (pc + 1) ls rest)) : W p l e R s m args below meth c H locs cells slots Q (F0 m pc ls (.int x :: .int i :: .ref a :: rest)) := by
  subst hj
  exact va_iast S.1 S.2.1 hw.1 hw.2.1 hw.2.2.1 hw.2.2.2.1 q0 t0 ha ht hin hdg (fun H1 locs1 h1 h2 h3 => kk H1 locs1 ⟨hw.1, h1, h2, h3, hw.2.2.2.2⟩)
theorem kx_zast (S : CallFix p m c cc nL s args kx_tbl own) (hw : kx_w D tys A s ws H locs) (q0 t0 : Nat) {cA : ClassId} {n : Nat} {f : Nat → Int32} (ha : ws[q0]? = some (a, .inl (cA, n, .inl f))) (ht : tys[t0]? = some (cA, .boolean)) {i x : Int32} {j : Nat} (hj : i.toNatClampNeg = j) (hxn : vp_nar .boolean x = x) (hin : vp_in i n) (hdg : decode cc pc = .ok (.bastore, 1))
    (kk : ∀ (H1 : Heap) (locs1 : List Loc), kx_w D tys A s (ws.set q0 (a, .inl (cA, n, .inl (upd f j x)))) H1 locs1 → W p l e R s m args below meth c H1 locs1 cells slots Q (F0 m (pc + 1) ls rest)) : W p l e R s m args below meth c H locs cells slots Q (F0 m pc ls (.int x :: .int i :: .ref a :: rest)) := by
  subst hj
  refine va_zast S.1 S.2.1 hw.1 hw.2.1 hw.2.2.1 hw.2.2.2.1 q0 t0 ha ht hin hdg (fun H1 locs1 h1 h2 h3 => ?_)
  rw [hxn] at h1 h2
  exact kk H1 locs1 ⟨hw.1, h1, h2, h3, hw.2.2.2.2⟩
theorem kx_aast (S : CallFix p m c cc nL s args kx_tbl own) (hw : kx_w D tys A s ws H locs) (q0 t0 qk ci : Nat) {cA : ClassId} {r : vw_C} {n v : Nat} {vs : List Value} {f : Nat → Option Nat} (ha : ws[q0]? = some (a, .inl (cA, n, .inr (.inr (.inr (.inr f)))))) (ht : tys[t0]? = some (cA, .object r.1)) (hv : ws[qk]? = some (v, .inr (ci, vs))) (hc : classes[ci]? = some r) {i : Int32} {j : Nat} (hj : i.toNatClampNeg = j) (hin : vp_in i n) (hdg : decode cc pc = .ok (.aastore, 1))
    (kk : ∀ (H1 : Heap) (locs1 : List Loc), kx_w D tys A s (ws.set q0 (a, .inl (cA, n, .inr (.inr (.inr (.inr (va_up f j (some v)))))))) H1 locs1 → W p l e R s m args below meth c H1 locs1 cells slots Q (F0 m (pc + 1) ls rest)) : W p l e R s m args below meth c H locs cells slots Q (F0 m pc ls (.ref v :: .int i :: .ref a :: rest)) := by
  subst hj
  exact va_astq S.1 S.2.1 hw.1 hw.2.1 hw.2.2.1 hw.2.2.2.1 q0 t0 qk ci ha ht hv hc hin hdg (fun H1 locs1 h1 h2 h3 => kk H1 locs1 ⟨hw.1, h1, h2, h3, hw.2.2.2.2⟩)
theorem kx_alen (S : CallFix p m c cc nL s args kx_tbl own) (hw : kx_w D tys A s ws H locs) (q0 t0 : Nat) {cA : ClassId} {x : vp_A} (ha : ws[q0]? = some (a, .inl (cA, x))) {ty : FieldType} (ht : tys[t0]? = some (cA, ty)) {v : Int32} (hv : Int32.ofNat x.1 = v) (hdg : decode cc pc = .ok (.arraylength, 1))
    (kk : W p l e R s m args below meth c H locs cells slots Q (F0 m (pc + 1) ls (.int v :: rest))) : W p l e R s m args below meth c H locs cells slots Q (F0 m pc ls (.ref a :: rest)) :=
  va_alen S.1 S.2.1 hw.1 hw.2.1 q0 t0 ha ht hv hdg kk
/-- the class of an array type is one -/
theorem kx_RA {cA cB : ClassId} {ty : FieldType} (h1 : va_RA s cA ty) (h2 : va_RA s cB ty) : cA = cB := by
  cases ty with
  | object C =>
    obtain ⟨_, _, _, _, _, h4⟩ := h1
    obtain ⟨_, _, _, _, _, g4⟩ := h2
    exact Option.some.inj (h4.symm.trans g4)
  | _ => exact Option.some.inj (Eq.trans (Eq.symm h1) h2)
theorem kx_newa (S : CallFix p m c cc nL s args kx_tbl own) (hw : kx_w D tys A s ws H locs) {atype : ArrayType} (harr : Cond.arrayClass (newarray.typeOf atype) ∈ kx_tbl) {ty : FieldType} (hty : newarray.typeOf atype = ty) (t0 : Nat) {cA : ClassId} (ht : tys[t0]? = some (cA, ty))
    {n : Int32} {N' : Nat} {a0 : vp_A} (ha : ∀ cA : ClassId, vp_cell cA a0 = arrV cA N' (fun _ => defaultValue ty)) (hn : ¬ n < 0) (hN : n.toNatClampNeg = N') (hbytes : N' * componentBytes ty ≤ 536870912) (hcells : cells + 1 ≤ R.cells) (hslots : slots + N' ≤ R.slots) (hdg : decode cc pc = .ok (.newarray atype, 2))
    (kk : ∀ (q : Nat) (H1 : Heap), kx_w D tys A s (ws ++ [(q, .inl (cA, a0))]) H1 locs → W p l e R s m args below meth c H1 locs (cells + 1) (slots + N') Q (F0 m (pc + 2) ls (.ref q :: rest))) : W p l e R s m args below meth c H locs cells slots Q (F0 m pc ls (.int n :: rest)) := by
  refine va_newa S.1 S.2.1 (S.2.2.2.2 _ harr) hty hw.1 hw.2.1 hw.2.2.1 hw.2.2.2.1 hw.2.2.2.2.1 ha hn hN hbytes hcells hslots hdg (fun q cB H1 g0 g1 g2 g3 => ?_)
  have e : cB = cA := kx_RA (g0.2 tys.length (cB, ty) (by rw [List.getElem?_append_right (Nat.le_refl _), Nat.sub_self]; rfl)).2 (hw.1.2 t0 _ ht).2
  subst e
  exact kk q H1 ⟨hw.1, g1, g2, g3, hw.2.2.2.2⟩
theorem kx_newq (S : CallFix p m c cc nL s args kx_tbl own) (hw : kx_w D tys A s ws H locs) {C : String} {index : Nat} (F : Cond.classLink own index C ∈ kx_tbl ∧ C = "RebornDrivers$Operation") (t0 : Nat) {cA : ClassId} (ht : tys[t0]? = some (cA, .object C))
    {n : Int32} {N' : Nat} (hn : ¬ n < 0) (hN : n.toNatClampNeg = N') (hbytes : N' * 4 ≤ 536870912) (hcells : cells + 1 ≤ R.cells) (hslots : slots + N' ≤ R.slots) (hdg : decode cc pc = .ok (.anewarray index, 3))
    (kk : ∀ (q : Nat) (H1 : Heap), kx_w D tys A s (ws ++ [(q, .inl (cA, N', .inr (.inr (.inr (.inr (fun _ => none))))))]) H1 locs → W p l e R s m args below meth c H1 locs (cells + 1) (slots + N') Q (F0 m (pc + 3) ls (.ref q :: rest))) : W p l e R s m args below meth c H locs cells slots Q (F0 m pc ls (.int n :: rest)) := by
  refine va_newq S.1 S.2.1 S.2.2.2.1 (S.2.2.2.2 _ F.1) (F.2 ▸ hw.2.2.2.2.2.2) hw.1 hw.2.1 hw.2.2.1 hw.2.2.2.1 hw.2.2.2.2.1 hn hN hbytes hcells hslots hdg (fun q cB H1 g0 g1 g2 g3 => ?_)
  have e : cB = cA := kx_RA (g0.2 tys.length (cB, .object C) (by rw [List.getElem?_append_right (Nat.le_refl _), Nat.sub_self]; rfl)).2 (hw.1.2 t0 _ ht).2
  subst e
  exact kk q H1 ⟨hw.1, g1, g2, g3, hw.2.2.2.2⟩
theorem kx_max (S : CallFix p m c cc nL s args kx_tbl own) {index : Nat} (F : Cond.methodLink own index Lib.Math.max.name ∈ kx_tbl ∧ Cond.static Lib.Math.max.name ∈ kx_tbl ∧ Cond.initialized "java/lang/Math" ∈ kx_tbl ∧ Cond.code Lib.Math.max.name Lib.Math.max.code 2 (some .int) ∈ kx_tbl) (hsz : ls.size = nL)
    (hframes : 1 ≤ R.frames) (hlocals : (rest.map fun v => v.category).sum + 13 ≤ R.locals) (hc : cells ≤ R.cells) (hs : slots ≤ R.slots) {x y : Int32} (hdg : decode cc pc = .ok (.invokestatic index, 3))
    (kk : W p l e R s m args below meth c H locs cells slots Q (F0 m (pc + 3) ls (.int (if x < y then y else x) :: rest))) : W p l e R s m args below meth c H locs cells slots Q (F0 m pc ls (.int y :: .int x :: rest)) := by
  obtain ⟨hx, hb, hml, hown, hts⟩ := S
  exact va_mmax hx hb (hml.trans hsz.symm) hown (hts _ F.1) (hts _ F.2.1) (hts _ F.2.2.1) (hts _ F.2.2.2) hframes hlocals hc hs hdg kk
/-- ends -/
theorem kx_ret_i {S : Type} {post : Int32 → S → Prop} {w1 : S → va_W} {y : MethodName} {ret : Option FieldType} (I : kx_In p s m args meth c y cc nL ret) (hret : ret = some .int) (hw : kx_w D tys A s ws H locs) {v : Int32} (u : S) (hp : post v u) (is : List Nat) (hn : va_nd is = true) (hs : is.map (fun i => ws[i]?) = (w1 u).map some) (hdg : decode cc pc = .ok (.ireturn, 1)) :
    W p l e R s m args below meth c H locs cells slots (MQ below (va_Qi post (fun u t => kx_B D tys A (w1 u) t) A) args s cells slots A) (F0 m pc ls [.int v]) := by
  have h9 := hw.sub is hn hs
  exact W.iret I.1.1 I.1.2.1 (I.2.1.trans hret) (fun t ht hW => ⟨⟨v, u, rfl, hp, by rw [ht]; exact h9.2.1, va_K.moved hW.alike h9.1, h9.2.2.1⟩, hw.2.2.2.1.F ht⟩) hw.2.2.2.1.2.2 hdg I.2.2.1
def kx_b (v : Int32) : Prop := v = 0 ∨ v = 1
theorem kx_b.nar {v : Int32} (h : kx_b v) : narrow .boolean (.int v) = .int v := by
  rcases h with rfl | rfl <;> rfl
theorem kx_b.vnar {v : Int32} (h : kx_b v) : vp_nar .boolean v = v := by
  rcases h with rfl | rfl <;> rfl
theorem kx_b.fit {v : Int32} (h : kx_b v) : fits .boolean (.int v) = true := by
  rcases h with rfl | rfl <;> rfl
theorem kx_ret_z {S : Type} {post : Int32 → S → Prop} {w1 : S → va_W} {y : MethodName} {ret : Option FieldType} (I : kx_In p s m args meth c y cc nL ret) (hret : ret = some .boolean) (hw : kx_w D tys A s ws H locs) {v : Int32} (hv : kx_b v) (u : S) (hp : post v u) (is : List Nat) (hn : va_nd is = true) (hs : is.map (fun i => ws[i]?) = (w1 u).map some) (hdg : decode cc pc = .ok (.ireturn, 1)) :
    W p l e R s m args below meth c H locs cells slots (MQ below (va_Qi post (fun u t => kx_B D tys A (w1 u) t) A) args s cells slots A) (F0 m pc ls [.int v]) := by
  have h9 := hw.sub is hn hs
  exact W.zret I.1.1 I.1.2.1 (I.2.1.trans hret) hv.nar (fun t ht hW => ⟨⟨v, u, rfl, hp, by rw [ht]; exact h9.2.1, va_K.moved hW.alike h9.1, h9.2.2.1⟩, hw.2.2.2.1.F ht⟩) hw.2.2.2.1.2.2 hdg I.2.2.1
theorem kx_ret_v {S : Type} {post : S → Prop} {w1 : S → va_W} {y : MethodName} {ret : Option FieldType} (I : kx_In p s m args meth c y cc nL ret) (hret : ret = none) (hw : kx_w D tys A s ws H locs) (u : S) (hp : post u) (is : List Nat) (hn : va_nd is = true) (hs : is.map (fun i => ws[i]?) = (w1 u).map some) (hdg : decode cc pc = .ok (.return_, 1)) :
    W p l e R s m args below meth c H locs cells slots (MQ below (va_Qv post (fun u t => kx_B D tys A (w1 u) t) A) args s cells slots A) (F0 m pc ls []) := by
  have h9 := hw.sub is hn hs
  exact W.vret I.1.1 I.1.2.1 (I.2.1.trans hret) (fun t ht hW => ⟨⟨u, rfl, hp, by rw [ht]; exact h9.2.1, va_K.moved hW.alike h9.1, h9.2.2.1⟩, hw.2.2.2.1.F ht⟩) hw.2.2.2.1.2.2 hdg I.2.2.1
theorem kx_ret_r {S : Type} {post : S → Prop} {ra : S → Nat} {w1 : S → va_W} {y : MethodName} {ret : Option FieldType} {C : String} (I : kx_In p s m args meth c y cc nL ret) (hret : ret = some (.object C)) (hw : kx_w D tys A s ws H locs) {b : Nat} (u : S) (hb : b = ra u) (hp : post u) (is : List Nat) (hn : va_nd is = true) (hs : is.map (fun i => ws[i]?) = (w1 u).map some) (hdg : decode cc pc = .ok (.areturn, 1)) :
    W p l e R s m args below meth c H locs cells slots (MQ below (va_Qr post (fun u a t => a = ra u ∧ kx_B D tys A (w1 u) t) A) args s cells slots A) (F0 m pc ls [.ref b]) := by
  have h9 := hw.sub is hn hs
  exact W.aret I.1.1 I.1.2.1 (I.2.1.trans hret) (Or.inl ⟨_, rfl⟩) (Or.inr ⟨_, rfl⟩) (fun t ht hW => ⟨⟨u, b, rfl, hp, hb, by rw [ht]; exact h9.2.1, va_K.moved hW.alike h9.1, h9.2.2.1⟩, hw.2.2.2.1.F ht⟩) hw.2.2.2.1.2.2 hdg I.2.2.1
/-- calls -/
theorem kx_blind {av : List Value} {wc : va_W} {sz : Nat} : FrameBlind (kx_Pre D tys av wc sz) := fun a U g mk q => by
  obtain ⟨q0, q1, qP, qK, qD, qN⟩ := q
  exact ⟨q0, q1, qP, va_K.moved (u := U) (U := U.calling g mk a) (Vm.Alike.refl U.vm) qK, qD, kx_N.same (u := U) rfl qN⟩
theorem kx_pre {av : List Value} {wc : va_W} (hw : kx_w D tys A s ws H locs) (isC : List Nat) (h0 : va_nd isC = true) (h1 : isC.map (fun i => ws[i]?) = wc.map some) (U : State) (hU : U.heap = H) (hW : s.WarmedH U.vm) : kx_Pre D tys av wc H.size av.toArray U := by
  have h9 := hw.sub isC h0 h1
  exact ⟨rfl, by rw [hU], by rw [hU]; exact h9.2.1, va_K.moved hW.alike h9.1, h9.2.2.1.weaken (fun _ _ _ _ => trivial), hw.2.2.2.2.2.warm hW⟩
theorem kx_runV {y : MethodName} {bytes : ByteArray} {maxL n index k mc ms : Nat} {ret : Option FieldType} {Qc : Array Value → State → Outcome → State → Prop} {free : Addr → Prop} {C : String} {T : u_T} {N ci b : Nat} {As st : List Value} {wc : va_W} {fs : List Value} (S : CallFix p m c cc nL s args kx_tbl own) (hw : kx_w D tys A s ws H locs) (F : kx_m own index y bytes maxL ret n ∧ Cond.instanceMethod y ∈ kx_tbl ∧ Cond.selects C y y ∈ kx_tbl) (hc : classes[ci]? = some (C, T, N)) (q0 : Nat) (he : ws[q0]? = some (b, .inr (ci, fs))) (isC : List Nat) (h0 : va_nd isC = true) (h1 : isC.map (fun i => ws[i]?) = wc.map some)
    (hM : Met l y (Cond.code y bytes maxL ret :: kx_tbl) (kx_R k mc ms) (kx_Pre D tys (.ref b :: As) wc H.size) Qc mc ms free) (hn : As.length = n) (hsize : ls.size = nL) (hst : st = As.reverse ++ .ref b :: rest) (hsum : (rest.map fun v => v.category).sum ≤ 8) (hdg : decode cc pc = .ok (.invokevirtual index, 3)) (hR : k + 1 ≤ R.frames ∧ 8 + (maxL + 11) + 24 * k ≤ R.locals) (hf : cells + mc ≤ R.cells ∧ slots + ms ≤ R.slots) :
    va_Run p l e R s m args below meth c H locs cells slots mc ms (F0 m pc ls st) rest (Qc (Value.ref b :: As).toArray) free := by
  obtain ⟨⟨f1, f2, f3, f4⟩, f5, f6⟩ := F
  have hts := S.2.2.2.2
  have hpre : PreV s H C b (kx_Pre D tys (.ref b :: As) wc H.size) As := ⟨kx_blind, va_recv hw.1 hw.2.1 hc he, fun U hU hW => kx_pre hw isC h0 h1 U hU hW⟩
  rcases f4 with f4 | ⟨host, f4⟩
  · exact va_runV S hM ⟨callB_of n hts (kx_good f1) rfl rfl rfl (hts _ f2) (hts _ f4) f3 hR, hts _ f5, hts _ f6⟩ hpre rfl hn hsize hst (lv_room hsum) hdg hf
  · exact va_runVN S hM ⟨va_cnB n hts (kx_good f1) rfl rfl rfl (hw.2.2.2.2.2.1 _ f4) (hts _ f2) f3 hR, hts _ f5, hts _ f6⟩ hpre rfl hn hsize hst (lv_room hsum) hdg hf
theorem kx_runS {y : MethodName} {bytes : ByteArray} {maxL n index k mc ms : Nat} {ret : Option FieldType} {Qc : Array Value → State → Outcome → State → Prop} {free : Addr → Prop} {As st : List Value} {wc : va_W} (S : CallFix p m c cc nL s args kx_tbl own) (hw : kx_w D tys A s ws H locs) (F : kx_m own index y bytes maxL ret n ∧ Cond.static y ∈ kx_tbl) (isC : List Nat) (h0 : va_nd isC = true) (h1 : isC.map (fun i => ws[i]?) = wc.map some)
    (hM : Met l y (Cond.code y bytes maxL ret :: kx_tbl) (kx_R k mc ms) (kx_Pre D tys As wc H.size) Qc mc ms free) (hn : As.length = n) (hsize : ls.size = nL) (hst : st = As.reverse ++ rest) (hsum : (rest.map fun v => v.category).sum ≤ 8) (hdg : decode cc pc = .ok (.invokestatic index, 3)) (hR : k + 1 ≤ R.frames ∧ 8 + (maxL + 11) + 24 * k ≤ R.locals) (hf : cells + mc ≤ R.cells ∧ slots + ms ≤ R.slots) :
    va_Run p l e R s m args below meth c H locs cells slots mc ms (F0 m pc ls st) rest (Qc As.toArray) free := by
  obtain ⟨⟨f1, f2, f3, f4⟩, f5⟩ := F
  have hts := S.2.2.2.2
  have hpre : PreS s H (kx_Pre D tys As wc H.size) As := ⟨kx_blind, fun U hU hW => kx_pre hw isC h0 h1 U hU hW⟩
  rcases f4 with f4 | ⟨host, f4⟩
  · exact va_runS S hM ⟨callB_of n hts (kx_good f1) rfl rfl rfl (hts _ f2) (hts _ f4) f3 hR, hts _ f5⟩ hpre rfl hn hsize hst (lv_room hsum) hdg hf
  · exact va_runSN S hM ⟨va_cnB n hts (kx_good f1) rfl rfl rfl (hw.2.2.2.2.2.1 _ f4) (hts _ f2) f3 hR, hts _ f5, trivial⟩ hpre rfl hn hsize hst (lv_room hsum) hdg hf
theorem kx_runI {y : MethodName} {bytes : ByteArray} {maxL n index k mc ms : Nat} {Qc : Array Value → State → Outcome → State → Prop} {free : Addr → Prop} {b : Nat} {As st : List Value} {wc : va_W} (S : CallFix p m c cc nL s args kx_tbl own) (hw : kx_w D tys A s ws H locs) (F : kx_m own index y bytes maxL none n ∧ y.name = "<init>" ∧ Cond.instanceMethod y ∈ kx_tbl) (isC : List Nat) (h0 : va_nd isC = true) (h1 : isC.map (fun i => ws[i]?) = wc.map some)
    (hM : Met l y (Cond.code y bytes maxL none :: kx_tbl) (kx_R k mc ms) (kx_Pre D tys (.ref b :: As) wc H.size) Qc mc ms free) (hn : As.length = n) (hsize : ls.size = nL) (hst : st = As.reverse ++ .ref b :: rest) (hsum : (rest.map fun v => v.category).sum ≤ 8) (hdg : decode cc pc = .ok (.invokespecial index, 3)) (hR : k + 1 ≤ R.frames ∧ 8 + (maxL + 11) + 24 * k ≤ R.locals) (hf : cells + mc ≤ R.cells ∧ slots + ms ≤ R.slots) :
    va_Run p l e R s m args below meth c H locs cells slots mc ms (F0 m pc ls st) rest (Qc (Value.ref b :: As).toArray) free := by
  obtain ⟨⟨f1, f2, f3, f4⟩, f5, f6⟩ := F
  have hts := S.2.2.2.2
  have hpre : PreS s H (kx_Pre D tys (.ref b :: As) wc H.size) (.ref b :: As) := ⟨kx_blind, fun U hU hW => kx_pre hw isC h0 h1 U hU hW⟩
  rcases f4 with f4 | ⟨host, f4⟩
  · exact va_runI S hM ⟨callB_of n hts (kx_good f1) rfl rfl rfl (hts _ f2) (hts _ f4) f3 hR, f5, hts _ f6⟩ hpre rfl hn hsize hst (lv_room hsum) hdg hf
  · exact va_runIN S hM ⟨va_cnB n hts (kx_good f1) rfl rfl rfl (hw.2.2.2.2.2.1 _ f4) (hts _ f2) f3 hR, f5, hts _ f6⟩ hpre rfl hn hsize hst (lv_room hsum) hdg hf
theorem kx_call_i {S0 : Type} {post : Int32 → S0 → Prop} {w1 : S0 → va_W} {mc ms : Nat} {st : List Value} {wc wr : va_W} {aa : Array Value} (hw : kx_w D tys A s ws H locs) (isC isR : List Nat) (h1 : isC.map (fun i => ws[i]?) = wc.map some) (h2 : isR.map (fun i => ws[i]?) = wr.map some) (hn : va_nd isR = true) (hdis : ∀ i ∈ isR, i ∉ isC)
    (run : va_Run p l e R s m args below meth c H locs cells slots mc ms (F0 m pc ls st) rest (va_Qi post (fun u t => kx_B D tys (va_A wc H.size) (w1 u) t) (va_A wc H.size) aa) (va_A wc H.size))
    (kk : ∀ (r : Int32) (u : S0) (H1 : Heap) (locs1 : List Loc), post r u → kx_w D tys A s (wr ++ w1 u) H1 locs1 → W p l e R s m args below meth c H1 locs1 (cells + mc) (slots + ms) Q (F0 m (pc + 3) ls (.int r :: rest))) : W p l e R s m args below meth c H locs cells slots Q (F0 m pc ls st) := by
  have hFc := va_free (wc := wc) hw.2.2.1 hw.2.2.2.1 hw.2.2.2.2.1 isC h1
  refine va_calli run hw.2.2.2.1 (fun q _ h => hFc q h) hFc (fun r u t H1 locs1 ht hvm hp hB hz hk hS => ?_)
  obtain ⟨hP1, hK1, hD1⟩ := hB
  rw [ht] at hP1
  obtain ⟨hP, hD⟩ := va_join hw.2.1 hw.2.2.1 isC isR h1 h2 hn hdis hk hFc hP1 hD1
  exact kk r u H1 locs1 hp ⟨hw.1, hP, hD, hS, hw.2.2.2.2⟩
theorem kx_call_v {S0 : Type} {post : S0 → Prop} {w1 : S0 → va_W} {mc ms : Nat} {st : List Value} {wc wr : va_W} {aa : Array Value} (hw : kx_w D tys A s ws H locs) (isC isR : List Nat) (h1 : isC.map (fun i => ws[i]?) = wc.map some) (h2 : isR.map (fun i => ws[i]?) = wr.map some) (hn : va_nd isR = true) (hdis : ∀ i ∈ isR, i ∉ isC)
    (run : va_Run p l e R s m args below meth c H locs cells slots mc ms (F0 m pc ls st) rest (va_Qv post (fun u t => kx_B D tys (va_A wc H.size) (w1 u) t) (va_A wc H.size) aa) (va_A wc H.size))
    (kk : ∀ (u : S0) (H1 : Heap) (locs1 : List Loc), post u → kx_w D tys A s (wr ++ w1 u) H1 locs1 → W p l e R s m args below meth c H1 locs1 (cells + mc) (slots + ms) Q (F0 m (pc + 3) ls rest)) : W p l e R s m args below meth c H locs cells slots Q (F0 m pc ls st) := by
  have hFc := va_free (wc := wc) hw.2.2.1 hw.2.2.2.1 hw.2.2.2.2.1 isC h1
  refine va_callv run hw.2.2.2.1 (fun q _ h => hFc q h) hFc (fun u t H1 locs1 ht hvm hp hB hz hk hS => ?_)
  obtain ⟨hP1, hK1, hD1⟩ := hB
  rw [ht] at hP1
  obtain ⟨hP, hD⟩ := va_join hw.2.1 hw.2.2.1 isC isR h1 h2 hn hdis hk hFc hP1 hD1
  exact kk u H1 locs1 hp ⟨hw.1, hP, hD, hS, hw.2.2.2.2⟩
theorem kx_call_r {S0 : Type} {post : S0 → Prop} {ra : S0 → Nat} {w1 : S0 → va_W} {mc ms : Nat} {st : List Value} {wc wr : va_W} {aa : Array Value} (hw : kx_w D tys A s ws H locs) (isC isR : List Nat) (h1 : isC.map (fun i => ws[i]?) = wc.map some) (h2 : isR.map (fun i => ws[i]?) = wr.map some) (hn : va_nd isR = true) (hdis : ∀ i ∈ isR, i ∉ isC)
    (run : va_Run p l e R s m args below meth c H locs cells slots mc ms (F0 m pc ls st) rest (va_Qr post (fun u a t => a = ra u ∧ kx_B D tys (va_A wc H.size) (w1 u) t) (va_A wc H.size) aa) (va_A wc H.size))
    (kk : ∀ (u : S0) (H1 : Heap) (locs1 : List Loc), post u → kx_w D tys A s (wr ++ w1 u) H1 locs1 → W p l e R s m args below meth c H1 locs1 (cells + mc) (slots + ms) Q (F0 m (pc + 3) ls (.ref (ra u) :: rest))) : W p l e R s m args below meth c H locs cells slots Q (F0 m pc ls st) := by
  have hFc := va_free (wc := wc) hw.2.2.1 hw.2.2.2.1 hw.2.2.2.2.1 isC h1
  refine va_callr run hw.2.2.2.1 (fun q _ h => hFc q h) hFc (fun u b t H1 locs1 ht hvm hp hB hz hk hS => ?_)
  obtain ⟨hb, hP1, hK1, hD1⟩ := hB
  subst hb
  rw [ht] at hP1
  obtain ⟨hP, hD⟩ := va_join hw.2.1 hw.2.2.1 isC isR h1 h2 hn hdis hk hFc hP1 hD1
  exact kk u H1 locs1 hp ⟨hw.1, hP, hD, hS, hw.2.2.2.2⟩
end KX
abbrev kt_Op : Type := Int32 × Int32 × Int32 × Int32 × Int32 × Int32
abbrev kt_Ln : Type := (Nat → Int32) × Int32
abbrev kt_Dr : Type := Int32 × Int32 × Int32 × Int32 × Int32 × Int32
abbrev kt_Rq : Type := Int32 × Int32 × Int32 × Int32 × Int32 × Int32 × Int32
abbrev kt_Ca : Type := (Nat → Int32) × (Nat → Int32) × (Nat → Int32) × (Nat → Int32)
abbrev kt_M : Type := Int32 × Int32 × Int32 × Int32
abbrev kx_T (cI cZ cO : ClassId) : List (ClassId × FieldType) := [(cI, .int), (cZ, .boolean), (cO, .object "RebornDrivers$Operation")]
def kx_opsf (ad : Nat → Nat) : Nat → Option Nat := va_up (va_up (va_up (va_up (fun _ => none) 0 (some (ad 2))) 1 (some (ad 3))) 2 (some (ad 4))) 3 (some (ad 5))
end
section
theorem mm_131 : Cond.fieldLink "RebornDrivers$Operation" 7 "RebornDrivers$Operation" "kind" "I" ∈ kx_tbl := List.mem_filter.mpr ⟨List.mem_append_right _ (List.mem_of_getElem? (i := 131) (by decide +kernel)), by decide +kernel⟩
theorem mm_133 : Cond.fieldLink "RebornDrivers$Operation" 13 "RebornDrivers$Operation" "block" "I" ∈ kx_tbl := List.mem_filter.mpr ⟨List.mem_append_right _ (List.mem_of_getElem? (i := 133) (by decide +kernel)), by decide +kernel⟩
theorem mm_135 : Cond.fieldLink "RebornDrivers$Operation" 16 "RebornDrivers$Operation" "value" "I" ∈ kx_tbl := List.mem_filter.mpr ⟨List.mem_append_right _ (List.mem_of_getElem? (i := 135) (by decide +kernel)), by decide +kernel⟩
theorem mm_137 : Cond.fieldLink "RebornDrivers$Operation" 19 "RebornDrivers$Operation" "writesAsked" "I" ∈ kx_tbl := List.mem_filter.mpr ⟨List.mem_append_right _ (List.mem_of_getElem? (i := 137) (by decide +kernel)), by decide +kernel⟩
theorem mm_139 : Cond.fieldLink "RebornDrivers$Operation" 22 "RebornDrivers$Operation" "state" "I" ∈ kx_tbl := List.mem_filter.mpr ⟨List.mem_append_right _ (List.mem_of_getElem? (i := 139) (by decide +kernel)), by decide +kernel⟩
theorem mm_141 : Cond.fieldLink "RebornDrivers$Operation" 25 "RebornDrivers$Operation" "result" "I" ∈ kx_tbl := List.mem_filter.mpr ⟨List.mem_append_right _ (List.mem_of_getElem? (i := 141) (by decide +kernel)), by decide +kernel⟩
theorem mm_27 : Cond.fieldLink "RebornDrivers$Line" 15 "RebornDrivers$Line" "length" "I" ∈ kx_tbl := List.mem_filter.mpr ⟨List.mem_append_right _ (List.mem_of_getElem? (i := 27) (by decide +kernel)), by decide +kernel⟩
theorem mm_26 : Cond.fieldLink "RebornDrivers$Line" 9 "RebornDrivers$Line" "users" "[I" ∈ kx_tbl := List.mem_filter.mpr ⟨List.mem_append_right _ (List.mem_of_getElem? (i := 26) (by decide +kernel)), by decide +kernel⟩
theorem mm_44 : Cond.fieldLink "RebornDrivers$Driver" 11 "RebornDrivers$Driver" "condition" "I" ∈ kx_tbl := List.mem_filter.mpr ⟨List.mem_append_right _ (List.mem_of_getElem? (i := 44) (by decide +kernel)), by decide +kernel⟩
theorem mm_47 : Cond.fieldLink "RebornDrivers$Driver" 15 "RebornDrivers$Driver" "stage" "I" ∈ kx_tbl := List.mem_filter.mpr ⟨List.mem_append_right _ (List.mem_of_getElem? (i := 47) (by decide +kernel)), by decide +kernel⟩
theorem mm_52 : Cond.fieldLink "RebornDrivers$Driver" 22 "RebornDrivers$Driver" "badness" "I" ∈ kx_tbl := List.mem_filter.mpr ⟨List.mem_append_right _ (List.mem_of_getElem? (i := 52) (by decide +kernel)), by decide +kernel⟩
theorem mm_41 : Cond.fieldLink "RebornDrivers$Driver" 31 "RebornDrivers$Driver" "endpoint" "I" ∈ kx_tbl := List.mem_filter.mpr ⟨List.mem_append_right _ (List.mem_of_getElem? (i := 41) (by decide +kernel)), by decide +kernel⟩
theorem mm_50 : Cond.fieldLink "RebornDrivers$Driver" 18 "RebornDrivers$Driver" "hasAnswered" "Z" ∈ kx_tbl := List.mem_filter.mpr ⟨List.mem_append_right _ (List.mem_of_getElem? (i := 50) (by decide +kernel)), by decide +kernel⟩
theorem mm_260 : Cond.code ⟨"RebornDrivers$Driver", "die", "()V"⟩ prog_3_method_3_code 1 none ∈ kx_tbl := List.mem_filter.mpr ⟨List.mem_append_right _ (List.mem_of_getElem? (i := 260) (by decide +kernel)), by decide +kernel⟩
theorem mm_3 : Cond.initialized "RebornDrivers$Driver" ∈ kx_tbl := List.mem_filter.mpr ⟨List.mem_append_right _ (List.mem_of_getElem? (i := 3) (by decide +kernel)), by decide +kernel⟩
theorem mm_257 : Cond.methodLink "RebornDrivers$Driver" 25 ⟨"RebornDrivers$Driver", "die", "()V"⟩ ∈ kx_tbl := List.mem_filter.mpr ⟨List.mem_append_right _ (List.mem_of_getElem? (i := 257) (by decide +kernel)), by decide +kernel⟩
theorem mm_259 : Cond.instanceMethod ⟨"RebornDrivers$Driver", "die", "()V"⟩ ∈ kx_tbl := List.mem_filter.mpr ⟨List.mem_append_right _ (List.mem_of_getElem? (i := 259) (by decide +kernel)), by decide +kernel⟩
theorem mm_244 : Cond.code ⟨"RebornDrivers$Driver", "restart", "()V"⟩ prog_3_method_5_code 1 none ∈ kx_tbl := List.mem_filter.mpr ⟨List.mem_append_right _ (List.mem_of_getElem? (i := 244) (by decide +kernel)), by decide +kernel⟩
theorem mm_241 : Cond.methodLink "RebornDrivers$Driver" 28 ⟨"RebornDrivers$Driver", "restart", "()V"⟩ ∈ kx_tbl := List.mem_filter.mpr ⟨List.mem_append_right _ (List.mem_of_getElem? (i := 241) (by decide +kernel)), by decide +kernel⟩
theorem mm_243 : Cond.instanceMethod ⟨"RebornDrivers$Driver", "restart", "()V"⟩ ∈ kx_tbl := List.mem_filter.mpr ⟨List.mem_append_right _ (List.mem_of_getElem? (i := 243) (by decide +kernel)), by decide +kernel⟩
theorem mm_53 : Cond.fieldLink "RebornDrivers$Driver" 37 "RebornDrivers$Driver" "refusals" "I" ∈ kx_tbl := List.mem_filter.mpr ⟨List.mem_append_right _ (List.mem_of_getElem? (i := 53) (by decide +kernel)), by decide +kernel⟩
theorem mm_256 : Cond.code ⟨"RebornDrivers$Driver", "beRefused", "()V"⟩ prog_3_method_7_code 1 none ∈ kx_tbl := List.mem_filter.mpr ⟨List.mem_append_right _ (List.mem_of_getElem? (i := 256) (by decide +kernel)), by decide +kernel⟩
theorem mm_253 : Cond.methodLink "RebornDrivers$Driver" 34 ⟨"RebornDrivers$Driver", "beRefused", "()V"⟩ ∈ kx_tbl := List.mem_filter.mpr ⟨List.mem_append_right _ (List.mem_of_getElem? (i := 253) (by decide +kernel)), by decide +kernel⟩
theorem mm_255 : Cond.instanceMethod ⟨"RebornDrivers$Driver", "beRefused", "()V"⟩ ∈ kx_tbl := List.mem_filter.mpr ⟨List.mem_append_right _ (List.mem_of_getElem? (i := 255) (by decide +kernel)), by decide +kernel⟩
theorem mm_74 : Cond.fieldLink "RebornDrivers$Request" 9 "RebornDrivers$Request" "kind" "I" ∈ kx_tbl := List.mem_filter.mpr ⟨List.mem_append_right _ (List.mem_of_getElem? (i := 74) (by decide +kernel)), by decide +kernel⟩
theorem mm_79 : Cond.fieldLink "RebornDrivers$Request" 13 "RebornDrivers$Request" "given" "Z" ∈ kx_tbl := List.mem_filter.mpr ⟨List.mem_append_right _ (List.mem_of_getElem? (i := 79) (by decide +kernel)), by decide +kernel⟩
theorem mm_81 : Cond.fieldLink "RebornDrivers$Request" 17 "RebornDrivers$Request" "answered" "Z" ∈ kx_tbl := List.mem_filter.mpr ⟨List.mem_append_right _ (List.mem_of_getElem? (i := 81) (by decide +kernel)), by decide +kernel⟩
theorem mm_83 : Cond.fieldLink "RebornDrivers$Request" 20 "RebornDrivers$Request" "givenTo" "I" ∈ kx_tbl := List.mem_filter.mpr ⟨List.mem_append_right _ (List.mem_of_getElem? (i := 83) (by decide +kernel)), by decide +kernel⟩
theorem mm_42 : Cond.fieldLinkNest "RebornDrivers$Request" 23 "RebornDrivers$Driver" "endpoint" "I" "RebornDrivers" ∈ kx_nl := List.mem_filter.mpr ⟨List.mem_append_right _ (List.mem_of_getElem? (i := 42) (by decide +kernel)), by decide +kernel⟩
theorem mm_45 : Cond.fieldLinkNest "RebornDrivers$Request" 28 "RebornDrivers$Driver" "condition" "I" "RebornDrivers" ∈ kx_nl := List.mem_filter.mpr ⟨List.mem_append_right _ (List.mem_of_getElem? (i := 45) (by decide +kernel)), by decide +kernel⟩
theorem mm_48 : Cond.fieldLinkNest "RebornDrivers$Request" 31 "RebornDrivers$Driver" "stage" "I" "RebornDrivers" ∈ kx_nl := List.mem_filter.mpr ⟨List.mem_append_right _ (List.mem_of_getElem? (i := 48) (by decide +kernel)), by decide +kernel⟩
theorem mm_280 : Cond.code ⟨"RebornDrivers$Request", "isOpen", "()Z"⟩ prog_6_method_2_code 1 (some .boolean) ∈ kx_tbl := List.mem_filter.mpr ⟨List.mem_append_right _ (List.mem_of_getElem? (i := 280) (by decide +kernel)), by decide +kernel⟩
theorem mm_4 : Cond.initialized "RebornDrivers$Request" ∈ kx_tbl := List.mem_filter.mpr ⟨List.mem_append_right _ (List.mem_of_getElem? (i := 4) (by decide +kernel)), by decide +kernel⟩
theorem mm_425 : Cond.methodLink "RebornDrivers$Request" 34 ⟨"RebornDrivers$Request", "isOpen", "()Z"⟩ ∈ kx_tbl := List.mem_filter.mpr ⟨List.mem_append_right _ (List.mem_of_getElem? (i := 425) (by decide +kernel)), by decide +kernel⟩
theorem mm_279 : Cond.instanceMethod ⟨"RebornDrivers$Request", "isOpen", "()Z"⟩ ∈ kx_tbl := List.mem_filter.mpr ⟨List.mem_append_right _ (List.mem_of_getElem? (i := 279) (by decide +kernel)), by decide +kernel⟩
theorem mm_108 : Cond.fieldLink "RebornDrivers$Cache" 9 "RebornDrivers$Cache" "blocks" "[I" ∈ kx_tbl := List.mem_filter.mpr ⟨List.mem_append_right _ (List.mem_of_getElem? (i := 108) (by decide +kernel)), by decide +kernel⟩
theorem mm_336 : Cond.code ⟨"RebornDrivers$Cache", "find", "(I)I"⟩ prog_2_method_2_code 3 (some .int) ∈ kx_tbl := List.mem_filter.mpr ⟨List.mem_append_right _ (List.mem_of_getElem? (i := 336) (by decide +kernel)), by decide +kernel⟩
theorem mm_5 : Cond.initialized "RebornDrivers$Cache" ∈ kx_tbl := List.mem_filter.mpr ⟨List.mem_append_right _ (List.mem_of_getElem? (i := 5) (by decide +kernel)), by decide +kernel⟩
theorem mm_345 : Cond.methodLink "RebornDrivers$Cache" 31 ⟨"RebornDrivers$Cache", "find", "(I)I"⟩ ∈ kx_tbl := List.mem_filter.mpr ⟨List.mem_append_right _ (List.mem_of_getElem? (i := 345) (by decide +kernel)), by decide +kernel⟩
theorem mm_335 : Cond.instanceMethod ⟨"RebornDrivers$Cache", "find", "(I)I"⟩ ∈ kx_tbl := List.mem_filter.mpr ⟨List.mem_append_right _ (List.mem_of_getElem? (i := 335) (by decide +kernel)), by decide +kernel⟩
theorem mm_114 : Cond.fieldLink "RebornDrivers$Cache" 22 "RebornDrivers$Cache" "usedAt" "[I" ∈ kx_tbl := List.mem_filter.mpr ⟨List.mem_append_right _ (List.mem_of_getElem? (i := 114) (by decide +kernel)), by decide +kernel⟩
theorem mm_112 : Cond.fieldLink "RebornDrivers$Cache" 18 "RebornDrivers$Cache" "dirty" "[Z" ∈ kx_tbl := List.mem_filter.mpr ⟨List.mem_append_right _ (List.mem_of_getElem? (i := 112) (by decide +kernel)), by decide +kernel⟩
theorem mm_110 : Cond.fieldLink "RebornDrivers$Cache" 15 "RebornDrivers$Cache" "values" "[I" ∈ kx_tbl := List.mem_filter.mpr ⟨List.mem_append_right _ (List.mem_of_getElem? (i := 110) (by decide +kernel)), by decide +kernel⟩
theorem mm_296 : Cond.code ⟨"RebornDrivers$Cache", "hold", "(IIIZ)V"⟩ prog_2_method_5_code 5 none ∈ kx_tbl := List.mem_filter.mpr ⟨List.mem_append_right _ (List.mem_of_getElem? (i := 296) (by decide +kernel)), by decide +kernel⟩
theorem mm_350 : Cond.methodLink "RebornDrivers$Cache" 35 ⟨"RebornDrivers$Cache", "hold", "(IIIZ)V"⟩ ∈ kx_tbl := List.mem_filter.mpr ⟨List.mem_append_right _ (List.mem_of_getElem? (i := 350) (by decide +kernel)), by decide +kernel⟩
theorem mm_295 : Cond.instanceMethod ⟨"RebornDrivers$Cache", "hold", "(IIIZ)V"⟩ ∈ kx_tbl := List.mem_filter.mpr ⟨List.mem_append_right _ (List.mem_of_getElem? (i := 295) (by decide +kernel)), by decide +kernel⟩
theorem fp_Op_7 : kx_q "RebornDrivers$Operation" 7 1 0 (.int) := ⟨R_Op, F_Op, 6, t_Op, rfl, by decide, in_Op, Or.inl mm_131, t_Op_ok, n_Op, rfl, by decide +kernel⟩
theorem fp_Op_13 : kx_q "RebornDrivers$Operation" 13 1 1 (.int) := ⟨R_Op, F_Op, 6, t_Op, rfl, by decide, in_Op, Or.inl mm_133, t_Op_ok, n_Op, rfl, by decide +kernel⟩
theorem fp_Op_16 : kx_q "RebornDrivers$Operation" 16 1 2 (.int) := ⟨R_Op, F_Op, 6, t_Op, rfl, by decide, in_Op, Or.inl mm_135, t_Op_ok, n_Op, rfl, by decide +kernel⟩
theorem fp_Op_19 : kx_q "RebornDrivers$Operation" 19 1 3 (.int) := ⟨R_Op, F_Op, 6, t_Op, rfl, by decide, in_Op, Or.inl mm_137, t_Op_ok, n_Op, rfl, by decide +kernel⟩
theorem fp_Op_22 : kx_q "RebornDrivers$Operation" 22 1 4 (.int) := ⟨R_Op, F_Op, 6, t_Op, rfl, by decide, in_Op, Or.inl mm_139, t_Op_ok, n_Op, rfl, by decide +kernel⟩
theorem fp_Op_25 : kx_q "RebornDrivers$Operation" 25 1 5 (.int) := ⟨R_Op, F_Op, 6, t_Op, rfl, by decide, in_Op, Or.inl mm_141, t_Op_ok, n_Op, rfl, by decide +kernel⟩
theorem fg_Ln_15 : kx_f "RebornDrivers$Line" 15 2 1 := ⟨R_Ln, F_Ln, 2, rfl, by decide, in_Ln, Or.inl mm_27⟩
theorem fg_Ln_9 : kx_f "RebornDrivers$Line" 9 2 0 := ⟨R_Ln, F_Ln, 2, rfl, by decide, in_Ln, Or.inl mm_26⟩
theorem fp_Ln_15 : kx_q "RebornDrivers$Line" 15 2 1 (.int) := ⟨R_Ln, F_Ln, 2, t_Ln, rfl, by decide, in_Ln, Or.inl mm_27, t_Ln_ok, n_Ln, rfl, by decide +kernel⟩
theorem fm_Ln_19 : Cond.methodLink "RebornDrivers$Line" 19 Lib.Math.max.name ∈ kx_tbl ∧ Cond.static Lib.Math.max.name ∈ kx_tbl ∧ Cond.initialized "java/lang/Math" ∈ kx_tbl ∧ Cond.code Lib.Math.max.name Lib.Math.max.code 2 (some .int) ∈ kx_tbl := ⟨List.mem_filter.mpr ⟨List.mem_append_right _ (List.mem_of_getElem? (i := 359) (by decide +kernel)), by decide +kernel⟩, List.mem_filter.mpr ⟨List.mem_append_right _ (List.mem_of_getElem? (i := 360) (by decide +kernel)), by decide +kernel⟩, List.mem_filter.mpr ⟨List.mem_append_right _ (List.mem_of_getElem? (i := 9) (by decide +kernel)), by decide +kernel⟩, List.mem_filter.mpr ⟨List.mem_append_right _ (List.mem_of_getElem? (i := 361) (by decide +kernel)), by decide +kernel⟩⟩
theorem fp_Dr_11 : kx_q "RebornDrivers$Driver" 11 3 1 (.int) := ⟨R_Dr, F_Dr, 6, t_Dr, rfl, by decide, in_Dr, Or.inl mm_44, t_Dr_ok, n_Dr, rfl, by decide +kernel⟩
theorem fp_Dr_15 : kx_q "RebornDrivers$Driver" 15 3 2 (.int) := ⟨R_Dr, F_Dr, 6, t_Dr, rfl, by decide, in_Dr, Or.inl mm_47, t_Dr_ok, n_Dr, rfl, by decide +kernel⟩
theorem fp_Dr_22 : kx_q "RebornDrivers$Driver" 22 3 4 (.int) := ⟨R_Dr, F_Dr, 6, t_Dr, rfl, by decide, in_Dr, Or.inl mm_52, t_Dr_ok, n_Dr, rfl, by decide +kernel⟩
theorem fg_Dr_31 : kx_f "RebornDrivers$Driver" 31 3 0 := ⟨R_Dr, F_Dr, 6, rfl, by decide, in_Dr, Or.inl mm_41⟩
theorem fp_Dr_31 : kx_q "RebornDrivers$Driver" 31 3 0 (.int) := ⟨R_Dr, F_Dr, 6, t_Dr, rfl, by decide, in_Dr, Or.inl mm_41, t_Dr_ok, n_Dr, rfl, by decide +kernel⟩
theorem fp_Dr_18 : kx_q "RebornDrivers$Driver" 18 3 3 (.boolean) := ⟨R_Dr, F_Dr, 6, t_Dr, rfl, by decide, in_Dr, Or.inl mm_50, t_Dr_ok, n_Dr, rfl, by decide +kernel⟩
theorem fg_Dr_11 : kx_f "RebornDrivers$Driver" 11 3 1 := ⟨R_Dr, F_Dr, 6, rfl, by decide, in_Dr, Or.inl mm_44⟩
theorem sel_Dr_die : Cond.selects "RebornDrivers$Driver" y_Dr_die y_Dr_die ∈ kx_tbl := List.mem_filter.mpr ⟨List.mem_append_left _ (by decide +kernel), by decide +kernel⟩
theorem fc_Dr_25 : kx_m "RebornDrivers$Driver" 25 y_Dr_die b_Dr_die 1 none 0 ∧ Cond.instanceMethod y_Dr_die ∈ kx_tbl ∧ Cond.selects "RebornDrivers$Driver" y_Dr_die y_Dr_die ∈ kx_tbl := ⟨⟨mm_260, mm_3, by decide +kernel, Or.inl mm_257⟩, mm_259, sel_Dr_die⟩
theorem sel_Dr_restart : Cond.selects "RebornDrivers$Driver" y_Dr_restart y_Dr_restart ∈ kx_tbl := List.mem_filter.mpr ⟨List.mem_append_left _ (by decide +kernel), by decide +kernel⟩
theorem fc_Dr_28 : kx_m "RebornDrivers$Driver" 28 y_Dr_restart b_Dr_restart 1 none 0 ∧ Cond.instanceMethod y_Dr_restart ∈ kx_tbl ∧ Cond.selects "RebornDrivers$Driver" y_Dr_restart y_Dr_restart ∈ kx_tbl := ⟨⟨mm_244, mm_3, by decide +kernel, Or.inl mm_241⟩, mm_243, sel_Dr_restart⟩
theorem fg_Dr_18 : kx_f "RebornDrivers$Driver" 18 3 3 := ⟨R_Dr, F_Dr, 6, rfl, by decide, in_Dr, Or.inl mm_50⟩
theorem fg_Dr_37 : kx_f "RebornDrivers$Driver" 37 3 5 := ⟨R_Dr, F_Dr, 6, rfl, by decide, in_Dr, Or.inl mm_53⟩
theorem fp_Dr_37 : kx_q "RebornDrivers$Driver" 37 3 5 (.int) := ⟨R_Dr, F_Dr, 6, t_Dr, rfl, by decide, in_Dr, Or.inl mm_53, t_Dr_ok, n_Dr, rfl, by decide +kernel⟩
theorem fg_Dr_22 : kx_f "RebornDrivers$Driver" 22 3 4 := ⟨R_Dr, F_Dr, 6, rfl, by decide, in_Dr, Or.inl mm_52⟩
theorem fg_Dr_15 : kx_f "RebornDrivers$Driver" 15 3 2 := ⟨R_Dr, F_Dr, 6, rfl, by decide, in_Dr, Or.inl mm_47⟩
theorem sel_Dr_beRefused : Cond.selects "RebornDrivers$Driver" y_Dr_beRefused y_Dr_beRefused ∈ kx_tbl := List.mem_filter.mpr ⟨List.mem_append_left _ (by decide +kernel), by decide +kernel⟩
theorem fc_Dr_34 : kx_m "RebornDrivers$Driver" 34 y_Dr_beRefused b_Dr_beRefused 1 none 0 ∧ Cond.instanceMethod y_Dr_beRefused ∈ kx_tbl ∧ Cond.selects "RebornDrivers$Driver" y_Dr_beRefused y_Dr_beRefused ∈ kx_tbl := ⟨⟨mm_256, mm_3, by decide +kernel, Or.inl mm_253⟩, mm_255, sel_Dr_beRefused⟩
theorem fg_Rq_9 : kx_f "RebornDrivers$Request" 9 4 0 := ⟨R_Rq, F_Rq, 7, rfl, by decide, in_Rq, Or.inl mm_74⟩
theorem fp_Rq_9 : kx_q "RebornDrivers$Request" 9 4 0 (.int) := ⟨R_Rq, F_Rq, 7, t_Rq, rfl, by decide, in_Rq, Or.inl mm_74, t_Rq_ok, n_Rq, rfl, by decide +kernel⟩
theorem fp_Rq_13 : kx_q "RebornDrivers$Request" 13 4 4 (.boolean) := ⟨R_Rq, F_Rq, 7, t_Rq, rfl, by decide, in_Rq, Or.inl mm_79, t_Rq_ok, n_Rq, rfl, by decide +kernel⟩
theorem fp_Rq_17 : kx_q "RebornDrivers$Request" 17 4 5 (.boolean) := ⟨R_Rq, F_Rq, 7, t_Rq, rfl, by decide, in_Rq, Or.inl mm_81, t_Rq_ok, n_Rq, rfl, by decide +kernel⟩
theorem fg_Rq_13 : kx_f "RebornDrivers$Request" 13 4 4 := ⟨R_Rq, F_Rq, 7, rfl, by decide, in_Rq, Or.inl mm_79⟩
theorem fg_Rq_20 : kx_f "RebornDrivers$Request" 20 4 6 := ⟨R_Rq, F_Rq, 7, rfl, by decide, in_Rq, Or.inl mm_83⟩
theorem fg_Rq_23 : kx_f "RebornDrivers$Request" 23 3 0 := ⟨R_Dr, F_Dr, 6, rfl, by decide, in_Dr, Or.inr ⟨_, mm_42⟩⟩
theorem fg_Rq_28 : kx_f "RebornDrivers$Request" 28 3 1 := ⟨R_Dr, F_Dr, 6, rfl, by decide, in_Dr, Or.inr ⟨_, mm_45⟩⟩
theorem fp_Rq_31 : kx_q "RebornDrivers$Request" 31 3 2 (.int) := ⟨R_Dr, F_Dr, 6, t_Dr, rfl, by decide, in_Dr, Or.inr ⟨_, mm_48⟩, t_Dr_ok, n_Dr, rfl, by decide +kernel⟩
theorem fp_Rq_20 : kx_q "RebornDrivers$Request" 20 4 6 (.int) := ⟨R_Rq, F_Rq, 7, t_Rq, rfl, by decide, in_Rq, Or.inl mm_83, t_Rq_ok, n_Rq, rfl, by decide +kernel⟩
theorem sel_Rq_isOpen : Cond.selects "RebornDrivers$Request" y_Rq_isOpen y_Rq_isOpen ∈ kx_tbl := List.mem_filter.mpr ⟨List.mem_append_left _ (by decide +kernel), by decide +kernel⟩
theorem fc_Rq_34 : kx_m "RebornDrivers$Request" 34 y_Rq_isOpen b_Rq_isOpen 1 (some .boolean) 0 ∧ Cond.instanceMethod y_Rq_isOpen ∈ kx_tbl ∧ Cond.selects "RebornDrivers$Request" y_Rq_isOpen y_Rq_isOpen ∈ kx_tbl := ⟨⟨mm_280, mm_4, by decide +kernel, Or.inl mm_425⟩, mm_279, sel_Rq_isOpen⟩
theorem fg_Ca_9 : kx_f "RebornDrivers$Cache" 9 5 0 := ⟨R_Ca, F_Ca, 4, rfl, by decide, in_Ca, Or.inl mm_108⟩
theorem sel_Ca_find : Cond.selects "RebornDrivers$Cache" y_Ca_find y_Ca_find ∈ kx_tbl := List.mem_filter.mpr ⟨List.mem_append_left _ (by decide +kernel), by decide +kernel⟩
theorem fc_Ca_31 : kx_m "RebornDrivers$Cache" 31 y_Ca_find b_Ca_find 3 (some .int) 1 ∧ Cond.instanceMethod y_Ca_find ∈ kx_tbl ∧ Cond.selects "RebornDrivers$Cache" y_Ca_find y_Ca_find ∈ kx_tbl := ⟨⟨mm_336, mm_5, by decide +kernel, Or.inl mm_345⟩, mm_335, sel_Ca_find⟩
theorem fg_Ca_22 : kx_f "RebornDrivers$Cache" 22 5 3 := ⟨R_Ca, F_Ca, 4, rfl, by decide, in_Ca, Or.inl mm_114⟩
theorem fg_Ca_18 : kx_f "RebornDrivers$Cache" 18 5 2 := ⟨R_Ca, F_Ca, 4, rfl, by decide, in_Ca, Or.inl mm_112⟩
theorem fg_Ca_15 : kx_f "RebornDrivers$Cache" 15 5 1 := ⟨R_Ca, F_Ca, 4, rfl, by decide, in_Ca, Or.inl mm_110⟩
theorem sel_Ca_hold : Cond.selects "RebornDrivers$Cache" y_Ca_hold y_Ca_hold ∈ kx_tbl := List.mem_filter.mpr ⟨List.mem_append_left _ (by decide +kernel), by decide +kernel⟩
theorem fc_Ca_35 : kx_m "RebornDrivers$Cache" 35 y_Ca_hold b_Ca_hold 5 none 4 ∧ Cond.instanceMethod y_Ca_hold ∈ kx_tbl ∧ Cond.selects "RebornDrivers$Cache" y_Ca_hold y_Ca_hold ∈ kx_tbl := ⟨⟨mm_296, mm_5, by decide +kernel, Or.inl mm_350⟩, mm_295, sel_Ca_hold⟩

def f_Op_begin (o : kt_Op) (k : Int32) (b : Int32) (v : Int32) : kt_Op :=
  (k, b, v, 0, 1, 0)
set_option maxHeartbeats 4000000 in
set_option maxRecDepth 100000 in
theorem c_Op_begin (l : Launch) (D : va_G) (cI cZ cO : ClassId) (h : Nat) (o : kt_Op) (k : Int32) (b : Int32) (v : Int32) : kx_Cv (S := kt_Op) l y_Op_begin b_Op_begin 4 0 0 0 D (kx_T cI cZ cO) [.ref h, .int k, .int b, .int v] [(h, .inr (1, [.int o.1, .int o.2.1, .int o.2.2.1, .int o.2.2.2.1, .int o.2.2.2.2.1, .int o.2.2.2.2.2]))] (fun zz => zz = f_Op_begin o k b v) (fun zz => [(h, .inr (1, [.int zz.1, .int zz.2.1, .int zz.2.2.1, .int zz.2.2.2.1, .int zz.2.2.2.2.1, .int zz.2.2.2.2.2]))]) := by
  refine kx_enter_v (by decide) (Nat.le_of_ble_eq_true rfl) ?_
  intro p_ e_ s_ m_ below_ meth_ c_ ls A_ H I hl hw
  have S := I.1
  have hx := S.1
  have hb := S.2.1
  have hl : lv_has ls 4 [(0, .ref h), (1, .int k), (2, .int b), (3, .int v)] := hl
  refine lv_aload_n hx hb d_Op_begin_0 rfl (lv_at hl 0 rfl) ?_
  refine lv_iload_n hx hb d_Op_begin_1 rfl (lv_at hl 1 rfl) ?_
  refine kx_put S hw fp_Op_7 0 rfl rfl rfl (Nat.le_of_ble_eq_true rfl) d_Op_begin_2 (fun H locs hw => ?_)
  have hw : kx_w D (kx_T cI cZ cO) A_ s_ [(h, .inr (1, [.int k, .int o.2.1, .int o.2.2.1, .int o.2.2.2.1, .int o.2.2.2.2.1, .int o.2.2.2.2.2]))] H locs := hw
  refine lv_aload_n hx hb d_Op_begin_5 rfl (lv_at hl 0 rfl) ?_
  refine lv_iload_n hx hb d_Op_begin_6 rfl (lv_at hl 2 rfl) ?_
  refine kx_put S hw fp_Op_13 0 rfl rfl rfl (Nat.le_of_ble_eq_true rfl) d_Op_begin_7 (fun H locs hw => ?_)
  have hw : kx_w D (kx_T cI cZ cO) A_ s_ [(h, .inr (1, [.int k, .int b, .int o.2.2.1, .int o.2.2.2.1, .int o.2.2.2.2.1, .int o.2.2.2.2.2]))] H locs := hw
  refine lv_aload_n hx hb d_Op_begin_10 rfl (lv_at hl 0 rfl) ?_
  refine lv_iload_n hx hb d_Op_begin_11 rfl (lv_at hl 3 rfl) ?_
  refine kx_put S hw fp_Op_16 0 rfl rfl rfl (Nat.le_of_ble_eq_true rfl) d_Op_begin_12 (fun H locs hw => ?_)
  have hw : kx_w D (kx_T cI cZ cO) A_ s_ [(h, .inr (1, [.int k, .int b, .int v, .int o.2.2.2.1, .int o.2.2.2.2.1, .int o.2.2.2.2.2]))] H locs := hw
  refine lv_aload_n hx hb d_Op_begin_15 rfl (lv_at hl 0 rfl) ?_
  refine lv_iconst (v := 0) hx hb d_Op_begin_16 (by decide) ?_
  refine kx_put S hw fp_Op_19 0 rfl rfl rfl (Nat.le_of_ble_eq_true rfl) d_Op_begin_17 (fun H locs hw => ?_)
  have hw : kx_w D (kx_T cI cZ cO) A_ s_ [(h, .inr (1, [.int k, .int b, .int v, .int 0, .int o.2.2.2.2.1, .int o.2.2.2.2.2]))] H locs := hw
  refine lv_aload_n hx hb d_Op_begin_20 rfl (lv_at hl 0 rfl) ?_
  refine lv_iconst (v := 1) hx hb d_Op_begin_21 (by decide) ?_
  refine kx_put S hw fp_Op_22 0 rfl rfl rfl (Nat.le_of_ble_eq_true rfl) d_Op_begin_22 (fun H locs hw => ?_)
  have hw : kx_w D (kx_T cI cZ cO) A_ s_ [(h, .inr (1, [.int k, .int b, .int v, .int 0, .int 1, .int o.2.2.2.2.2]))] H locs := hw
  refine lv_aload_n hx hb d_Op_begin_25 rfl (lv_at hl 0 rfl) ?_
  refine lv_iconst (v := 0) hx hb d_Op_begin_26 (by decide) ?_
  refine kx_put S hw fp_Op_25 0 rfl rfl rfl (Nat.le_of_ble_eq_true rfl) d_Op_begin_27 (fun H locs hw => ?_)
  have hw : kx_w D (kx_T cI cZ cO) A_ s_ [(h, .inr (1, [.int k, .int b, .int v, .int 0, .int 1, .int 0]))] H locs := hw
  exact kx_ret_v I rfl hw (k, b, v, 0, 1, 0) (by simp only [f_Op_begin]) [0] (by decide) rfl d_Op_begin_30
def f_Op_finish (o : kt_Op) (v : Int32) : kt_Op :=
  (o.1, o.2.1, o.2.2.1, o.2.2.2.1, 2, v)
set_option maxHeartbeats 4000000 in
set_option maxRecDepth 100000 in
theorem c_Op_finish (l : Launch) (D : va_G) (cI cZ cO : ClassId) (h : Nat) (o : kt_Op) (v : Int32) : kx_Cv (S := kt_Op) l y_Op_finish b_Op_finish 2 0 0 0 D (kx_T cI cZ cO) [.ref h, .int v] [(h, .inr (1, [.int o.1, .int o.2.1, .int o.2.2.1, .int o.2.2.2.1, .int o.2.2.2.2.1, .int o.2.2.2.2.2]))] (fun zz => zz = f_Op_finish o v) (fun zz => [(h, .inr (1, [.int zz.1, .int zz.2.1, .int zz.2.2.1, .int zz.2.2.2.1, .int zz.2.2.2.2.1, .int zz.2.2.2.2.2]))]) := by
  refine kx_enter_v (by decide) (Nat.le_of_ble_eq_true rfl) ?_
  intro p_ e_ s_ m_ below_ meth_ c_ ls A_ H I hl hw
  have S := I.1
  have hx := S.1
  have hb := S.2.1
  have hl : lv_has ls 2 [(0, .ref h), (1, .int v)] := hl
  refine lv_aload_n hx hb d_Op_finish_0 rfl (lv_at hl 0 rfl) ?_
  refine lv_iconst (v := 2) hx hb d_Op_finish_1 (by decide) ?_
  refine kx_put S hw fp_Op_22 0 rfl rfl rfl (Nat.le_of_ble_eq_true rfl) d_Op_finish_2 (fun H locs hw => ?_)
  have hw : kx_w D (kx_T cI cZ cO) A_ s_ [(h, .inr (1, [.int o.1, .int o.2.1, .int o.2.2.1, .int o.2.2.2.1, .int 2, .int o.2.2.2.2.2]))] H locs := hw
  refine lv_aload_n hx hb d_Op_finish_5 rfl (lv_at hl 0 rfl) ?_
  refine lv_iload_n hx hb d_Op_finish_6 rfl (lv_at hl 1 rfl) ?_
  refine kx_put S hw fp_Op_25 0 rfl rfl rfl (Nat.le_of_ble_eq_true rfl) d_Op_finish_7 (fun H locs hw => ?_)
  have hw : kx_w D (kx_T cI cZ cO) A_ s_ [(h, .inr (1, [.int o.1, .int o.2.1, .int o.2.2.1, .int o.2.2.2.1, .int 2, .int v]))] H locs := hw
  exact kx_ret_v I rfl hw (o.1, o.2.1, o.2.2.1, o.2.2.2.1, 2, v) (by simp only [f_Op_finish]) [0] (by decide) rfl d_Op_finish_10
def f_Op_fail (o : kt_Op) : kt_Op :=
  (o.1, o.2.1, o.2.2.1, o.2.2.2.1, 3, (-5))
set_option maxHeartbeats 4000000 in
set_option maxRecDepth 100000 in
theorem c_Op_fail (l : Launch) (D : va_G) (cI cZ cO : ClassId) (h : Nat) (o : kt_Op) : kx_Cv (S := kt_Op) l y_Op_fail b_Op_fail 1 0 0 0 D (kx_T cI cZ cO) [.ref h] [(h, .inr (1, [.int o.1, .int o.2.1, .int o.2.2.1, .int o.2.2.2.1, .int o.2.2.2.2.1, .int o.2.2.2.2.2]))] (fun zz => zz = f_Op_fail o) (fun zz => [(h, .inr (1, [.int zz.1, .int zz.2.1, .int zz.2.2.1, .int zz.2.2.2.1, .int zz.2.2.2.2.1, .int zz.2.2.2.2.2]))]) := by
  refine kx_enter_v (by decide) (Nat.le_of_ble_eq_true rfl) ?_
  intro p_ e_ s_ m_ below_ meth_ c_ ls A_ H I hl hw
  have S := I.1
  have hx := S.1
  have hb := S.2.1
  have hl : lv_has ls 1 [(0, .ref h)] := hl
  refine lv_aload_n hx hb d_Op_fail_0 rfl (lv_at hl 0 rfl) ?_
  refine lv_iconst (v := 3) hx hb d_Op_fail_1 (by decide) ?_
  refine kx_put S hw fp_Op_22 0 rfl rfl rfl (Nat.le_of_ble_eq_true rfl) d_Op_fail_2 (fun H locs hw => ?_)
  have hw : kx_w D (kx_T cI cZ cO) A_ s_ [(h, .inr (1, [.int o.1, .int o.2.1, .int o.2.2.1, .int o.2.2.2.1, .int 3, .int o.2.2.2.2.2]))] H locs := hw
  refine lv_aload_n hx hb d_Op_fail_5 rfl (lv_at hl 0 rfl) ?_
  refine lv_bipush (v := (-5)) hx hb d_Op_fail_6 (by decide) ?_
  refine kx_put S hw fp_Op_25 0 rfl rfl rfl (Nat.le_of_ble_eq_true rfl) d_Op_fail_8 (fun H locs hw => ?_)
  have hw : kx_w D (kx_T cI cZ cO) A_ s_ [(h, .inr (1, [.int o.1, .int o.2.1, .int o.2.2.1, .int o.2.2.2.1, .int 3, .int (-5)]))] H locs := hw
  exact kx_ret_v I rfl hw (o.1, o.2.1, o.2.2.1, o.2.2.2.1, 3, (-5)) (by simp only [f_Op_fail]) [0] (by decide) rfl d_Op_fail_11
def f_Ln_isEmpty (n : kt_Ln) : Int32 :=
  if n.2 = 0 then 1
  else 0
set_option maxHeartbeats 4000000 in
set_option maxRecDepth 100000 in
theorem c_Ln_isEmpty (l : Launch) (D : va_G) (cI cZ cO : ClassId) (h : Nat) (a : Nat) (n : kt_Ln) : kx_Ci (S := Unit) l y_Ln_isEmpty b_Ln_isEmpty 1 (some .boolean) 0 0 0 D (kx_T cI cZ cO) [.ref h] [(h, .inr (2, [.ref a, .int n.2])), (a, .inl (cI, 4, .inl n.1))] (fun rr _ => rr = f_Ln_isEmpty n ∧ kx_b rr) (fun _ => [(h, .inr (2, [.ref a, .int n.2])), (a, .inl (cI, 4, .inl n.1))]) := by
  refine kx_enter_i (by decide) (Nat.le_of_ble_eq_true rfl) ?_
  intro p_ e_ s_ m_ below_ meth_ c_ ls A_ H I hl hw
  have S := I.1
  have hx := S.1
  have hb := S.2.1
  have hl : lv_has ls 1 [(0, .ref h)] := hl
  refine lv_aload_n hx hb d_Ln_isEmpty_0 rfl (lv_at hl 0 rfl) ?_
  refine kx_get S hw fg_Ln_15 0 rfl rfl d_Ln_isEmpty_1 ?_
  refine lv_if_ne (tgt := 11) hx hb d_Ln_isEmpty_4 (by decide) (fun h1 => ?_) (fun h1 => ?_)
  · refine lv_iconst (v := 0) hx hb d_Ln_isEmpty_11 (by decide) ?_
    exact kx_ret_z I rfl hw (Or.inl rfl) () ⟨(by simp only [f_Ln_isEmpty, if_neg h1]), (Or.inl rfl)⟩ [0, 1] (by decide) rfl d_Ln_isEmpty_12
  · refine lv_iconst (v := 1) hx hb d_Ln_isEmpty_7 (by decide) ?_
    refine lv_goto (tgt := 12) hx hb d_Ln_isEmpty_8 (by decide) ?_
    exact kx_ret_z I rfl hw (Or.inr rfl) () ⟨(by simp only [f_Ln_isEmpty, if_pos h1]), (Or.inr rfl)⟩ [0, 1] (by decide) rfl d_Ln_isEmpty_12
def f_Ln_head (n : kt_Ln) : Int32 :=
  n.1 0
set_option maxHeartbeats 4000000 in
set_option maxRecDepth 100000 in
theorem c_Ln_head (l : Launch) (D : va_G) (cI cZ cO : ClassId) (h : Nat) (a : Nat) (n : kt_Ln) : kx_Ci (S := Unit) l y_Ln_head b_Ln_head 1 (some .int) 0 0 0 D (kx_T cI cZ cO) [.ref h] [(h, .inr (2, [.ref a, .int n.2])), (a, .inl (cI, 4, .inl n.1))] (fun rr _ => rr = f_Ln_head n) (fun _ => [(h, .inr (2, [.ref a, .int n.2])), (a, .inl (cI, 4, .inl n.1))]) := by
  refine kx_enter_i (by decide) (Nat.le_of_ble_eq_true rfl) ?_
  intro p_ e_ s_ m_ below_ meth_ c_ ls A_ H I hl hw
  have S := I.1
  have hx := S.1
  have hb := S.2.1
  have hl : lv_has ls 1 [(0, .ref h)] := hl
  refine lv_aload_n hx hb d_Ln_head_0 rfl (lv_at hl 0 rfl) ?_
  refine kx_get S hw fg_Ln_9 0 rfl rfl d_Ln_head_1 ?_
  refine lv_iconst (v := 0) hx hb d_Ln_head_4 (by decide) ?_
  refine kx_iald S hw 1 0 rfl rfl (j := 0) (by decide) (by unfold vp_in; decide) d_Ln_head_5 ?_
  exact kx_ret_i I rfl hw () (by simp only [f_Ln_head]) [0, 1] (by decide) rfl d_Ln_head_6
def f_Ln_join (n : kt_Ln) (u : Int32) : kt_Ln :=
  if 4 ≤ n.2 then n
  else (upd n.1 n.2.toNatClampNeg u, n.2 + 1)
set_option maxHeartbeats 4000000 in
set_option maxRecDepth 100000 in
theorem c_Ln_join (l : Launch) (D : va_G) (cI cZ cO : ClassId) (h : Nat) (a : Nat) (n : kt_Ln) (u : Int32) (h0 : 0 ≤ n.2) : kx_Cv (S := kt_Ln) l y_Ln_join b_Ln_join 2 0 0 0 D (kx_T cI cZ cO) [.ref h, .int u] [(h, .inr (2, [.ref a, .int n.2])), (a, .inl (cI, 4, .inl n.1))] (fun zz => zz = f_Ln_join n u) (fun zz => [(h, .inr (2, [.ref a, .int zz.2])), (a, .inl (cI, 4, .inl zz.1))]) := by
  refine kx_enter_v (by decide) (Nat.le_of_ble_eq_true rfl) ?_
  intro p_ e_ s_ m_ below_ meth_ c_ ls A_ H I hl hw
  have S := I.1
  have hx := S.1
  have hb := S.2.1
  have hl : lv_has ls 2 [(0, .ref h), (1, .int u)] := hl
  refine lv_aload_n hx hb d_Ln_join_0 rfl (lv_at hl 0 rfl) ?_
  refine kx_get S hw fg_Ln_15 0 rfl rfl d_Ln_join_1 ?_
  refine lv_iconst (v := 4) hx hb d_Ln_join_4 (by decide) ?_
  refine lv_icmp_ge (tgt := 28) hx hb d_Ln_join_5 (by decide) (fun h1 => ?_) (fun h1 => ?_)
  · exact kx_ret_v I rfl hw n (by simp only [f_Ln_join, if_pos h1]) [0, 1] (by decide) rfl d_Ln_join_28
  · refine lv_aload_n hx hb d_Ln_join_8 rfl (lv_at hl 0 rfl) ?_
    refine kx_get S hw fg_Ln_9 0 rfl rfl d_Ln_join_9 ?_
    refine lv_aload_n hx hb d_Ln_join_12 rfl (lv_at hl 0 rfl) ?_
    refine kx_get S hw fg_Ln_15 0 rfl rfl d_Ln_join_13 ?_
    refine lv_iload_n hx hb d_Ln_join_16 rfl (lv_at hl 1 rfl) ?_
    refine kx_iast S hw 1 0 rfl rfl (j := n.2.toNatClampNeg) rfl (kx_i3 rfl h0 h1) d_Ln_join_17 (fun H locs hw => ?_)
    have hw : kx_w D (kx_T cI cZ cO) A_ s_ [(h, .inr (2, [.ref a, .int n.2])), (a, .inl (cI, 4, .inl (upd n.1 n.2.toNatClampNeg u)))] H locs := hw
    refine lv_aload_n hx hb d_Ln_join_18 rfl (lv_at hl 0 rfl) ?_
    refine lv_dup hx hb d_Ln_join_19 rfl ?_
    refine kx_get S hw fg_Ln_15 0 rfl rfl d_Ln_join_20 ?_
    refine lv_iconst (v := 1) hx hb d_Ln_join_23 (by decide) ?_
    refine lv_iadd hx hb d_Ln_join_24 ?_
    refine kx_put S hw fp_Ln_15 0 rfl rfl rfl (Nat.le_of_ble_eq_true rfl) d_Ln_join_25 (fun H locs hw => ?_)
    have hw : kx_w D (kx_T cI cZ cO) A_ s_ [(h, .inr (2, [.ref a, .int (n.2 + 1)])), (a, .inl (cI, 4, .inl (upd n.1 n.2.toNatClampNeg u)))] H locs := hw
    exact kx_ret_v I rfl hw (upd n.1 n.2.toNatClampNeg u, n.2 + 1) (by simp only [f_Ln_join, if_neg h1]) [0, 1] (by decide) rfl d_Ln_join_28
def f_Ln_dropHead (n : kt_Ln) : kt_Ln :=
  if n.2 ≤ 1 then (n.1, if (n.2 - 1) < 0 then 0 else (n.2 - 1))
  else if n.2 ≤ 2 then (upd n.1 0 (n.1 1), if (n.2 - 1) < 0 then 0 else (n.2 - 1))
  else if n.2 ≤ 3 then (upd (upd n.1 0 (n.1 1)) 1 ((upd n.1 0 (n.1 1)) 2), if (n.2 - 1) < 0 then 0 else (n.2 - 1))
  else (upd (upd (upd n.1 0 (n.1 1)) 1 ((upd n.1 0 (n.1 1)) 2)) 2 ((upd (upd n.1 0 (n.1 1)) 1 ((upd n.1 0 (n.1 1)) 2)) 3), if (n.2 - 1) < 0 then 0 else (n.2 - 1))
set_option maxHeartbeats 4000000 in
set_option maxRecDepth 100000 in
theorem c_Ln_dropHead (l : Launch) (D : va_G) (cI cZ cO : ClassId) (h : Nat) (a : Nat) (n : kt_Ln) (h4 : ¬ 4 < n.2) : kx_Cv (S := kt_Ln) l y_Ln_dropHead b_Ln_dropHead 2 1 0 0 D (kx_T cI cZ cO) [.ref h] [(h, .inr (2, [.ref a, .int n.2])), (a, .inl (cI, 4, .inl n.1))] (fun zz => zz = f_Ln_dropHead n) (fun zz => [(h, .inr (2, [.ref a, .int zz.2])), (a, .inl (cI, 4, .inl zz.1))]) := by
  refine kx_enter_v (by decide) (Nat.le_of_ble_eq_true rfl) ?_
  intro p_ e_ s_ m_ below_ meth_ c_ ls A_ H I hl hw
  have S := I.1
  have hx := S.1
  have hb := S.2.1
  have hl : lv_has ls 2 [(0, .ref h)] := hl
  refine lv_iconst (v := 1) hx hb d_Ln_dropHead_0 (by decide) ?_
  refine lv_istore_n (lv' := [(1, .int 1), (0, .ref h)]) hx hb d_Ln_dropHead_1 rfl hl (by decide) rfl (fun ls hl => ?_)
  refine lv_iload_n hx hb d_Ln_dropHead_2 rfl (lv_at hl 0 rfl) ?_
  refine lv_aload_n hx hb d_Ln_dropHead_3 rfl (lv_at hl 1 rfl) ?_
  refine kx_get S hw fg_Ln_15 0 rfl rfl d_Ln_dropHead_4 ?_
  refine lv_icmp_ge (tgt := 30) hx hb d_Ln_dropHead_7 (by decide) (fun h1 => ?_) (fun h1 => ?_)
  · refine lv_aload_n hx hb d_Ln_dropHead_30 rfl (lv_at hl 1 rfl) ?_
    refine lv_aload_n hx hb d_Ln_dropHead_31 rfl (lv_at hl 1 rfl) ?_
    refine kx_get S hw fg_Ln_15 0 rfl rfl d_Ln_dropHead_32 ?_
    refine lv_iconst (v := 1) hx hb d_Ln_dropHead_35 (by decide) ?_
    refine lv_isub hx hb d_Ln_dropHead_36 ?_
    refine lv_iconst (v := 0) hx hb d_Ln_dropHead_37 (by decide) ?_
    refine kx_max S fm_Ln_19 hl.1 (by decide) (Nat.le_of_ble_eq_true rfl) (by decide) (by decide) d_Ln_dropHead_38 ?_
    refine kx_put S hw fp_Ln_15 0 rfl rfl rfl (Nat.le_of_ble_eq_true rfl) d_Ln_dropHead_41 (fun H locs hw => ?_)
    have hw : kx_w D (kx_T cI cZ cO) A_ s_ [(h, .inr (2, [.ref a, .int (if (n.2 - 1) < 0 then 0 else (n.2 - 1))])), (a, .inl (cI, 4, .inl n.1))] H locs := hw
    exact kx_ret_v I rfl hw (n.1, if (n.2 - 1) < 0 then 0 else (n.2 - 1)) (by simp only [f_Ln_dropHead, if_pos h1]) [0, 1] (by decide) rfl d_Ln_dropHead_44
  · refine lv_aload_n hx hb d_Ln_dropHead_10 rfl (lv_at hl 1 rfl) ?_
    refine kx_get S hw fg_Ln_9 0 rfl rfl d_Ln_dropHead_11 ?_
    refine lv_iload_n hx hb d_Ln_dropHead_14 rfl (lv_at hl 0 rfl) ?_
    refine lv_iconst (v := 1) hx hb d_Ln_dropHead_15 (by decide) ?_
    refine lv_isub hx hb d_Ln_dropHead_16 ?_
    refine kx_top (v := 0) (by decide) ?_
    refine lv_aload_n hx hb d_Ln_dropHead_17 rfl (lv_at hl 1 rfl) ?_
    refine kx_get S hw fg_Ln_9 0 rfl rfl d_Ln_dropHead_18 ?_
    refine lv_iload_n hx hb d_Ln_dropHead_21 rfl (lv_at hl 0 rfl) ?_
    refine kx_iald S hw 1 0 rfl rfl (j := 1) (by decide) (by unfold vp_in; decide) d_Ln_dropHead_22 ?_
    refine kx_iast S hw 1 0 rfl rfl (j := 0) (by decide) (by unfold vp_in; decide) d_Ln_dropHead_23 (fun H locs hw => ?_)
    have hw : kx_w D (kx_T cI cZ cO) A_ s_ [(h, .inr (2, [.ref a, .int n.2])), (a, .inl (cI, 4, .inl (upd n.1 0 (n.1 1))))] H locs := hw
    refine lv_iinc (v := 2) (k := 0) (lv' := [(1, .int 2), (0, .ref h)]) hx hb d_Ln_dropHead_24 hl rfl (by decide) (by decide) rfl (fun ls hl => ?_)
    refine lv_goto (tgt := 2) hx hb d_Ln_dropHead_27 (by decide) ?_
    refine lv_iload_n hx hb d_Ln_dropHead_2 rfl (lv_at hl 0 rfl) ?_
    refine lv_aload_n hx hb d_Ln_dropHead_3 rfl (lv_at hl 1 rfl) ?_
    refine kx_get S hw fg_Ln_15 0 rfl rfl d_Ln_dropHead_4 ?_
    refine lv_icmp_ge (tgt := 30) hx hb d_Ln_dropHead_7 (by decide) (fun h2 => ?_) (fun h2 => ?_)
    · refine lv_aload_n hx hb d_Ln_dropHead_30 rfl (lv_at hl 1 rfl) ?_
      refine lv_aload_n hx hb d_Ln_dropHead_31 rfl (lv_at hl 1 rfl) ?_
      refine kx_get S hw fg_Ln_15 0 rfl rfl d_Ln_dropHead_32 ?_
      refine lv_iconst (v := 1) hx hb d_Ln_dropHead_35 (by decide) ?_
      refine lv_isub hx hb d_Ln_dropHead_36 ?_
      refine lv_iconst (v := 0) hx hb d_Ln_dropHead_37 (by decide) ?_
      refine kx_max S fm_Ln_19 hl.1 (by decide) (Nat.le_of_ble_eq_true rfl) (by decide) (by decide) d_Ln_dropHead_38 ?_
      refine kx_put S hw fp_Ln_15 0 rfl rfl rfl (Nat.le_of_ble_eq_true rfl) d_Ln_dropHead_41 (fun H locs hw => ?_)
      have hw : kx_w D (kx_T cI cZ cO) A_ s_ [(h, .inr (2, [.ref a, .int (if (n.2 - 1) < 0 then 0 else (n.2 - 1))])), (a, .inl (cI, 4, .inl (upd n.1 0 (n.1 1))))] H locs := hw
      exact kx_ret_v I rfl hw (upd n.1 0 (n.1 1), if (n.2 - 1) < 0 then 0 else (n.2 - 1)) (by simp only [f_Ln_dropHead, if_neg h1, if_pos h2]) [0, 1] (by decide) rfl d_Ln_dropHead_44
    · refine lv_aload_n hx hb d_Ln_dropHead_10 rfl (lv_at hl 1 rfl) ?_
      refine kx_get S hw fg_Ln_9 0 rfl rfl d_Ln_dropHead_11 ?_
      refine lv_iload_n hx hb d_Ln_dropHead_14 rfl (lv_at hl 0 rfl) ?_
      refine lv_iconst (v := 1) hx hb d_Ln_dropHead_15 (by decide) ?_
      refine lv_isub hx hb d_Ln_dropHead_16 ?_
      refine kx_top (v := 1) (by decide) ?_
      refine lv_aload_n hx hb d_Ln_dropHead_17 rfl (lv_at hl 1 rfl) ?_
      refine kx_get S hw fg_Ln_9 0 rfl rfl d_Ln_dropHead_18 ?_
      refine lv_iload_n hx hb d_Ln_dropHead_21 rfl (lv_at hl 0 rfl) ?_
      refine kx_iald S hw 1 0 rfl rfl (j := 2) (by decide) (by unfold vp_in; decide) d_Ln_dropHead_22 ?_
      refine kx_iast S hw 1 0 rfl rfl (j := 1) (by decide) (by unfold vp_in; decide) d_Ln_dropHead_23 (fun H locs hw => ?_)
      have hw : kx_w D (kx_T cI cZ cO) A_ s_ [(h, .inr (2, [.ref a, .int n.2])), (a, .inl (cI, 4, .inl (upd (upd n.1 0 (n.1 1)) 1 ((upd n.1 0 (n.1 1)) 2))))] H locs := hw
      refine lv_iinc (v := 3) (k := 0) (lv' := [(1, .int 3), (0, .ref h)]) hx hb d_Ln_dropHead_24 hl rfl (by decide) (by decide) rfl (fun ls hl => ?_)
      refine lv_goto (tgt := 2) hx hb d_Ln_dropHead_27 (by decide) ?_
      refine lv_iload_n hx hb d_Ln_dropHead_2 rfl (lv_at hl 0 rfl) ?_
      refine lv_aload_n hx hb d_Ln_dropHead_3 rfl (lv_at hl 1 rfl) ?_
      refine kx_get S hw fg_Ln_15 0 rfl rfl d_Ln_dropHead_4 ?_
      refine lv_icmp_ge (tgt := 30) hx hb d_Ln_dropHead_7 (by decide) (fun h3 => ?_) (fun h3 => ?_)
      · refine lv_aload_n hx hb d_Ln_dropHead_30 rfl (lv_at hl 1 rfl) ?_
        refine lv_aload_n hx hb d_Ln_dropHead_31 rfl (lv_at hl 1 rfl) ?_
        refine kx_get S hw fg_Ln_15 0 rfl rfl d_Ln_dropHead_32 ?_
        refine lv_iconst (v := 1) hx hb d_Ln_dropHead_35 (by decide) ?_
        refine lv_isub hx hb d_Ln_dropHead_36 ?_
        refine lv_iconst (v := 0) hx hb d_Ln_dropHead_37 (by decide) ?_
        refine kx_max S fm_Ln_19 hl.1 (by decide) (Nat.le_of_ble_eq_true rfl) (by decide) (by decide) d_Ln_dropHead_38 ?_
        refine kx_put S hw fp_Ln_15 0 rfl rfl rfl (Nat.le_of_ble_eq_true rfl) d_Ln_dropHead_41 (fun H locs hw => ?_)
        have hw : kx_w D (kx_T cI cZ cO) A_ s_ [(h, .inr (2, [.ref a, .int (if (n.2 - 1) < 0 then 0 else (n.2 - 1))])), (a, .inl (cI, 4, .inl (upd (upd n.1 0 (n.1 1)) 1 ((upd n.1 0 (n.1 1)) 2))))] H locs := hw
        exact kx_ret_v I rfl hw (upd (upd n.1 0 (n.1 1)) 1 ((upd n.1 0 (n.1 1)) 2), if (n.2 - 1) < 0 then 0 else (n.2 - 1)) (by simp only [f_Ln_dropHead, if_neg h1, if_neg h2, if_pos h3]) [0, 1] (by decide) rfl d_Ln_dropHead_44
      · refine lv_aload_n hx hb d_Ln_dropHead_10 rfl (lv_at hl 1 rfl) ?_
        refine kx_get S hw fg_Ln_9 0 rfl rfl d_Ln_dropHead_11 ?_
        refine lv_iload_n hx hb d_Ln_dropHead_14 rfl (lv_at hl 0 rfl) ?_
        refine lv_iconst (v := 1) hx hb d_Ln_dropHead_15 (by decide) ?_
        refine lv_isub hx hb d_Ln_dropHead_16 ?_
        refine kx_top (v := 2) (by decide) ?_
        refine lv_aload_n hx hb d_Ln_dropHead_17 rfl (lv_at hl 1 rfl) ?_
        refine kx_get S hw fg_Ln_9 0 rfl rfl d_Ln_dropHead_18 ?_
        refine lv_iload_n hx hb d_Ln_dropHead_21 rfl (lv_at hl 0 rfl) ?_
        refine kx_iald S hw 1 0 rfl rfl (j := 3) (by decide) (by unfold vp_in; decide) d_Ln_dropHead_22 ?_
        refine kx_iast S hw 1 0 rfl rfl (j := 2) (by decide) (by unfold vp_in; decide) d_Ln_dropHead_23 (fun H locs hw => ?_)
        have hw : kx_w D (kx_T cI cZ cO) A_ s_ [(h, .inr (2, [.ref a, .int n.2])), (a, .inl (cI, 4, .inl (upd (upd (upd n.1 0 (n.1 1)) 1 ((upd n.1 0 (n.1 1)) 2)) 2 ((upd (upd n.1 0 (n.1 1)) 1 ((upd n.1 0 (n.1 1)) 2)) 3))))] H locs := hw
        refine lv_iinc (v := 4) (k := 0) (lv' := [(1, .int 4), (0, .ref h)]) hx hb d_Ln_dropHead_24 hl rfl (by decide) (by decide) rfl (fun ls hl => ?_)
        refine lv_goto (tgt := 2) hx hb d_Ln_dropHead_27 (by decide) ?_
        refine lv_iload_n hx hb d_Ln_dropHead_2 rfl (lv_at hl 0 rfl) ?_
        refine lv_aload_n hx hb d_Ln_dropHead_3 rfl (lv_at hl 1 rfl) ?_
        refine kx_get S hw fg_Ln_15 0 rfl rfl d_Ln_dropHead_4 ?_
        refine lv_icmp_ge (tgt := 30) hx hb d_Ln_dropHead_7 (by decide) (fun _ => ?_) (fun hq => (hq (Int32.not_lt.mp h4)).elim)
        refine lv_aload_n hx hb d_Ln_dropHead_30 rfl (lv_at hl 1 rfl) ?_
        refine lv_aload_n hx hb d_Ln_dropHead_31 rfl (lv_at hl 1 rfl) ?_
        refine kx_get S hw fg_Ln_15 0 rfl rfl d_Ln_dropHead_32 ?_
        refine lv_iconst (v := 1) hx hb d_Ln_dropHead_35 (by decide) ?_
        refine lv_isub hx hb d_Ln_dropHead_36 ?_
        refine lv_iconst (v := 0) hx hb d_Ln_dropHead_37 (by decide) ?_
        refine kx_max S fm_Ln_19 hl.1 (by decide) (Nat.le_of_ble_eq_true rfl) (by decide) (by decide) d_Ln_dropHead_38 ?_
        refine kx_put S hw fp_Ln_15 0 rfl rfl rfl (Nat.le_of_ble_eq_true rfl) d_Ln_dropHead_41 (fun H locs hw => ?_)
        have hw : kx_w D (kx_T cI cZ cO) A_ s_ [(h, .inr (2, [.ref a, .int (if (n.2 - 1) < 0 then 0 else (n.2 - 1))])), (a, .inl (cI, 4, .inl (upd (upd (upd n.1 0 (n.1 1)) 1 ((upd n.1 0 (n.1 1)) 2)) 2 ((upd (upd n.1 0 (n.1 1)) 1 ((upd n.1 0 (n.1 1)) 2)) 3))))] H locs := hw
        exact kx_ret_v I rfl hw (upd (upd (upd n.1 0 (n.1 1)) 1 ((upd n.1 0 (n.1 1)) 2)) 2 ((upd (upd n.1 0 (n.1 1)) 1 ((upd n.1 0 (n.1 1)) 2)) 3), if (n.2 - 1) < 0 then 0 else (n.2 - 1)) (by simp only [f_Ln_dropHead, if_neg h1, if_neg h2, if_neg h3]) [0, 1] (by decide) rfl d_Ln_dropHead_44
def f_Dr_die (d : kt_Dr) : kt_Dr :=
  (d.1, 2, (-1), d.2.2.2.1, 0, d.2.2.2.2.2)
set_option maxHeartbeats 4000000 in
set_option maxRecDepth 100000 in
theorem c_Dr_die (l : Launch) (D : va_G) (cI cZ cO : ClassId) (h : Nat) (d : kt_Dr) : kx_Cv (S := kt_Dr) l y_Dr_die b_Dr_die 1 0 0 0 D (kx_T cI cZ cO) [.ref h] [(h, .inr (3, [.int d.1, .int d.2.1, .int d.2.2.1, .int d.2.2.2.1, .int d.2.2.2.2.1, .int d.2.2.2.2.2]))] (fun zz => zz = f_Dr_die d) (fun zz => [(h, .inr (3, [.int zz.1, .int zz.2.1, .int zz.2.2.1, .int zz.2.2.2.1, .int zz.2.2.2.2.1, .int zz.2.2.2.2.2]))]) := by
  refine kx_enter_v (by decide) (Nat.le_of_ble_eq_true rfl) ?_
  intro p_ e_ s_ m_ below_ meth_ c_ ls A_ H I hl hw
  have S := I.1
  have hx := S.1
  have hb := S.2.1
  have hl : lv_has ls 1 [(0, .ref h)] := hl
  refine lv_aload_n hx hb d_Dr_die_0 rfl (lv_at hl 0 rfl) ?_
  refine lv_iconst (v := 2) hx hb d_Dr_die_1 (by decide) ?_
  refine kx_put S hw fp_Dr_11 0 rfl rfl rfl (Nat.le_of_ble_eq_true rfl) d_Dr_die_2 (fun H locs hw => ?_)
  have hw : kx_w D (kx_T cI cZ cO) A_ s_ [(h, .inr (3, [.int d.1, .int 2, .int d.2.2.1, .int d.2.2.2.1, .int d.2.2.2.2.1, .int d.2.2.2.2.2]))] H locs := hw
  refine lv_aload_n hx hb d_Dr_die_5 rfl (lv_at hl 0 rfl) ?_
  refine lv_iconst (v := (-1)) hx hb d_Dr_die_6 (by decide) ?_
  refine kx_put S hw fp_Dr_15 0 rfl rfl rfl (Nat.le_of_ble_eq_true rfl) d_Dr_die_7 (fun H locs hw => ?_)
  have hw : kx_w D (kx_T cI cZ cO) A_ s_ [(h, .inr (3, [.int d.1, .int 2, .int (-1), .int d.2.2.2.1, .int d.2.2.2.2.1, .int d.2.2.2.2.2]))] H locs := hw
  refine lv_aload_n hx hb d_Dr_die_10 rfl (lv_at hl 0 rfl) ?_
  refine lv_iconst (v := 0) hx hb d_Dr_die_11 (by decide) ?_
  refine kx_put S hw fp_Dr_22 0 rfl rfl rfl (Nat.le_of_ble_eq_true rfl) d_Dr_die_12 (fun H locs hw => ?_)
  have hw : kx_w D (kx_T cI cZ cO) A_ s_ [(h, .inr (3, [.int d.1, .int 2, .int (-1), .int d.2.2.2.1, .int 0, .int d.2.2.2.2.2]))] H locs := hw
  exact kx_ret_v I rfl hw (d.1, 2, (-1), d.2.2.2.1, 0, d.2.2.2.2.2) (by simp only [f_Dr_die]) [0] (by decide) rfl d_Dr_die_15
def f_Dr_restart (d : kt_Dr) : kt_Dr :=
  (d.1 + 1, 0, (-1), 1, 0, d.2.2.2.2.2)
set_option maxHeartbeats 4000000 in
set_option maxRecDepth 100000 in
theorem c_Dr_restart (l : Launch) (D : va_G) (cI cZ cO : ClassId) (h : Nat) (d : kt_Dr) : kx_Cv (S := kt_Dr) l y_Dr_restart b_Dr_restart 1 0 0 0 D (kx_T cI cZ cO) [.ref h] [(h, .inr (3, [.int d.1, .int d.2.1, .int d.2.2.1, .int d.2.2.2.1, .int d.2.2.2.2.1, .int d.2.2.2.2.2]))] (fun zz => zz = f_Dr_restart d) (fun zz => [(h, .inr (3, [.int zz.1, .int zz.2.1, .int zz.2.2.1, .int zz.2.2.2.1, .int zz.2.2.2.2.1, .int zz.2.2.2.2.2]))]) := by
  refine kx_enter_v (by decide) (Nat.le_of_ble_eq_true rfl) ?_
  intro p_ e_ s_ m_ below_ meth_ c_ ls A_ H I hl hw
  have S := I.1
  have hx := S.1
  have hb := S.2.1
  have hl : lv_has ls 1 [(0, .ref h)] := hl
  refine lv_aload_n hx hb d_Dr_restart_0 rfl (lv_at hl 0 rfl) ?_
  refine lv_dup hx hb d_Dr_restart_1 rfl ?_
  refine kx_get S hw fg_Dr_31 0 rfl rfl d_Dr_restart_2 ?_
  refine lv_iconst (v := 1) hx hb d_Dr_restart_5 (by decide) ?_
  refine lv_iadd hx hb d_Dr_restart_6 ?_
  refine kx_put S hw fp_Dr_31 0 rfl rfl rfl (Nat.le_of_ble_eq_true rfl) d_Dr_restart_7 (fun H locs hw => ?_)
  have hw : kx_w D (kx_T cI cZ cO) A_ s_ [(h, .inr (3, [.int (d.1 + 1), .int d.2.1, .int d.2.2.1, .int d.2.2.2.1, .int d.2.2.2.2.1, .int d.2.2.2.2.2]))] H locs := hw
  refine lv_aload_n hx hb d_Dr_restart_10 rfl (lv_at hl 0 rfl) ?_
  refine lv_iconst (v := 0) hx hb d_Dr_restart_11 (by decide) ?_
  refine kx_put S hw fp_Dr_11 0 rfl rfl rfl (Nat.le_of_ble_eq_true rfl) d_Dr_restart_12 (fun H locs hw => ?_)
  have hw : kx_w D (kx_T cI cZ cO) A_ s_ [(h, .inr (3, [.int (d.1 + 1), .int 0, .int d.2.2.1, .int d.2.2.2.1, .int d.2.2.2.2.1, .int d.2.2.2.2.2]))] H locs := hw
  refine lv_aload_n hx hb d_Dr_restart_15 rfl (lv_at hl 0 rfl) ?_
  refine lv_iconst (v := (-1)) hx hb d_Dr_restart_16 (by decide) ?_
  refine kx_put S hw fp_Dr_15 0 rfl rfl rfl (Nat.le_of_ble_eq_true rfl) d_Dr_restart_17 (fun H locs hw => ?_)
  have hw : kx_w D (kx_T cI cZ cO) A_ s_ [(h, .inr (3, [.int (d.1 + 1), .int 0, .int (-1), .int d.2.2.2.1, .int d.2.2.2.2.1, .int d.2.2.2.2.2]))] H locs := hw
  refine lv_aload_n hx hb d_Dr_restart_20 rfl (lv_at hl 0 rfl) ?_
  refine lv_iconst (v := 1) hx hb d_Dr_restart_21 (by decide) ?_
  refine kx_put S hw fp_Dr_18 0 rfl rfl rfl (Nat.le_of_ble_eq_true rfl) d_Dr_restart_22 (fun H locs hw => ?_)
  have hw : kx_w D (kx_T cI cZ cO) A_ s_ [(h, .inr (3, [.int (d.1 + 1), .int 0, .int (-1), .int 1, .int d.2.2.2.2.1, .int d.2.2.2.2.2]))] H locs := hw
  refine lv_aload_n hx hb d_Dr_restart_25 rfl (lv_at hl 0 rfl) ?_
  refine lv_iconst (v := 0) hx hb d_Dr_restart_26 (by decide) ?_
  refine kx_put S hw fp_Dr_22 0 rfl rfl rfl (Nat.le_of_ble_eq_true rfl) d_Dr_restart_27 (fun H locs hw => ?_)
  have hw : kx_w D (kx_T cI cZ cO) A_ s_ [(h, .inr (3, [.int (d.1 + 1), .int 0, .int (-1), .int 1, .int 0, .int d.2.2.2.2.2]))] H locs := hw
  exact kx_ret_v I rfl hw (d.1 + 1, 0, (-1), 1, 0, d.2.2.2.2.2) (by simp only [f_Dr_restart]) [0] (by decide) rfl d_Dr_restart_30
def f_Dr_suffer (d : kt_Dr) (f : Int32) : Int32 × kt_Dr :=
  if d.2.1 = 2 then (0, d)
  else if d.2.1 = 1 then (if f = 0 then (match f_Dr_die d with
      | d7 => (1, d7))
    else (0, d))
  else if f = 0 then (match f_Dr_die d with
    | d5 => (1, d5))
  else if f = 1 then (1, (d.1, 1, d.2.2.1, d.2.2.2.1, d.2.2.2.2.1, d.2.2.2.2.2))
  else (1, (d.1, d.2.1, d.2.2.1, d.2.2.2.1, f, d.2.2.2.2.2))
set_option maxHeartbeats 4000000 in
set_option maxRecDepth 100000 in
theorem c_Dr_suffer (l : Launch) (D : va_G) (cI cZ cO : ClassId) (h : Nat) (d : kt_Dr) (f : Int32) : kx_Ci (S := kt_Dr) l y_Dr_suffer b_Dr_suffer 2 (some .boolean) 1 0 0 D (kx_T cI cZ cO) [.ref h, .int f] [(h, .inr (3, [.int d.1, .int d.2.1, .int d.2.2.1, .int d.2.2.2.1, .int d.2.2.2.2.1, .int d.2.2.2.2.2]))] (fun rr zz => (rr, zz) = f_Dr_suffer d f ∧ kx_b rr) (fun zz => [(h, .inr (3, [.int zz.1, .int zz.2.1, .int zz.2.2.1, .int zz.2.2.2.1, .int zz.2.2.2.2.1, .int zz.2.2.2.2.2]))]) := by
  refine kx_enter_i (by decide) (Nat.le_of_ble_eq_true rfl) ?_
  intro p_ e_ s_ m_ below_ meth_ c_ ls A_ H I hl hw
  have S := I.1
  have hx := S.1
  have hb := S.2.1
  have hl : lv_has ls 2 [(0, .ref h), (1, .int f)] := hl
  refine lv_aload_n hx hb d_Dr_suffer_0 rfl (lv_at hl 0 rfl) ?_
  refine kx_get S hw fg_Dr_11 0 rfl rfl d_Dr_suffer_1 ?_
  refine lv_iconst (v := 2) hx hb d_Dr_suffer_4 (by decide) ?_
  refine lv_icmp_eq (tgt := 20) hx hb d_Dr_suffer_5 (by decide) (fun h1 => ?_) (fun h1 => ?_)
  · refine lv_iconst (v := 0) hx hb d_Dr_suffer_20 (by decide) ?_
    exact kx_ret_z I rfl hw (Or.inl rfl) d ⟨(by simp only [f_Dr_suffer, if_pos h1]), (Or.inl rfl)⟩ [0] (by decide) rfl d_Dr_suffer_21
  · refine lv_aload_n hx hb d_Dr_suffer_8 rfl (lv_at hl 0 rfl) ?_
    refine kx_get S hw fg_Dr_11 0 rfl rfl d_Dr_suffer_9 ?_
    refine lv_iconst (v := 1) hx hb d_Dr_suffer_12 (by decide) ?_
    refine lv_icmp_ne (tgt := 22) hx hb d_Dr_suffer_13 (by decide) (fun h2 => ?_) (fun h2 => ?_)
    · refine lv_iload_n hx hb d_Dr_suffer_22 rfl (lv_at hl 1 rfl) ?_
      refine lv_if_ne (tgt := 33) hx hb d_Dr_suffer_23 (by decide) (fun h3 => ?_) (fun h3 => ?_)
      · refine lv_iload_n hx hb d_Dr_suffer_33 rfl (lv_at hl 1 rfl) ?_
        refine lv_iconst (v := 1) hx hb d_Dr_suffer_34 (by decide) ?_
        refine lv_icmp_ne (tgt := 46) hx hb d_Dr_suffer_35 (by decide) (fun h4 => ?_) (fun h4 => ?_)
        · refine lv_aload_n hx hb d_Dr_suffer_46 rfl (lv_at hl 0 rfl) ?_
          refine lv_iload_n hx hb d_Dr_suffer_47 rfl (lv_at hl 1 rfl) ?_
          refine kx_put S hw fp_Dr_22 0 rfl rfl rfl (Nat.le_of_ble_eq_true rfl) d_Dr_suffer_48 (fun H locs hw => ?_)
          have hw : kx_w D (kx_T cI cZ cO) A_ s_ [(h, .inr (3, [.int d.1, .int d.2.1, .int d.2.2.1, .int d.2.2.2.1, .int f, .int d.2.2.2.2.2]))] H locs := hw
          refine lv_iconst (v := 1) hx hb d_Dr_suffer_51 (by decide) ?_
          exact kx_ret_z I rfl hw (Or.inr rfl) (d.1, d.2.1, d.2.2.1, d.2.2.2.1, f, d.2.2.2.2.2) ⟨(by simp only [f_Dr_suffer, if_neg h1, if_neg h2, if_neg h3, if_neg h4]), (Or.inr rfl)⟩ [0] (by decide) rfl d_Dr_suffer_52
        · refine lv_aload_n hx hb d_Dr_suffer_38 rfl (lv_at hl 0 rfl) ?_
          refine lv_iconst (v := 1) hx hb d_Dr_suffer_39 (by decide) ?_
          refine kx_put S hw fp_Dr_11 0 rfl rfl rfl (Nat.le_of_ble_eq_true rfl) d_Dr_suffer_40 (fun H locs hw => ?_)
          have hw : kx_w D (kx_T cI cZ cO) A_ s_ [(h, .inr (3, [.int d.1, .int 1, .int d.2.2.1, .int d.2.2.2.1, .int d.2.2.2.2.1, .int d.2.2.2.2.2]))] H locs := hw
          refine lv_goto (tgt := 51) hx hb d_Dr_suffer_43 (by decide) ?_
          refine lv_iconst (v := 1) hx hb d_Dr_suffer_51 (by decide) ?_
          exact kx_ret_z I rfl hw (Or.inr rfl) (d.1, 1, d.2.2.1, d.2.2.2.1, d.2.2.2.2.1, d.2.2.2.2.2) ⟨(by simp only [f_Dr_suffer, if_neg h1, if_neg h2, if_neg h3, if_pos h4]), (Or.inr rfl)⟩ [0] (by decide) rfl d_Dr_suffer_52
      · refine lv_aload_n hx hb d_Dr_suffer_26 rfl (lv_at hl 0 rfl) ?_
        refine kx_call_v (wc := [(h, .inr (3, [.int d.1, .int d.2.1, .int d.2.2.1, .int d.2.2.2.1, .int d.2.2.2.2.1, .int d.2.2.2.2.2]))]) (wr := []) (rest := []) hw [0] [] rfl rfl (by decide) (by decide) (kx_runV S hw fc_Dr_25 rfl 0 rfl [0] (by decide) rfl (c_Dr_die l D cI cZ cO h d H.size) rfl hl.1 rfl (Nat.le_of_ble_eq_true rfl) d_Dr_suffer_27 (by decide) (by decide)) (fun u5 H locs hp5 hw => ?_)
        obtain ⟨d5, rfl⟩ : ∃ z, z = u5 := ⟨_, rfl⟩
        have hw : kx_w D (kx_T cI cZ cO) A_ s_ [(h, .inr (3, [.int d5.1, .int d5.2.1, .int d5.2.2.1, .int d5.2.2.2.1, .int d5.2.2.2.2.1, .int d5.2.2.2.2.2]))] H locs := hw
        refine lv_goto (tgt := 51) hx hb d_Dr_suffer_30 (by decide) ?_
        refine lv_iconst (v := 1) hx hb d_Dr_suffer_51 (by decide) ?_
        exact kx_ret_z I rfl hw (Or.inr rfl) d5 ⟨(by simp only [f_Dr_suffer, if_neg h1, if_neg h2, if_pos h3, ← hp5]), (Or.inr rfl)⟩ [0] (by decide) rfl d_Dr_suffer_52
    · refine lv_iload_n hx hb d_Dr_suffer_16 rfl (lv_at hl 1 rfl) ?_
      refine lv_if_eq (tgt := 22) hx hb d_Dr_suffer_17 (by decide) (fun h6 => ?_) (fun h6 => ?_)
      · refine lv_iload_n hx hb d_Dr_suffer_22 rfl (lv_at hl 1 rfl) ?_
        refine lv_if_ne (tgt := 33) hx hb d_Dr_suffer_23 (by decide) (fun h => absurd h6 h) (fun _ => ?_)
        refine lv_aload_n hx hb d_Dr_suffer_26 rfl (lv_at hl 0 rfl) ?_
        refine kx_call_v (wc := [(h, .inr (3, [.int d.1, .int d.2.1, .int d.2.2.1, .int d.2.2.2.1, .int d.2.2.2.2.1, .int d.2.2.2.2.2]))]) (wr := []) (rest := []) hw [0] [] rfl rfl (by decide) (by decide) (kx_runV S hw fc_Dr_25 rfl 0 rfl [0] (by decide) rfl (c_Dr_die l D cI cZ cO h d H.size) rfl hl.1 rfl (Nat.le_of_ble_eq_true rfl) d_Dr_suffer_27 (by decide) (by decide)) (fun u7 H locs hp7 hw => ?_)
        obtain ⟨d7, rfl⟩ : ∃ z, z = u7 := ⟨_, rfl⟩
        have hw : kx_w D (kx_T cI cZ cO) A_ s_ [(h, .inr (3, [.int d7.1, .int d7.2.1, .int d7.2.2.1, .int d7.2.2.2.1, .int d7.2.2.2.2.1, .int d7.2.2.2.2.2]))] H locs := hw
        refine lv_goto (tgt := 51) hx hb d_Dr_suffer_30 (by decide) ?_
        refine lv_iconst (v := 1) hx hb d_Dr_suffer_51 (by decide) ?_
        exact kx_ret_z I rfl hw (Or.inr rfl) d7 ⟨(by simp only [f_Dr_suffer, if_neg h1, if_pos h2, if_pos h6, ← hp7]), (Or.inr rfl)⟩ [0] (by decide) rfl d_Dr_suffer_52
      · refine lv_iconst (v := 0) hx hb d_Dr_suffer_20 (by decide) ?_
        exact kx_ret_z I rfl hw (Or.inl rfl) d ⟨(by simp only [f_Dr_suffer, if_neg h1, if_pos h2, if_neg h6]), (Or.inl rfl)⟩ [0] (by decide) rfl d_Dr_suffer_21
def f_Dr_beWatched (d : kt_Dr) (p : Int32) : kt_Dr :=
  if d.2.1 = 2 then (match f_Dr_restart d with
    | d2 => d2)
  else if p = 0 then d
  else if d.2.2.2.1 = 0 then (match f_Dr_restart d with
    | d5 => d5)
  else (d.1, d.2.1, d.2.2.1, 0, d.2.2.2.2.1, d.2.2.2.2.2)
set_option maxHeartbeats 4000000 in
set_option maxRecDepth 100000 in
theorem c_Dr_beWatched (l : Launch) (D : va_G) (cI cZ cO : ClassId) (h : Nat) (d : kt_Dr) (p : Int32) : kx_Cv (S := kt_Dr) l y_Dr_beWatched b_Dr_beWatched 2 1 0 0 D (kx_T cI cZ cO) [.ref h, .int p] [(h, .inr (3, [.int d.1, .int d.2.1, .int d.2.2.1, .int d.2.2.2.1, .int d.2.2.2.2.1, .int d.2.2.2.2.2]))] (fun zz => zz = f_Dr_beWatched d p) (fun zz => [(h, .inr (3, [.int zz.1, .int zz.2.1, .int zz.2.2.1, .int zz.2.2.2.1, .int zz.2.2.2.2.1, .int zz.2.2.2.2.2]))]) := by
  refine kx_enter_v (by decide) (Nat.le_of_ble_eq_true rfl) ?_
  intro p_ e_ s_ m_ below_ meth_ c_ ls A_ H I hl hw
  have S := I.1
  have hx := S.1
  have hb := S.2.1
  have hl : lv_has ls 2 [(0, .ref h), (1, .int p)] := hl
  refine lv_aload_n hx hb d_Dr_beWatched_0 rfl (lv_at hl 0 rfl) ?_
  refine kx_get S hw fg_Dr_11 0 rfl rfl d_Dr_beWatched_1 ?_
  refine lv_iconst (v := 2) hx hb d_Dr_beWatched_4 (by decide) ?_
  refine lv_icmp_eq (tgt := 19) hx hb d_Dr_beWatched_5 (by decide) (fun h1 => ?_) (fun h1 => ?_)
  · refine lv_aload_n hx hb d_Dr_beWatched_19 rfl (lv_at hl 0 rfl) ?_
    refine kx_call_v (wc := [(h, .inr (3, [.int d.1, .int d.2.1, .int d.2.2.1, .int d.2.2.2.1, .int d.2.2.2.2.1, .int d.2.2.2.2.2]))]) (wr := []) (rest := []) hw [0] [] rfl rfl (by decide) (by decide) (kx_runV S hw fc_Dr_28 rfl 0 rfl [0] (by decide) rfl (c_Dr_restart l D cI cZ cO h d H.size) rfl hl.1 rfl (Nat.le_of_ble_eq_true rfl) d_Dr_beWatched_20 (by decide) (by decide)) (fun u2 H locs hp2 hw => ?_)
    obtain ⟨d2, rfl⟩ : ∃ z, z = u2 := ⟨_, rfl⟩
    have hw : kx_w D (kx_T cI cZ cO) A_ s_ [(h, .inr (3, [.int d2.1, .int d2.2.1, .int d2.2.2.1, .int d2.2.2.2.1, .int d2.2.2.2.2.1, .int d2.2.2.2.2.2]))] H locs := hw
    refine lv_goto (tgt := 35) hx hb d_Dr_beWatched_23 (by decide) ?_
    exact kx_ret_v I rfl hw d2 (by simp only [f_Dr_beWatched, if_pos h1, ← hp2]) [0] (by decide) rfl d_Dr_beWatched_35
  · refine lv_iload_n hx hb d_Dr_beWatched_8 rfl (lv_at hl 1 rfl) ?_
    refine lv_if_eq (tgt := 26) hx hb d_Dr_beWatched_9 (by decide) (fun h3 => ?_) (fun h3 => ?_)
    · refine lv_iload_n hx hb d_Dr_beWatched_26 rfl (lv_at hl 1 rfl) ?_
      refine lv_if_eq (tgt := 35) hx hb d_Dr_beWatched_27 (by decide) (fun _ => ?_) (fun h => absurd h3 h)
      exact kx_ret_v I rfl hw d (by simp only [f_Dr_beWatched, if_neg h1, if_pos h3]) [0] (by decide) rfl d_Dr_beWatched_35
    · refine lv_aload_n hx hb d_Dr_beWatched_12 rfl (lv_at hl 0 rfl) ?_
      refine kx_get S hw fg_Dr_18 0 rfl rfl d_Dr_beWatched_13 ?_
      refine lv_if_ne (tgt := 26) hx hb d_Dr_beWatched_16 (by decide) (fun h4 => ?_) (fun h4 => ?_)
      · refine lv_iload_n hx hb d_Dr_beWatched_26 rfl (lv_at hl 1 rfl) ?_
        refine lv_if_eq (tgt := 35) hx hb d_Dr_beWatched_27 (by decide) (fun h => absurd h h3) (fun _ => ?_)
        refine lv_aload_n hx hb d_Dr_beWatched_30 rfl (lv_at hl 0 rfl) ?_
        refine lv_iconst (v := 0) hx hb d_Dr_beWatched_31 (by decide) ?_
        refine kx_put S hw fp_Dr_18 0 rfl rfl rfl (Nat.le_of_ble_eq_true rfl) d_Dr_beWatched_32 (fun H locs hw => ?_)
        have hw : kx_w D (kx_T cI cZ cO) A_ s_ [(h, .inr (3, [.int d.1, .int d.2.1, .int d.2.2.1, .int 0, .int d.2.2.2.2.1, .int d.2.2.2.2.2]))] H locs := hw
        exact kx_ret_v I rfl hw (d.1, d.2.1, d.2.2.1, 0, d.2.2.2.2.1, d.2.2.2.2.2) (by simp only [f_Dr_beWatched, if_neg h1, if_neg h3, if_neg h4]) [0] (by decide) rfl d_Dr_beWatched_35
      · refine lv_aload_n hx hb d_Dr_beWatched_19 rfl (lv_at hl 0 rfl) ?_
        refine kx_call_v (wc := [(h, .inr (3, [.int d.1, .int d.2.1, .int d.2.2.1, .int d.2.2.2.1, .int d.2.2.2.2.1, .int d.2.2.2.2.2]))]) (wr := []) (rest := []) hw [0] [] rfl rfl (by decide) (by decide) (kx_runV S hw fc_Dr_28 rfl 0 rfl [0] (by decide) rfl (c_Dr_restart l D cI cZ cO h d H.size) rfl hl.1 rfl (Nat.le_of_ble_eq_true rfl) d_Dr_beWatched_20 (by decide) (by decide)) (fun u5 H locs hp5 hw => ?_)
        obtain ⟨d5, rfl⟩ : ∃ z, z = u5 := ⟨_, rfl⟩
        have hw : kx_w D (kx_T cI cZ cO) A_ s_ [(h, .inr (3, [.int d5.1, .int d5.2.1, .int d5.2.2.1, .int d5.2.2.2.1, .int d5.2.2.2.2.1, .int d5.2.2.2.2.2]))] H locs := hw
        refine lv_goto (tgt := 35) hx hb d_Dr_beWatched_23 (by decide) ?_
        exact kx_ret_v I rfl hw d5 (by simp only [f_Dr_beWatched, if_neg h1, if_neg h3, if_pos h4, ← hp5]) [0] (by decide) rfl d_Dr_beWatched_35
def f_Dr_beRefused (d : kt_Dr) : kt_Dr :=
  if d.2.2.2.2.1 = 3 then (match f_Dr_die (d.1, d.2.1, d.2.2.1, d.2.2.2.1, d.2.2.2.2.1, d.2.2.2.2.2 + 1) with
    | d2 => (d2.1, d2.2.1, d2.2.2.1, d2.2.2.2.1, 0, d2.2.2.2.2.2))
  else (d.1, d.2.1, d.2.2.1, d.2.2.2.1, 0, d.2.2.2.2.2 + 1)
set_option maxHeartbeats 4000000 in
set_option maxRecDepth 100000 in
theorem c_Dr_beRefused (l : Launch) (D : va_G) (cI cZ cO : ClassId) (h : Nat) (d : kt_Dr) : kx_Cv (S := kt_Dr) l y_Dr_beRefused b_Dr_beRefused 1 1 0 0 D (kx_T cI cZ cO) [.ref h] [(h, .inr (3, [.int d.1, .int d.2.1, .int d.2.2.1, .int d.2.2.2.1, .int d.2.2.2.2.1, .int d.2.2.2.2.2]))] (fun zz => zz = f_Dr_beRefused d) (fun zz => [(h, .inr (3, [.int zz.1, .int zz.2.1, .int zz.2.2.1, .int zz.2.2.2.1, .int zz.2.2.2.2.1, .int zz.2.2.2.2.2]))]) := by
  refine kx_enter_v (by decide) (Nat.le_of_ble_eq_true rfl) ?_
  intro p_ e_ s_ m_ below_ meth_ c_ ls A_ H I hl hw
  have S := I.1
  have hx := S.1
  have hb := S.2.1
  have hl : lv_has ls 1 [(0, .ref h)] := hl
  refine lv_aload_n hx hb d_Dr_beRefused_0 rfl (lv_at hl 0 rfl) ?_
  refine lv_dup hx hb d_Dr_beRefused_1 rfl ?_
  refine kx_get S hw fg_Dr_37 0 rfl rfl d_Dr_beRefused_2 ?_
  refine lv_iconst (v := 1) hx hb d_Dr_beRefused_5 (by decide) ?_
  refine lv_iadd hx hb d_Dr_beRefused_6 ?_
  refine kx_put S hw fp_Dr_37 0 rfl rfl rfl (Nat.le_of_ble_eq_true rfl) d_Dr_beRefused_7 (fun H locs hw => ?_)
  have hw : kx_w D (kx_T cI cZ cO) A_ s_ [(h, .inr (3, [.int d.1, .int d.2.1, .int d.2.2.1, .int d.2.2.2.1, .int d.2.2.2.2.1, .int (d.2.2.2.2.2 + 1)]))] H locs := hw
  refine lv_aload_n hx hb d_Dr_beRefused_10 rfl (lv_at hl 0 rfl) ?_
  refine kx_get S hw fg_Dr_22 0 rfl rfl d_Dr_beRefused_11 ?_
  refine lv_iconst (v := 3) hx hb d_Dr_beRefused_14 (by decide) ?_
  refine lv_icmp_ne (tgt := 22) hx hb d_Dr_beRefused_15 (by decide) (fun h1 => ?_) (fun h1 => ?_)
  · refine lv_aload_n hx hb d_Dr_beRefused_22 rfl (lv_at hl 0 rfl) ?_
    refine lv_iconst (v := 0) hx hb d_Dr_beRefused_23 (by decide) ?_
    refine kx_put S hw fp_Dr_22 0 rfl rfl rfl (Nat.le_of_ble_eq_true rfl) d_Dr_beRefused_24 (fun H locs hw => ?_)
    have hw : kx_w D (kx_T cI cZ cO) A_ s_ [(h, .inr (3, [.int d.1, .int d.2.1, .int d.2.2.1, .int d.2.2.2.1, .int 0, .int (d.2.2.2.2.2 + 1)]))] H locs := hw
    exact kx_ret_v I rfl hw (d.1, d.2.1, d.2.2.1, d.2.2.2.1, 0, d.2.2.2.2.2 + 1) (by simp only [f_Dr_beRefused, if_neg h1]) [0] (by decide) rfl d_Dr_beRefused_27
  · refine lv_aload_n hx hb d_Dr_beRefused_18 rfl (lv_at hl 0 rfl) ?_
    refine kx_call_v (wc := [(h, .inr (3, [.int d.1, .int d.2.1, .int d.2.2.1, .int d.2.2.2.1, .int d.2.2.2.2.1, .int (d.2.2.2.2.2 + 1)]))]) (wr := []) (rest := []) hw [0] [] rfl rfl (by decide) (by decide) (kx_runV S hw fc_Dr_25 rfl 0 rfl [0] (by decide) rfl (c_Dr_die l D cI cZ cO h (d.1, d.2.1, d.2.2.1, d.2.2.2.1, d.2.2.2.2.1, d.2.2.2.2.2 + 1) H.size) rfl hl.1 rfl (Nat.le_of_ble_eq_true rfl) d_Dr_beRefused_19 (by decide) (by decide)) (fun u2 H locs hp2 hw => ?_)
    obtain ⟨d2, rfl⟩ : ∃ z, z = u2 := ⟨_, rfl⟩
    have hw : kx_w D (kx_T cI cZ cO) A_ s_ [(h, .inr (3, [.int d2.1, .int d2.2.1, .int d2.2.2.1, .int d2.2.2.2.1, .int d2.2.2.2.2.1, .int d2.2.2.2.2.2]))] H locs := hw
    refine lv_aload_n hx hb d_Dr_beRefused_22 rfl (lv_at hl 0 rfl) ?_
    refine lv_iconst (v := 0) hx hb d_Dr_beRefused_23 (by decide) ?_
    refine kx_put S hw fp_Dr_22 0 rfl rfl rfl (Nat.le_of_ble_eq_true rfl) d_Dr_beRefused_24 (fun H locs hw => ?_)
    have hw : kx_w D (kx_T cI cZ cO) A_ s_ [(h, .inr (3, [.int d2.1, .int d2.2.1, .int d2.2.2.1, .int d2.2.2.2.1, .int 0, .int d2.2.2.2.2.2]))] H locs := hw
    exact kx_ret_v I rfl hw (d2.1, d2.2.1, d2.2.2.1, d2.2.2.2.1, 0, d2.2.2.2.2.2) (by simp only [f_Dr_beRefused, if_pos h1, ← hp2]) [0] (by decide) rfl d_Dr_beRefused_27
def f_Dr_takeStep (d : kt_Dr) : Int32 × kt_Dr :=
  if d.2.1 = 0 then (if d.2.2.2.2.1 = 0 then (if d.2.2.1 = 2 then (d.2.2.1, (d.1, d.2.1, (-1), 1, d.2.2.2.2.1, d.2.2.2.2.2))
      else if d.2.2.1 = (-1) then (d.2.2.1, (d.1, d.2.1, d.2.2.1, 1, d.2.2.2.2.1, d.2.2.2.2.2))
      else (d.2.2.1, (d.1, d.2.1, d.2.2.1 + 1, 1, d.2.2.2.2.1, d.2.2.2.2.2)))
    else match f_Dr_beRefused (d.1, d.2.1, d.2.2.1, 1, d.2.2.2.2.1, d.2.2.2.2.2) with
    | d5 => ((-1), d5))
  else ((-1), d)
set_option maxHeartbeats 4000000 in
set_option maxRecDepth 100000 in
theorem c_Dr_takeStep (l : Launch) (D : va_G) (cI cZ cO : ClassId) (h : Nat) (d : kt_Dr) : kx_Ci (S := kt_Dr) l y_Dr_takeStep b_Dr_takeStep 2 (some .int) 2 0 0 D (kx_T cI cZ cO) [.ref h] [(h, .inr (3, [.int d.1, .int d.2.1, .int d.2.2.1, .int d.2.2.2.1, .int d.2.2.2.2.1, .int d.2.2.2.2.2]))] (fun rr zz => (rr, zz) = f_Dr_takeStep d) (fun zz => [(h, .inr (3, [.int zz.1, .int zz.2.1, .int zz.2.2.1, .int zz.2.2.2.1, .int zz.2.2.2.2.1, .int zz.2.2.2.2.2]))]) := by
  refine kx_enter_i (by decide) (Nat.le_of_ble_eq_true rfl) ?_
  intro p_ e_ s_ m_ below_ meth_ c_ ls A_ H I hl hw
  have S := I.1
  have hx := S.1
  have hb := S.2.1
  have hl : lv_has ls 2 [(0, .ref h)] := hl
  refine lv_aload_n hx hb d_Dr_takeStep_0 rfl (lv_at hl 0 rfl) ?_
  refine kx_get S hw fg_Dr_11 0 rfl rfl d_Dr_takeStep_1 ?_
  refine lv_if_eq (tgt := 9) hx hb d_Dr_takeStep_4 (by decide) (fun h1 => ?_) (fun h1 => ?_)
  · refine lv_aload_n hx hb d_Dr_takeStep_9 rfl (lv_at hl 0 rfl) ?_
    refine lv_iconst (v := 1) hx hb d_Dr_takeStep_10 (by decide) ?_
    refine kx_put S hw fp_Dr_18 0 rfl rfl rfl (Nat.le_of_ble_eq_true rfl) d_Dr_takeStep_11 (fun H locs hw => ?_)
    have hw : kx_w D (kx_T cI cZ cO) A_ s_ [(h, .inr (3, [.int d.1, .int d.2.1, .int d.2.2.1, .int 1, .int d.2.2.2.2.1, .int d.2.2.2.2.2]))] H locs := hw
    refine lv_aload_n hx hb d_Dr_takeStep_14 rfl (lv_at hl 0 rfl) ?_
    refine kx_get S hw fg_Dr_22 0 rfl rfl d_Dr_takeStep_15 ?_
    refine lv_if_eq (tgt := 27) hx hb d_Dr_takeStep_18 (by decide) (fun h2 => ?_) (fun h2 => ?_)
    · refine lv_aload_n hx hb d_Dr_takeStep_27 rfl (lv_at hl 0 rfl) ?_
      refine kx_get S hw fg_Dr_15 0 rfl rfl d_Dr_takeStep_28 ?_
      refine lv_istore_n (lv' := [(1, .int d.2.2.1), (0, .ref h)]) hx hb d_Dr_takeStep_31 rfl hl (by decide) rfl (fun ls hl => ?_)
      refine lv_iload_n hx hb d_Dr_takeStep_32 rfl (lv_at hl 0 rfl) ?_
      refine lv_iconst (v := 2) hx hb d_Dr_takeStep_33 (by decide) ?_
      refine lv_icmp_ne (tgt := 45) hx hb d_Dr_takeStep_34 (by decide) (fun h3 => ?_) (fun h3 => ?_)
      · refine lv_iload_n hx hb d_Dr_takeStep_45 rfl (lv_at hl 0 rfl) ?_
        refine lv_iconst (v := (-1)) hx hb d_Dr_takeStep_46 (by decide) ?_
        refine lv_icmp_eq (tgt := 60) hx hb d_Dr_takeStep_47 (by decide) (fun h4 => ?_) (fun h4 => ?_)
        · refine lv_iload_n hx hb d_Dr_takeStep_60 rfl (lv_at hl 0 rfl) ?_
          exact kx_ret_i I rfl hw (d.1, d.2.1, d.2.2.1, 1, d.2.2.2.2.1, d.2.2.2.2.2) (by simp only [f_Dr_takeStep, if_pos h1, if_pos h2, if_neg h3, if_pos h4]) [0] (by decide) rfl d_Dr_takeStep_61
        · refine lv_aload_n hx hb d_Dr_takeStep_50 rfl (lv_at hl 1 rfl) ?_
          refine lv_dup hx hb d_Dr_takeStep_51 rfl ?_
          refine kx_get S hw fg_Dr_15 0 rfl rfl d_Dr_takeStep_52 ?_
          refine lv_iconst (v := 1) hx hb d_Dr_takeStep_55 (by decide) ?_
          refine lv_iadd hx hb d_Dr_takeStep_56 ?_
          refine kx_put S hw fp_Dr_15 0 rfl rfl rfl (Nat.le_of_ble_eq_true rfl) d_Dr_takeStep_57 (fun H locs hw => ?_)
          have hw : kx_w D (kx_T cI cZ cO) A_ s_ [(h, .inr (3, [.int d.1, .int d.2.1, .int (d.2.2.1 + 1), .int 1, .int d.2.2.2.2.1, .int d.2.2.2.2.2]))] H locs := hw
          refine lv_iload_n hx hb d_Dr_takeStep_60 rfl (lv_at hl 0 rfl) ?_
          exact kx_ret_i I rfl hw (d.1, d.2.1, d.2.2.1 + 1, 1, d.2.2.2.2.1, d.2.2.2.2.2) (by simp only [f_Dr_takeStep, if_pos h1, if_pos h2, if_neg h3, if_neg h4]) [0] (by decide) rfl d_Dr_takeStep_61
      · refine lv_aload_n hx hb d_Dr_takeStep_37 rfl (lv_at hl 1 rfl) ?_
        refine lv_iconst (v := (-1)) hx hb d_Dr_takeStep_38 (by decide) ?_
        refine kx_put S hw fp_Dr_15 0 rfl rfl rfl (Nat.le_of_ble_eq_true rfl) d_Dr_takeStep_39 (fun H locs hw => ?_)
        have hw : kx_w D (kx_T cI cZ cO) A_ s_ [(h, .inr (3, [.int d.1, .int d.2.1, .int (-1), .int 1, .int d.2.2.2.2.1, .int d.2.2.2.2.2]))] H locs := hw
        refine lv_goto (tgt := 60) hx hb d_Dr_takeStep_42 (by decide) ?_
        refine lv_iload_n hx hb d_Dr_takeStep_60 rfl (lv_at hl 0 rfl) ?_
        exact kx_ret_i I rfl hw (d.1, d.2.1, (-1), 1, d.2.2.2.2.1, d.2.2.2.2.2) (by simp only [f_Dr_takeStep, if_pos h1, if_pos h2, if_pos h3]) [0] (by decide) rfl d_Dr_takeStep_61
    · refine lv_aload_n hx hb d_Dr_takeStep_21 rfl (lv_at hl 0 rfl) ?_
      refine kx_call_v (wc := [(h, .inr (3, [.int d.1, .int d.2.1, .int d.2.2.1, .int 1, .int d.2.2.2.2.1, .int d.2.2.2.2.2]))]) (wr := []) (rest := []) hw [0] [] rfl rfl (by decide) (by decide) (kx_runV S hw fc_Dr_34 rfl 0 rfl [0] (by decide) rfl (c_Dr_beRefused l D cI cZ cO h (d.1, d.2.1, d.2.2.1, 1, d.2.2.2.2.1, d.2.2.2.2.2) H.size) rfl hl.1 rfl (Nat.le_of_ble_eq_true rfl) d_Dr_takeStep_22 (by decide) (by decide)) (fun u5 H locs hp5 hw => ?_)
      obtain ⟨d5, rfl⟩ : ∃ z, z = u5 := ⟨_, rfl⟩
      have hw : kx_w D (kx_T cI cZ cO) A_ s_ [(h, .inr (3, [.int d5.1, .int d5.2.1, .int d5.2.2.1, .int d5.2.2.2.1, .int d5.2.2.2.2.1, .int d5.2.2.2.2.2]))] H locs := hw
      refine lv_iconst (v := (-1)) hx hb d_Dr_takeStep_25 (by decide) ?_
      exact kx_ret_i I rfl hw d5 (by simp only [f_Dr_takeStep, if_pos h1, if_neg h2, ← hp5]) [0] (by decide) rfl d_Dr_takeStep_26
  · refine lv_iconst (v := (-1)) hx hb d_Dr_takeStep_7 (by decide) ?_
    exact kx_ret_i I rfl hw d (by simp only [f_Dr_takeStep, if_neg h1]) [0] (by decide) rfl d_Dr_takeStep_8
def f_Rq_isOpen (q : kt_Rq) : Int32 :=
  if q.1 = 0 then 0
  else 1
set_option maxHeartbeats 4000000 in
set_option maxRecDepth 100000 in
theorem c_Rq_isOpen (l : Launch) (D : va_G) (cI cZ cO : ClassId) (h : Nat) (q : kt_Rq) : kx_Ci (S := Unit) l y_Rq_isOpen b_Rq_isOpen 1 (some .boolean) 0 0 0 D (kx_T cI cZ cO) [.ref h] [(h, .inr (4, [.int q.1, .int q.2.1, .int q.2.2.1, .int q.2.2.2.1, .int q.2.2.2.2.1, .int q.2.2.2.2.2.1, .int q.2.2.2.2.2.2]))] (fun rr _ => rr = f_Rq_isOpen q ∧ kx_b rr) (fun _ => [(h, .inr (4, [.int q.1, .int q.2.1, .int q.2.2.1, .int q.2.2.2.1, .int q.2.2.2.2.1, .int q.2.2.2.2.2.1, .int q.2.2.2.2.2.2]))]) := by
  refine kx_enter_i (by decide) (Nat.le_of_ble_eq_true rfl) ?_
  intro p_ e_ s_ m_ below_ meth_ c_ ls A_ H I hl hw
  have S := I.1
  have hx := S.1
  have hb := S.2.1
  have hl : lv_has ls 1 [(0, .ref h)] := hl
  refine lv_aload_n hx hb d_Rq_isOpen_0 rfl (lv_at hl 0 rfl) ?_
  refine kx_get S hw fg_Rq_9 0 rfl rfl d_Rq_isOpen_1 ?_
  refine lv_if_eq (tgt := 11) hx hb d_Rq_isOpen_4 (by decide) (fun h1 => ?_) (fun h1 => ?_)
  · refine lv_iconst (v := 0) hx hb d_Rq_isOpen_11 (by decide) ?_
    exact kx_ret_z I rfl hw (Or.inl rfl) () ⟨(by simp only [f_Rq_isOpen, if_pos h1]), (Or.inl rfl)⟩ [0] (by decide) rfl d_Rq_isOpen_12
  · refine lv_iconst (v := 1) hx hb d_Rq_isOpen_7 (by decide) ?_
    refine lv_goto (tgt := 12) hx hb d_Rq_isOpen_8 (by decide) ?_
    exact kx_ret_z I rfl hw (Or.inr rfl) () ⟨(by simp only [f_Rq_isOpen, if_neg h1]), (Or.inr rfl)⟩ [0] (by decide) rfl d_Rq_isOpen_12
def f_Rq_open (q : kt_Rq) (k : Int32) : kt_Rq :=
  (k, q.2.1, q.2.2.1, q.2.2.2.1, 0, 0, q.2.2.2.2.2.2)
set_option maxHeartbeats 4000000 in
set_option maxRecDepth 100000 in
theorem c_Rq_open (l : Launch) (D : va_G) (cI cZ cO : ClassId) (h : Nat) (q : kt_Rq) (k : Int32) : kx_Cv (S := kt_Rq) l y_Rq_open b_Rq_open 2 0 0 0 D (kx_T cI cZ cO) [.ref h, .int k] [(h, .inr (4, [.int q.1, .int q.2.1, .int q.2.2.1, .int q.2.2.2.1, .int q.2.2.2.2.1, .int q.2.2.2.2.2.1, .int q.2.2.2.2.2.2]))] (fun zz => zz = f_Rq_open q k) (fun zz => [(h, .inr (4, [.int zz.1, .int zz.2.1, .int zz.2.2.1, .int zz.2.2.2.1, .int zz.2.2.2.2.1, .int zz.2.2.2.2.2.1, .int zz.2.2.2.2.2.2]))]) := by
  refine kx_enter_v (by decide) (Nat.le_of_ble_eq_true rfl) ?_
  intro p_ e_ s_ m_ below_ meth_ c_ ls A_ H I hl hw
  have S := I.1
  have hx := S.1
  have hb := S.2.1
  have hl : lv_has ls 2 [(0, .ref h), (1, .int k)] := hl
  refine lv_aload_n hx hb d_Rq_open_0 rfl (lv_at hl 0 rfl) ?_
  refine lv_iload_n hx hb d_Rq_open_1 rfl (lv_at hl 1 rfl) ?_
  refine kx_put S hw fp_Rq_9 0 rfl rfl rfl (Nat.le_of_ble_eq_true rfl) d_Rq_open_2 (fun H locs hw => ?_)
  have hw : kx_w D (kx_T cI cZ cO) A_ s_ [(h, .inr (4, [.int k, .int q.2.1, .int q.2.2.1, .int q.2.2.2.1, .int q.2.2.2.2.1, .int q.2.2.2.2.2.1, .int q.2.2.2.2.2.2]))] H locs := hw
  refine lv_aload_n hx hb d_Rq_open_5 rfl (lv_at hl 0 rfl) ?_
  refine lv_iconst (v := 0) hx hb d_Rq_open_6 (by decide) ?_
  refine kx_put S hw fp_Rq_13 0 rfl rfl rfl (Nat.le_of_ble_eq_true rfl) d_Rq_open_7 (fun H locs hw => ?_)
  have hw : kx_w D (kx_T cI cZ cO) A_ s_ [(h, .inr (4, [.int k, .int q.2.1, .int q.2.2.1, .int q.2.2.2.1, .int 0, .int q.2.2.2.2.2.1, .int q.2.2.2.2.2.2]))] H locs := hw
  refine lv_aload_n hx hb d_Rq_open_10 rfl (lv_at hl 0 rfl) ?_
  refine lv_iconst (v := 0) hx hb d_Rq_open_11 (by decide) ?_
  refine kx_put S hw fp_Rq_17 0 rfl rfl rfl (Nat.le_of_ble_eq_true rfl) d_Rq_open_12 (fun H locs hw => ?_)
  have hw : kx_w D (kx_T cI cZ cO) A_ s_ [(h, .inr (4, [.int k, .int q.2.1, .int q.2.2.1, .int q.2.2.2.1, .int 0, .int 0, .int q.2.2.2.2.2.2]))] H locs := hw
  exact kx_ret_v I rfl hw (k, q.2.1, q.2.2.1, q.2.2.2.1, 0, 0, q.2.2.2.2.2.2) (by simp only [f_Rq_open]) [0] (by decide) rfl d_Rq_open_15
def f_Rq_close (q : kt_Rq) : kt_Rq :=
  (0, q.2.1, q.2.2.1, q.2.2.2.1, q.2.2.2.2.1, q.2.2.2.2.2.1, q.2.2.2.2.2.2)
set_option maxHeartbeats 4000000 in
set_option maxRecDepth 100000 in
theorem c_Rq_close (l : Launch) (D : va_G) (cI cZ cO : ClassId) (h : Nat) (q : kt_Rq) : kx_Cv (S := kt_Rq) l y_Rq_close b_Rq_close 1 0 0 0 D (kx_T cI cZ cO) [.ref h] [(h, .inr (4, [.int q.1, .int q.2.1, .int q.2.2.1, .int q.2.2.2.1, .int q.2.2.2.2.1, .int q.2.2.2.2.2.1, .int q.2.2.2.2.2.2]))] (fun zz => zz = f_Rq_close q) (fun zz => [(h, .inr (4, [.int zz.1, .int zz.2.1, .int zz.2.2.1, .int zz.2.2.2.1, .int zz.2.2.2.2.1, .int zz.2.2.2.2.2.1, .int zz.2.2.2.2.2.2]))]) := by
  refine kx_enter_v (by decide) (Nat.le_of_ble_eq_true rfl) ?_
  intro p_ e_ s_ m_ below_ meth_ c_ ls A_ H I hl hw
  have S := I.1
  have hx := S.1
  have hb := S.2.1
  have hl : lv_has ls 1 [(0, .ref h)] := hl
  refine lv_aload_n hx hb d_Rq_close_0 rfl (lv_at hl 0 rfl) ?_
  refine lv_iconst (v := 0) hx hb d_Rq_close_1 (by decide) ?_
  refine kx_put S hw fp_Rq_9 0 rfl rfl rfl (Nat.le_of_ble_eq_true rfl) d_Rq_close_2 (fun H locs hw => ?_)
  have hw : kx_w D (kx_T cI cZ cO) A_ s_ [(h, .inr (4, [.int 0, .int q.2.1, .int q.2.2.1, .int q.2.2.2.1, .int q.2.2.2.2.1, .int q.2.2.2.2.2.1, .int q.2.2.2.2.2.2]))] H locs := hw
  exact kx_ret_v I rfl hw (0, q.2.1, q.2.2.1, q.2.2.2.1, q.2.2.2.2.1, q.2.2.2.2.2.1, q.2.2.2.2.2.2) (by simp only [f_Rq_close]) [0] (by decide) rfl d_Rq_close_5
def f_Rq_wasGivenElsewhere (q : kt_Rq) (d : kt_Dr) : Int32 :=
  if q.2.2.2.2.1 = 0 then 0
  else if q.2.2.2.2.2.2 = d.1 then 0
  else 1
set_option maxHeartbeats 4000000 in
set_option maxRecDepth 100000 in
theorem c_Rq_wasGivenElsewhere (l : Launch) (D : va_G) (cI cZ cO : ClassId) (h : Nat) (g : Nat) (q : kt_Rq) (d : kt_Dr) : kx_Ci (S := Unit) l y_Rq_wasGivenElsewhere b_Rq_wasGivenElsewhere 2 (some .boolean) 0 0 0 D (kx_T cI cZ cO) [.ref h, .ref g] [(h, .inr (4, [.int q.1, .int q.2.1, .int q.2.2.1, .int q.2.2.2.1, .int q.2.2.2.2.1, .int q.2.2.2.2.2.1, .int q.2.2.2.2.2.2])), (g, .inr (3, [.int d.1, .int d.2.1, .int d.2.2.1, .int d.2.2.2.1, .int d.2.2.2.2.1, .int d.2.2.2.2.2]))] (fun rr _ => rr = f_Rq_wasGivenElsewhere q d ∧ kx_b rr) (fun _ => [(h, .inr (4, [.int q.1, .int q.2.1, .int q.2.2.1, .int q.2.2.2.1, .int q.2.2.2.2.1, .int q.2.2.2.2.2.1, .int q.2.2.2.2.2.2])), (g, .inr (3, [.int d.1, .int d.2.1, .int d.2.2.1, .int d.2.2.2.1, .int d.2.2.2.2.1, .int d.2.2.2.2.2]))]) := by
  refine kx_enter_i (by decide) (Nat.le_of_ble_eq_true rfl) ?_
  intro p_ e_ s_ m_ below_ meth_ c_ ls A_ H I hl hw
  have S := I.1
  have hx := S.1
  have hb := S.2.1
  have hl : lv_has ls 2 [(0, .ref h), (1, .ref g)] := hl
  refine lv_aload_n hx hb d_Rq_wasGivenElsewhere_0 rfl (lv_at hl 0 rfl) ?_
  refine kx_get S hw fg_Rq_13 0 rfl rfl d_Rq_wasGivenElsewhere_1 ?_
  refine lv_if_eq (tgt := 22) hx hb d_Rq_wasGivenElsewhere_4 (by decide) (fun h1 => ?_) (fun h1 => ?_)
  · refine lv_iconst (v := 0) hx hb d_Rq_wasGivenElsewhere_22 (by decide) ?_
    exact kx_ret_z I rfl hw (Or.inl rfl) () ⟨(by simp only [f_Rq_wasGivenElsewhere, if_pos h1]), (Or.inl rfl)⟩ [0, 1] (by decide) rfl d_Rq_wasGivenElsewhere_23
  · refine lv_aload_n hx hb d_Rq_wasGivenElsewhere_7 rfl (lv_at hl 0 rfl) ?_
    refine kx_get S hw fg_Rq_20 0 rfl rfl d_Rq_wasGivenElsewhere_8 ?_
    refine lv_aload_n hx hb d_Rq_wasGivenElsewhere_11 rfl (lv_at hl 1 rfl) ?_
    refine kx_get S hw fg_Rq_23 1 rfl rfl d_Rq_wasGivenElsewhere_12 ?_
    refine lv_icmp_eq (tgt := 22) hx hb d_Rq_wasGivenElsewhere_15 (by decide) (fun h2 => ?_) (fun h2 => ?_)
    · refine lv_iconst (v := 0) hx hb d_Rq_wasGivenElsewhere_22 (by decide) ?_
      exact kx_ret_z I rfl hw (Or.inl rfl) () ⟨(by simp only [f_Rq_wasGivenElsewhere, if_neg h1, if_pos h2]), (Or.inl rfl)⟩ [0, 1] (by decide) rfl d_Rq_wasGivenElsewhere_23
    · refine lv_iconst (v := 1) hx hb d_Rq_wasGivenElsewhere_18 (by decide) ?_
      refine lv_goto (tgt := 23) hx hb d_Rq_wasGivenElsewhere_19 (by decide) ?_
      exact kx_ret_z I rfl hw (Or.inr rfl) () ⟨(by simp only [f_Rq_wasGivenElsewhere, if_neg h1, if_neg h2]), (Or.inr rfl)⟩ [0, 1] (by decide) rfl d_Rq_wasGivenElsewhere_23
def f_Rq_giveTo (q : kt_Rq) (d : kt_Dr) : kt_Rq × kt_Dr :=
  if d.2.1 = 2 then ((q.1, q.2.1, q.2.2.1, q.2.2.2.1, 0, q.2.2.2.2.2.1, q.2.2.2.2.2.2), d)
  else ((q.1, q.2.1, q.2.2.1, q.2.2.2.1, 1, 0, d.1), (d.1, d.2.1, 0, d.2.2.2.1, d.2.2.2.2.1, d.2.2.2.2.2))
set_option maxHeartbeats 4000000 in
set_option maxRecDepth 100000 in
theorem c_Rq_giveTo (l : Launch) (D : va_G) (cI cZ cO : ClassId) (h : Nat) (g : Nat) (q : kt_Rq) (d : kt_Dr) : kx_Cv (S := kt_Rq × kt_Dr) l y_Rq_giveTo b_Rq_giveTo 2 0 0 0 D (kx_T cI cZ cO) [.ref h, .ref g] [(h, .inr (4, [.int q.1, .int q.2.1, .int q.2.2.1, .int q.2.2.2.1, .int q.2.2.2.2.1, .int q.2.2.2.2.2.1, .int q.2.2.2.2.2.2])), (g, .inr (3, [.int d.1, .int d.2.1, .int d.2.2.1, .int d.2.2.2.1, .int d.2.2.2.2.1, .int d.2.2.2.2.2]))] (fun zz => zz = f_Rq_giveTo q d) (fun zz => [(h, .inr (4, [.int zz.1.1, .int zz.1.2.1, .int zz.1.2.2.1, .int zz.1.2.2.2.1, .int zz.1.2.2.2.2.1, .int zz.1.2.2.2.2.2.1, .int zz.1.2.2.2.2.2.2])), (g, .inr (3, [.int zz.2.1, .int zz.2.2.1, .int zz.2.2.2.1, .int zz.2.2.2.2.1, .int zz.2.2.2.2.2.1, .int zz.2.2.2.2.2.2]))]) := by
  refine kx_enter_v (by decide) (Nat.le_of_ble_eq_true rfl) ?_
  intro p_ e_ s_ m_ below_ meth_ c_ ls A_ H I hl hw
  have S := I.1
  have hx := S.1
  have hb := S.2.1
  have hl : lv_has ls 2 [(0, .ref h), (1, .ref g)] := hl
  refine lv_aload_n hx hb d_Rq_giveTo_0 rfl (lv_at hl 1 rfl) ?_
  refine kx_get S hw fg_Rq_28 1 rfl rfl d_Rq_giveTo_1 ?_
  refine lv_iconst (v := 2) hx hb d_Rq_giveTo_4 (by decide) ?_
  refine lv_icmp_ne (tgt := 14) hx hb d_Rq_giveTo_5 (by decide) (fun h1 => ?_) (fun h1 => ?_)
  · refine lv_aload_n hx hb d_Rq_giveTo_14 rfl (lv_at hl 1 rfl) ?_
    refine lv_iconst (v := 0) hx hb d_Rq_giveTo_15 (by decide) ?_
    refine kx_put S hw fp_Rq_31 1 rfl rfl rfl (Nat.le_of_ble_eq_true rfl) d_Rq_giveTo_16 (fun H locs hw => ?_)
    have hw : kx_w D (kx_T cI cZ cO) A_ s_ [(h, .inr (4, [.int q.1, .int q.2.1, .int q.2.2.1, .int q.2.2.2.1, .int q.2.2.2.2.1, .int q.2.2.2.2.2.1, .int q.2.2.2.2.2.2])), (g, .inr (3, [.int d.1, .int d.2.1, .int 0, .int d.2.2.2.1, .int d.2.2.2.2.1, .int d.2.2.2.2.2]))] H locs := hw
    refine lv_aload_n hx hb d_Rq_giveTo_19 rfl (lv_at hl 0 rfl) ?_
    refine lv_iconst (v := 1) hx hb d_Rq_giveTo_20 (by decide) ?_
    refine kx_put S hw fp_Rq_13 0 rfl rfl rfl (Nat.le_of_ble_eq_true rfl) d_Rq_giveTo_21 (fun H locs hw => ?_)
    have hw : kx_w D (kx_T cI cZ cO) A_ s_ [(h, .inr (4, [.int q.1, .int q.2.1, .int q.2.2.1, .int q.2.2.2.1, .int 1, .int q.2.2.2.2.2.1, .int q.2.2.2.2.2.2])), (g, .inr (3, [.int d.1, .int d.2.1, .int 0, .int d.2.2.2.1, .int d.2.2.2.2.1, .int d.2.2.2.2.2]))] H locs := hw
    refine lv_aload_n hx hb d_Rq_giveTo_24 rfl (lv_at hl 0 rfl) ?_
    refine lv_iconst (v := 0) hx hb d_Rq_giveTo_25 (by decide) ?_
    refine kx_put S hw fp_Rq_17 0 rfl rfl rfl (Nat.le_of_ble_eq_true rfl) d_Rq_giveTo_26 (fun H locs hw => ?_)
    have hw : kx_w D (kx_T cI cZ cO) A_ s_ [(h, .inr (4, [.int q.1, .int q.2.1, .int q.2.2.1, .int q.2.2.2.1, .int 1, .int 0, .int q.2.2.2.2.2.2])), (g, .inr (3, [.int d.1, .int d.2.1, .int 0, .int d.2.2.2.1, .int d.2.2.2.2.1, .int d.2.2.2.2.2]))] H locs := hw
    refine lv_aload_n hx hb d_Rq_giveTo_29 rfl (lv_at hl 0 rfl) ?_
    refine lv_aload_n hx hb d_Rq_giveTo_30 rfl (lv_at hl 1 rfl) ?_
    refine kx_get S hw fg_Rq_23 1 rfl rfl d_Rq_giveTo_31 ?_
    refine kx_put S hw fp_Rq_20 0 rfl rfl rfl (Nat.le_of_ble_eq_true rfl) d_Rq_giveTo_34 (fun H locs hw => ?_)
    have hw : kx_w D (kx_T cI cZ cO) A_ s_ [(h, .inr (4, [.int q.1, .int q.2.1, .int q.2.2.1, .int q.2.2.2.1, .int 1, .int 0, .int d.1])), (g, .inr (3, [.int d.1, .int d.2.1, .int 0, .int d.2.2.2.1, .int d.2.2.2.2.1, .int d.2.2.2.2.2]))] H locs := hw
    exact kx_ret_v I rfl hw ((q.1, q.2.1, q.2.2.1, q.2.2.2.1, 1, 0, d.1), (d.1, d.2.1, 0, d.2.2.2.1, d.2.2.2.2.1, d.2.2.2.2.2)) (by simp only [f_Rq_giveTo, if_neg h1]) [0, 1] (by decide) rfl d_Rq_giveTo_37
  · refine lv_aload_n hx hb d_Rq_giveTo_8 rfl (lv_at hl 0 rfl) ?_
    refine lv_iconst (v := 0) hx hb d_Rq_giveTo_9 (by decide) ?_
    refine kx_put S hw fp_Rq_13 0 rfl rfl rfl (Nat.le_of_ble_eq_true rfl) d_Rq_giveTo_10 (fun H locs hw => ?_)
    have hw : kx_w D (kx_T cI cZ cO) A_ s_ [(h, .inr (4, [.int q.1, .int q.2.1, .int q.2.2.1, .int q.2.2.2.1, .int 0, .int q.2.2.2.2.2.1, .int q.2.2.2.2.2.2])), (g, .inr (3, [.int d.1, .int d.2.1, .int d.2.2.1, .int d.2.2.2.1, .int d.2.2.2.2.1, .int d.2.2.2.2.2]))] H locs := hw
    exact kx_ret_v I rfl hw ((q.1, q.2.1, q.2.2.1, q.2.2.2.1, 0, q.2.2.2.2.2.1, q.2.2.2.2.2.2), d) (by simp only [f_Rq_giveTo, if_pos h1]) [0, 1] (by decide) rfl d_Rq_giveTo_13
def f_Rq_progress (q : kt_Rq) : Int32 :=
  match f_Rq_isOpen q with
  | r1 => if r1 = 0 then 0
    else if q.2.2.2.2.1 = 0 then 1
    else 2
set_option maxHeartbeats 4000000 in
set_option maxRecDepth 100000 in
theorem c_Rq_progress (l : Launch) (D : va_G) (cI cZ cO : ClassId) (h : Nat) (q : kt_Rq) : kx_Ci (S := Unit) l y_Rq_progress b_Rq_progress 1 (some .int) 1 0 0 D (kx_T cI cZ cO) [.ref h] [(h, .inr (4, [.int q.1, .int q.2.1, .int q.2.2.1, .int q.2.2.2.1, .int q.2.2.2.2.1, .int q.2.2.2.2.2.1, .int q.2.2.2.2.2.2]))] (fun rr _ => rr = f_Rq_progress q) (fun _ => [(h, .inr (4, [.int q.1, .int q.2.1, .int q.2.2.1, .int q.2.2.2.1, .int q.2.2.2.2.1, .int q.2.2.2.2.2.1, .int q.2.2.2.2.2.2]))]) := by
  refine kx_enter_i (by decide) (Nat.le_of_ble_eq_true rfl) ?_
  intro p_ e_ s_ m_ below_ meth_ c_ ls A_ H I hl hw
  have S := I.1
  have hx := S.1
  have hb := S.2.1
  have hl : lv_has ls 1 [(0, .ref h)] := hl
  refine lv_aload_n hx hb d_Rq_progress_0 rfl (lv_at hl 0 rfl) ?_
  refine kx_call_i (wc := [(h, .inr (4, [.int q.1, .int q.2.1, .int q.2.2.1, .int q.2.2.2.1, .int q.2.2.2.2.1, .int q.2.2.2.2.2.1, .int q.2.2.2.2.2.2]))]) (wr := []) (rest := []) hw [0] [] rfl rfl (by decide) (by decide) (kx_runV S hw fc_Rq_34 rfl 0 rfl [0] (by decide) rfl (c_Rq_isOpen l D cI cZ cO h q H.size) rfl hl.1 rfl (Nat.le_of_ble_eq_true rfl) d_Rq_progress_1 (by decide) (by decide)) (fun r1 u1 H locs hp1 hw => ?_)
  obtain ⟨hp1, hb1⟩ := hp1
  have hw : kx_w D (kx_T cI cZ cO) A_ s_ [(h, .inr (4, [.int q.1, .int q.2.1, .int q.2.2.1, .int q.2.2.2.1, .int q.2.2.2.2.1, .int q.2.2.2.2.2.1, .int q.2.2.2.2.2.2]))] H locs := hw
  refine lv_if_ne (tgt := 9) hx hb d_Rq_progress_4 (by decide) (fun h2 => ?_) (fun h2 => ?_)
  · refine lv_aload_n hx hb d_Rq_progress_9 rfl (lv_at hl 0 rfl) ?_
    refine kx_get S hw fg_Rq_13 0 rfl rfl d_Rq_progress_10 ?_
    refine lv_if_eq (tgt := 20) hx hb d_Rq_progress_13 (by decide) (fun h3 => ?_) (fun h3 => ?_)
    · refine lv_iconst (v := 1) hx hb d_Rq_progress_20 (by decide) ?_
      exact kx_ret_i I rfl hw () (by simp only [f_Rq_progress, ← hp1, if_neg h2, if_pos h3]) [0] (by decide) rfl d_Rq_progress_21
    · refine lv_iconst (v := 2) hx hb d_Rq_progress_16 (by decide) ?_
      refine lv_goto (tgt := 21) hx hb d_Rq_progress_17 (by decide) ?_
      exact kx_ret_i I rfl hw () (by simp only [f_Rq_progress, ← hp1, if_neg h2, if_neg h3]) [0] (by decide) rfl d_Rq_progress_21
  · refine lv_iconst (v := 0) hx hb d_Rq_progress_7 (by decide) ?_
    exact kx_ret_i I rfl hw () (by simp only [f_Rq_progress, ← hp1, if_pos h2]) [0] (by decide) rfl d_Rq_progress_8
def f_Ca_find (c : kt_Ca) (b : Int32) : Int32 :=
  if (c.1 0) = b then 0
  else if (c.1 1) = b then 1
  else if (c.1 2) = b then 2
  else (-1)
set_option maxHeartbeats 4000000 in
set_option maxRecDepth 100000 in
theorem c_Ca_find (l : Launch) (D : va_G) (cI cZ cO : ClassId) (h : Nat) (a0 : Nat) (a1 : Nat) (a2 : Nat) (a3 : Nat) (c : kt_Ca) (b : Int32) : kx_Ci (S := Unit) l y_Ca_find b_Ca_find 3 (some .int) 0 0 0 D (kx_T cI cZ cO) [.ref h, .int b] [(h, .inr (5, [.ref a0, .ref a1, .ref a2, .ref a3])), (a0, .inl (cI, 3, .inl c.1)), (a1, .inl (cI, 3, .inl c.2.1)), (a2, .inl (cZ, 3, .inl c.2.2.1)), (a3, .inl (cI, 3, .inl c.2.2.2))] (fun rr _ => rr = f_Ca_find c b) (fun _ => [(h, .inr (5, [.ref a0, .ref a1, .ref a2, .ref a3])), (a0, .inl (cI, 3, .inl c.1)), (a1, .inl (cI, 3, .inl c.2.1)), (a2, .inl (cZ, 3, .inl c.2.2.1)), (a3, .inl (cI, 3, .inl c.2.2.2))]) := by
  refine kx_enter_i (by decide) (Nat.le_of_ble_eq_true rfl) ?_
  intro p_ e_ s_ m_ below_ meth_ c_ ls A_ H I hl hw
  have S := I.1
  have hx := S.1
  have hb := S.2.1
  have hl : lv_has ls 3 [(0, .ref h), (1, .int b)] := hl
  refine lv_iconst (v := 0) hx hb d_Ca_find_0 (by decide) ?_
  refine lv_istore_n (lv' := [(2, .int 0), (0, .ref h), (1, .int b)]) hx hb d_Ca_find_1 rfl hl (by decide) rfl (fun ls hl => ?_)
  refine lv_iload_n hx hb d_Ca_find_2 rfl (lv_at hl 0 rfl) ?_
  refine lv_iconst (v := 3) hx hb d_Ca_find_3 (by decide) ?_
  refine lv_icmp_ge (tgt := 25) hx hb d_Ca_find_4 (by decide) (fun h => absurd h (by decide)) (fun _ => ?_)
  refine lv_aload_n hx hb d_Ca_find_7 rfl (lv_at hl 1 rfl) ?_
  refine kx_get S hw fg_Ca_9 0 rfl rfl d_Ca_find_8 ?_
  refine lv_iload_n hx hb d_Ca_find_11 rfl (lv_at hl 0 rfl) ?_
  refine kx_iald S hw 1 0 rfl rfl (j := 0) (by decide) (by unfold vp_in; decide) d_Ca_find_12 ?_
  refine lv_iload_n hx hb d_Ca_find_13 rfl (lv_at hl 2 rfl) ?_
  refine lv_icmp_ne (tgt := 19) hx hb d_Ca_find_14 (by decide) (fun h1 => ?_) (fun h1 => ?_)
  · refine lv_iinc (v := 1) (k := 0) (lv' := [(2, .int 1), (0, .ref h), (1, .int b)]) hx hb d_Ca_find_19 hl rfl (by decide) (by decide) rfl (fun ls hl => ?_)
    refine lv_goto (tgt := 2) hx hb d_Ca_find_22 (by decide) ?_
    refine lv_iload_n hx hb d_Ca_find_2 rfl (lv_at hl 0 rfl) ?_
    refine lv_iconst (v := 3) hx hb d_Ca_find_3 (by decide) ?_
    refine lv_icmp_ge (tgt := 25) hx hb d_Ca_find_4 (by decide) (fun h => absurd h (by decide)) (fun _ => ?_)
    refine lv_aload_n hx hb d_Ca_find_7 rfl (lv_at hl 1 rfl) ?_
    refine kx_get S hw fg_Ca_9 0 rfl rfl d_Ca_find_8 ?_
    refine lv_iload_n hx hb d_Ca_find_11 rfl (lv_at hl 0 rfl) ?_
    refine kx_iald S hw 1 0 rfl rfl (j := 1) (by decide) (by unfold vp_in; decide) d_Ca_find_12 ?_
    refine lv_iload_n hx hb d_Ca_find_13 rfl (lv_at hl 2 rfl) ?_
    refine lv_icmp_ne (tgt := 19) hx hb d_Ca_find_14 (by decide) (fun h2 => ?_) (fun h2 => ?_)
    · refine lv_iinc (v := 2) (k := 0) (lv' := [(2, .int 2), (0, .ref h), (1, .int b)]) hx hb d_Ca_find_19 hl rfl (by decide) (by decide) rfl (fun ls hl => ?_)
      refine lv_goto (tgt := 2) hx hb d_Ca_find_22 (by decide) ?_
      refine lv_iload_n hx hb d_Ca_find_2 rfl (lv_at hl 0 rfl) ?_
      refine lv_iconst (v := 3) hx hb d_Ca_find_3 (by decide) ?_
      refine lv_icmp_ge (tgt := 25) hx hb d_Ca_find_4 (by decide) (fun h => absurd h (by decide)) (fun _ => ?_)
      refine lv_aload_n hx hb d_Ca_find_7 rfl (lv_at hl 1 rfl) ?_
      refine kx_get S hw fg_Ca_9 0 rfl rfl d_Ca_find_8 ?_
      refine lv_iload_n hx hb d_Ca_find_11 rfl (lv_at hl 0 rfl) ?_
      refine kx_iald S hw 1 0 rfl rfl (j := 2) (by decide) (by unfold vp_in; decide) d_Ca_find_12 ?_
      refine lv_iload_n hx hb d_Ca_find_13 rfl (lv_at hl 2 rfl) ?_
      refine lv_icmp_ne (tgt := 19) hx hb d_Ca_find_14 (by decide) (fun h3 => ?_) (fun h3 => ?_)
      · refine lv_iinc (v := 3) (k := 0) (lv' := [(2, .int 3), (0, .ref h), (1, .int b)]) hx hb d_Ca_find_19 hl rfl (by decide) (by decide) rfl (fun ls hl => ?_)
        refine lv_goto (tgt := 2) hx hb d_Ca_find_22 (by decide) ?_
        refine lv_iload_n hx hb d_Ca_find_2 rfl (lv_at hl 0 rfl) ?_
        refine lv_iconst (v := 3) hx hb d_Ca_find_3 (by decide) ?_
        refine lv_icmp_ge (tgt := 25) hx hb d_Ca_find_4 (by decide) (fun _ => ?_) (fun h => absurd h (by decide))
        refine lv_iconst (v := (-1)) hx hb d_Ca_find_25 (by decide) ?_
        exact kx_ret_i I rfl hw () (by simp only [f_Ca_find, if_neg h1, if_neg h2, if_neg h3]) [0, 1, 2, 3, 4] (by decide) rfl d_Ca_find_26
      · refine lv_iload_n hx hb d_Ca_find_17 rfl (lv_at hl 0 rfl) ?_
        exact kx_ret_i I rfl hw () (by simp only [f_Ca_find, if_neg h1, if_neg h2, if_pos h3]) [0, 1, 2, 3, 4] (by decide) rfl d_Ca_find_18
    · refine lv_iload_n hx hb d_Ca_find_17 rfl (lv_at hl 0 rfl) ?_
      exact kx_ret_i I rfl hw () (by simp only [f_Ca_find, if_neg h1, if_pos h2]) [0, 1, 2, 3, 4] (by decide) rfl d_Ca_find_18
  · refine lv_iload_n hx hb d_Ca_find_17 rfl (lv_at hl 0 rfl) ?_
    exact kx_ret_i I rfl hw () (by simp only [f_Ca_find, if_pos h1]) [0, 1, 2, 3, 4] (by decide) rfl d_Ca_find_18
def f_Ca_slotToFill (c : kt_Ca) : Int32 :=
  match f_Ca_find c (-1) with
  | r1 => if r1 = (-1) then (if (c.2.2.2 0) ≤ (c.2.2.2 1) then (if (c.2.2.2 0) ≤ (c.2.2.2 2) then 0
        else 2)
      else if (c.2.2.2 1) ≤ (c.2.2.2 2) then 1
      else 2)
    else r1
set_option maxHeartbeats 4000000 in
set_option maxRecDepth 100000 in
theorem c_Ca_slotToFill (l : Launch) (D : va_G) (cI cZ cO : ClassId) (h : Nat) (a0 : Nat) (a1 : Nat) (a2 : Nat) (a3 : Nat) (c : kt_Ca) : kx_Ci (S := Unit) l y_Ca_slotToFill b_Ca_slotToFill 4 (some .int) 1 0 0 D (kx_T cI cZ cO) [.ref h] [(h, .inr (5, [.ref a0, .ref a1, .ref a2, .ref a3])), (a0, .inl (cI, 3, .inl c.1)), (a1, .inl (cI, 3, .inl c.2.1)), (a2, .inl (cZ, 3, .inl c.2.2.1)), (a3, .inl (cI, 3, .inl c.2.2.2))] (fun rr _ => rr = f_Ca_slotToFill c) (fun _ => [(h, .inr (5, [.ref a0, .ref a1, .ref a2, .ref a3])), (a0, .inl (cI, 3, .inl c.1)), (a1, .inl (cI, 3, .inl c.2.1)), (a2, .inl (cZ, 3, .inl c.2.2.1)), (a3, .inl (cI, 3, .inl c.2.2.2))]) := by
  refine kx_enter_i (by decide) (Nat.le_of_ble_eq_true rfl) ?_
  intro p_ e_ s_ m_ below_ meth_ c_ ls A_ H I hl hw
  have S := I.1
  have hx := S.1
  have hb := S.2.1
  have hl : lv_has ls 4 [(0, .ref h)] := hl
  refine lv_aload_n hx hb d_Ca_slotToFill_0 rfl (lv_at hl 0 rfl) ?_
  refine lv_iconst (v := (-1)) hx hb d_Ca_slotToFill_1 (by decide) ?_
  refine kx_call_i (wc := [(h, .inr (5, [.ref a0, .ref a1, .ref a2, .ref a3])), (a0, .inl (cI, 3, .inl c.1)), (a1, .inl (cI, 3, .inl c.2.1)), (a2, .inl (cZ, 3, .inl c.2.2.1)), (a3, .inl (cI, 3, .inl c.2.2.2))]) (wr := []) (rest := []) hw [0, 1, 2, 3, 4] [] rfl rfl (by decide) (by decide) (kx_runV S hw fc_Ca_31 rfl 0 rfl [0, 1, 2, 3, 4] (by decide) rfl (c_Ca_find l D cI cZ cO h a0 a1 a2 a3 c (-1) H.size) rfl hl.1 rfl (Nat.le_of_ble_eq_true rfl) d_Ca_slotToFill_2 (by decide) (by decide)) (fun r1 u1 H locs hp1 hw => ?_)
  have hw : kx_w D (kx_T cI cZ cO) A_ s_ [(h, .inr (5, [.ref a0, .ref a1, .ref a2, .ref a3])), (a0, .inl (cI, 3, .inl c.1)), (a1, .inl (cI, 3, .inl c.2.1)), (a2, .inl (cZ, 3, .inl c.2.2.1)), (a3, .inl (cI, 3, .inl c.2.2.2))] H locs := hw
  refine lv_istore_n (lv' := [(1, .int r1), (0, .ref h)]) hx hb d_Ca_slotToFill_5 rfl hl (by decide) rfl (fun ls hl => ?_)
  refine lv_iload_n hx hb d_Ca_slotToFill_6 rfl (lv_at hl 0 rfl) ?_
  refine lv_iconst (v := (-1)) hx hb d_Ca_slotToFill_7 (by decide) ?_
  refine lv_icmp_eq (tgt := 13) hx hb d_Ca_slotToFill_8 (by decide) (fun h2 => ?_) (fun h2 => ?_)
  · refine lv_iconst (v := 0) hx hb d_Ca_slotToFill_13 (by decide) ?_
    refine lv_istore_n (lv' := [(2, .int 0), (1, .int r1), (0, .ref h)]) hx hb d_Ca_slotToFill_14 rfl hl (by decide) rfl (fun ls hl => ?_)
    refine lv_iconst (v := 1) hx hb d_Ca_slotToFill_15 (by decide) ?_
    refine lv_istore_n (lv' := [(3, .int 1), (2, .int 0), (1, .int r1), (0, .ref h)]) hx hb d_Ca_slotToFill_16 rfl hl (by decide) rfl (fun ls hl => ?_)
    refine lv_iload_n hx hb d_Ca_slotToFill_17 rfl (lv_at hl 0 rfl) ?_
    refine lv_iconst (v := 3) hx hb d_Ca_slotToFill_18 (by decide) ?_
    refine lv_icmp_ge (tgt := 45) hx hb d_Ca_slotToFill_19 (by decide) (fun h => absurd h (by decide)) (fun _ => ?_)
    refine lv_aload_n hx hb d_Ca_slotToFill_22 rfl (lv_at hl 3 rfl) ?_
    refine kx_get S hw fg_Ca_22 0 rfl rfl d_Ca_slotToFill_23 ?_
    refine lv_iload_n hx hb d_Ca_slotToFill_26 rfl (lv_at hl 0 rfl) ?_
    refine kx_iald S hw 4 0 rfl rfl (j := 1) (by decide) (by unfold vp_in; decide) d_Ca_slotToFill_27 ?_
    refine lv_aload_n hx hb d_Ca_slotToFill_28 rfl (lv_at hl 3 rfl) ?_
    refine kx_get S hw fg_Ca_22 0 rfl rfl d_Ca_slotToFill_29 ?_
    refine lv_iload_n hx hb d_Ca_slotToFill_32 rfl (lv_at hl 1 rfl) ?_
    refine kx_iald S hw 4 0 rfl rfl (j := 0) (by decide) (by unfold vp_in; decide) d_Ca_slotToFill_33 ?_
    refine lv_icmp_ge (tgt := 39) hx hb d_Ca_slotToFill_34 (by decide) (fun h3 => ?_) (fun h3 => ?_)
    · refine lv_iinc (v := 2) (k := 0) (lv' := [(3, .int 2), (2, .int 0), (1, .int r1), (0, .ref h)]) hx hb d_Ca_slotToFill_39 hl rfl (by decide) (by decide) rfl (fun ls hl => ?_)
      refine lv_goto (tgt := 17) hx hb d_Ca_slotToFill_42 (by decide) ?_
      refine lv_iload_n hx hb d_Ca_slotToFill_17 rfl (lv_at hl 0 rfl) ?_
      refine lv_iconst (v := 3) hx hb d_Ca_slotToFill_18 (by decide) ?_
      refine lv_icmp_ge (tgt := 45) hx hb d_Ca_slotToFill_19 (by decide) (fun h => absurd h (by decide)) (fun _ => ?_)
      refine lv_aload_n hx hb d_Ca_slotToFill_22 rfl (lv_at hl 3 rfl) ?_
      refine kx_get S hw fg_Ca_22 0 rfl rfl d_Ca_slotToFill_23 ?_
      refine lv_iload_n hx hb d_Ca_slotToFill_26 rfl (lv_at hl 0 rfl) ?_
      refine kx_iald S hw 4 0 rfl rfl (j := 2) (by decide) (by unfold vp_in; decide) d_Ca_slotToFill_27 ?_
      refine lv_aload_n hx hb d_Ca_slotToFill_28 rfl (lv_at hl 3 rfl) ?_
      refine kx_get S hw fg_Ca_22 0 rfl rfl d_Ca_slotToFill_29 ?_
      refine lv_iload_n hx hb d_Ca_slotToFill_32 rfl (lv_at hl 1 rfl) ?_
      refine kx_iald S hw 4 0 rfl rfl (j := 0) (by decide) (by unfold vp_in; decide) d_Ca_slotToFill_33 ?_
      refine lv_icmp_ge (tgt := 39) hx hb d_Ca_slotToFill_34 (by decide) (fun h4 => ?_) (fun h4 => ?_)
      · refine lv_iinc (v := 3) (k := 0) (lv' := [(3, .int 3), (2, .int 0), (1, .int r1), (0, .ref h)]) hx hb d_Ca_slotToFill_39 hl rfl (by decide) (by decide) rfl (fun ls hl => ?_)
        refine lv_goto (tgt := 17) hx hb d_Ca_slotToFill_42 (by decide) ?_
        refine lv_iload_n hx hb d_Ca_slotToFill_17 rfl (lv_at hl 0 rfl) ?_
        refine lv_iconst (v := 3) hx hb d_Ca_slotToFill_18 (by decide) ?_
        refine lv_icmp_ge (tgt := 45) hx hb d_Ca_slotToFill_19 (by decide) (fun _ => ?_) (fun h => absurd h (by decide))
        refine lv_iload_n hx hb d_Ca_slotToFill_45 rfl (lv_at hl 1 rfl) ?_
        exact kx_ret_i I rfl hw () (by simp only [f_Ca_slotToFill, ← hp1, if_pos h2, if_pos h3, if_pos h4]) [0, 1, 2, 3, 4] (by decide) rfl d_Ca_slotToFill_46
      · refine lv_iload_n hx hb d_Ca_slotToFill_37 rfl (lv_at hl 0 rfl) ?_
        refine lv_istore_n (lv' := [(2, .int 2), (3, .int 2), (1, .int r1), (0, .ref h)]) hx hb d_Ca_slotToFill_38 rfl hl (by decide) rfl (fun ls hl => ?_)
        refine lv_iinc (v := 3) (k := 1) (lv' := [(3, .int 3), (2, .int 2), (1, .int r1), (0, .ref h)]) hx hb d_Ca_slotToFill_39 hl rfl (by decide) (by decide) rfl (fun ls hl => ?_)
        refine lv_goto (tgt := 17) hx hb d_Ca_slotToFill_42 (by decide) ?_
        refine lv_iload_n hx hb d_Ca_slotToFill_17 rfl (lv_at hl 0 rfl) ?_
        refine lv_iconst (v := 3) hx hb d_Ca_slotToFill_18 (by decide) ?_
        refine lv_icmp_ge (tgt := 45) hx hb d_Ca_slotToFill_19 (by decide) (fun _ => ?_) (fun h => absurd h (by decide))
        refine lv_iload_n hx hb d_Ca_slotToFill_45 rfl (lv_at hl 1 rfl) ?_
        exact kx_ret_i I rfl hw () (by simp only [f_Ca_slotToFill, ← hp1, if_pos h2, if_pos h3, if_neg h4]) [0, 1, 2, 3, 4] (by decide) rfl d_Ca_slotToFill_46
    · refine lv_iload_n hx hb d_Ca_slotToFill_37 rfl (lv_at hl 0 rfl) ?_
      refine lv_istore_n (lv' := [(2, .int 1), (3, .int 1), (1, .int r1), (0, .ref h)]) hx hb d_Ca_slotToFill_38 rfl hl (by decide) rfl (fun ls hl => ?_)
      refine lv_iinc (v := 2) (k := 1) (lv' := [(3, .int 2), (2, .int 1), (1, .int r1), (0, .ref h)]) hx hb d_Ca_slotToFill_39 hl rfl (by decide) (by decide) rfl (fun ls hl => ?_)
      refine lv_goto (tgt := 17) hx hb d_Ca_slotToFill_42 (by decide) ?_
      refine lv_iload_n hx hb d_Ca_slotToFill_17 rfl (lv_at hl 0 rfl) ?_
      refine lv_iconst (v := 3) hx hb d_Ca_slotToFill_18 (by decide) ?_
      refine lv_icmp_ge (tgt := 45) hx hb d_Ca_slotToFill_19 (by decide) (fun h => absurd h (by decide)) (fun _ => ?_)
      refine lv_aload_n hx hb d_Ca_slotToFill_22 rfl (lv_at hl 3 rfl) ?_
      refine kx_get S hw fg_Ca_22 0 rfl rfl d_Ca_slotToFill_23 ?_
      refine lv_iload_n hx hb d_Ca_slotToFill_26 rfl (lv_at hl 0 rfl) ?_
      refine kx_iald S hw 4 0 rfl rfl (j := 2) (by decide) (by unfold vp_in; decide) d_Ca_slotToFill_27 ?_
      refine lv_aload_n hx hb d_Ca_slotToFill_28 rfl (lv_at hl 3 rfl) ?_
      refine kx_get S hw fg_Ca_22 0 rfl rfl d_Ca_slotToFill_29 ?_
      refine lv_iload_n hx hb d_Ca_slotToFill_32 rfl (lv_at hl 1 rfl) ?_
      refine kx_iald S hw 4 0 rfl rfl (j := 1) (by decide) (by unfold vp_in; decide) d_Ca_slotToFill_33 ?_
      refine lv_icmp_ge (tgt := 39) hx hb d_Ca_slotToFill_34 (by decide) (fun h5 => ?_) (fun h5 => ?_)
      · refine lv_iinc (v := 3) (k := 0) (lv' := [(3, .int 3), (2, .int 1), (1, .int r1), (0, .ref h)]) hx hb d_Ca_slotToFill_39 hl rfl (by decide) (by decide) rfl (fun ls hl => ?_)
        refine lv_goto (tgt := 17) hx hb d_Ca_slotToFill_42 (by decide) ?_
        refine lv_iload_n hx hb d_Ca_slotToFill_17 rfl (lv_at hl 0 rfl) ?_
        refine lv_iconst (v := 3) hx hb d_Ca_slotToFill_18 (by decide) ?_
        refine lv_icmp_ge (tgt := 45) hx hb d_Ca_slotToFill_19 (by decide) (fun _ => ?_) (fun h => absurd h (by decide))
        refine lv_iload_n hx hb d_Ca_slotToFill_45 rfl (lv_at hl 1 rfl) ?_
        exact kx_ret_i I rfl hw () (by simp only [f_Ca_slotToFill, ← hp1, if_pos h2, if_neg h3, if_pos h5]) [0, 1, 2, 3, 4] (by decide) rfl d_Ca_slotToFill_46
      · refine lv_iload_n hx hb d_Ca_slotToFill_37 rfl (lv_at hl 0 rfl) ?_
        refine lv_istore_n (lv' := [(2, .int 2), (3, .int 2), (1, .int r1), (0, .ref h)]) hx hb d_Ca_slotToFill_38 rfl hl (by decide) rfl (fun ls hl => ?_)
        refine lv_iinc (v := 3) (k := 1) (lv' := [(3, .int 3), (2, .int 2), (1, .int r1), (0, .ref h)]) hx hb d_Ca_slotToFill_39 hl rfl (by decide) (by decide) rfl (fun ls hl => ?_)
        refine lv_goto (tgt := 17) hx hb d_Ca_slotToFill_42 (by decide) ?_
        refine lv_iload_n hx hb d_Ca_slotToFill_17 rfl (lv_at hl 0 rfl) ?_
        refine lv_iconst (v := 3) hx hb d_Ca_slotToFill_18 (by decide) ?_
        refine lv_icmp_ge (tgt := 45) hx hb d_Ca_slotToFill_19 (by decide) (fun _ => ?_) (fun h => absurd h (by decide))
        refine lv_iload_n hx hb d_Ca_slotToFill_45 rfl (lv_at hl 1 rfl) ?_
        exact kx_ret_i I rfl hw () (by simp only [f_Ca_slotToFill, ← hp1, if_pos h2, if_neg h3, if_neg h5]) [0, 1, 2, 3, 4] (by decide) rfl d_Ca_slotToFill_46
  · refine lv_iload_n hx hb d_Ca_slotToFill_11 rfl (lv_at hl 0 rfl) ?_
    exact kx_ret_i I rfl hw () (by simp only [f_Ca_slotToFill, ← hp1, if_neg h2]) [0, 1, 2, 3, 4] (by decide) rfl d_Ca_slotToFill_12
def f_Ca_dirtySlotOfLowestBlock (c : kt_Ca) : Int32 :=
  if (c.2.2.1 0) = 0 then (if (c.2.2.1 1) = 0 then (if (c.2.2.1 2) = 0 then (-1)
      else 2)
    else if (c.2.2.1 2) = 0 then 1
    else if (c.1 1) ≤ (c.1 2) then 1
    else 2)
  else if (c.2.2.1 1) = 0 then (if (c.2.2.1 2) = 0 then 0
    else if (c.1 0) ≤ (c.1 2) then 0
    else 2)
  else if (c.1 0) ≤ (c.1 1) then (if (c.2.2.1 2) = 0 then 0
    else if (c.1 0) ≤ (c.1 2) then 0
    else 2)
  else if (c.2.2.1 2) = 0 then 1
  else if (c.1 1) ≤ (c.1 2) then 1
  else 2
set_option maxHeartbeats 4000000 in
set_option maxRecDepth 100000 in
theorem c_Ca_dirtySlotOfLowestBlock (l : Launch) (D : va_G) (cI cZ cO : ClassId) (h : Nat) (a0 : Nat) (a1 : Nat) (a2 : Nat) (a3 : Nat) (c : kt_Ca) : kx_Ci (S := Unit) l y_Ca_dirtySlotOfLowestBlock b_Ca_dirtySlotOfLowestBlock 3 (some .int) 0 0 0 D (kx_T cI cZ cO) [.ref h] [(h, .inr (5, [.ref a0, .ref a1, .ref a2, .ref a3])), (a0, .inl (cI, 3, .inl c.1)), (a1, .inl (cI, 3, .inl c.2.1)), (a2, .inl (cZ, 3, .inl c.2.2.1)), (a3, .inl (cI, 3, .inl c.2.2.2))] (fun rr _ => rr = f_Ca_dirtySlotOfLowestBlock c) (fun _ => [(h, .inr (5, [.ref a0, .ref a1, .ref a2, .ref a3])), (a0, .inl (cI, 3, .inl c.1)), (a1, .inl (cI, 3, .inl c.2.1)), (a2, .inl (cZ, 3, .inl c.2.2.1)), (a3, .inl (cI, 3, .inl c.2.2.2))]) := by
  refine kx_enter_i (by decide) (Nat.le_of_ble_eq_true rfl) ?_
  intro p_ e_ s_ m_ below_ meth_ c_ ls A_ H I hl hw
  have S := I.1
  have hx := S.1
  have hb := S.2.1
  have hl : lv_has ls 3 [(0, .ref h)] := hl
  refine lv_iconst (v := (-1)) hx hb d_Ca_dirtySlotOfLowestBlock_0 (by decide) ?_
  refine lv_istore_n (lv' := [(1, .int (-1)), (0, .ref h)]) hx hb d_Ca_dirtySlotOfLowestBlock_1 rfl hl (by decide) rfl (fun ls hl => ?_)
  refine lv_iconst (v := 0) hx hb d_Ca_dirtySlotOfLowestBlock_2 (by decide) ?_
  refine lv_istore_n (lv' := [(2, .int 0), (1, .int (-1)), (0, .ref h)]) hx hb d_Ca_dirtySlotOfLowestBlock_3 rfl hl (by decide) rfl (fun ls hl => ?_)
  refine lv_iload_n hx hb d_Ca_dirtySlotOfLowestBlock_4 rfl (lv_at hl 0 rfl) ?_
  refine lv_iconst (v := 3) hx hb d_Ca_dirtySlotOfLowestBlock_5 (by decide) ?_
  refine lv_icmp_ge (tgt := 46) hx hb d_Ca_dirtySlotOfLowestBlock_6 (by decide) (fun h => absurd h (by decide)) (fun _ => ?_)
  refine lv_aload_n hx hb d_Ca_dirtySlotOfLowestBlock_9 rfl (lv_at hl 2 rfl) ?_
  refine kx_get S hw fg_Ca_18 0 rfl rfl d_Ca_dirtySlotOfLowestBlock_10 ?_
  refine lv_iload_n hx hb d_Ca_dirtySlotOfLowestBlock_13 rfl (lv_at hl 0 rfl) ?_
  refine kx_zald S hw 3 1 rfl rfl (j := 0) (by decide) (by unfold vp_in; decide) d_Ca_dirtySlotOfLowestBlock_14 ?_
  refine lv_if_eq (tgt := 40) hx hb d_Ca_dirtySlotOfLowestBlock_15 (by decide) (fun h1 => ?_) (fun h1 => ?_)
  · refine lv_iinc (v := 1) (k := 0) (lv' := [(2, .int 1), (1, .int (-1)), (0, .ref h)]) hx hb d_Ca_dirtySlotOfLowestBlock_40 hl rfl (by decide) (by decide) rfl (fun ls hl => ?_)
    refine lv_goto (tgt := 4) hx hb d_Ca_dirtySlotOfLowestBlock_43 (by decide) ?_
    refine lv_iload_n hx hb d_Ca_dirtySlotOfLowestBlock_4 rfl (lv_at hl 0 rfl) ?_
    refine lv_iconst (v := 3) hx hb d_Ca_dirtySlotOfLowestBlock_5 (by decide) ?_
    refine lv_icmp_ge (tgt := 46) hx hb d_Ca_dirtySlotOfLowestBlock_6 (by decide) (fun h => absurd h (by decide)) (fun _ => ?_)
    refine lv_aload_n hx hb d_Ca_dirtySlotOfLowestBlock_9 rfl (lv_at hl 2 rfl) ?_
    refine kx_get S hw fg_Ca_18 0 rfl rfl d_Ca_dirtySlotOfLowestBlock_10 ?_
    refine lv_iload_n hx hb d_Ca_dirtySlotOfLowestBlock_13 rfl (lv_at hl 0 rfl) ?_
    refine kx_zald S hw 3 1 rfl rfl (j := 1) (by decide) (by unfold vp_in; decide) d_Ca_dirtySlotOfLowestBlock_14 ?_
    refine lv_if_eq (tgt := 40) hx hb d_Ca_dirtySlotOfLowestBlock_15 (by decide) (fun h2 => ?_) (fun h2 => ?_)
    · refine lv_iinc (v := 2) (k := 0) (lv' := [(2, .int 2), (1, .int (-1)), (0, .ref h)]) hx hb d_Ca_dirtySlotOfLowestBlock_40 hl rfl (by decide) (by decide) rfl (fun ls hl => ?_)
      refine lv_goto (tgt := 4) hx hb d_Ca_dirtySlotOfLowestBlock_43 (by decide) ?_
      refine lv_iload_n hx hb d_Ca_dirtySlotOfLowestBlock_4 rfl (lv_at hl 0 rfl) ?_
      refine lv_iconst (v := 3) hx hb d_Ca_dirtySlotOfLowestBlock_5 (by decide) ?_
      refine lv_icmp_ge (tgt := 46) hx hb d_Ca_dirtySlotOfLowestBlock_6 (by decide) (fun h => absurd h (by decide)) (fun _ => ?_)
      refine lv_aload_n hx hb d_Ca_dirtySlotOfLowestBlock_9 rfl (lv_at hl 2 rfl) ?_
      refine kx_get S hw fg_Ca_18 0 rfl rfl d_Ca_dirtySlotOfLowestBlock_10 ?_
      refine lv_iload_n hx hb d_Ca_dirtySlotOfLowestBlock_13 rfl (lv_at hl 0 rfl) ?_
      refine kx_zald S hw 3 1 rfl rfl (j := 2) (by decide) (by unfold vp_in; decide) d_Ca_dirtySlotOfLowestBlock_14 ?_
      refine lv_if_eq (tgt := 40) hx hb d_Ca_dirtySlotOfLowestBlock_15 (by decide) (fun h3 => ?_) (fun h3 => ?_)
      · refine lv_iinc (v := 3) (k := 0) (lv' := [(2, .int 3), (1, .int (-1)), (0, .ref h)]) hx hb d_Ca_dirtySlotOfLowestBlock_40 hl rfl (by decide) (by decide) rfl (fun ls hl => ?_)
        refine lv_goto (tgt := 4) hx hb d_Ca_dirtySlotOfLowestBlock_43 (by decide) ?_
        refine lv_iload_n hx hb d_Ca_dirtySlotOfLowestBlock_4 rfl (lv_at hl 0 rfl) ?_
        refine lv_iconst (v := 3) hx hb d_Ca_dirtySlotOfLowestBlock_5 (by decide) ?_
        refine lv_icmp_ge (tgt := 46) hx hb d_Ca_dirtySlotOfLowestBlock_6 (by decide) (fun _ => ?_) (fun h => absurd h (by decide))
        refine lv_iload_n hx hb d_Ca_dirtySlotOfLowestBlock_46 rfl (lv_at hl 1 rfl) ?_
        exact kx_ret_i I rfl hw () (by simp only [f_Ca_dirtySlotOfLowestBlock, if_pos h1, if_pos h2, if_pos h3]) [0, 1, 2, 3, 4] (by decide) rfl d_Ca_dirtySlotOfLowestBlock_47
      · refine lv_iload_n hx hb d_Ca_dirtySlotOfLowestBlock_18 rfl (lv_at hl 1 rfl) ?_
        refine lv_iconst (v := (-1)) hx hb d_Ca_dirtySlotOfLowestBlock_19 (by decide) ?_
        refine lv_icmp_eq (tgt := 38) hx hb d_Ca_dirtySlotOfLowestBlock_20 (by decide) (fun _ => ?_) (fun h => absurd h (by decide))
        refine lv_iload_n hx hb d_Ca_dirtySlotOfLowestBlock_38 rfl (lv_at hl 0 rfl) ?_
        refine lv_istore_n (lv' := [(1, .int 2), (2, .int 2), (0, .ref h)]) hx hb d_Ca_dirtySlotOfLowestBlock_39 rfl hl (by decide) rfl (fun ls hl => ?_)
        refine lv_iinc (v := 3) (k := 1) (lv' := [(2, .int 3), (1, .int 2), (0, .ref h)]) hx hb d_Ca_dirtySlotOfLowestBlock_40 hl rfl (by decide) (by decide) rfl (fun ls hl => ?_)
        refine lv_goto (tgt := 4) hx hb d_Ca_dirtySlotOfLowestBlock_43 (by decide) ?_
        refine lv_iload_n hx hb d_Ca_dirtySlotOfLowestBlock_4 rfl (lv_at hl 0 rfl) ?_
        refine lv_iconst (v := 3) hx hb d_Ca_dirtySlotOfLowestBlock_5 (by decide) ?_
        refine lv_icmp_ge (tgt := 46) hx hb d_Ca_dirtySlotOfLowestBlock_6 (by decide) (fun _ => ?_) (fun h => absurd h (by decide))
        refine lv_iload_n hx hb d_Ca_dirtySlotOfLowestBlock_46 rfl (lv_at hl 1 rfl) ?_
        exact kx_ret_i I rfl hw () (by simp only [f_Ca_dirtySlotOfLowestBlock, if_pos h1, if_pos h2, if_neg h3]) [0, 1, 2, 3, 4] (by decide) rfl d_Ca_dirtySlotOfLowestBlock_47
    · refine lv_iload_n hx hb d_Ca_dirtySlotOfLowestBlock_18 rfl (lv_at hl 1 rfl) ?_
      refine lv_iconst (v := (-1)) hx hb d_Ca_dirtySlotOfLowestBlock_19 (by decide) ?_
      refine lv_icmp_eq (tgt := 38) hx hb d_Ca_dirtySlotOfLowestBlock_20 (by decide) (fun _ => ?_) (fun h => absurd h (by decide))
      refine lv_iload_n hx hb d_Ca_dirtySlotOfLowestBlock_38 rfl (lv_at hl 0 rfl) ?_
      refine lv_istore_n (lv' := [(1, .int 1), (2, .int 1), (0, .ref h)]) hx hb d_Ca_dirtySlotOfLowestBlock_39 rfl hl (by decide) rfl (fun ls hl => ?_)
      refine lv_iinc (v := 2) (k := 1) (lv' := [(2, .int 2), (1, .int 1), (0, .ref h)]) hx hb d_Ca_dirtySlotOfLowestBlock_40 hl rfl (by decide) (by decide) rfl (fun ls hl => ?_)
      refine lv_goto (tgt := 4) hx hb d_Ca_dirtySlotOfLowestBlock_43 (by decide) ?_
      refine lv_iload_n hx hb d_Ca_dirtySlotOfLowestBlock_4 rfl (lv_at hl 0 rfl) ?_
      refine lv_iconst (v := 3) hx hb d_Ca_dirtySlotOfLowestBlock_5 (by decide) ?_
      refine lv_icmp_ge (tgt := 46) hx hb d_Ca_dirtySlotOfLowestBlock_6 (by decide) (fun h => absurd h (by decide)) (fun _ => ?_)
      refine lv_aload_n hx hb d_Ca_dirtySlotOfLowestBlock_9 rfl (lv_at hl 2 rfl) ?_
      refine kx_get S hw fg_Ca_18 0 rfl rfl d_Ca_dirtySlotOfLowestBlock_10 ?_
      refine lv_iload_n hx hb d_Ca_dirtySlotOfLowestBlock_13 rfl (lv_at hl 0 rfl) ?_
      refine kx_zald S hw 3 1 rfl rfl (j := 2) (by decide) (by unfold vp_in; decide) d_Ca_dirtySlotOfLowestBlock_14 ?_
      refine lv_if_eq (tgt := 40) hx hb d_Ca_dirtySlotOfLowestBlock_15 (by decide) (fun h4 => ?_) (fun h4 => ?_)
      · refine lv_iinc (v := 3) (k := 0) (lv' := [(2, .int 3), (1, .int 1), (0, .ref h)]) hx hb d_Ca_dirtySlotOfLowestBlock_40 hl rfl (by decide) (by decide) rfl (fun ls hl => ?_)
        refine lv_goto (tgt := 4) hx hb d_Ca_dirtySlotOfLowestBlock_43 (by decide) ?_
        refine lv_iload_n hx hb d_Ca_dirtySlotOfLowestBlock_4 rfl (lv_at hl 0 rfl) ?_
        refine lv_iconst (v := 3) hx hb d_Ca_dirtySlotOfLowestBlock_5 (by decide) ?_
        refine lv_icmp_ge (tgt := 46) hx hb d_Ca_dirtySlotOfLowestBlock_6 (by decide) (fun _ => ?_) (fun h => absurd h (by decide))
        refine lv_iload_n hx hb d_Ca_dirtySlotOfLowestBlock_46 rfl (lv_at hl 1 rfl) ?_
        exact kx_ret_i I rfl hw () (by simp only [f_Ca_dirtySlotOfLowestBlock, if_pos h1, if_neg h2, if_pos h4]) [0, 1, 2, 3, 4] (by decide) rfl d_Ca_dirtySlotOfLowestBlock_47
      · refine lv_iload_n hx hb d_Ca_dirtySlotOfLowestBlock_18 rfl (lv_at hl 1 rfl) ?_
        refine lv_iconst (v := (-1)) hx hb d_Ca_dirtySlotOfLowestBlock_19 (by decide) ?_
        refine lv_icmp_eq (tgt := 38) hx hb d_Ca_dirtySlotOfLowestBlock_20 (by decide) (fun h => absurd h (by decide)) (fun _ => ?_)
        refine lv_aload_n hx hb d_Ca_dirtySlotOfLowestBlock_23 rfl (lv_at hl 2 rfl) ?_
        refine kx_get S hw fg_Ca_9 0 rfl rfl d_Ca_dirtySlotOfLowestBlock_24 ?_
        refine lv_iload_n hx hb d_Ca_dirtySlotOfLowestBlock_27 rfl (lv_at hl 0 rfl) ?_
        refine kx_iald S hw 1 0 rfl rfl (j := 2) (by decide) (by unfold vp_in; decide) d_Ca_dirtySlotOfLowestBlock_28 ?_
        refine lv_aload_n hx hb d_Ca_dirtySlotOfLowestBlock_29 rfl (lv_at hl 2 rfl) ?_
        refine kx_get S hw fg_Ca_9 0 rfl rfl d_Ca_dirtySlotOfLowestBlock_30 ?_
        refine lv_iload_n hx hb d_Ca_dirtySlotOfLowestBlock_33 rfl (lv_at hl 1 rfl) ?_
        refine kx_iald S hw 1 0 rfl rfl (j := 1) (by decide) (by unfold vp_in; decide) d_Ca_dirtySlotOfLowestBlock_34 ?_
        refine lv_icmp_ge (tgt := 40) hx hb d_Ca_dirtySlotOfLowestBlock_35 (by decide) (fun h5 => ?_) (fun h5 => ?_)
        · refine lv_iinc (v := 3) (k := 0) (lv' := [(2, .int 3), (1, .int 1), (0, .ref h)]) hx hb d_Ca_dirtySlotOfLowestBlock_40 hl rfl (by decide) (by decide) rfl (fun ls hl => ?_)
          refine lv_goto (tgt := 4) hx hb d_Ca_dirtySlotOfLowestBlock_43 (by decide) ?_
          refine lv_iload_n hx hb d_Ca_dirtySlotOfLowestBlock_4 rfl (lv_at hl 0 rfl) ?_
          refine lv_iconst (v := 3) hx hb d_Ca_dirtySlotOfLowestBlock_5 (by decide) ?_
          refine lv_icmp_ge (tgt := 46) hx hb d_Ca_dirtySlotOfLowestBlock_6 (by decide) (fun _ => ?_) (fun h => absurd h (by decide))
          refine lv_iload_n hx hb d_Ca_dirtySlotOfLowestBlock_46 rfl (lv_at hl 1 rfl) ?_
          exact kx_ret_i I rfl hw () (by simp only [f_Ca_dirtySlotOfLowestBlock, if_pos h1, if_neg h2, if_neg h4, if_pos h5]) [0, 1, 2, 3, 4] (by decide) rfl d_Ca_dirtySlotOfLowestBlock_47
        · refine lv_iload_n hx hb d_Ca_dirtySlotOfLowestBlock_38 rfl (lv_at hl 0 rfl) ?_
          refine lv_istore_n (lv' := [(1, .int 2), (2, .int 2), (0, .ref h)]) hx hb d_Ca_dirtySlotOfLowestBlock_39 rfl hl (by decide) rfl (fun ls hl => ?_)
          refine lv_iinc (v := 3) (k := 1) (lv' := [(2, .int 3), (1, .int 2), (0, .ref h)]) hx hb d_Ca_dirtySlotOfLowestBlock_40 hl rfl (by decide) (by decide) rfl (fun ls hl => ?_)
          refine lv_goto (tgt := 4) hx hb d_Ca_dirtySlotOfLowestBlock_43 (by decide) ?_
          refine lv_iload_n hx hb d_Ca_dirtySlotOfLowestBlock_4 rfl (lv_at hl 0 rfl) ?_
          refine lv_iconst (v := 3) hx hb d_Ca_dirtySlotOfLowestBlock_5 (by decide) ?_
          refine lv_icmp_ge (tgt := 46) hx hb d_Ca_dirtySlotOfLowestBlock_6 (by decide) (fun _ => ?_) (fun h => absurd h (by decide))
          refine lv_iload_n hx hb d_Ca_dirtySlotOfLowestBlock_46 rfl (lv_at hl 1 rfl) ?_
          exact kx_ret_i I rfl hw () (by simp only [f_Ca_dirtySlotOfLowestBlock, if_pos h1, if_neg h2, if_neg h4, if_neg h5]) [0, 1, 2, 3, 4] (by decide) rfl d_Ca_dirtySlotOfLowestBlock_47
  · refine lv_iload_n hx hb d_Ca_dirtySlotOfLowestBlock_18 rfl (lv_at hl 1 rfl) ?_
    refine lv_iconst (v := (-1)) hx hb d_Ca_dirtySlotOfLowestBlock_19 (by decide) ?_
    refine lv_icmp_eq (tgt := 38) hx hb d_Ca_dirtySlotOfLowestBlock_20 (by decide) (fun _ => ?_) (fun h => absurd h (by decide))
    refine lv_iload_n hx hb d_Ca_dirtySlotOfLowestBlock_38 rfl (lv_at hl 0 rfl) ?_
    refine lv_istore_n (lv' := [(1, .int 0), (2, .int 0), (0, .ref h)]) hx hb d_Ca_dirtySlotOfLowestBlock_39 rfl hl (by decide) rfl (fun ls hl => ?_)
    refine lv_iinc (v := 1) (k := 1) (lv' := [(2, .int 1), (1, .int 0), (0, .ref h)]) hx hb d_Ca_dirtySlotOfLowestBlock_40 hl rfl (by decide) (by decide) rfl (fun ls hl => ?_)
    refine lv_goto (tgt := 4) hx hb d_Ca_dirtySlotOfLowestBlock_43 (by decide) ?_
    refine lv_iload_n hx hb d_Ca_dirtySlotOfLowestBlock_4 rfl (lv_at hl 0 rfl) ?_
    refine lv_iconst (v := 3) hx hb d_Ca_dirtySlotOfLowestBlock_5 (by decide) ?_
    refine lv_icmp_ge (tgt := 46) hx hb d_Ca_dirtySlotOfLowestBlock_6 (by decide) (fun h => absurd h (by decide)) (fun _ => ?_)
    refine lv_aload_n hx hb d_Ca_dirtySlotOfLowestBlock_9 rfl (lv_at hl 2 rfl) ?_
    refine kx_get S hw fg_Ca_18 0 rfl rfl d_Ca_dirtySlotOfLowestBlock_10 ?_
    refine lv_iload_n hx hb d_Ca_dirtySlotOfLowestBlock_13 rfl (lv_at hl 0 rfl) ?_
    refine kx_zald S hw 3 1 rfl rfl (j := 1) (by decide) (by unfold vp_in; decide) d_Ca_dirtySlotOfLowestBlock_14 ?_
    refine lv_if_eq (tgt := 40) hx hb d_Ca_dirtySlotOfLowestBlock_15 (by decide) (fun h6 => ?_) (fun h6 => ?_)
    · refine lv_iinc (v := 2) (k := 0) (lv' := [(2, .int 2), (1, .int 0), (0, .ref h)]) hx hb d_Ca_dirtySlotOfLowestBlock_40 hl rfl (by decide) (by decide) rfl (fun ls hl => ?_)
      refine lv_goto (tgt := 4) hx hb d_Ca_dirtySlotOfLowestBlock_43 (by decide) ?_
      refine lv_iload_n hx hb d_Ca_dirtySlotOfLowestBlock_4 rfl (lv_at hl 0 rfl) ?_
      refine lv_iconst (v := 3) hx hb d_Ca_dirtySlotOfLowestBlock_5 (by decide) ?_
      refine lv_icmp_ge (tgt := 46) hx hb d_Ca_dirtySlotOfLowestBlock_6 (by decide) (fun h => absurd h (by decide)) (fun _ => ?_)
      refine lv_aload_n hx hb d_Ca_dirtySlotOfLowestBlock_9 rfl (lv_at hl 2 rfl) ?_
      refine kx_get S hw fg_Ca_18 0 rfl rfl d_Ca_dirtySlotOfLowestBlock_10 ?_
      refine lv_iload_n hx hb d_Ca_dirtySlotOfLowestBlock_13 rfl (lv_at hl 0 rfl) ?_
      refine kx_zald S hw 3 1 rfl rfl (j := 2) (by decide) (by unfold vp_in; decide) d_Ca_dirtySlotOfLowestBlock_14 ?_
      refine lv_if_eq (tgt := 40) hx hb d_Ca_dirtySlotOfLowestBlock_15 (by decide) (fun h7 => ?_) (fun h7 => ?_)
      · refine lv_iinc (v := 3) (k := 0) (lv' := [(2, .int 3), (1, .int 0), (0, .ref h)]) hx hb d_Ca_dirtySlotOfLowestBlock_40 hl rfl (by decide) (by decide) rfl (fun ls hl => ?_)
        refine lv_goto (tgt := 4) hx hb d_Ca_dirtySlotOfLowestBlock_43 (by decide) ?_
        refine lv_iload_n hx hb d_Ca_dirtySlotOfLowestBlock_4 rfl (lv_at hl 0 rfl) ?_
        refine lv_iconst (v := 3) hx hb d_Ca_dirtySlotOfLowestBlock_5 (by decide) ?_
        refine lv_icmp_ge (tgt := 46) hx hb d_Ca_dirtySlotOfLowestBlock_6 (by decide) (fun _ => ?_) (fun h => absurd h (by decide))
        refine lv_iload_n hx hb d_Ca_dirtySlotOfLowestBlock_46 rfl (lv_at hl 1 rfl) ?_
        exact kx_ret_i I rfl hw () (by simp only [f_Ca_dirtySlotOfLowestBlock, if_neg h1, if_pos h6, if_pos h7]) [0, 1, 2, 3, 4] (by decide) rfl d_Ca_dirtySlotOfLowestBlock_47
      · refine lv_iload_n hx hb d_Ca_dirtySlotOfLowestBlock_18 rfl (lv_at hl 1 rfl) ?_
        refine lv_iconst (v := (-1)) hx hb d_Ca_dirtySlotOfLowestBlock_19 (by decide) ?_
        refine lv_icmp_eq (tgt := 38) hx hb d_Ca_dirtySlotOfLowestBlock_20 (by decide) (fun h => absurd h (by decide)) (fun _ => ?_)
        refine lv_aload_n hx hb d_Ca_dirtySlotOfLowestBlock_23 rfl (lv_at hl 2 rfl) ?_
        refine kx_get S hw fg_Ca_9 0 rfl rfl d_Ca_dirtySlotOfLowestBlock_24 ?_
        refine lv_iload_n hx hb d_Ca_dirtySlotOfLowestBlock_27 rfl (lv_at hl 0 rfl) ?_
        refine kx_iald S hw 1 0 rfl rfl (j := 2) (by decide) (by unfold vp_in; decide) d_Ca_dirtySlotOfLowestBlock_28 ?_
        refine lv_aload_n hx hb d_Ca_dirtySlotOfLowestBlock_29 rfl (lv_at hl 2 rfl) ?_
        refine kx_get S hw fg_Ca_9 0 rfl rfl d_Ca_dirtySlotOfLowestBlock_30 ?_
        refine lv_iload_n hx hb d_Ca_dirtySlotOfLowestBlock_33 rfl (lv_at hl 1 rfl) ?_
        refine kx_iald S hw 1 0 rfl rfl (j := 0) (by decide) (by unfold vp_in; decide) d_Ca_dirtySlotOfLowestBlock_34 ?_
        refine lv_icmp_ge (tgt := 40) hx hb d_Ca_dirtySlotOfLowestBlock_35 (by decide) (fun h8 => ?_) (fun h8 => ?_)
        · refine lv_iinc (v := 3) (k := 0) (lv' := [(2, .int 3), (1, .int 0), (0, .ref h)]) hx hb d_Ca_dirtySlotOfLowestBlock_40 hl rfl (by decide) (by decide) rfl (fun ls hl => ?_)
          refine lv_goto (tgt := 4) hx hb d_Ca_dirtySlotOfLowestBlock_43 (by decide) ?_
          refine lv_iload_n hx hb d_Ca_dirtySlotOfLowestBlock_4 rfl (lv_at hl 0 rfl) ?_
          refine lv_iconst (v := 3) hx hb d_Ca_dirtySlotOfLowestBlock_5 (by decide) ?_
          refine lv_icmp_ge (tgt := 46) hx hb d_Ca_dirtySlotOfLowestBlock_6 (by decide) (fun _ => ?_) (fun h => absurd h (by decide))
          refine lv_iload_n hx hb d_Ca_dirtySlotOfLowestBlock_46 rfl (lv_at hl 1 rfl) ?_
          exact kx_ret_i I rfl hw () (by simp only [f_Ca_dirtySlotOfLowestBlock, if_neg h1, if_pos h6, if_neg h7, if_pos h8]) [0, 1, 2, 3, 4] (by decide) rfl d_Ca_dirtySlotOfLowestBlock_47
        · refine lv_iload_n hx hb d_Ca_dirtySlotOfLowestBlock_38 rfl (lv_at hl 0 rfl) ?_
          refine lv_istore_n (lv' := [(1, .int 2), (2, .int 2), (0, .ref h)]) hx hb d_Ca_dirtySlotOfLowestBlock_39 rfl hl (by decide) rfl (fun ls hl => ?_)
          refine lv_iinc (v := 3) (k := 1) (lv' := [(2, .int 3), (1, .int 2), (0, .ref h)]) hx hb d_Ca_dirtySlotOfLowestBlock_40 hl rfl (by decide) (by decide) rfl (fun ls hl => ?_)
          refine lv_goto (tgt := 4) hx hb d_Ca_dirtySlotOfLowestBlock_43 (by decide) ?_
          refine lv_iload_n hx hb d_Ca_dirtySlotOfLowestBlock_4 rfl (lv_at hl 0 rfl) ?_
          refine lv_iconst (v := 3) hx hb d_Ca_dirtySlotOfLowestBlock_5 (by decide) ?_
          refine lv_icmp_ge (tgt := 46) hx hb d_Ca_dirtySlotOfLowestBlock_6 (by decide) (fun _ => ?_) (fun h => absurd h (by decide))
          refine lv_iload_n hx hb d_Ca_dirtySlotOfLowestBlock_46 rfl (lv_at hl 1 rfl) ?_
          exact kx_ret_i I rfl hw () (by simp only [f_Ca_dirtySlotOfLowestBlock, if_neg h1, if_pos h6, if_neg h7, if_neg h8]) [0, 1, 2, 3, 4] (by decide) rfl d_Ca_dirtySlotOfLowestBlock_47
    · refine lv_iload_n hx hb d_Ca_dirtySlotOfLowestBlock_18 rfl (lv_at hl 1 rfl) ?_
      refine lv_iconst (v := (-1)) hx hb d_Ca_dirtySlotOfLowestBlock_19 (by decide) ?_
      refine lv_icmp_eq (tgt := 38) hx hb d_Ca_dirtySlotOfLowestBlock_20 (by decide) (fun h => absurd h (by decide)) (fun _ => ?_)
      refine lv_aload_n hx hb d_Ca_dirtySlotOfLowestBlock_23 rfl (lv_at hl 2 rfl) ?_
      refine kx_get S hw fg_Ca_9 0 rfl rfl d_Ca_dirtySlotOfLowestBlock_24 ?_
      refine lv_iload_n hx hb d_Ca_dirtySlotOfLowestBlock_27 rfl (lv_at hl 0 rfl) ?_
      refine kx_iald S hw 1 0 rfl rfl (j := 1) (by decide) (by unfold vp_in; decide) d_Ca_dirtySlotOfLowestBlock_28 ?_
      refine lv_aload_n hx hb d_Ca_dirtySlotOfLowestBlock_29 rfl (lv_at hl 2 rfl) ?_
      refine kx_get S hw fg_Ca_9 0 rfl rfl d_Ca_dirtySlotOfLowestBlock_30 ?_
      refine lv_iload_n hx hb d_Ca_dirtySlotOfLowestBlock_33 rfl (lv_at hl 1 rfl) ?_
      refine kx_iald S hw 1 0 rfl rfl (j := 0) (by decide) (by unfold vp_in; decide) d_Ca_dirtySlotOfLowestBlock_34 ?_
      refine lv_icmp_ge (tgt := 40) hx hb d_Ca_dirtySlotOfLowestBlock_35 (by decide) (fun h9 => ?_) (fun h9 => ?_)
      · refine lv_iinc (v := 2) (k := 0) (lv' := [(2, .int 2), (1, .int 0), (0, .ref h)]) hx hb d_Ca_dirtySlotOfLowestBlock_40 hl rfl (by decide) (by decide) rfl (fun ls hl => ?_)
        refine lv_goto (tgt := 4) hx hb d_Ca_dirtySlotOfLowestBlock_43 (by decide) ?_
        refine lv_iload_n hx hb d_Ca_dirtySlotOfLowestBlock_4 rfl (lv_at hl 0 rfl) ?_
        refine lv_iconst (v := 3) hx hb d_Ca_dirtySlotOfLowestBlock_5 (by decide) ?_
        refine lv_icmp_ge (tgt := 46) hx hb d_Ca_dirtySlotOfLowestBlock_6 (by decide) (fun h => absurd h (by decide)) (fun _ => ?_)
        refine lv_aload_n hx hb d_Ca_dirtySlotOfLowestBlock_9 rfl (lv_at hl 2 rfl) ?_
        refine kx_get S hw fg_Ca_18 0 rfl rfl d_Ca_dirtySlotOfLowestBlock_10 ?_
        refine lv_iload_n hx hb d_Ca_dirtySlotOfLowestBlock_13 rfl (lv_at hl 0 rfl) ?_
        refine kx_zald S hw 3 1 rfl rfl (j := 2) (by decide) (by unfold vp_in; decide) d_Ca_dirtySlotOfLowestBlock_14 ?_
        refine lv_if_eq (tgt := 40) hx hb d_Ca_dirtySlotOfLowestBlock_15 (by decide) (fun h10 => ?_) (fun h10 => ?_)
        · refine lv_iinc (v := 3) (k := 0) (lv' := [(2, .int 3), (1, .int 0), (0, .ref h)]) hx hb d_Ca_dirtySlotOfLowestBlock_40 hl rfl (by decide) (by decide) rfl (fun ls hl => ?_)
          refine lv_goto (tgt := 4) hx hb d_Ca_dirtySlotOfLowestBlock_43 (by decide) ?_
          refine lv_iload_n hx hb d_Ca_dirtySlotOfLowestBlock_4 rfl (lv_at hl 0 rfl) ?_
          refine lv_iconst (v := 3) hx hb d_Ca_dirtySlotOfLowestBlock_5 (by decide) ?_
          refine lv_icmp_ge (tgt := 46) hx hb d_Ca_dirtySlotOfLowestBlock_6 (by decide) (fun _ => ?_) (fun h => absurd h (by decide))
          refine lv_iload_n hx hb d_Ca_dirtySlotOfLowestBlock_46 rfl (lv_at hl 1 rfl) ?_
          exact kx_ret_i I rfl hw () (by simp only [f_Ca_dirtySlotOfLowestBlock, if_neg h1, if_neg h6, if_pos h9, if_pos h10]) [0, 1, 2, 3, 4] (by decide) rfl d_Ca_dirtySlotOfLowestBlock_47
        · refine lv_iload_n hx hb d_Ca_dirtySlotOfLowestBlock_18 rfl (lv_at hl 1 rfl) ?_
          refine lv_iconst (v := (-1)) hx hb d_Ca_dirtySlotOfLowestBlock_19 (by decide) ?_
          refine lv_icmp_eq (tgt := 38) hx hb d_Ca_dirtySlotOfLowestBlock_20 (by decide) (fun h => absurd h (by decide)) (fun _ => ?_)
          refine lv_aload_n hx hb d_Ca_dirtySlotOfLowestBlock_23 rfl (lv_at hl 2 rfl) ?_
          refine kx_get S hw fg_Ca_9 0 rfl rfl d_Ca_dirtySlotOfLowestBlock_24 ?_
          refine lv_iload_n hx hb d_Ca_dirtySlotOfLowestBlock_27 rfl (lv_at hl 0 rfl) ?_
          refine kx_iald S hw 1 0 rfl rfl (j := 2) (by decide) (by unfold vp_in; decide) d_Ca_dirtySlotOfLowestBlock_28 ?_
          refine lv_aload_n hx hb d_Ca_dirtySlotOfLowestBlock_29 rfl (lv_at hl 2 rfl) ?_
          refine kx_get S hw fg_Ca_9 0 rfl rfl d_Ca_dirtySlotOfLowestBlock_30 ?_
          refine lv_iload_n hx hb d_Ca_dirtySlotOfLowestBlock_33 rfl (lv_at hl 1 rfl) ?_
          refine kx_iald S hw 1 0 rfl rfl (j := 0) (by decide) (by unfold vp_in; decide) d_Ca_dirtySlotOfLowestBlock_34 ?_
          refine lv_icmp_ge (tgt := 40) hx hb d_Ca_dirtySlotOfLowestBlock_35 (by decide) (fun h11 => ?_) (fun h11 => ?_)
          · refine lv_iinc (v := 3) (k := 0) (lv' := [(2, .int 3), (1, .int 0), (0, .ref h)]) hx hb d_Ca_dirtySlotOfLowestBlock_40 hl rfl (by decide) (by decide) rfl (fun ls hl => ?_)
            refine lv_goto (tgt := 4) hx hb d_Ca_dirtySlotOfLowestBlock_43 (by decide) ?_
            refine lv_iload_n hx hb d_Ca_dirtySlotOfLowestBlock_4 rfl (lv_at hl 0 rfl) ?_
            refine lv_iconst (v := 3) hx hb d_Ca_dirtySlotOfLowestBlock_5 (by decide) ?_
            refine lv_icmp_ge (tgt := 46) hx hb d_Ca_dirtySlotOfLowestBlock_6 (by decide) (fun _ => ?_) (fun h => absurd h (by decide))
            refine lv_iload_n hx hb d_Ca_dirtySlotOfLowestBlock_46 rfl (lv_at hl 1 rfl) ?_
            exact kx_ret_i I rfl hw () (by simp only [f_Ca_dirtySlotOfLowestBlock, if_neg h1, if_neg h6, if_pos h9, if_neg h10, if_pos h11]) [0, 1, 2, 3, 4] (by decide) rfl d_Ca_dirtySlotOfLowestBlock_47
          · refine lv_iload_n hx hb d_Ca_dirtySlotOfLowestBlock_38 rfl (lv_at hl 0 rfl) ?_
            refine lv_istore_n (lv' := [(1, .int 2), (2, .int 2), (0, .ref h)]) hx hb d_Ca_dirtySlotOfLowestBlock_39 rfl hl (by decide) rfl (fun ls hl => ?_)
            refine lv_iinc (v := 3) (k := 1) (lv' := [(2, .int 3), (1, .int 2), (0, .ref h)]) hx hb d_Ca_dirtySlotOfLowestBlock_40 hl rfl (by decide) (by decide) rfl (fun ls hl => ?_)
            refine lv_goto (tgt := 4) hx hb d_Ca_dirtySlotOfLowestBlock_43 (by decide) ?_
            refine lv_iload_n hx hb d_Ca_dirtySlotOfLowestBlock_4 rfl (lv_at hl 0 rfl) ?_
            refine lv_iconst (v := 3) hx hb d_Ca_dirtySlotOfLowestBlock_5 (by decide) ?_
            refine lv_icmp_ge (tgt := 46) hx hb d_Ca_dirtySlotOfLowestBlock_6 (by decide) (fun _ => ?_) (fun h => absurd h (by decide))
            refine lv_iload_n hx hb d_Ca_dirtySlotOfLowestBlock_46 rfl (lv_at hl 1 rfl) ?_
            exact kx_ret_i I rfl hw () (by simp only [f_Ca_dirtySlotOfLowestBlock, if_neg h1, if_neg h6, if_pos h9, if_neg h10, if_neg h11]) [0, 1, 2, 3, 4] (by decide) rfl d_Ca_dirtySlotOfLowestBlock_47
      · refine lv_iload_n hx hb d_Ca_dirtySlotOfLowestBlock_38 rfl (lv_at hl 0 rfl) ?_
        refine lv_istore_n (lv' := [(1, .int 1), (2, .int 1), (0, .ref h)]) hx hb d_Ca_dirtySlotOfLowestBlock_39 rfl hl (by decide) rfl (fun ls hl => ?_)
        refine lv_iinc (v := 2) (k := 1) (lv' := [(2, .int 2), (1, .int 1), (0, .ref h)]) hx hb d_Ca_dirtySlotOfLowestBlock_40 hl rfl (by decide) (by decide) rfl (fun ls hl => ?_)
        refine lv_goto (tgt := 4) hx hb d_Ca_dirtySlotOfLowestBlock_43 (by decide) ?_
        refine lv_iload_n hx hb d_Ca_dirtySlotOfLowestBlock_4 rfl (lv_at hl 0 rfl) ?_
        refine lv_iconst (v := 3) hx hb d_Ca_dirtySlotOfLowestBlock_5 (by decide) ?_
        refine lv_icmp_ge (tgt := 46) hx hb d_Ca_dirtySlotOfLowestBlock_6 (by decide) (fun h => absurd h (by decide)) (fun _ => ?_)
        refine lv_aload_n hx hb d_Ca_dirtySlotOfLowestBlock_9 rfl (lv_at hl 2 rfl) ?_
        refine kx_get S hw fg_Ca_18 0 rfl rfl d_Ca_dirtySlotOfLowestBlock_10 ?_
        refine lv_iload_n hx hb d_Ca_dirtySlotOfLowestBlock_13 rfl (lv_at hl 0 rfl) ?_
        refine kx_zald S hw 3 1 rfl rfl (j := 2) (by decide) (by unfold vp_in; decide) d_Ca_dirtySlotOfLowestBlock_14 ?_
        refine lv_if_eq (tgt := 40) hx hb d_Ca_dirtySlotOfLowestBlock_15 (by decide) (fun h12 => ?_) (fun h12 => ?_)
        · refine lv_iinc (v := 3) (k := 0) (lv' := [(2, .int 3), (1, .int 1), (0, .ref h)]) hx hb d_Ca_dirtySlotOfLowestBlock_40 hl rfl (by decide) (by decide) rfl (fun ls hl => ?_)
          refine lv_goto (tgt := 4) hx hb d_Ca_dirtySlotOfLowestBlock_43 (by decide) ?_
          refine lv_iload_n hx hb d_Ca_dirtySlotOfLowestBlock_4 rfl (lv_at hl 0 rfl) ?_
          refine lv_iconst (v := 3) hx hb d_Ca_dirtySlotOfLowestBlock_5 (by decide) ?_
          refine lv_icmp_ge (tgt := 46) hx hb d_Ca_dirtySlotOfLowestBlock_6 (by decide) (fun _ => ?_) (fun h => absurd h (by decide))
          refine lv_iload_n hx hb d_Ca_dirtySlotOfLowestBlock_46 rfl (lv_at hl 1 rfl) ?_
          exact kx_ret_i I rfl hw () (by simp only [f_Ca_dirtySlotOfLowestBlock, if_neg h1, if_neg h6, if_neg h9, if_pos h12]) [0, 1, 2, 3, 4] (by decide) rfl d_Ca_dirtySlotOfLowestBlock_47
        · refine lv_iload_n hx hb d_Ca_dirtySlotOfLowestBlock_18 rfl (lv_at hl 1 rfl) ?_
          refine lv_iconst (v := (-1)) hx hb d_Ca_dirtySlotOfLowestBlock_19 (by decide) ?_
          refine lv_icmp_eq (tgt := 38) hx hb d_Ca_dirtySlotOfLowestBlock_20 (by decide) (fun h => absurd h (by decide)) (fun _ => ?_)
          refine lv_aload_n hx hb d_Ca_dirtySlotOfLowestBlock_23 rfl (lv_at hl 2 rfl) ?_
          refine kx_get S hw fg_Ca_9 0 rfl rfl d_Ca_dirtySlotOfLowestBlock_24 ?_
          refine lv_iload_n hx hb d_Ca_dirtySlotOfLowestBlock_27 rfl (lv_at hl 0 rfl) ?_
          refine kx_iald S hw 1 0 rfl rfl (j := 2) (by decide) (by unfold vp_in; decide) d_Ca_dirtySlotOfLowestBlock_28 ?_
          refine lv_aload_n hx hb d_Ca_dirtySlotOfLowestBlock_29 rfl (lv_at hl 2 rfl) ?_
          refine kx_get S hw fg_Ca_9 0 rfl rfl d_Ca_dirtySlotOfLowestBlock_30 ?_
          refine lv_iload_n hx hb d_Ca_dirtySlotOfLowestBlock_33 rfl (lv_at hl 1 rfl) ?_
          refine kx_iald S hw 1 0 rfl rfl (j := 1) (by decide) (by unfold vp_in; decide) d_Ca_dirtySlotOfLowestBlock_34 ?_
          refine lv_icmp_ge (tgt := 40) hx hb d_Ca_dirtySlotOfLowestBlock_35 (by decide) (fun h13 => ?_) (fun h13 => ?_)
          · refine lv_iinc (v := 3) (k := 0) (lv' := [(2, .int 3), (1, .int 1), (0, .ref h)]) hx hb d_Ca_dirtySlotOfLowestBlock_40 hl rfl (by decide) (by decide) rfl (fun ls hl => ?_)
            refine lv_goto (tgt := 4) hx hb d_Ca_dirtySlotOfLowestBlock_43 (by decide) ?_
            refine lv_iload_n hx hb d_Ca_dirtySlotOfLowestBlock_4 rfl (lv_at hl 0 rfl) ?_
            refine lv_iconst (v := 3) hx hb d_Ca_dirtySlotOfLowestBlock_5 (by decide) ?_
            refine lv_icmp_ge (tgt := 46) hx hb d_Ca_dirtySlotOfLowestBlock_6 (by decide) (fun _ => ?_) (fun h => absurd h (by decide))
            refine lv_iload_n hx hb d_Ca_dirtySlotOfLowestBlock_46 rfl (lv_at hl 1 rfl) ?_
            exact kx_ret_i I rfl hw () (by simp only [f_Ca_dirtySlotOfLowestBlock, if_neg h1, if_neg h6, if_neg h9, if_neg h12, if_pos h13]) [0, 1, 2, 3, 4] (by decide) rfl d_Ca_dirtySlotOfLowestBlock_47
          · refine lv_iload_n hx hb d_Ca_dirtySlotOfLowestBlock_38 rfl (lv_at hl 0 rfl) ?_
            refine lv_istore_n (lv' := [(1, .int 2), (2, .int 2), (0, .ref h)]) hx hb d_Ca_dirtySlotOfLowestBlock_39 rfl hl (by decide) rfl (fun ls hl => ?_)
            refine lv_iinc (v := 3) (k := 1) (lv' := [(2, .int 3), (1, .int 2), (0, .ref h)]) hx hb d_Ca_dirtySlotOfLowestBlock_40 hl rfl (by decide) (by decide) rfl (fun ls hl => ?_)
            refine lv_goto (tgt := 4) hx hb d_Ca_dirtySlotOfLowestBlock_43 (by decide) ?_
            refine lv_iload_n hx hb d_Ca_dirtySlotOfLowestBlock_4 rfl (lv_at hl 0 rfl) ?_
            refine lv_iconst (v := 3) hx hb d_Ca_dirtySlotOfLowestBlock_5 (by decide) ?_
            refine lv_icmp_ge (tgt := 46) hx hb d_Ca_dirtySlotOfLowestBlock_6 (by decide) (fun _ => ?_) (fun h => absurd h (by decide))
            refine lv_iload_n hx hb d_Ca_dirtySlotOfLowestBlock_46 rfl (lv_at hl 1 rfl) ?_
            exact kx_ret_i I rfl hw () (by simp only [f_Ca_dirtySlotOfLowestBlock, if_neg h1, if_neg h6, if_neg h9, if_neg h12, if_neg h13]) [0, 1, 2, 3, 4] (by decide) rfl d_Ca_dirtySlotOfLowestBlock_47
def f_Ca_hold (c : kt_Ca) (s : Int32) (b : Int32) (v : Int32) (z : Int32) : kt_Ca :=
  (upd c.1 s.toNatClampNeg b, upd c.2.1 s.toNatClampNeg v, upd c.2.2.1 s.toNatClampNeg z, c.2.2.2)
set_option maxHeartbeats 4000000 in
set_option maxRecDepth 100000 in
theorem c_Ca_hold (l : Launch) (D : va_G) (cI cZ cO : ClassId) (h : Nat) (a0 : Nat) (a1 : Nat) (a2 : Nat) (a3 : Nat) (c : kt_Ca) (s : Int32) (b : Int32) (v : Int32) (z : Int32) (hs : vp_in s 3) (bz : kx_b z) : kx_Cv (S := kt_Ca) l y_Ca_hold b_Ca_hold 5 0 0 0 D (kx_T cI cZ cO) [.ref h, .int s, .int b, .int v, .int z] [(h, .inr (5, [.ref a0, .ref a1, .ref a2, .ref a3])), (a0, .inl (cI, 3, .inl c.1)), (a1, .inl (cI, 3, .inl c.2.1)), (a2, .inl (cZ, 3, .inl c.2.2.1)), (a3, .inl (cI, 3, .inl c.2.2.2))] (fun zz => zz = f_Ca_hold c s b v z) (fun zz => [(h, .inr (5, [.ref a0, .ref a1, .ref a2, .ref a3])), (a0, .inl (cI, 3, .inl zz.1)), (a1, .inl (cI, 3, .inl zz.2.1)), (a2, .inl (cZ, 3, .inl zz.2.2.1)), (a3, .inl (cI, 3, .inl zz.2.2.2))]) := by
  refine kx_enter_v (by decide) (Nat.le_of_ble_eq_true rfl) ?_
  intro p_ e_ s_ m_ below_ meth_ c_ ls A_ H I hl hw
  have S := I.1
  have hx := S.1
  have hb := S.2.1
  have hl : lv_has ls 5 [(0, .ref h), (1, .int s), (2, .int b), (3, .int v), (4, .int z)] := hl
  refine lv_aload_n hx hb d_Ca_hold_0 rfl (lv_at hl 0 rfl) ?_
  refine kx_get S hw fg_Ca_9 0 rfl rfl d_Ca_hold_1 ?_
  refine lv_iload_n hx hb d_Ca_hold_4 rfl (lv_at hl 1 rfl) ?_
  refine lv_iload_n hx hb d_Ca_hold_5 rfl (lv_at hl 2 rfl) ?_
  refine kx_iast S hw 1 0 rfl rfl (j := s.toNatClampNeg) rfl (hs) d_Ca_hold_6 (fun H locs hw => ?_)
  have hw : kx_w D (kx_T cI cZ cO) A_ s_ [(h, .inr (5, [.ref a0, .ref a1, .ref a2, .ref a3])), (a0, .inl (cI, 3, .inl (upd c.1 s.toNatClampNeg b))), (a1, .inl (cI, 3, .inl c.2.1)), (a2, .inl (cZ, 3, .inl c.2.2.1)), (a3, .inl (cI, 3, .inl c.2.2.2))] H locs := hw
  refine lv_aload_n hx hb d_Ca_hold_7 rfl (lv_at hl 0 rfl) ?_
  refine kx_get S hw fg_Ca_15 0 rfl rfl d_Ca_hold_8 ?_
  refine lv_iload_n hx hb d_Ca_hold_11 rfl (lv_at hl 1 rfl) ?_
  refine lv_iload_n hx hb d_Ca_hold_12 rfl (lv_at hl 3 rfl) ?_
  refine kx_iast S hw 2 0 rfl rfl (j := s.toNatClampNeg) rfl (hs) d_Ca_hold_13 (fun H locs hw => ?_)
  have hw : kx_w D (kx_T cI cZ cO) A_ s_ [(h, .inr (5, [.ref a0, .ref a1, .ref a2, .ref a3])), (a0, .inl (cI, 3, .inl (upd c.1 s.toNatClampNeg b))), (a1, .inl (cI, 3, .inl (upd c.2.1 s.toNatClampNeg v))), (a2, .inl (cZ, 3, .inl c.2.2.1)), (a3, .inl (cI, 3, .inl c.2.2.2))] H locs := hw
  refine lv_aload_n hx hb d_Ca_hold_14 rfl (lv_at hl 0 rfl) ?_
  refine kx_get S hw fg_Ca_18 0 rfl rfl d_Ca_hold_15 ?_
  refine lv_iload_n hx hb d_Ca_hold_18 rfl (lv_at hl 1 rfl) ?_
  refine lv_iload hx hb d_Ca_hold_19 (lv_at hl 4 rfl) ?_
  refine kx_zast S hw 3 1 rfl rfl (j := s.toNatClampNeg) rfl bz.vnar (hs) d_Ca_hold_21 (fun H locs hw => ?_)
  have hw : kx_w D (kx_T cI cZ cO) A_ s_ [(h, .inr (5, [.ref a0, .ref a1, .ref a2, .ref a3])), (a0, .inl (cI, 3, .inl (upd c.1 s.toNatClampNeg b))), (a1, .inl (cI, 3, .inl (upd c.2.1 s.toNatClampNeg v))), (a2, .inl (cZ, 3, .inl (upd c.2.2.1 s.toNatClampNeg z))), (a3, .inl (cI, 3, .inl c.2.2.2))] H locs := hw
  exact kx_ret_v I rfl hw (upd c.1 s.toNatClampNeg b, upd c.2.1 s.toNatClampNeg v, upd c.2.2.1 s.toNatClampNeg z, c.2.2.2) (by simp only [f_Ca_hold]) [0, 1, 2, 3, 4] (by decide) rfl d_Ca_hold_22
def f_Ca_empty (c : kt_Ca) (s : Int32) : kt_Ca :=
  match f_Ca_hold c s (-1) 0 0 with
  | c1 => c1
set_option maxHeartbeats 4000000 in
set_option maxRecDepth 100000 in
theorem c_Ca_empty (l : Launch) (D : va_G) (cI cZ cO : ClassId) (h : Nat) (a0 : Nat) (a1 : Nat) (a2 : Nat) (a3 : Nat) (c : kt_Ca) (s : Int32) (hs : vp_in s 3) : kx_Cv (S := kt_Ca) l y_Ca_empty b_Ca_empty 2 1 0 0 D (kx_T cI cZ cO) [.ref h, .int s] [(h, .inr (5, [.ref a0, .ref a1, .ref a2, .ref a3])), (a0, .inl (cI, 3, .inl c.1)), (a1, .inl (cI, 3, .inl c.2.1)), (a2, .inl (cZ, 3, .inl c.2.2.1)), (a3, .inl (cI, 3, .inl c.2.2.2))] (fun zz => zz = f_Ca_empty c s) (fun zz => [(h, .inr (5, [.ref a0, .ref a1, .ref a2, .ref a3])), (a0, .inl (cI, 3, .inl zz.1)), (a1, .inl (cI, 3, .inl zz.2.1)), (a2, .inl (cZ, 3, .inl zz.2.2.1)), (a3, .inl (cI, 3, .inl zz.2.2.2))]) := by
  refine kx_enter_v (by decide) (Nat.le_of_ble_eq_true rfl) ?_
  intro p_ e_ s_ m_ below_ meth_ c_ ls A_ H I hl hw
  have S := I.1
  have hx := S.1
  have hb := S.2.1
  have hl : lv_has ls 2 [(0, .ref h), (1, .int s)] := hl
  refine lv_aload_n hx hb d_Ca_empty_0 rfl (lv_at hl 0 rfl) ?_
  refine lv_iload_n hx hb d_Ca_empty_1 rfl (lv_at hl 1 rfl) ?_
  refine lv_iconst (v := (-1)) hx hb d_Ca_empty_2 (by decide) ?_
  refine lv_iconst (v := 0) hx hb d_Ca_empty_3 (by decide) ?_
  refine lv_iconst (v := 0) hx hb d_Ca_empty_4 (by decide) ?_
  refine kx_call_v (wc := [(h, .inr (5, [.ref a0, .ref a1, .ref a2, .ref a3])), (a0, .inl (cI, 3, .inl c.1)), (a1, .inl (cI, 3, .inl c.2.1)), (a2, .inl (cZ, 3, .inl c.2.2.1)), (a3, .inl (cI, 3, .inl c.2.2.2))]) (wr := []) (rest := []) hw [0, 1, 2, 3, 4] [] rfl rfl (by decide) (by decide) (kx_runV S hw fc_Ca_35 rfl 0 rfl [0, 1, 2, 3, 4] (by decide) rfl (c_Ca_hold l D cI cZ cO h a0 a1 a2 a3 c s (-1) 0 0 (hs) (Or.inl rfl) H.size) rfl hl.1 rfl (Nat.le_of_ble_eq_true rfl) d_Ca_empty_5 (by decide) (by decide)) (fun u1 H locs hp1 hw => ?_)
  obtain ⟨c1, rfl⟩ : ∃ z, z = u1 := ⟨_, rfl⟩
  have hw : kx_w D (kx_T cI cZ cO) A_ s_ [(h, .inr (5, [.ref a0, .ref a1, .ref a2, .ref a3])), (a0, .inl (cI, 3, .inl c1.1)), (a1, .inl (cI, 3, .inl c1.2.1)), (a2, .inl (cZ, 3, .inl c1.2.2.1)), (a3, .inl (cI, 3, .inl c1.2.2.2))] H locs := hw
  exact kx_ret_v I rfl hw c1 (by simp only [f_Ca_empty, ← hp1]) [0, 1, 2, 3, 4] (by decide) rfl d_Ca_empty_8
end
section
theorem d_RD_init_0 : decode b_RD_init 0 = .ok (.aload_n 0, 1) := by decide +kernel
theorem d_RD_init_1 : decode b_RD_init 1 = .ok (.invokespecial 1, 3) := by decide +kernel
theorem d_RD_init_4 : decode b_RD_init 4 = .ok (.aload_n 0, 1) := by decide +kernel
theorem d_RD_init_5 : decode b_RD_init 5 = .ok (.iconst 4, 1) := by decide +kernel
theorem d_RD_init_6 : decode b_RD_init 6 = .ok (.anewarray 9, 3) := by decide +kernel
theorem d_RD_init_9 : decode b_RD_init 9 = .ok (.putfield 11, 3) := by decide +kernel
theorem d_RD_init_12 : decode b_RD_init 12 = .ok (.aload_n 0, 1) := by decide +kernel
theorem d_RD_init_13 : decode b_RD_init 13 = .ok (.new 15, 3) := by decide +kernel
theorem d_RD_init_16 : decode b_RD_init 16 = .ok (.dup, 1) := by decide +kernel
theorem d_RD_init_17 : decode b_RD_init 17 = .ok (.invokespecial 17, 3) := by decide +kernel
theorem d_RD_init_20 : decode b_RD_init 20 = .ok (.putfield 18, 3) := by decide +kernel
theorem d_RD_init_23 : decode b_RD_init 23 = .ok (.aload_n 0, 1) := by decide +kernel
theorem d_RD_init_24 : decode b_RD_init 24 = .ok (.new 15, 3) := by decide +kernel
theorem d_RD_init_27 : decode b_RD_init 27 = .ok (.dup, 1) := by decide +kernel
theorem d_RD_init_28 : decode b_RD_init 28 = .ok (.invokespecial 17, 3) := by decide +kernel
theorem d_RD_init_31 : decode b_RD_init 31 = .ok (.putfield 22, 3) := by decide +kernel
theorem d_RD_init_34 : decode b_RD_init 34 = .ok (.aload_n 0, 1) := by decide +kernel
theorem d_RD_init_35 : decode b_RD_init 35 = .ok (.new 25, 3) := by decide +kernel
theorem d_RD_init_38 : decode b_RD_init 38 = .ok (.dup, 1) := by decide +kernel
theorem d_RD_init_39 : decode b_RD_init 39 = .ok (.invokespecial 27, 3) := by decide +kernel
theorem d_RD_init_42 : decode b_RD_init 42 = .ok (.putfield 28, 3) := by decide +kernel
theorem d_RD_init_45 : decode b_RD_init 45 = .ok (.aload_n 0, 1) := by decide +kernel
theorem d_RD_init_46 : decode b_RD_init 46 = .ok (.new 25, 3) := by decide +kernel
theorem d_RD_init_49 : decode b_RD_init 49 = .ok (.dup, 1) := by decide +kernel
theorem d_RD_init_50 : decode b_RD_init 50 = .ok (.invokespecial 27, 3) := by decide +kernel
theorem d_RD_init_53 : decode b_RD_init 53 = .ok (.putfield 32, 3) := by decide +kernel
theorem d_RD_init_56 : decode b_RD_init 56 = .ok (.aload_n 0, 1) := by decide +kernel
theorem d_RD_init_57 : decode b_RD_init 57 = .ok (.new 35, 3) := by decide +kernel
theorem d_RD_init_60 : decode b_RD_init 60 = .ok (.dup, 1) := by decide +kernel
theorem d_RD_init_61 : decode b_RD_init 61 = .ok (.invokespecial 37, 3) := by decide +kernel
theorem d_RD_init_64 : decode b_RD_init 64 = .ok (.putfield 38, 3) := by decide +kernel
theorem d_RD_init_67 : decode b_RD_init 67 = .ok (.aload_n 0, 1) := by decide +kernel
theorem d_RD_init_68 : decode b_RD_init 68 = .ok (.new 35, 3) := by decide +kernel
theorem d_RD_init_71 : decode b_RD_init 71 = .ok (.dup, 1) := by decide +kernel
theorem d_RD_init_72 : decode b_RD_init 72 = .ok (.invokespecial 37, 3) := by decide +kernel
theorem d_RD_init_75 : decode b_RD_init 75 = .ok (.putfield 42, 3) := by decide +kernel
theorem d_RD_init_78 : decode b_RD_init 78 = .ok (.aload_n 0, 1) := by decide +kernel
theorem d_RD_init_79 : decode b_RD_init 79 = .ok (.new 45, 3) := by decide +kernel
theorem d_RD_init_82 : decode b_RD_init 82 = .ok (.dup, 1) := by decide +kernel
theorem d_RD_init_83 : decode b_RD_init 83 = .ok (.invokespecial 47, 3) := by decide +kernel
theorem d_RD_init_86 : decode b_RD_init 86 = .ok (.putfield 48, 3) := by decide +kernel
theorem d_RD_init_89 : decode b_RD_init 89 = .ok (.aload_n 0, 1) := by decide +kernel
theorem d_RD_init_90 : decode b_RD_init 90 = .ok (.bipush 16, 2) := by decide +kernel
theorem d_RD_init_92 : decode b_RD_init 92 = .ok (.newarray .int, 2) := by decide +kernel
theorem d_RD_init_94 : decode b_RD_init 94 = .ok (.putfield 52, 3) := by decide +kernel
theorem d_RD_init_97 : decode b_RD_init 97 = .ok (.aload_n 0, 1) := by decide +kernel
theorem d_RD_init_98 : decode b_RD_init 98 = .ok (.sipush 200, 3) := by decide +kernel
theorem d_RD_init_101 : decode b_RD_init 101 = .ok (.newarray .int, 2) := by decide +kernel
theorem d_RD_init_103 : decode b_RD_init 103 = .ok (.putfield 56, 3) := by decide +kernel
theorem d_RD_init_106 : decode b_RD_init 106 = .ok (.aload_n 0, 1) := by decide +kernel
theorem d_RD_init_107 : decode b_RD_init 107 = .ok (.iload_n 1, 1) := by decide +kernel
theorem d_RD_init_108 : decode b_RD_init 108 = .ok (.iconst 2, 1) := by decide +kernel
theorem d_RD_init_109 : decode b_RD_init 109 = .ok (.if_icmp .lt 13, 3) := by decide +kernel
theorem d_RD_init_112 : decode b_RD_init 112 = .ok (.iload_n 1, 1) := by decide +kernel
theorem d_RD_init_113 : decode b_RD_init 113 = .ok (.bipush 20, 2) := by decide +kernel
theorem d_RD_init_115 : decode b_RD_init 115 = .ok (.if_icmp .gt 7, 3) := by decide +kernel
theorem d_RD_init_118 : decode b_RD_init 118 = .ok (.iload_n 1, 1) := by decide +kernel
theorem d_RD_init_119 : decode b_RD_init 119 = .ok (.goto 4, 3) := by decide +kernel
theorem d_RD_init_122 : decode b_RD_init 122 = .ok (.iconst 5, 1) := by decide +kernel
theorem d_RD_init_123 : decode b_RD_init 123 = .ok (.putfield 59, 3) := by decide +kernel
theorem d_RD_init_126 : decode b_RD_init 126 = .ok (.iconst 0, 1) := by decide +kernel
theorem d_RD_init_127 : decode b_RD_init 127 = .ok (.istore_n 2, 1) := by decide +kernel
theorem d_RD_init_128 : decode b_RD_init 128 = .ok (.iload_n 2, 1) := by decide +kernel
theorem d_RD_init_129 : decode b_RD_init 129 = .ok (.iconst 4, 1) := by decide +kernel
theorem d_RD_init_130 : decode b_RD_init 130 = .ok (.if_icmp .ge 22, 3) := by decide +kernel
theorem d_RD_init_133 : decode b_RD_init 133 = .ok (.aload_n 0, 1) := by decide +kernel
theorem d_RD_init_134 : decode b_RD_init 134 = .ok (.getfield 11, 3) := by decide +kernel
theorem d_RD_init_137 : decode b_RD_init 137 = .ok (.iload_n 2, 1) := by decide +kernel
theorem d_RD_init_138 : decode b_RD_init 138 = .ok (.new 9, 3) := by decide +kernel
theorem d_RD_init_141 : decode b_RD_init 141 = .ok (.dup, 1) := by decide +kernel
theorem d_RD_init_142 : decode b_RD_init 142 = .ok (.invokespecial 63, 3) := by decide +kernel
theorem d_RD_init_145 : decode b_RD_init 145 = .ok (.aastore, 1) := by decide +kernel
theorem d_RD_init_146 : decode b_RD_init 146 = .ok (.iinc 2 1, 3) := by decide +kernel
theorem d_RD_init_149 : decode b_RD_init 149 = .ok (.goto (-21), 3) := by decide +kernel
theorem d_RD_init_152 : decode b_RD_init 152 = .ok (.return_, 1) := by decide +kernel
theorem d_RD_read_0 : decode b_RD_read 0 = .ok (.aload_n 0, 1) := by decide +kernel
theorem d_RD_read_1 : decode b_RD_read 1 = .ok (.iload_n 1, 1) := by decide +kernel
theorem d_RD_read_2 : decode b_RD_read 2 = .ok (.invokevirtual 64, 3) := by decide +kernel
theorem d_RD_read_5 : decode b_RD_read 5 = .ok (.ifCond .eq 10, 3) := by decide +kernel
theorem d_RD_read_8 : decode b_RD_read 8 = .ok (.iload_n 2, 1) := by decide +kernel
theorem d_RD_read_9 : decode b_RD_read 9 = .ok (.invokestatic 68, 3) := by decide +kernel
theorem d_RD_read_12 : decode b_RD_read 12 = .ok (.ifCond .ne 5, 3) := by decide +kernel
theorem d_RD_read_15 : decode b_RD_read 15 = .ok (.iconst 0, 1) := by decide +kernel
theorem d_RD_read_16 : decode b_RD_read 16 = .ok (.ireturn, 1) := by decide +kernel
theorem d_RD_read_17 : decode b_RD_read 17 = .ok (.aload_n 0, 1) := by decide +kernel
theorem d_RD_read_18 : decode b_RD_read 18 = .ok (.getfield 11, 3) := by decide +kernel
theorem d_RD_read_21 : decode b_RD_read 21 = .ok (.iload_n 1, 1) := by decide +kernel
theorem d_RD_read_22 : decode b_RD_read 22 = .ok (.aaload, 1) := by decide +kernel
theorem d_RD_read_23 : decode b_RD_read 23 = .ok (.iconst 0, 1) := by decide +kernel
theorem d_RD_read_24 : decode b_RD_read 24 = .ok (.iload_n 2, 1) := by decide +kernel
theorem d_RD_read_25 : decode b_RD_read 25 = .ok (.iconst 0, 1) := by decide +kernel
theorem d_RD_read_26 : decode b_RD_read 26 = .ok (.invokevirtual 71, 3) := by decide +kernel
theorem d_RD_read_29 : decode b_RD_read 29 = .ok (.aload_n 0, 1) := by decide +kernel
theorem d_RD_read_30 : decode b_RD_read 30 = .ok (.getfield 18, 3) := by decide +kernel
theorem d_RD_read_33 : decode b_RD_read 33 = .ok (.iload_n 1, 1) := by decide +kernel
theorem d_RD_read_34 : decode b_RD_read 34 = .ok (.invokevirtual 75, 3) := by decide +kernel
theorem d_RD_read_37 : decode b_RD_read 37 = .ok (.iconst 1, 1) := by decide +kernel
theorem d_RD_read_38 : decode b_RD_read 38 = .ok (.ireturn, 1) := by decide +kernel
theorem d_RD_isFree_0 : decode b_RD_isFree 0 = .ok (.iload_n 1, 1) := by decide +kernel
theorem d_RD_isFree_1 : decode b_RD_isFree 1 = .ok (.invokestatic 109, 3) := by decide +kernel
theorem d_RD_isFree_4 : decode b_RD_isFree 4 = .ok (.ifCond .eq 20, 3) := by decide +kernel
theorem d_RD_isFree_7 : decode b_RD_isFree 7 = .ok (.aload_n 0, 1) := by decide +kernel
theorem d_RD_isFree_8 : decode b_RD_isFree 8 = .ok (.getfield 11, 3) := by decide +kernel
theorem d_RD_isFree_11 : decode b_RD_isFree 11 = .ok (.iload_n 1, 1) := by decide +kernel
theorem d_RD_isFree_12 : decode b_RD_isFree 12 = .ok (.aaload, 1) := by decide +kernel
theorem d_RD_isFree_13 : decode b_RD_isFree 13 = .ok (.getfield 112, 3) := by decide +kernel
theorem d_RD_isFree_16 : decode b_RD_isFree 16 = .ok (.iconst 1, 1) := by decide +kernel
theorem d_RD_isFree_17 : decode b_RD_isFree 17 = .ok (.if_icmp .eq 7, 3) := by decide +kernel
theorem d_RD_isFree_20 : decode b_RD_isFree 20 = .ok (.iconst 1, 1) := by decide +kernel
theorem d_RD_isFree_21 : decode b_RD_isFree 21 = .ok (.goto 4, 3) := by decide +kernel
theorem d_RD_isFree_24 : decode b_RD_isFree 24 = .ok (.iconst 0, 1) := by decide +kernel
theorem d_RD_isFree_25 : decode b_RD_isFree 25 = .ok (.ireturn, 1) := by decide +kernel
theorem d_RD_isUser_0 : decode b_RD_isUser 0 = .ok (.iload_n 0, 1) := by decide +kernel
theorem d_RD_isUser_1 : decode b_RD_isUser 1 = .ok (.ifCond .lt 12, 3) := by decide +kernel
theorem d_RD_isUser_4 : decode b_RD_isUser 4 = .ok (.iload_n 0, 1) := by decide +kernel
theorem d_RD_isUser_5 : decode b_RD_isUser 5 = .ok (.iconst 4, 1) := by decide +kernel
theorem d_RD_isUser_6 : decode b_RD_isUser 6 = .ok (.if_icmp .ge 7, 3) := by decide +kernel
theorem d_RD_isUser_9 : decode b_RD_isUser 9 = .ok (.iconst 1, 1) := by decide +kernel
theorem d_RD_isUser_10 : decode b_RD_isUser 10 = .ok (.goto 4, 3) := by decide +kernel
theorem d_RD_isUser_13 : decode b_RD_isUser 13 = .ok (.iconst 0, 1) := by decide +kernel
theorem d_RD_isUser_14 : decode b_RD_isUser 14 = .ok (.ireturn, 1) := by decide +kernel
theorem d_RD_isBlock_0 : decode b_RD_isBlock 0 = .ok (.iload_n 0, 1) := by decide +kernel
theorem d_RD_isBlock_1 : decode b_RD_isBlock 1 = .ok (.ifCond .lt 13, 3) := by decide +kernel
theorem d_RD_isBlock_4 : decode b_RD_isBlock 4 = .ok (.iload_n 0, 1) := by decide +kernel
theorem d_RD_isBlock_5 : decode b_RD_isBlock 5 = .ok (.bipush 16, 2) := by decide +kernel
theorem d_RD_isBlock_7 : decode b_RD_isBlock 7 = .ok (.if_icmp .ge 7, 3) := by decide +kernel
theorem d_RD_isBlock_10 : decode b_RD_isBlock 10 = .ok (.iconst 1, 1) := by decide +kernel
theorem d_RD_isBlock_11 : decode b_RD_isBlock 11 = .ok (.goto 4, 3) := by decide +kernel
theorem d_RD_isBlock_14 : decode b_RD_isBlock 14 = .ok (.iconst 0, 1) := by decide +kernel
theorem d_RD_isBlock_15 : decode b_RD_isBlock 15 = .ok (.ireturn, 1) := by decide +kernel
theorem d_RD_write_0 : decode b_RD_write 0 = .ok (.aload_n 0, 1) := by decide +kernel
theorem d_RD_write_1 : decode b_RD_write 1 = .ok (.iload_n 1, 1) := by decide +kernel
theorem d_RD_write_2 : decode b_RD_write 2 = .ok (.invokevirtual 64, 3) := by decide +kernel
theorem d_RD_write_5 : decode b_RD_write 5 = .ok (.ifCond .eq 10, 3) := by decide +kernel
theorem d_RD_write_8 : decode b_RD_write 8 = .ok (.iload_n 2, 1) := by decide +kernel
theorem d_RD_write_9 : decode b_RD_write 9 = .ok (.invokestatic 68, 3) := by decide +kernel
theorem d_RD_write_12 : decode b_RD_write 12 = .ok (.ifCond .ne 5, 3) := by decide +kernel
theorem d_RD_write_15 : decode b_RD_write 15 = .ok (.iconst 0, 1) := by decide +kernel
theorem d_RD_write_16 : decode b_RD_write 16 = .ok (.ireturn, 1) := by decide +kernel
theorem d_RD_write_17 : decode b_RD_write 17 = .ok (.aload_n 0, 1) := by decide +kernel
theorem d_RD_write_18 : decode b_RD_write 18 = .ok (.getfield 11, 3) := by decide +kernel
theorem d_RD_write_21 : decode b_RD_write 21 = .ok (.iload_n 1, 1) := by decide +kernel
theorem d_RD_write_22 : decode b_RD_write 22 = .ok (.aaload, 1) := by decide +kernel
theorem d_RD_write_23 : decode b_RD_write 23 = .ok (.iconst 1, 1) := by decide +kernel
theorem d_RD_write_24 : decode b_RD_write 24 = .ok (.iload_n 2, 1) := by decide +kernel
theorem d_RD_write_25 : decode b_RD_write 25 = .ok (.iload_n 3, 1) := by decide +kernel
theorem d_RD_write_26 : decode b_RD_write 26 = .ok (.invokevirtual 71, 3) := by decide +kernel
theorem d_RD_write_29 : decode b_RD_write 29 = .ok (.aload_n 0, 1) := by decide +kernel
theorem d_RD_write_30 : decode b_RD_write 30 = .ok (.getfield 18, 3) := by decide +kernel
theorem d_RD_write_33 : decode b_RD_write 33 = .ok (.iload_n 1, 1) := by decide +kernel
theorem d_RD_write_34 : decode b_RD_write 34 = .ok (.invokevirtual 75, 3) := by decide +kernel
theorem d_RD_write_37 : decode b_RD_write 37 = .ok (.iconst 1, 1) := by decide +kernel
theorem d_RD_write_38 : decode b_RD_write 38 = .ok (.ireturn, 1) := by decide +kernel
theorem d_RD_sync_0 : decode b_RD_sync 0 = .ok (.aload_n 0, 1) := by decide +kernel
theorem d_RD_sync_1 : decode b_RD_sync 1 = .ok (.iload_n 1, 1) := by decide +kernel
theorem d_RD_sync_2 : decode b_RD_sync 2 = .ok (.invokevirtual 64, 3) := by decide +kernel
theorem d_RD_sync_5 : decode b_RD_sync 5 = .ok (.ifCond .ne 5, 3) := by decide +kernel
theorem d_RD_sync_8 : decode b_RD_sync 8 = .ok (.iconst 0, 1) := by decide +kernel
theorem d_RD_sync_9 : decode b_RD_sync 9 = .ok (.ireturn, 1) := by decide +kernel
theorem d_RD_sync_10 : decode b_RD_sync 10 = .ok (.aload_n 0, 1) := by decide +kernel
theorem d_RD_sync_11 : decode b_RD_sync 11 = .ok (.getfield 11, 3) := by decide +kernel
theorem d_RD_sync_14 : decode b_RD_sync 14 = .ok (.iload_n 1, 1) := by decide +kernel
theorem d_RD_sync_15 : decode b_RD_sync 15 = .ok (.aaload, 1) := by decide +kernel
theorem d_RD_sync_16 : decode b_RD_sync 16 = .ok (.iconst 2, 1) := by decide +kernel
theorem d_RD_sync_17 : decode b_RD_sync 17 = .ok (.iconst (-1), 1) := by decide +kernel
theorem d_RD_sync_18 : decode b_RD_sync 18 = .ok (.iconst 0, 1) := by decide +kernel
theorem d_RD_sync_19 : decode b_RD_sync 19 = .ok (.invokevirtual 71, 3) := by decide +kernel
theorem d_RD_sync_22 : decode b_RD_sync 22 = .ok (.aload_n 0, 1) := by decide +kernel
theorem d_RD_sync_23 : decode b_RD_sync 23 = .ok (.getfield 18, 3) := by decide +kernel
theorem d_RD_sync_26 : decode b_RD_sync 26 = .ok (.iload_n 1, 1) := by decide +kernel
theorem d_RD_sync_27 : decode b_RD_sync 27 = .ok (.invokevirtual 75, 3) := by decide +kernel
theorem d_RD_sync_30 : decode b_RD_sync 30 = .ok (.iconst 1, 1) := by decide +kernel
theorem d_RD_sync_31 : decode b_RD_sync 31 = .ok (.ireturn, 1) := by decide +kernel
theorem d_RD_print_0 : decode b_RD_print 0 = .ok (.aload_n 0, 1) := by decide +kernel
theorem d_RD_print_1 : decode b_RD_print 1 = .ok (.iload_n 1, 1) := by decide +kernel
theorem d_RD_print_2 : decode b_RD_print 2 = .ok (.invokevirtual 64, 3) := by decide +kernel
theorem d_RD_print_5 : decode b_RD_print 5 = .ok (.ifCond .eq 15, 3) := by decide +kernel
theorem d_RD_print_8 : decode b_RD_print 8 = .ok (.iload_n 2, 1) := by decide +kernel
theorem d_RD_print_9 : decode b_RD_print 9 = .ok (.bipush 32, 2) := by decide +kernel
theorem d_RD_print_11 : decode b_RD_print 11 = .ok (.if_icmp .lt 9, 3) := by decide +kernel
theorem d_RD_print_14 : decode b_RD_print 14 = .ok (.iload_n 2, 1) := by decide +kernel
theorem d_RD_print_15 : decode b_RD_print 15 = .ok (.bipush 126, 2) := by decide +kernel
theorem d_RD_print_17 : decode b_RD_print 17 = .ok (.if_icmp .le 5, 3) := by decide +kernel
theorem d_RD_print_20 : decode b_RD_print 20 = .ok (.iconst 0, 1) := by decide +kernel
theorem d_RD_print_21 : decode b_RD_print 21 = .ok (.ireturn, 1) := by decide +kernel
theorem d_RD_print_22 : decode b_RD_print 22 = .ok (.aload_n 0, 1) := by decide +kernel
theorem d_RD_print_23 : decode b_RD_print 23 = .ok (.getfield 11, 3) := by decide +kernel
theorem d_RD_print_26 : decode b_RD_print 26 = .ok (.iload_n 1, 1) := by decide +kernel
theorem d_RD_print_27 : decode b_RD_print 27 = .ok (.aaload, 1) := by decide +kernel
theorem d_RD_print_28 : decode b_RD_print 28 = .ok (.iconst 3, 1) := by decide +kernel
theorem d_RD_print_29 : decode b_RD_print 29 = .ok (.iconst (-1), 1) := by decide +kernel
theorem d_RD_print_30 : decode b_RD_print 30 = .ok (.iload_n 2, 1) := by decide +kernel
theorem d_RD_print_31 : decode b_RD_print 31 = .ok (.invokevirtual 71, 3) := by decide +kernel
theorem d_RD_print_34 : decode b_RD_print 34 = .ok (.aload_n 0, 1) := by decide +kernel
theorem d_RD_print_35 : decode b_RD_print 35 = .ok (.getfield 22, 3) := by decide +kernel
theorem d_RD_print_38 : decode b_RD_print 38 = .ok (.iload_n 1, 1) := by decide +kernel
theorem d_RD_print_39 : decode b_RD_print 39 = .ok (.invokevirtual 75, 3) := by decide +kernel
theorem d_RD_print_42 : decode b_RD_print 42 = .ok (.iconst 1, 1) := by decide +kernel
theorem d_RD_print_43 : decode b_RD_print 43 = .ok (.ireturn, 1) := by decide +kernel
theorem d_RD_tick_0 : decode b_RD_tick 0 = .ok (.aload_n 0, 1) := by decide +kernel
theorem d_RD_tick_1 : decode b_RD_tick 1 = .ok (.dup, 1) := by decide +kernel
theorem d_RD_tick_2 : decode b_RD_tick 2 = .ok (.getfield 79, 3) := by decide +kernel
theorem d_RD_tick_5 : decode b_RD_tick 5 = .ok (.iconst 1, 1) := by decide +kernel
theorem d_RD_tick_6 : decode b_RD_tick 6 = .ok (.iadd, 1) := by decide +kernel
theorem d_RD_tick_7 : decode b_RD_tick 7 = .ok (.putfield 79, 3) := by decide +kernel
theorem d_RD_tick_10 : decode b_RD_tick 10 = .ok (.aload_n 0, 1) := by decide +kernel
theorem d_RD_tick_11 : decode b_RD_tick 11 = .ok (.getfield 79, 3) := by decide +kernel
theorem d_RD_tick_14 : decode b_RD_tick 14 = .ok (.aload_n 0, 1) := by decide +kernel
theorem d_RD_tick_15 : decode b_RD_tick 15 = .ok (.getfield 59, 3) := by decide +kernel
theorem d_RD_tick_18 : decode b_RD_tick 18 = .ok (.irem, 1) := by decide +kernel
theorem d_RD_tick_19 : decode b_RD_tick 19 = .ok (.ifCond .ne 7, 3) := by decide +kernel
theorem d_RD_tick_22 : decode b_RD_tick 22 = .ok (.iconst 1, 1) := by decide +kernel
theorem d_RD_tick_23 : decode b_RD_tick 23 = .ok (.goto 4, 3) := by decide +kernel
theorem d_RD_tick_26 : decode b_RD_tick 26 = .ok (.iconst 0, 1) := by decide +kernel
theorem d_RD_tick_27 : decode b_RD_tick 27 = .ok (.istore_n 1, 1) := by decide +kernel
theorem d_RD_tick_28 : decode b_RD_tick 28 = .ok (.aload_n 0, 1) := by decide +kernel
theorem d_RD_tick_29 : decode b_RD_tick 29 = .ok (.getfield 28, 3) := by decide +kernel
theorem d_RD_tick_32 : decode b_RD_tick 32 = .ok (.iload_n 1, 1) := by decide +kernel
theorem d_RD_tick_33 : decode b_RD_tick 33 = .ok (.invokevirtual 82, 3) := by decide +kernel
theorem d_RD_tick_36 : decode b_RD_tick 36 = .ok (.aload_n 0, 1) := by decide +kernel
theorem d_RD_tick_37 : decode b_RD_tick 37 = .ok (.getfield 32, 3) := by decide +kernel
theorem d_RD_tick_40 : decode b_RD_tick 40 = .ok (.iload_n 1, 1) := by decide +kernel
theorem d_RD_tick_41 : decode b_RD_tick 41 = .ok (.invokevirtual 82, 3) := by decide +kernel
theorem d_RD_tick_44 : decode b_RD_tick 44 = .ok (.aload_n 0, 1) := by decide +kernel
theorem d_RD_tick_45 : decode b_RD_tick 45 = .ok (.invokevirtual 86, 3) := by decide +kernel
theorem d_RD_tick_48 : decode b_RD_tick 48 = .ok (.aload_n 0, 1) := by decide +kernel
theorem d_RD_tick_49 : decode b_RD_tick 49 = .ok (.invokevirtual 89, 3) := by decide +kernel
theorem d_RD_tick_52 : decode b_RD_tick 52 = .ok (.aload_n 0, 1) := by decide +kernel
theorem d_RD_tick_53 : decode b_RD_tick 53 = .ok (.invokevirtual 92, 3) := by decide +kernel
theorem d_RD_tick_56 : decode b_RD_tick 56 = .ok (.istore_n 2, 1) := by decide +kernel
theorem d_RD_tick_57 : decode b_RD_tick 57 = .ok (.iload_n 2, 1) := by decide +kernel
theorem d_RD_tick_58 : decode b_RD_tick 58 = .ok (.aload_n 0, 1) := by decide +kernel
theorem d_RD_tick_59 : decode b_RD_tick 59 = .ok (.invokevirtual 96, 3) := by decide +kernel
theorem d_RD_tick_62 : decode b_RD_tick 62 = .ok (.iadd, 1) := by decide +kernel
theorem d_RD_tick_63 : decode b_RD_tick 63 = .ok (.istore_n 2, 1) := by decide +kernel
theorem d_RD_tick_64 : decode b_RD_tick 64 = .ok (.iload_n 2, 1) := by decide +kernel
theorem d_RD_tick_65 : decode b_RD_tick 65 = .ok (.ireturn, 1) := by decide +kernel
theorem d_RD_stepDisk_0 : decode b_RD_stepDisk 0 = .ok (.aload_n 0, 1) := by decide +kernel
theorem d_RD_stepDisk_1 : decode b_RD_stepDisk 1 = .ok (.getfield 28, 3) := by decide +kernel
theorem d_RD_stepDisk_4 : decode b_RD_stepDisk 4 = .ok (.invokevirtual 153, 3) := by decide +kernel
theorem d_RD_stepDisk_7 : decode b_RD_stepDisk 7 = .ok (.istore_n 1, 1) := by decide +kernel
theorem d_RD_stepDisk_8 : decode b_RD_stepDisk 8 = .ok (.iload_n 1, 1) := by decide +kernel
theorem d_RD_stepDisk_9 : decode b_RD_stepDisk 9 = .ok (.iconst 1, 1) := by decide +kernel
theorem d_RD_stepDisk_10 : decode b_RD_stepDisk 10 = .ok (.if_icmp .ne 10, 3) := by decide +kernel
theorem d_RD_stepDisk_13 : decode b_RD_stepDisk 13 = .ok (.aload_n 0, 1) := by decide +kernel
theorem d_RD_stepDisk_14 : decode b_RD_stepDisk 14 = .ok (.invokevirtual 156, 3) := by decide +kernel
theorem d_RD_stepDisk_17 : decode b_RD_stepDisk 17 = .ok (.goto 16, 3) := by decide +kernel
theorem d_RD_stepDisk_20 : decode b_RD_stepDisk 20 = .ok (.iload_n 1, 1) := by decide +kernel
theorem d_RD_stepDisk_21 : decode b_RD_stepDisk 21 = .ok (.iconst 2, 1) := by decide +kernel
theorem d_RD_stepDisk_22 : decode b_RD_stepDisk 22 = .ok (.if_icmp .ne 11, 3) := by decide +kernel
theorem d_RD_stepDisk_25 : decode b_RD_stepDisk 25 = .ok (.aload_n 0, 1) := by decide +kernel
theorem d_RD_stepDisk_26 : decode b_RD_stepDisk 26 = .ok (.getfield 38, 3) := by decide +kernel
theorem d_RD_stepDisk_29 : decode b_RD_stepDisk 29 = .ok (.iconst 1, 1) := by decide +kernel
theorem d_RD_stepDisk_30 : decode b_RD_stepDisk 30 = .ok (.putfield 159, 3) := by decide +kernel
theorem d_RD_stepDisk_33 : decode b_RD_stepDisk 33 = .ok (.return_, 1) := by decide +kernel
theorem d_RD_moveBlock_0 : decode b_RD_moveBlock 0 = .ok (.aload_n 0, 1) := by decide +kernel
theorem d_RD_moveBlock_1 : decode b_RD_moveBlock 1 = .ok (.getfield 38, 3) := by decide +kernel
theorem d_RD_moveBlock_4 : decode b_RD_moveBlock 4 = .ok (.getfield 162, 3) := by decide +kernel
theorem d_RD_moveBlock_7 : decode b_RD_moveBlock 7 = .ok (.iconst 1, 1) := by decide +kernel
theorem d_RD_moveBlock_8 : decode b_RD_moveBlock 8 = .ok (.if_icmp .ne 22, 3) := by decide +kernel
theorem d_RD_moveBlock_11 : decode b_RD_moveBlock 11 = .ok (.aload_n 0, 1) := by decide +kernel
theorem d_RD_moveBlock_12 : decode b_RD_moveBlock 12 = .ok (.aload_n 0, 1) := by decide +kernel
theorem d_RD_moveBlock_13 : decode b_RD_moveBlock 13 = .ok (.getfield 52, 3) := by decide +kernel
theorem d_RD_moveBlock_16 : decode b_RD_moveBlock 16 = .ok (.aload_n 0, 1) := by decide +kernel
theorem d_RD_moveBlock_17 : decode b_RD_moveBlock 17 = .ok (.getfield 38, 3) := by decide +kernel
theorem d_RD_moveBlock_20 : decode b_RD_moveBlock 20 = .ok (.getfield 165, 3) := by decide +kernel
theorem d_RD_moveBlock_23 : decode b_RD_moveBlock 23 = .ok (.iaload, 1) := by decide +kernel
theorem d_RD_moveBlock_24 : decode b_RD_moveBlock 24 = .ok (.putfield 168, 3) := by decide +kernel
theorem d_RD_moveBlock_27 : decode b_RD_moveBlock 27 = .ok (.goto 30, 3) := by decide +kernel
theorem d_RD_moveBlock_30 : decode b_RD_moveBlock 30 = .ok (.aload_n 0, 1) := by decide +kernel
theorem d_RD_moveBlock_31 : decode b_RD_moveBlock 31 = .ok (.getfield 52, 3) := by decide +kernel
theorem d_RD_moveBlock_34 : decode b_RD_moveBlock 34 = .ok (.aload_n 0, 1) := by decide +kernel
theorem d_RD_moveBlock_35 : decode b_RD_moveBlock 35 = .ok (.getfield 38, 3) := by decide +kernel
theorem d_RD_moveBlock_38 : decode b_RD_moveBlock 38 = .ok (.getfield 165, 3) := by decide +kernel
theorem d_RD_moveBlock_41 : decode b_RD_moveBlock 41 = .ok (.aload_n 0, 1) := by decide +kernel
theorem d_RD_moveBlock_42 : decode b_RD_moveBlock 42 = .ok (.getfield 48, 3) := by decide +kernel
theorem d_RD_moveBlock_45 : decode b_RD_moveBlock 45 = .ok (.getfield 124, 3) := by decide +kernel
theorem d_RD_moveBlock_48 : decode b_RD_moveBlock 48 = .ok (.aload_n 0, 1) := by decide +kernel
theorem d_RD_moveBlock_49 : decode b_RD_moveBlock 49 = .ok (.getfield 38, 3) := by decide +kernel
theorem d_RD_moveBlock_52 : decode b_RD_moveBlock 52 = .ok (.getfield 171, 3) := by decide +kernel
theorem d_RD_moveBlock_55 : decode b_RD_moveBlock 55 = .ok (.iaload, 1) := by decide +kernel
theorem d_RD_moveBlock_56 : decode b_RD_moveBlock 56 = .ok (.iastore, 1) := by decide +kernel
theorem d_RD_moveBlock_57 : decode b_RD_moveBlock 57 = .ok (.return_, 1) := by decide +kernel
theorem d_RD_stepConsole_0 : decode b_RD_stepConsole 0 = .ok (.aload_n 0, 1) := by decide +kernel
theorem d_RD_stepConsole_1 : decode b_RD_stepConsole 1 = .ok (.getfield 32, 3) := by decide +kernel
theorem d_RD_stepConsole_4 : decode b_RD_stepConsole 4 = .ok (.invokevirtual 153, 3) := by decide +kernel
theorem d_RD_stepConsole_7 : decode b_RD_stepConsole 7 = .ok (.istore_n 1, 1) := by decide +kernel
theorem d_RD_stepConsole_8 : decode b_RD_stepConsole 8 = .ok (.iload_n 1, 1) := by decide +kernel
theorem d_RD_stepConsole_9 : decode b_RD_stepConsole 9 = .ok (.iconst 1, 1) := by decide +kernel
theorem d_RD_stepConsole_10 : decode b_RD_stepConsole 10 = .ok (.if_icmp .ne 17, 3) := by decide +kernel
theorem d_RD_stepConsole_13 : decode b_RD_stepConsole 13 = .ok (.aload_n 0, 1) := by decide +kernel
theorem d_RD_stepConsole_14 : decode b_RD_stepConsole 14 = .ok (.aload_n 0, 1) := by decide +kernel
theorem d_RD_stepConsole_15 : decode b_RD_stepConsole 15 = .ok (.getfield 42, 3) := by decide +kernel
theorem d_RD_stepConsole_18 : decode b_RD_stepConsole 18 = .ok (.getfield 174, 3) := by decide +kernel
theorem d_RD_stepConsole_21 : decode b_RD_stepConsole 21 = .ok (.invokevirtual 177, 3) := by decide +kernel
theorem d_RD_stepConsole_24 : decode b_RD_stepConsole 24 = .ok (.goto 16, 3) := by decide +kernel
theorem d_RD_stepConsole_27 : decode b_RD_stepConsole 27 = .ok (.iload_n 1, 1) := by decide +kernel
theorem d_RD_stepConsole_28 : decode b_RD_stepConsole 28 = .ok (.iconst 2, 1) := by decide +kernel
theorem d_RD_stepConsole_29 : decode b_RD_stepConsole 29 = .ok (.if_icmp .ne 11, 3) := by decide +kernel
theorem d_RD_stepConsole_32 : decode b_RD_stepConsole 32 = .ok (.aload_n 0, 1) := by decide +kernel
theorem d_RD_stepConsole_33 : decode b_RD_stepConsole 33 = .ok (.getfield 42, 3) := by decide +kernel
theorem d_RD_stepConsole_36 : decode b_RD_stepConsole 36 = .ok (.iconst 1, 1) := by decide +kernel
theorem d_RD_stepConsole_37 : decode b_RD_stepConsole 37 = .ok (.putfield 159, 3) := by decide +kernel
theorem d_RD_stepConsole_40 : decode b_RD_stepConsole 40 = .ok (.return_, 1) := by decide +kernel
theorem d_RD_putOutCharacter_0 : decode b_RD_putOutCharacter 0 = .ok (.aload_n 0, 1) := by decide +kernel
theorem d_RD_putOutCharacter_1 : decode b_RD_putOutCharacter 1 = .ok (.getfield 131, 3) := by decide +kernel
theorem d_RD_putOutCharacter_4 : decode b_RD_putOutCharacter 4 = .ok (.sipush 200, 3) := by decide +kernel
theorem d_RD_putOutCharacter_7 : decode b_RD_putOutCharacter 7 = .ok (.if_icmp .ge 23, 3) := by decide +kernel
theorem d_RD_putOutCharacter_10 : decode b_RD_putOutCharacter 10 = .ok (.aload_n 0, 1) := by decide +kernel
theorem d_RD_putOutCharacter_11 : decode b_RD_putOutCharacter 11 = .ok (.getfield 56, 3) := by decide +kernel
theorem d_RD_putOutCharacter_14 : decode b_RD_putOutCharacter 14 = .ok (.aload_n 0, 1) := by decide +kernel
theorem d_RD_putOutCharacter_15 : decode b_RD_putOutCharacter 15 = .ok (.getfield 131, 3) := by decide +kernel
theorem d_RD_putOutCharacter_18 : decode b_RD_putOutCharacter 18 = .ok (.iload_n 1, 1) := by decide +kernel
theorem d_RD_putOutCharacter_19 : decode b_RD_putOutCharacter 19 = .ok (.iastore, 1) := by decide +kernel
theorem d_RD_putOutCharacter_20 : decode b_RD_putOutCharacter 20 = .ok (.aload_n 0, 1) := by decide +kernel
theorem d_RD_putOutCharacter_21 : decode b_RD_putOutCharacter 21 = .ok (.dup, 1) := by decide +kernel
theorem d_RD_putOutCharacter_22 : decode b_RD_putOutCharacter 22 = .ok (.getfield 131, 3) := by decide +kernel
theorem d_RD_putOutCharacter_25 : decode b_RD_putOutCharacter 25 = .ok (.iconst 1, 1) := by decide +kernel
theorem d_RD_putOutCharacter_26 : decode b_RD_putOutCharacter 26 = .ok (.iadd, 1) := by decide +kernel
theorem d_RD_putOutCharacter_27 : decode b_RD_putOutCharacter 27 = .ok (.putfield 131, 3) := by decide +kernel
theorem d_RD_putOutCharacter_30 : decode b_RD_putOutCharacter 30 = .ok (.return_, 1) := by decide +kernel
theorem d_RD_serveFiles_0 : decode b_RD_serveFiles 0 = .ok (.aload_n 0, 1) := by decide +kernel
theorem d_RD_serveFiles_1 : decode b_RD_serveFiles 1 = .ok (.getfield 38, 3) := by decide +kernel
theorem d_RD_serveFiles_4 : decode b_RD_serveFiles 4 = .ok (.invokevirtual 180, 3) := by decide +kernel
theorem d_RD_serveFiles_7 : decode b_RD_serveFiles 7 = .ok (.ifCond .eq 54, 3) := by decide +kernel
theorem d_RD_serveFiles_10 : decode b_RD_serveFiles 10 = .ok (.aload_n 0, 1) := by decide +kernel
theorem d_RD_serveFiles_11 : decode b_RD_serveFiles 11 = .ok (.getfield 38, 3) := by decide +kernel
theorem d_RD_serveFiles_14 : decode b_RD_serveFiles 14 = .ok (.getfield 159, 3) := by decide +kernel
theorem d_RD_serveFiles_17 : decode b_RD_serveFiles 17 = .ok (.ifCond .ne 40, 3) := by decide +kernel
theorem d_RD_serveFiles_20 : decode b_RD_serveFiles 20 = .ok (.aload_n 0, 1) := by decide +kernel
theorem d_RD_serveFiles_21 : decode b_RD_serveFiles 21 = .ok (.getfield 38, 3) := by decide +kernel
theorem d_RD_serveFiles_24 : decode b_RD_serveFiles 24 = .ok (.getfield 184, 3) := by decide +kernel
theorem d_RD_serveFiles_27 : decode b_RD_serveFiles 27 = .ok (.ifCond .eq 17, 3) := by decide +kernel
theorem d_RD_serveFiles_30 : decode b_RD_serveFiles 30 = .ok (.aload_n 0, 1) := by decide +kernel
theorem d_RD_serveFiles_31 : decode b_RD_serveFiles 31 = .ok (.getfield 38, 3) := by decide +kernel
theorem d_RD_serveFiles_34 : decode b_RD_serveFiles 34 = .ok (.aload_n 0, 1) := by decide +kernel
theorem d_RD_serveFiles_35 : decode b_RD_serveFiles 35 = .ok (.getfield 28, 3) := by decide +kernel
theorem d_RD_serveFiles_38 : decode b_RD_serveFiles 38 = .ok (.invokevirtual 187, 3) := by decide +kernel
theorem d_RD_serveFiles_41 : decode b_RD_serveFiles 41 = .ok (.ifCond .eq 14, 3) := by decide +kernel
theorem d_RD_serveFiles_44 : decode b_RD_serveFiles 44 = .ok (.aload_n 0, 1) := by decide +kernel
theorem d_RD_serveFiles_45 : decode b_RD_serveFiles 45 = .ok (.getfield 38, 3) := by decide +kernel
theorem d_RD_serveFiles_48 : decode b_RD_serveFiles 48 = .ok (.aload_n 0, 1) := by decide +kernel
theorem d_RD_serveFiles_49 : decode b_RD_serveFiles 49 = .ok (.getfield 28, 3) := by decide +kernel
theorem d_RD_serveFiles_52 : decode b_RD_serveFiles 52 = .ok (.invokevirtual 191, 3) := by decide +kernel
theorem d_RD_serveFiles_55 : decode b_RD_serveFiles 55 = .ok (.iconst 0, 1) := by decide +kernel
theorem d_RD_serveFiles_56 : decode b_RD_serveFiles 56 = .ok (.ireturn, 1) := by decide +kernel
theorem d_RD_serveFiles_57 : decode b_RD_serveFiles 57 = .ok (.aload_n 0, 1) := by decide +kernel
theorem d_RD_serveFiles_58 : decode b_RD_serveFiles 58 = .ok (.invokevirtual 195, 3) := by decide +kernel
theorem d_RD_serveFiles_61 : decode b_RD_serveFiles 61 = .ok (.aload_n 0, 1) := by decide +kernel
theorem d_RD_serveFiles_62 : decode b_RD_serveFiles 62 = .ok (.getfield 18, 3) := by decide +kernel
theorem d_RD_serveFiles_65 : decode b_RD_serveFiles 65 = .ok (.invokevirtual 198, 3) := by decide +kernel
theorem d_RD_serveFiles_68 : decode b_RD_serveFiles 68 = .ok (.ifCond .eq 5, 3) := by decide +kernel
theorem d_RD_serveFiles_71 : decode b_RD_serveFiles 71 = .ok (.iconst 0, 1) := by decide +kernel
theorem d_RD_serveFiles_72 : decode b_RD_serveFiles 72 = .ok (.ireturn, 1) := by decide +kernel
theorem d_RD_serveFiles_73 : decode b_RD_serveFiles 73 = .ok (.aload_n 0, 1) := by decide +kernel
theorem d_RD_serveFiles_74 : decode b_RD_serveFiles 74 = .ok (.aload_n 0, 1) := by decide +kernel
theorem d_RD_serveFiles_75 : decode b_RD_serveFiles 75 = .ok (.getfield 11, 3) := by decide +kernel
theorem d_RD_serveFiles_78 : decode b_RD_serveFiles 78 = .ok (.aload_n 0, 1) := by decide +kernel
theorem d_RD_serveFiles_79 : decode b_RD_serveFiles 79 = .ok (.getfield 18, 3) := by decide +kernel
theorem d_RD_serveFiles_82 : decode b_RD_serveFiles 82 = .ok (.invokevirtual 201, 3) := by decide +kernel
theorem d_RD_serveFiles_85 : decode b_RD_serveFiles 85 = .ok (.aaload, 1) := by decide +kernel
theorem d_RD_serveFiles_86 : decode b_RD_serveFiles 86 = .ok (.invokevirtual 204, 3) := by decide +kernel
theorem d_RD_serveFiles_89 : decode b_RD_serveFiles 89 = .ok (.ifCond .ne 5, 3) := by decide +kernel
theorem d_RD_serveFiles_92 : decode b_RD_serveFiles 92 = .ok (.iconst 0, 1) := by decide +kernel
theorem d_RD_serveFiles_93 : decode b_RD_serveFiles 93 = .ok (.ireturn, 1) := by decide +kernel
theorem d_RD_serveFiles_94 : decode b_RD_serveFiles 94 = .ok (.aload_n 0, 1) := by decide +kernel
theorem d_RD_serveFiles_95 : decode b_RD_serveFiles 95 = .ok (.getfield 18, 3) := by decide +kernel
theorem d_RD_serveFiles_98 : decode b_RD_serveFiles 98 = .ok (.invokevirtual 208, 3) := by decide +kernel
theorem d_RD_serveFiles_101 : decode b_RD_serveFiles 101 = .ok (.iconst 1, 1) := by decide +kernel
theorem d_RD_serveFiles_102 : decode b_RD_serveFiles 102 = .ok (.ireturn, 1) := by decide +kernel
theorem d_RD_takeDiskAnswer_0 : decode b_RD_takeDiskAnswer 0 = .ok (.aload_n 0, 1) := by decide +kernel
theorem d_RD_takeDiskAnswer_1 : decode b_RD_takeDiskAnswer 1 = .ok (.getfield 38, 3) := by decide +kernel
theorem d_RD_takeDiskAnswer_4 : decode b_RD_takeDiskAnswer 4 = .ok (.getfield 162, 3) := by decide +kernel
theorem d_RD_takeDiskAnswer_7 : decode b_RD_takeDiskAnswer 7 = .ok (.iconst 1, 1) := by decide +kernel
theorem d_RD_takeDiskAnswer_8 : decode b_RD_takeDiskAnswer 8 = .ok (.if_icmp .ne 32, 3) := by decide +kernel
theorem d_RD_takeDiskAnswer_11 : decode b_RD_takeDiskAnswer 11 = .ok (.aload_n 0, 1) := by decide +kernel
theorem d_RD_takeDiskAnswer_12 : decode b_RD_takeDiskAnswer 12 = .ok (.getfield 48, 3) := by decide +kernel
theorem d_RD_takeDiskAnswer_15 : decode b_RD_takeDiskAnswer 15 = .ok (.aload_n 0, 1) := by decide +kernel
theorem d_RD_takeDiskAnswer_16 : decode b_RD_takeDiskAnswer 16 = .ok (.getfield 38, 3) := by decide +kernel
theorem d_RD_takeDiskAnswer_19 : decode b_RD_takeDiskAnswer 19 = .ok (.getfield 171, 3) := by decide +kernel
theorem d_RD_takeDiskAnswer_22 : decode b_RD_takeDiskAnswer 22 = .ok (.aload_n 0, 1) := by decide +kernel
theorem d_RD_takeDiskAnswer_23 : decode b_RD_takeDiskAnswer 23 = .ok (.getfield 38, 3) := by decide +kernel
theorem d_RD_takeDiskAnswer_26 : decode b_RD_takeDiskAnswer 26 = .ok (.getfield 165, 3) := by decide +kernel
theorem d_RD_takeDiskAnswer_29 : decode b_RD_takeDiskAnswer 29 = .ok (.aload_n 0, 1) := by decide +kernel
theorem d_RD_takeDiskAnswer_30 : decode b_RD_takeDiskAnswer 30 = .ok (.getfield 168, 3) := by decide +kernel
theorem d_RD_takeDiskAnswer_33 : decode b_RD_takeDiskAnswer 33 = .ok (.iconst 0, 1) := by decide +kernel
theorem d_RD_takeDiskAnswer_34 : decode b_RD_takeDiskAnswer 34 = .ok (.invokevirtual 211, 3) := by decide +kernel
theorem d_RD_takeDiskAnswer_37 : decode b_RD_takeDiskAnswer 37 = .ok (.goto 19, 3) := by decide +kernel
theorem d_RD_takeDiskAnswer_40 : decode b_RD_takeDiskAnswer 40 = .ok (.aload_n 0, 1) := by decide +kernel
theorem d_RD_takeDiskAnswer_41 : decode b_RD_takeDiskAnswer 41 = .ok (.getfield 48, 3) := by decide +kernel
theorem d_RD_takeDiskAnswer_44 : decode b_RD_takeDiskAnswer 44 = .ok (.getfield 127, 3) := by decide +kernel
theorem d_RD_takeDiskAnswer_47 : decode b_RD_takeDiskAnswer 47 = .ok (.aload_n 0, 1) := by decide +kernel
theorem d_RD_takeDiskAnswer_48 : decode b_RD_takeDiskAnswer 48 = .ok (.getfield 38, 3) := by decide +kernel
theorem d_RD_takeDiskAnswer_51 : decode b_RD_takeDiskAnswer 51 = .ok (.getfield 171, 3) := by decide +kernel
theorem d_RD_takeDiskAnswer_54 : decode b_RD_takeDiskAnswer 54 = .ok (.iconst 0, 1) := by decide +kernel
theorem d_RD_takeDiskAnswer_55 : decode b_RD_takeDiskAnswer 55 = .ok (.bastore, 1) := by decide +kernel
theorem d_RD_takeDiskAnswer_56 : decode b_RD_takeDiskAnswer 56 = .ok (.aload_n 0, 1) := by decide +kernel
theorem d_RD_takeDiskAnswer_57 : decode b_RD_takeDiskAnswer 57 = .ok (.getfield 38, 3) := by decide +kernel
theorem d_RD_takeDiskAnswer_60 : decode b_RD_takeDiskAnswer 60 = .ok (.invokevirtual 215, 3) := by decide +kernel
theorem d_RD_takeDiskAnswer_63 : decode b_RD_takeDiskAnswer 63 = .ok (.return_, 1) := by decide +kernel
theorem d_RD_goOnWith_0 : decode b_RD_goOnWith 0 = .ok (.aload_n 1, 1) := by decide +kernel
theorem d_RD_goOnWith_1 : decode b_RD_goOnWith 1 = .ok (.getfield 218, 3) := by decide +kernel
theorem d_RD_goOnWith_4 : decode b_RD_goOnWith 4 = .ok (.iconst 2, 1) := by decide +kernel
theorem d_RD_goOnWith_5 : decode b_RD_goOnWith 5 = .ok (.if_icmp .ne 9, 3) := by decide +kernel
theorem d_RD_goOnWith_8 : decode b_RD_goOnWith 8 = .ok (.aload_n 0, 1) := by decide +kernel
theorem d_RD_goOnWith_9 : decode b_RD_goOnWith 9 = .ok (.aload_n 1, 1) := by decide +kernel
theorem d_RD_goOnWith_10 : decode b_RD_goOnWith 10 = .ok (.invokevirtual 219, 3) := by decide +kernel
theorem d_RD_goOnWith_13 : decode b_RD_goOnWith 13 = .ok (.ireturn, 1) := by decide +kernel
theorem d_RD_goOnWith_14 : decode b_RD_goOnWith 14 = .ok (.aload_n 0, 1) := by decide +kernel
theorem d_RD_goOnWith_15 : decode b_RD_goOnWith 15 = .ok (.getfield 48, 3) := by decide +kernel
theorem d_RD_goOnWith_18 : decode b_RD_goOnWith 18 = .ok (.aload_n 1, 1) := by decide +kernel
theorem d_RD_goOnWith_19 : decode b_RD_goOnWith 19 = .ok (.getfield 222, 3) := by decide +kernel
theorem d_RD_goOnWith_22 : decode b_RD_goOnWith 22 = .ok (.invokevirtual 223, 3) := by decide +kernel
theorem d_RD_goOnWith_25 : decode b_RD_goOnWith 25 = .ok (.istore_n 2, 1) := by decide +kernel
theorem d_RD_goOnWith_26 : decode b_RD_goOnWith 26 = .ok (.iload_n 2, 1) := by decide +kernel
theorem d_RD_goOnWith_27 : decode b_RD_goOnWith 27 = .ok (.iconst (-1), 1) := by decide +kernel
theorem d_RD_goOnWith_28 : decode b_RD_goOnWith 28 = .ok (.if_icmp .ne 9, 3) := by decide +kernel
theorem d_RD_goOnWith_31 : decode b_RD_goOnWith 31 = .ok (.aload_n 0, 1) := by decide +kernel
theorem d_RD_goOnWith_32 : decode b_RD_goOnWith 32 = .ok (.aload_n 1, 1) := by decide +kernel
theorem d_RD_goOnWith_33 : decode b_RD_goOnWith 33 = .ok (.invokevirtual 227, 3) := by decide +kernel
theorem d_RD_goOnWith_36 : decode b_RD_goOnWith 36 = .ok (.ireturn, 1) := by decide +kernel
theorem d_RD_goOnWith_37 : decode b_RD_goOnWith 37 = .ok (.aload_n 0, 1) := by decide +kernel
theorem d_RD_goOnWith_38 : decode b_RD_goOnWith 38 = .ok (.getfield 48, 3) := by decide +kernel
theorem d_RD_goOnWith_41 : decode b_RD_goOnWith 41 = .ok (.getfield 230, 3) := by decide +kernel
theorem d_RD_goOnWith_44 : decode b_RD_goOnWith 44 = .ok (.iload_n 2, 1) := by decide +kernel
theorem d_RD_goOnWith_45 : decode b_RD_goOnWith 45 = .ok (.aload_n 0, 1) := by decide +kernel
theorem d_RD_goOnWith_46 : decode b_RD_goOnWith 46 = .ok (.getfield 79, 3) := by decide +kernel
theorem d_RD_goOnWith_49 : decode b_RD_goOnWith 49 = .ok (.iastore, 1) := by decide +kernel
theorem d_RD_goOnWith_50 : decode b_RD_goOnWith 50 = .ok (.aload_n 1, 1) := by decide +kernel
theorem d_RD_goOnWith_51 : decode b_RD_goOnWith 51 = .ok (.getfield 218, 3) := by decide +kernel
theorem d_RD_goOnWith_54 : decode b_RD_goOnWith 54 = .ok (.ifCond .ne 19, 3) := by decide +kernel
theorem d_RD_goOnWith_57 : decode b_RD_goOnWith 57 = .ok (.aload_n 1, 1) := by decide +kernel
theorem d_RD_goOnWith_58 : decode b_RD_goOnWith 58 = .ok (.aload_n 0, 1) := by decide +kernel
theorem d_RD_goOnWith_59 : decode b_RD_goOnWith 59 = .ok (.getfield 48, 3) := by decide +kernel
theorem d_RD_goOnWith_62 : decode b_RD_goOnWith 62 = .ok (.getfield 124, 3) := by decide +kernel
theorem d_RD_goOnWith_65 : decode b_RD_goOnWith 65 = .ok (.iload_n 2, 1) := by decide +kernel
theorem d_RD_goOnWith_66 : decode b_RD_goOnWith 66 = .ok (.iaload, 1) := by decide +kernel
theorem d_RD_goOnWith_67 : decode b_RD_goOnWith 67 = .ok (.invokevirtual 233, 3) := by decide +kernel
theorem d_RD_goOnWith_70 : decode b_RD_goOnWith 70 = .ok (.goto 25, 3) := by decide +kernel
theorem d_RD_goOnWith_73 : decode b_RD_goOnWith 73 = .ok (.aload_n 0, 1) := by decide +kernel
theorem d_RD_goOnWith_74 : decode b_RD_goOnWith 74 = .ok (.getfield 48, 3) := by decide +kernel
theorem d_RD_goOnWith_77 : decode b_RD_goOnWith 77 = .ok (.iload_n 2, 1) := by decide +kernel
theorem d_RD_goOnWith_78 : decode b_RD_goOnWith 78 = .ok (.aload_n 1, 1) := by decide +kernel
theorem d_RD_goOnWith_79 : decode b_RD_goOnWith 79 = .ok (.getfield 222, 3) := by decide +kernel
theorem d_RD_goOnWith_82 : decode b_RD_goOnWith 82 = .ok (.aload_n 1, 1) := by decide +kernel
theorem d_RD_goOnWith_83 : decode b_RD_goOnWith 83 = .ok (.getfield 236, 3) := by decide +kernel
theorem d_RD_goOnWith_86 : decode b_RD_goOnWith 86 = .ok (.iconst 1, 1) := by decide +kernel
theorem d_RD_goOnWith_87 : decode b_RD_goOnWith 87 = .ok (.invokevirtual 211, 3) := by decide +kernel
theorem d_RD_goOnWith_90 : decode b_RD_goOnWith 90 = .ok (.aload_n 1, 1) := by decide +kernel
theorem d_RD_goOnWith_91 : decode b_RD_goOnWith 91 = .ok (.iconst 0, 1) := by decide +kernel
theorem d_RD_goOnWith_92 : decode b_RD_goOnWith 92 = .ok (.invokevirtual 233, 3) := by decide +kernel
theorem d_RD_goOnWith_95 : decode b_RD_goOnWith 95 = .ok (.iconst 1, 1) := by decide +kernel
theorem d_RD_goOnWith_96 : decode b_RD_goOnWith 96 = .ok (.ireturn, 1) := by decide +kernel
theorem d_RD_goOnWithSync_0 : decode b_RD_goOnWithSync 0 = .ok (.aload_n 0, 1) := by decide +kernel
theorem d_RD_goOnWithSync_1 : decode b_RD_goOnWithSync 1 = .ok (.getfield 48, 3) := by decide +kernel
theorem d_RD_goOnWithSync_4 : decode b_RD_goOnWithSync 4 = .ok (.invokevirtual 252, 3) := by decide +kernel
theorem d_RD_goOnWithSync_7 : decode b_RD_goOnWithSync 7 = .ok (.istore_n 2, 1) := by decide +kernel
theorem d_RD_goOnWithSync_8 : decode b_RD_goOnWithSync 8 = .ok (.iload_n 2, 1) := by decide +kernel
theorem d_RD_goOnWithSync_9 : decode b_RD_goOnWithSync 9 = .ok (.iconst (-1), 1) := by decide +kernel
theorem d_RD_goOnWithSync_10 : decode b_RD_goOnWithSync 10 = .ok (.if_icmp .ne 13, 3) := by decide +kernel
theorem d_RD_goOnWithSync_13 : decode b_RD_goOnWithSync 13 = .ok (.aload_n 1, 1) := by decide +kernel
theorem d_RD_goOnWithSync_14 : decode b_RD_goOnWithSync 14 = .ok (.aload_n 1, 1) := by decide +kernel
theorem d_RD_goOnWithSync_15 : decode b_RD_goOnWithSync 15 = .ok (.getfield 255, 3) := by decide +kernel
theorem d_RD_goOnWithSync_18 : decode b_RD_goOnWithSync 18 = .ok (.invokevirtual 233, 3) := by decide +kernel
theorem d_RD_goOnWithSync_21 : decode b_RD_goOnWithSync 21 = .ok (.iconst 1, 1) := by decide +kernel
theorem d_RD_goOnWithSync_22 : decode b_RD_goOnWithSync 22 = .ok (.ireturn, 1) := by decide +kernel
theorem d_RD_goOnWithSync_23 : decode b_RD_goOnWithSync 23 = .ok (.aload_n 1, 1) := by decide +kernel
theorem d_RD_goOnWithSync_24 : decode b_RD_goOnWithSync 24 = .ok (.dup, 1) := by decide +kernel
theorem d_RD_goOnWithSync_25 : decode b_RD_goOnWithSync 25 = .ok (.getfield 255, 3) := by decide +kernel
theorem d_RD_goOnWithSync_28 : decode b_RD_goOnWithSync 28 = .ok (.iconst 1, 1) := by decide +kernel
theorem d_RD_goOnWithSync_29 : decode b_RD_goOnWithSync 29 = .ok (.iadd, 1) := by decide +kernel
theorem d_RD_goOnWithSync_30 : decode b_RD_goOnWithSync 30 = .ok (.putfield 255, 3) := by decide +kernel
theorem d_RD_goOnWithSync_33 : decode b_RD_goOnWithSync 33 = .ok (.aload_n 0, 1) := by decide +kernel
theorem d_RD_goOnWithSync_34 : decode b_RD_goOnWithSync 34 = .ok (.iload_n 2, 1) := by decide +kernel
theorem d_RD_goOnWithSync_35 : decode b_RD_goOnWithSync 35 = .ok (.invokevirtual 242, 3) := by decide +kernel
theorem d_RD_goOnWithSync_38 : decode b_RD_goOnWithSync 38 = .ok (.iconst 0, 1) := by decide +kernel
theorem d_RD_goOnWithSync_39 : decode b_RD_goOnWithSync 39 = .ok (.ireturn, 1) := by decide +kernel
end
section
theorem d_RD_askToWriteOut_0 : decode b_RD_askToWriteOut 0 = .ok (.aload_n 0, 1) := by decide +kernel
theorem d_RD_askToWriteOut_1 : decode b_RD_askToWriteOut 1 = .ok (.getfield 38, 3) := by decide +kernel
theorem d_RD_askToWriteOut_4 : decode b_RD_askToWriteOut 4 = .ok (.iconst 2, 1) := by decide +kernel
theorem d_RD_askToWriteOut_5 : decode b_RD_askToWriteOut 5 = .ok (.invokevirtual 258, 3) := by decide +kernel
theorem d_RD_askToWriteOut_8 : decode b_RD_askToWriteOut 8 = .ok (.aload_n 0, 1) := by decide +kernel
theorem d_RD_askToWriteOut_9 : decode b_RD_askToWriteOut 9 = .ok (.getfield 38, 3) := by decide +kernel
theorem d_RD_askToWriteOut_12 : decode b_RD_askToWriteOut 12 = .ok (.aload_n 0, 1) := by decide +kernel
theorem d_RD_askToWriteOut_13 : decode b_RD_askToWriteOut 13 = .ok (.getfield 48, 3) := by decide +kernel
theorem d_RD_askToWriteOut_16 : decode b_RD_askToWriteOut 16 = .ok (.getfield 121, 3) := by decide +kernel
theorem d_RD_askToWriteOut_19 : decode b_RD_askToWriteOut 19 = .ok (.iload_n 1, 1) := by decide +kernel
theorem d_RD_askToWriteOut_20 : decode b_RD_askToWriteOut 20 = .ok (.iaload, 1) := by decide +kernel
theorem d_RD_askToWriteOut_21 : decode b_RD_askToWriteOut 21 = .ok (.putfield 165, 3) := by decide +kernel
theorem d_RD_askToWriteOut_24 : decode b_RD_askToWriteOut 24 = .ok (.aload_n 0, 1) := by decide +kernel
theorem d_RD_askToWriteOut_25 : decode b_RD_askToWriteOut 25 = .ok (.getfield 38, 3) := by decide +kernel
theorem d_RD_askToWriteOut_28 : decode b_RD_askToWriteOut 28 = .ok (.iload_n 1, 1) := by decide +kernel
theorem d_RD_askToWriteOut_29 : decode b_RD_askToWriteOut 29 = .ok (.putfield 171, 3) := by decide +kernel
theorem d_RD_askToWriteOut_32 : decode b_RD_askToWriteOut 32 = .ok (.aload_n 0, 1) := by decide +kernel
theorem d_RD_askToWriteOut_33 : decode b_RD_askToWriteOut 33 = .ok (.getfield 38, 3) := by decide +kernel
theorem d_RD_askToWriteOut_36 : decode b_RD_askToWriteOut 36 = .ok (.aload_n 0, 1) := by decide +kernel
theorem d_RD_askToWriteOut_37 : decode b_RD_askToWriteOut 37 = .ok (.getfield 28, 3) := by decide +kernel
theorem d_RD_askToWriteOut_40 : decode b_RD_askToWriteOut 40 = .ok (.invokevirtual 191, 3) := by decide +kernel
theorem d_RD_askToWriteOut_43 : decode b_RD_askToWriteOut 43 = .ok (.return_, 1) := by decide +kernel
theorem d_RD_makeRoomFor_0 : decode b_RD_makeRoomFor 0 = .ok (.aload_n 0, 1) := by decide +kernel
theorem d_RD_makeRoomFor_1 : decode b_RD_makeRoomFor 1 = .ok (.getfield 48, 3) := by decide +kernel
theorem d_RD_makeRoomFor_4 : decode b_RD_makeRoomFor 4 = .ok (.invokevirtual 239, 3) := by decide +kernel
theorem d_RD_makeRoomFor_7 : decode b_RD_makeRoomFor 7 = .ok (.istore_n 2, 1) := by decide +kernel
theorem d_RD_makeRoomFor_8 : decode b_RD_makeRoomFor 8 = .ok (.aload_n 0, 1) := by decide +kernel
theorem d_RD_makeRoomFor_9 : decode b_RD_makeRoomFor 9 = .ok (.getfield 48, 3) := by decide +kernel
theorem d_RD_makeRoomFor_12 : decode b_RD_makeRoomFor 12 = .ok (.getfield 127, 3) := by decide +kernel
theorem d_RD_makeRoomFor_15 : decode b_RD_makeRoomFor 15 = .ok (.iload_n 2, 1) := by decide +kernel
theorem d_RD_makeRoomFor_16 : decode b_RD_makeRoomFor 16 = .ok (.baload, 1) := by decide +kernel
theorem d_RD_makeRoomFor_17 : decode b_RD_makeRoomFor 17 = .ok (.ifCond .eq 10, 3) := by decide +kernel
theorem d_RD_makeRoomFor_20 : decode b_RD_makeRoomFor 20 = .ok (.aload_n 0, 1) := by decide +kernel
theorem d_RD_makeRoomFor_21 : decode b_RD_makeRoomFor 21 = .ok (.iload_n 2, 1) := by decide +kernel
theorem d_RD_makeRoomFor_22 : decode b_RD_makeRoomFor 22 = .ok (.invokevirtual 242, 3) := by decide +kernel
theorem d_RD_makeRoomFor_25 : decode b_RD_makeRoomFor 25 = .ok (.iconst 0, 1) := by decide +kernel
theorem d_RD_makeRoomFor_26 : decode b_RD_makeRoomFor 26 = .ok (.ireturn, 1) := by decide +kernel
theorem d_RD_makeRoomFor_27 : decode b_RD_makeRoomFor 27 = .ok (.aload_n 1, 1) := by decide +kernel
theorem d_RD_makeRoomFor_28 : decode b_RD_makeRoomFor 28 = .ok (.getfield 218, 3) := by decide +kernel
theorem d_RD_makeRoomFor_31 : decode b_RD_makeRoomFor 31 = .ok (.ifCond .ne 22, 3) := by decide +kernel
theorem d_RD_makeRoomFor_34 : decode b_RD_makeRoomFor 34 = .ok (.aload_n 0, 1) := by decide +kernel
theorem d_RD_makeRoomFor_35 : decode b_RD_makeRoomFor 35 = .ok (.getfield 48, 3) := by decide +kernel
theorem d_RD_makeRoomFor_38 : decode b_RD_makeRoomFor 38 = .ok (.iload_n 2, 1) := by decide +kernel
theorem d_RD_makeRoomFor_39 : decode b_RD_makeRoomFor 39 = .ok (.invokevirtual 245, 3) := by decide +kernel
theorem d_RD_makeRoomFor_42 : decode b_RD_makeRoomFor 42 = .ok (.aload_n 0, 1) := by decide +kernel
theorem d_RD_makeRoomFor_43 : decode b_RD_makeRoomFor 43 = .ok (.aload_n 1, 1) := by decide +kernel
theorem d_RD_makeRoomFor_44 : decode b_RD_makeRoomFor 44 = .ok (.getfield 222, 3) := by decide +kernel
theorem d_RD_makeRoomFor_47 : decode b_RD_makeRoomFor 47 = .ok (.iload_n 2, 1) := by decide +kernel
theorem d_RD_makeRoomFor_48 : decode b_RD_makeRoomFor 48 = .ok (.invokevirtual 248, 3) := by decide +kernel
theorem d_RD_makeRoomFor_51 : decode b_RD_makeRoomFor 51 = .ok (.iconst 0, 1) := by decide +kernel
theorem d_RD_makeRoomFor_52 : decode b_RD_makeRoomFor 52 = .ok (.ireturn, 1) := by decide +kernel
theorem d_RD_makeRoomFor_53 : decode b_RD_makeRoomFor 53 = .ok (.aload_n 0, 1) := by decide +kernel
theorem d_RD_makeRoomFor_54 : decode b_RD_makeRoomFor 54 = .ok (.getfield 48, 3) := by decide +kernel
theorem d_RD_makeRoomFor_57 : decode b_RD_makeRoomFor 57 = .ok (.iload_n 2, 1) := by decide +kernel
theorem d_RD_makeRoomFor_58 : decode b_RD_makeRoomFor 58 = .ok (.aload_n 1, 1) := by decide +kernel
theorem d_RD_makeRoomFor_59 : decode b_RD_makeRoomFor 59 = .ok (.getfield 222, 3) := by decide +kernel
theorem d_RD_makeRoomFor_62 : decode b_RD_makeRoomFor 62 = .ok (.aload_n 1, 1) := by decide +kernel
theorem d_RD_makeRoomFor_63 : decode b_RD_makeRoomFor 63 = .ok (.getfield 236, 3) := by decide +kernel
theorem d_RD_makeRoomFor_66 : decode b_RD_makeRoomFor 66 = .ok (.iconst 1, 1) := by decide +kernel
theorem d_RD_makeRoomFor_67 : decode b_RD_makeRoomFor 67 = .ok (.invokevirtual 211, 3) := by decide +kernel
theorem d_RD_makeRoomFor_70 : decode b_RD_makeRoomFor 70 = .ok (.aload_n 0, 1) := by decide +kernel
theorem d_RD_makeRoomFor_71 : decode b_RD_makeRoomFor 71 = .ok (.getfield 48, 3) := by decide +kernel
theorem d_RD_makeRoomFor_74 : decode b_RD_makeRoomFor 74 = .ok (.getfield 230, 3) := by decide +kernel
theorem d_RD_makeRoomFor_77 : decode b_RD_makeRoomFor 77 = .ok (.iload_n 2, 1) := by decide +kernel
theorem d_RD_makeRoomFor_78 : decode b_RD_makeRoomFor 78 = .ok (.aload_n 0, 1) := by decide +kernel
theorem d_RD_makeRoomFor_79 : decode b_RD_makeRoomFor 79 = .ok (.getfield 79, 3) := by decide +kernel
theorem d_RD_makeRoomFor_82 : decode b_RD_makeRoomFor 82 = .ok (.iastore, 1) := by decide +kernel
theorem d_RD_makeRoomFor_83 : decode b_RD_makeRoomFor 83 = .ok (.aload_n 1, 1) := by decide +kernel
theorem d_RD_makeRoomFor_84 : decode b_RD_makeRoomFor 84 = .ok (.iconst 0, 1) := by decide +kernel
theorem d_RD_makeRoomFor_85 : decode b_RD_makeRoomFor 85 = .ok (.invokevirtual 233, 3) := by decide +kernel
theorem d_RD_makeRoomFor_88 : decode b_RD_makeRoomFor 88 = .ok (.iconst 1, 1) := by decide +kernel
theorem d_RD_makeRoomFor_89 : decode b_RD_makeRoomFor 89 = .ok (.ireturn, 1) := by decide +kernel
theorem d_RD_askToReadIn_0 : decode b_RD_askToReadIn 0 = .ok (.aload_n 0, 1) := by decide +kernel
theorem d_RD_askToReadIn_1 : decode b_RD_askToReadIn 1 = .ok (.getfield 38, 3) := by decide +kernel
theorem d_RD_askToReadIn_4 : decode b_RD_askToReadIn 4 = .ok (.iconst 1, 1) := by decide +kernel
theorem d_RD_askToReadIn_5 : decode b_RD_askToReadIn 5 = .ok (.invokevirtual 258, 3) := by decide +kernel
theorem d_RD_askToReadIn_8 : decode b_RD_askToReadIn 8 = .ok (.aload_n 0, 1) := by decide +kernel
theorem d_RD_askToReadIn_9 : decode b_RD_askToReadIn 9 = .ok (.getfield 38, 3) := by decide +kernel
theorem d_RD_askToReadIn_12 : decode b_RD_askToReadIn 12 = .ok (.iload_n 1, 1) := by decide +kernel
theorem d_RD_askToReadIn_13 : decode b_RD_askToReadIn 13 = .ok (.putfield 165, 3) := by decide +kernel
theorem d_RD_askToReadIn_16 : decode b_RD_askToReadIn 16 = .ok (.aload_n 0, 1) := by decide +kernel
theorem d_RD_askToReadIn_17 : decode b_RD_askToReadIn 17 = .ok (.getfield 38, 3) := by decide +kernel
theorem d_RD_askToReadIn_20 : decode b_RD_askToReadIn 20 = .ok (.iload_n 2, 1) := by decide +kernel
theorem d_RD_askToReadIn_21 : decode b_RD_askToReadIn 21 = .ok (.putfield 171, 3) := by decide +kernel
theorem d_RD_askToReadIn_24 : decode b_RD_askToReadIn 24 = .ok (.aload_n 0, 1) := by decide +kernel
theorem d_RD_askToReadIn_25 : decode b_RD_askToReadIn 25 = .ok (.getfield 38, 3) := by decide +kernel
theorem d_RD_askToReadIn_28 : decode b_RD_askToReadIn 28 = .ok (.aload_n 0, 1) := by decide +kernel
theorem d_RD_askToReadIn_29 : decode b_RD_askToReadIn 29 = .ok (.getfield 28, 3) := by decide +kernel
theorem d_RD_askToReadIn_32 : decode b_RD_askToReadIn 32 = .ok (.invokevirtual 191, 3) := by decide +kernel
theorem d_RD_askToReadIn_35 : decode b_RD_askToReadIn 35 = .ok (.return_, 1) := by decide +kernel
theorem d_RD_serveTerminal_0 : decode b_RD_serveTerminal 0 = .ok (.iconst 0, 1) := by decide +kernel
theorem d_RD_serveTerminal_1 : decode b_RD_serveTerminal 1 = .ok (.istore_n 1, 1) := by decide +kernel
theorem d_RD_serveTerminal_2 : decode b_RD_serveTerminal 2 = .ok (.aload_n 0, 1) := by decide +kernel
theorem d_RD_serveTerminal_3 : decode b_RD_serveTerminal 3 = .ok (.getfield 42, 3) := by decide +kernel
theorem d_RD_serveTerminal_6 : decode b_RD_serveTerminal 6 = .ok (.invokevirtual 180, 3) := by decide +kernel
theorem d_RD_serveTerminal_9 : decode b_RD_serveTerminal 9 = .ok (.ifCond .eq 103, 3) := by decide +kernel
theorem d_RD_serveTerminal_12 : decode b_RD_serveTerminal 12 = .ok (.aload_n 0, 1) := by decide +kernel
theorem d_RD_serveTerminal_13 : decode b_RD_serveTerminal 13 = .ok (.getfield 42, 3) := by decide +kernel
theorem d_RD_serveTerminal_16 : decode b_RD_serveTerminal 16 = .ok (.getfield 159, 3) := by decide +kernel
theorem d_RD_serveTerminal_19 : decode b_RD_serveTerminal 19 = .ok (.ifCond .eq 22, 3) := by decide +kernel
theorem d_RD_serveTerminal_22 : decode b_RD_serveTerminal 22 = .ok (.aload_n 0, 1) := by decide +kernel
theorem d_RD_serveTerminal_23 : decode b_RD_serveTerminal 23 = .ok (.getfield 11, 3) := by decide +kernel
theorem d_RD_serveTerminal_26 : decode b_RD_serveTerminal 26 = .ok (.aload_n 0, 1) := by decide +kernel
theorem d_RD_serveTerminal_27 : decode b_RD_serveTerminal 27 = .ok (.getfield 22, 3) := by decide +kernel
theorem d_RD_serveTerminal_30 : decode b_RD_serveTerminal 30 = .ok (.invokevirtual 201, 3) := by decide +kernel
theorem d_RD_serveTerminal_33 : decode b_RD_serveTerminal 33 = .ok (.aaload, 1) := by decide +kernel
theorem d_RD_serveTerminal_34 : decode b_RD_serveTerminal 34 = .ok (.iconst 0, 1) := by decide +kernel
theorem d_RD_serveTerminal_35 : decode b_RD_serveTerminal 35 = .ok (.invokevirtual 233, 3) := by decide +kernel
theorem d_RD_serveTerminal_38 : decode b_RD_serveTerminal 38 = .ok (.goto 58, 3) := by decide +kernel
theorem d_RD_serveTerminal_41 : decode b_RD_serveTerminal 41 = .ok (.aload_n 0, 1) := by decide +kernel
theorem d_RD_serveTerminal_42 : decode b_RD_serveTerminal 42 = .ok (.getfield 42, 3) := by decide +kernel
theorem d_RD_serveTerminal_45 : decode b_RD_serveTerminal 45 = .ok (.aload_n 0, 1) := by decide +kernel
theorem d_RD_serveTerminal_46 : decode b_RD_serveTerminal 46 = .ok (.getfield 32, 3) := by decide +kernel
theorem d_RD_serveTerminal_49 : decode b_RD_serveTerminal 49 = .ok (.invokevirtual 187, 3) := by decide +kernel
theorem d_RD_serveTerminal_52 : decode b_RD_serveTerminal 52 = .ok (.ifCond .eq 21, 3) := by decide +kernel
theorem d_RD_serveTerminal_55 : decode b_RD_serveTerminal 55 = .ok (.aload_n 0, 1) := by decide +kernel
theorem d_RD_serveTerminal_56 : decode b_RD_serveTerminal 56 = .ok (.getfield 11, 3) := by decide +kernel
theorem d_RD_serveTerminal_59 : decode b_RD_serveTerminal 59 = .ok (.aload_n 0, 1) := by decide +kernel
theorem d_RD_serveTerminal_60 : decode b_RD_serveTerminal 60 = .ok (.getfield 22, 3) := by decide +kernel
theorem d_RD_serveTerminal_63 : decode b_RD_serveTerminal 63 = .ok (.invokevirtual 201, 3) := by decide +kernel
theorem d_RD_serveTerminal_66 : decode b_RD_serveTerminal 66 = .ok (.aaload, 1) := by decide +kernel
theorem d_RD_serveTerminal_67 : decode b_RD_serveTerminal 67 = .ok (.invokevirtual 261, 3) := by decide +kernel
theorem d_RD_serveTerminal_70 : decode b_RD_serveTerminal 70 = .ok (.goto 26, 3) := by decide +kernel
theorem d_RD_serveTerminal_73 : decode b_RD_serveTerminal 73 = .ok (.aload_n 0, 1) := by decide +kernel
theorem d_RD_serveTerminal_74 : decode b_RD_serveTerminal 74 = .ok (.getfield 42, 3) := by decide +kernel
theorem d_RD_serveTerminal_77 : decode b_RD_serveTerminal 77 = .ok (.getfield 184, 3) := by decide +kernel
theorem d_RD_serveTerminal_80 : decode b_RD_serveTerminal 80 = .ok (.ifCond .ne 14, 3) := by decide +kernel
theorem d_RD_serveTerminal_83 : decode b_RD_serveTerminal 83 = .ok (.aload_n 0, 1) := by decide +kernel
theorem d_RD_serveTerminal_84 : decode b_RD_serveTerminal 84 = .ok (.getfield 42, 3) := by decide +kernel
theorem d_RD_serveTerminal_87 : decode b_RD_serveTerminal 87 = .ok (.aload_n 0, 1) := by decide +kernel
theorem d_RD_serveTerminal_88 : decode b_RD_serveTerminal 88 = .ok (.getfield 32, 3) := by decide +kernel
theorem d_RD_serveTerminal_91 : decode b_RD_serveTerminal 91 = .ok (.invokevirtual 191, 3) := by decide +kernel
theorem d_RD_serveTerminal_94 : decode b_RD_serveTerminal 94 = .ok (.iconst 0, 1) := by decide +kernel
theorem d_RD_serveTerminal_95 : decode b_RD_serveTerminal 95 = .ok (.ireturn, 1) := by decide +kernel
theorem d_RD_serveTerminal_96 : decode b_RD_serveTerminal 96 = .ok (.aload_n 0, 1) := by decide +kernel
theorem d_RD_serveTerminal_97 : decode b_RD_serveTerminal 97 = .ok (.getfield 42, 3) := by decide +kernel
theorem d_RD_serveTerminal_100 : decode b_RD_serveTerminal 100 = .ok (.invokevirtual 215, 3) := by decide +kernel
theorem d_RD_serveTerminal_103 : decode b_RD_serveTerminal 103 = .ok (.aload_n 0, 1) := by decide +kernel
theorem d_RD_serveTerminal_104 : decode b_RD_serveTerminal 104 = .ok (.getfield 22, 3) := by decide +kernel
theorem d_RD_serveTerminal_107 : decode b_RD_serveTerminal 107 = .ok (.invokevirtual 208, 3) := by decide +kernel
theorem d_RD_serveTerminal_110 : decode b_RD_serveTerminal 110 = .ok (.iconst 1, 1) := by decide +kernel
theorem d_RD_serveTerminal_111 : decode b_RD_serveTerminal 111 = .ok (.istore_n 1, 1) := by decide +kernel
theorem d_RD_serveTerminal_112 : decode b_RD_serveTerminal 112 = .ok (.aload_n 0, 1) := by decide +kernel
theorem d_RD_serveTerminal_113 : decode b_RD_serveTerminal 113 = .ok (.getfield 22, 3) := by decide +kernel
theorem d_RD_serveTerminal_116 : decode b_RD_serveTerminal 116 = .ok (.invokevirtual 198, 3) := by decide +kernel
theorem d_RD_serveTerminal_119 : decode b_RD_serveTerminal 119 = .ok (.ifCond .ne 22, 3) := by decide +kernel
theorem d_RD_serveTerminal_122 : decode b_RD_serveTerminal 122 = .ok (.aload_n 0, 1) := by decide +kernel
theorem d_RD_serveTerminal_123 : decode b_RD_serveTerminal 123 = .ok (.aload_n 0, 1) := by decide +kernel
theorem d_RD_serveTerminal_124 : decode b_RD_serveTerminal 124 = .ok (.getfield 11, 3) := by decide +kernel
theorem d_RD_serveTerminal_127 : decode b_RD_serveTerminal 127 = .ok (.aload_n 0, 1) := by decide +kernel
theorem d_RD_serveTerminal_128 : decode b_RD_serveTerminal 128 = .ok (.getfield 22, 3) := by decide +kernel
theorem d_RD_serveTerminal_131 : decode b_RD_serveTerminal 131 = .ok (.invokevirtual 201, 3) := by decide +kernel
theorem d_RD_serveTerminal_134 : decode b_RD_serveTerminal 134 = .ok (.aaload, 1) := by decide +kernel
theorem d_RD_serveTerminal_135 : decode b_RD_serveTerminal 135 = .ok (.getfield 236, 3) := by decide +kernel
theorem d_RD_serveTerminal_138 : decode b_RD_serveTerminal 138 = .ok (.invokevirtual 264, 3) := by decide +kernel
theorem d_RD_serveTerminal_141 : decode b_RD_serveTerminal 141 = .ok (.iload_n 1, 1) := by decide +kernel
theorem d_RD_serveTerminal_142 : decode b_RD_serveTerminal 142 = .ok (.ireturn, 1) := by decide +kernel
theorem d_RD_askToPutOut_0 : decode b_RD_askToPutOut 0 = .ok (.aload_n 0, 1) := by decide +kernel
theorem d_RD_askToPutOut_1 : decode b_RD_askToPutOut 1 = .ok (.getfield 42, 3) := by decide +kernel
theorem d_RD_askToPutOut_4 : decode b_RD_askToPutOut 4 = .ok (.iconst 3, 1) := by decide +kernel
theorem d_RD_askToPutOut_5 : decode b_RD_askToPutOut 5 = .ok (.invokevirtual 258, 3) := by decide +kernel
theorem d_RD_askToPutOut_8 : decode b_RD_askToPutOut 8 = .ok (.aload_n 0, 1) := by decide +kernel
theorem d_RD_askToPutOut_9 : decode b_RD_askToPutOut 9 = .ok (.getfield 42, 3) := by decide +kernel
theorem d_RD_askToPutOut_12 : decode b_RD_askToPutOut 12 = .ok (.iload_n 1, 1) := by decide +kernel
theorem d_RD_askToPutOut_13 : decode b_RD_askToPutOut 13 = .ok (.putfield 174, 3) := by decide +kernel
theorem d_RD_askToPutOut_16 : decode b_RD_askToPutOut 16 = .ok (.aload_n 0, 1) := by decide +kernel
theorem d_RD_askToPutOut_17 : decode b_RD_askToPutOut 17 = .ok (.getfield 42, 3) := by decide +kernel
theorem d_RD_askToPutOut_20 : decode b_RD_askToPutOut 20 = .ok (.aload_n 0, 1) := by decide +kernel
theorem d_RD_askToPutOut_21 : decode b_RD_askToPutOut 21 = .ok (.getfield 32, 3) := by decide +kernel
theorem d_RD_askToPutOut_24 : decode b_RD_askToPutOut 24 = .ok (.invokevirtual 191, 3) := by decide +kernel
theorem d_RD_askToPutOut_27 : decode b_RD_askToPutOut 27 = .ok (.return_, 1) := by decide +kernel
theorem d_RD_fault_0 : decode b_RD_fault 0 = .ok (.iload_n 1, 1) := by decide +kernel
theorem d_RD_fault_1 : decode b_RD_fault 1 = .ok (.invokestatic 99, 3) := by decide +kernel
theorem d_RD_fault_4 : decode b_RD_fault 4 = .ok (.ifCond .eq 12, 3) := by decide +kernel
theorem d_RD_fault_7 : decode b_RD_fault 7 = .ok (.iload_n 2, 1) := by decide +kernel
theorem d_RD_fault_8 : decode b_RD_fault 8 = .ok (.ifCond .lt 8, 3) := by decide +kernel
theorem d_RD_fault_11 : decode b_RD_fault 11 = .ok (.iload_n 2, 1) := by decide +kernel
theorem d_RD_fault_12 : decode b_RD_fault 12 = .ok (.iconst 3, 1) := by decide +kernel
theorem d_RD_fault_13 : decode b_RD_fault 13 = .ok (.if_icmp .le 5, 3) := by decide +kernel
theorem d_RD_fault_16 : decode b_RD_fault 16 = .ok (.iconst 0, 1) := by decide +kernel
theorem d_RD_fault_17 : decode b_RD_fault 17 = .ok (.ireturn, 1) := by decide +kernel
theorem d_RD_fault_18 : decode b_RD_fault 18 = .ok (.aload_n 0, 1) := by decide +kernel
theorem d_RD_fault_19 : decode b_RD_fault 19 = .ok (.iload_n 1, 1) := by decide +kernel
theorem d_RD_fault_20 : decode b_RD_fault 20 = .ok (.invokevirtual 102, 3) := by decide +kernel
theorem d_RD_fault_23 : decode b_RD_fault 23 = .ok (.iload_n 2, 1) := by decide +kernel
theorem d_RD_fault_24 : decode b_RD_fault 24 = .ok (.invokevirtual 106, 3) := by decide +kernel
theorem d_RD_fault_27 : decode b_RD_fault 27 = .ok (.ireturn, 1) := by decide +kernel
theorem d_RD_isDriver_0 : decode b_RD_isDriver 0 = .ok (.iload_n 0, 1) := by decide +kernel
theorem d_RD_isDriver_1 : decode b_RD_isDriver 1 = .ok (.ifCond .eq 8, 3) := by decide +kernel
theorem d_RD_isDriver_4 : decode b_RD_isDriver 4 = .ok (.iload_n 0, 1) := by decide +kernel
theorem d_RD_isDriver_5 : decode b_RD_isDriver 5 = .ok (.iconst 1, 1) := by decide +kernel
theorem d_RD_isDriver_6 : decode b_RD_isDriver 6 = .ok (.if_icmp .ne 7, 3) := by decide +kernel
theorem d_RD_isDriver_9 : decode b_RD_isDriver 9 = .ok (.iconst 1, 1) := by decide +kernel
theorem d_RD_isDriver_10 : decode b_RD_isDriver 10 = .ok (.goto 4, 3) := by decide +kernel
theorem d_RD_isDriver_13 : decode b_RD_isDriver 13 = .ok (.iconst 0, 1) := by decide +kernel
theorem d_RD_isDriver_14 : decode b_RD_isDriver 14 = .ok (.ireturn, 1) := by decide +kernel
theorem d_RD_driverOf_0 : decode b_RD_driverOf 0 = .ok (.iload_n 1, 1) := by decide +kernel
theorem d_RD_driverOf_1 : decode b_RD_driverOf 1 = .ok (.ifCond .ne 10, 3) := by decide +kernel
theorem d_RD_driverOf_4 : decode b_RD_driverOf 4 = .ok (.aload_n 0, 1) := by decide +kernel
theorem d_RD_driverOf_5 : decode b_RD_driverOf 5 = .ok (.getfield 28, 3) := by decide +kernel
theorem d_RD_driverOf_8 : decode b_RD_driverOf 8 = .ok (.goto 7, 3) := by decide +kernel
theorem d_RD_driverOf_11 : decode b_RD_driverOf 11 = .ok (.aload_n 0, 1) := by decide +kernel
theorem d_RD_driverOf_12 : decode b_RD_driverOf 12 = .ok (.getfield 32, 3) := by decide +kernel
theorem d_RD_driverOf_15 : decode b_RD_driverOf 15 = .ok (.areturn, 1) := by decide +kernel
theorem d_RD_state_0 : decode b_RD_state 0 = .ok (.iload_n 1, 1) := by decide +kernel
theorem d_RD_state_1 : decode b_RD_state 1 = .ok (.invokestatic 109, 3) := by decide +kernel
theorem d_RD_state_4 : decode b_RD_state 4 = .ok (.ifCond .eq 15, 3) := by decide +kernel
theorem d_RD_state_7 : decode b_RD_state 7 = .ok (.aload_n 0, 1) := by decide +kernel
theorem d_RD_state_8 : decode b_RD_state 8 = .ok (.getfield 11, 3) := by decide +kernel
theorem d_RD_state_11 : decode b_RD_state 11 = .ok (.iload_n 1, 1) := by decide +kernel
theorem d_RD_state_12 : decode b_RD_state 12 = .ok (.aaload, 1) := by decide +kernel
theorem d_RD_state_13 : decode b_RD_state 13 = .ok (.getfield 112, 3) := by decide +kernel
theorem d_RD_state_16 : decode b_RD_state 16 = .ok (.goto 4, 3) := by decide +kernel
theorem d_RD_state_19 : decode b_RD_state 19 = .ok (.iconst (-1), 1) := by decide +kernel
theorem d_RD_state_20 : decode b_RD_state 20 = .ok (.ireturn, 1) := by decide +kernel
theorem d_RD_result_0 : decode b_RD_result 0 = .ok (.iload_n 1, 1) := by decide +kernel
theorem d_RD_result_1 : decode b_RD_result 1 = .ok (.invokestatic 109, 3) := by decide +kernel
theorem d_RD_result_4 : decode b_RD_result 4 = .ok (.ifCond .eq 15, 3) := by decide +kernel
theorem d_RD_result_7 : decode b_RD_result 7 = .ok (.aload_n 0, 1) := by decide +kernel
theorem d_RD_result_8 : decode b_RD_result 8 = .ok (.getfield 11, 3) := by decide +kernel
theorem d_RD_result_11 : decode b_RD_result 11 = .ok (.iload_n 1, 1) := by decide +kernel
theorem d_RD_result_12 : decode b_RD_result 12 = .ok (.aaload, 1) := by decide +kernel
theorem d_RD_result_13 : decode b_RD_result 13 = .ok (.getfield 115, 3) := by decide +kernel
theorem d_RD_result_16 : decode b_RD_result 16 = .ok (.goto 4, 3) := by decide +kernel
theorem d_RD_result_19 : decode b_RD_result 19 = .ok (.iconst 0, 1) := by decide +kernel
theorem d_RD_result_20 : decode b_RD_result 20 = .ok (.ireturn, 1) := by decide +kernel
theorem d_RD_line_0 : decode b_RD_line 0 = .ok (.iload_n 1, 1) := by decide +kernel
theorem d_RD_line_1 : decode b_RD_line 1 = .ok (.ifCond .ne 11, 3) := by decide +kernel
theorem d_RD_line_4 : decode b_RD_line 4 = .ok (.aload_n 0, 1) := by decide +kernel
theorem d_RD_line_5 : decode b_RD_line 5 = .ok (.getfield 18, 3) := by decide +kernel
theorem d_RD_line_8 : decode b_RD_line 8 = .ok (.getfield 118, 3) := by decide +kernel
theorem d_RD_line_11 : decode b_RD_line 11 = .ok (.ireturn, 1) := by decide +kernel
theorem d_RD_line_12 : decode b_RD_line 12 = .ok (.iload_n 1, 1) := by decide +kernel
theorem d_RD_line_13 : decode b_RD_line 13 = .ok (.iconst 1, 1) := by decide +kernel
theorem d_RD_line_14 : decode b_RD_line 14 = .ok (.if_icmp .ne 13, 3) := by decide +kernel
theorem d_RD_line_17 : decode b_RD_line 17 = .ok (.aload_n 0, 1) := by decide +kernel
theorem d_RD_line_18 : decode b_RD_line 18 = .ok (.getfield 22, 3) := by decide +kernel
theorem d_RD_line_21 : decode b_RD_line 21 = .ok (.getfield 118, 3) := by decide +kernel
theorem d_RD_line_24 : decode b_RD_line 24 = .ok (.goto 4, 3) := by decide +kernel
theorem d_RD_line_27 : decode b_RD_line 27 = .ok (.iconst (-1), 1) := by decide +kernel
theorem d_RD_line_28 : decode b_RD_line 28 = .ok (.ireturn, 1) := by decide +kernel
theorem d_RD_device_0 : decode b_RD_device 0 = .ok (.iload_n 1, 1) := by decide +kernel
theorem d_RD_device_1 : decode b_RD_device 1 = .ok (.invokestatic 68, 3) := by decide +kernel
theorem d_RD_device_4 : decode b_RD_device 4 = .ok (.ifCond .eq 12, 3) := by decide +kernel
theorem d_RD_device_7 : decode b_RD_device 7 = .ok (.aload_n 0, 1) := by decide +kernel
theorem d_RD_device_8 : decode b_RD_device 8 = .ok (.getfield 52, 3) := by decide +kernel
theorem d_RD_device_11 : decode b_RD_device 11 = .ok (.iload_n 1, 1) := by decide +kernel
theorem d_RD_device_12 : decode b_RD_device 12 = .ok (.iaload, 1) := by decide +kernel
theorem d_RD_device_13 : decode b_RD_device 13 = .ok (.goto 4, 3) := by decide +kernel
theorem d_RD_device_16 : decode b_RD_device 16 = .ok (.iconst 0, 1) := by decide +kernel
theorem d_RD_device_17 : decode b_RD_device 17 = .ok (.ireturn, 1) := by decide +kernel
theorem d_RD_slot_0 : decode b_RD_slot 0 = .ok (.iload_n 1, 1) := by decide +kernel
theorem d_RD_slot_1 : decode b_RD_slot 1 = .ok (.ifCond .lt 8, 3) := by decide +kernel
theorem d_RD_slot_4 : decode b_RD_slot 4 = .ok (.iload_n 1, 1) := by decide +kernel
theorem d_RD_slot_5 : decode b_RD_slot 5 = .ok (.iconst 3, 1) := by decide +kernel
theorem d_RD_slot_6 : decode b_RD_slot 6 = .ok (.if_icmp .lt 5, 3) := by decide +kernel
theorem d_RD_slot_9 : decode b_RD_slot 9 = .ok (.iconst (-1), 1) := by decide +kernel
theorem d_RD_slot_10 : decode b_RD_slot 10 = .ok (.ireturn, 1) := by decide +kernel
theorem d_RD_slot_11 : decode b_RD_slot 11 = .ok (.iload_n 2, 1) := by decide +kernel
theorem d_RD_slot_12 : decode b_RD_slot 12 = .ok (.tableswitch 83 0 2 #[28, 38, 65], 28) := by decide +kernel
theorem d_RD_slot_40 : decode b_RD_slot 40 = .ok (.aload_n 0, 1) := by decide +kernel
theorem d_RD_slot_41 : decode b_RD_slot 41 = .ok (.getfield 48, 3) := by decide +kernel
theorem d_RD_slot_44 : decode b_RD_slot 44 = .ok (.getfield 121, 3) := by decide +kernel
theorem d_RD_slot_47 : decode b_RD_slot 47 = .ok (.iload_n 1, 1) := by decide +kernel
theorem d_RD_slot_48 : decode b_RD_slot 48 = .ok (.iaload, 1) := by decide +kernel
theorem d_RD_slot_49 : decode b_RD_slot 49 = .ok (.ireturn, 1) := by decide +kernel
theorem d_RD_slot_50 : decode b_RD_slot 50 = .ok (.aload_n 0, 1) := by decide +kernel
theorem d_RD_slot_51 : decode b_RD_slot 51 = .ok (.getfield 48, 3) := by decide +kernel
theorem d_RD_slot_54 : decode b_RD_slot 54 = .ok (.getfield 121, 3) := by decide +kernel
theorem d_RD_slot_57 : decode b_RD_slot 57 = .ok (.iload_n 1, 1) := by decide +kernel
theorem d_RD_slot_58 : decode b_RD_slot 58 = .ok (.iaload, 1) := by decide +kernel
theorem d_RD_slot_59 : decode b_RD_slot 59 = .ok (.iconst (-1), 1) := by decide +kernel
theorem d_RD_slot_60 : decode b_RD_slot 60 = .ok (.if_icmp .ne 7, 3) := by decide +kernel
theorem d_RD_slot_63 : decode b_RD_slot 63 = .ok (.iconst 0, 1) := by decide +kernel
theorem d_RD_slot_64 : decode b_RD_slot 64 = .ok (.goto 12, 3) := by decide +kernel
theorem d_RD_slot_67 : decode b_RD_slot 67 = .ok (.aload_n 0, 1) := by decide +kernel
theorem d_RD_slot_68 : decode b_RD_slot 68 = .ok (.getfield 48, 3) := by decide +kernel
theorem d_RD_slot_71 : decode b_RD_slot 71 = .ok (.getfield 124, 3) := by decide +kernel
theorem d_RD_slot_74 : decode b_RD_slot 74 = .ok (.iload_n 1, 1) := by decide +kernel
theorem d_RD_slot_75 : decode b_RD_slot 75 = .ok (.iaload, 1) := by decide +kernel
theorem d_RD_slot_76 : decode b_RD_slot 76 = .ok (.ireturn, 1) := by decide +kernel
theorem d_RD_slot_77 : decode b_RD_slot 77 = .ok (.aload_n 0, 1) := by decide +kernel
theorem d_RD_slot_78 : decode b_RD_slot 78 = .ok (.getfield 48, 3) := by decide +kernel
theorem d_RD_slot_81 : decode b_RD_slot 81 = .ok (.getfield 127, 3) := by decide +kernel
theorem d_RD_slot_84 : decode b_RD_slot 84 = .ok (.iload_n 1, 1) := by decide +kernel
theorem d_RD_slot_85 : decode b_RD_slot 85 = .ok (.baload, 1) := by decide +kernel
theorem d_RD_slot_86 : decode b_RD_slot 86 = .ok (.ifCond .eq 7, 3) := by decide +kernel
theorem d_RD_slot_89 : decode b_RD_slot 89 = .ok (.iconst 1, 1) := by decide +kernel
theorem d_RD_slot_90 : decode b_RD_slot 90 = .ok (.goto 4, 3) := by decide +kernel
theorem d_RD_slot_93 : decode b_RD_slot 93 = .ok (.iconst 0, 1) := by decide +kernel
theorem d_RD_slot_94 : decode b_RD_slot 94 = .ok (.ireturn, 1) := by decide +kernel
theorem d_RD_slot_95 : decode b_RD_slot 95 = .ok (.iconst (-1), 1) := by decide +kernel
theorem d_RD_slot_96 : decode b_RD_slot 96 = .ok (.ireturn, 1) := by decide +kernel
theorem d_RD_output_0 : decode b_RD_output 0 = .ok (.iload_n 1, 1) := by decide +kernel
theorem d_RD_output_1 : decode b_RD_output 1 = .ok (.iconst (-1), 1) := by decide +kernel
theorem d_RD_output_2 : decode b_RD_output 2 = .ok (.if_icmp .ne 8, 3) := by decide +kernel
theorem d_RD_output_5 : decode b_RD_output 5 = .ok (.aload_n 0, 1) := by decide +kernel
theorem d_RD_output_6 : decode b_RD_output 6 = .ok (.getfield 131, 3) := by decide +kernel
theorem d_RD_output_9 : decode b_RD_output 9 = .ok (.ireturn, 1) := by decide +kernel
theorem d_RD_output_10 : decode b_RD_output 10 = .ok (.iload_n 1, 1) := by decide +kernel
theorem d_RD_output_11 : decode b_RD_output 11 = .ok (.ifCond .lt 20, 3) := by decide +kernel
theorem d_RD_output_14 : decode b_RD_output 14 = .ok (.iload_n 1, 1) := by decide +kernel
theorem d_RD_output_15 : decode b_RD_output 15 = .ok (.aload_n 0, 1) := by decide +kernel
theorem d_RD_output_16 : decode b_RD_output 16 = .ok (.getfield 131, 3) := by decide +kernel
theorem d_RD_output_19 : decode b_RD_output 19 = .ok (.if_icmp .ge 12, 3) := by decide +kernel
theorem d_RD_output_22 : decode b_RD_output 22 = .ok (.aload_n 0, 1) := by decide +kernel
theorem d_RD_output_23 : decode b_RD_output 23 = .ok (.getfield 56, 3) := by decide +kernel
theorem d_RD_output_26 : decode b_RD_output 26 = .ok (.iload_n 1, 1) := by decide +kernel
theorem d_RD_output_27 : decode b_RD_output 27 = .ok (.iaload, 1) := by decide +kernel
theorem d_RD_output_28 : decode b_RD_output 28 = .ok (.goto 5, 3) := by decide +kernel
theorem d_RD_output_31 : decode b_RD_output 31 = .ok (.bipush (-2), 2) := by decide +kernel
theorem d_RD_output_33 : decode b_RD_output 33 = .ok (.ireturn, 1) := by decide +kernel
theorem d_RD_driver_0 : decode b_RD_driver 0 = .ok (.iload_n 1, 1) := by decide +kernel
theorem d_RD_driver_1 : decode b_RD_driver 1 = .ok (.invokestatic 99, 3) := by decide +kernel
theorem d_RD_driver_4 : decode b_RD_driver 4 = .ok (.ifCond .ne 6, 3) := by decide +kernel
theorem d_RD_driver_7 : decode b_RD_driver 7 = .ok (.bipush (-2), 2) := by decide +kernel
theorem d_RD_driver_9 : decode b_RD_driver 9 = .ok (.ireturn, 1) := by decide +kernel
theorem d_RD_driver_10 : decode b_RD_driver 10 = .ok (.aload_n 0, 1) := by decide +kernel
theorem d_RD_driver_11 : decode b_RD_driver 11 = .ok (.iload_n 1, 1) := by decide +kernel
theorem d_RD_driver_12 : decode b_RD_driver 12 = .ok (.invokevirtual 102, 3) := by decide +kernel
theorem d_RD_driver_15 : decode b_RD_driver 15 = .ok (.astore_n 3, 1) := by decide +kernel
theorem d_RD_driver_16 : decode b_RD_driver 16 = .ok (.iload_n 2, 1) := by decide +kernel
theorem d_RD_driver_17 : decode b_RD_driver 17 = .ok (.tableswitch 68 0 4 #[35, 40, 45, 50, 55], 35) := by decide +kernel
theorem d_RD_driver_52 : decode b_RD_driver 52 = .ok (.aload_n 3, 1) := by decide +kernel
theorem d_RD_driver_53 : decode b_RD_driver 53 = .ok (.getfield 134, 3) := by decide +kernel
theorem d_RD_driver_56 : decode b_RD_driver 56 = .ok (.ireturn, 1) := by decide +kernel
theorem d_RD_driver_57 : decode b_RD_driver 57 = .ok (.aload_n 3, 1) := by decide +kernel
theorem d_RD_driver_58 : decode b_RD_driver 58 = .ok (.getfield 137, 3) := by decide +kernel
theorem d_RD_driver_61 : decode b_RD_driver 61 = .ok (.ireturn, 1) := by decide +kernel
theorem d_RD_driver_62 : decode b_RD_driver 62 = .ok (.aload_n 3, 1) := by decide +kernel
theorem d_RD_driver_63 : decode b_RD_driver 63 = .ok (.getfield 140, 3) := by decide +kernel
theorem d_RD_driver_66 : decode b_RD_driver 66 = .ok (.ireturn, 1) := by decide +kernel
theorem d_RD_driver_67 : decode b_RD_driver 67 = .ok (.aload_n 3, 1) := by decide +kernel
theorem d_RD_driver_68 : decode b_RD_driver 68 = .ok (.getfield 143, 3) := by decide +kernel
theorem d_RD_driver_71 : decode b_RD_driver 71 = .ok (.ireturn, 1) := by decide +kernel
theorem d_RD_driver_72 : decode b_RD_driver 72 = .ok (.aload_n 3, 1) := by decide +kernel
theorem d_RD_driver_73 : decode b_RD_driver 73 = .ok (.getfield 146, 3) := by decide +kernel
theorem d_RD_driver_76 : decode b_RD_driver 76 = .ok (.ifCond .eq 7, 3) := by decide +kernel
theorem d_RD_driver_79 : decode b_RD_driver 79 = .ok (.iconst 1, 1) := by decide +kernel
theorem d_RD_driver_80 : decode b_RD_driver 80 = .ok (.goto 4, 3) := by decide +kernel
theorem d_RD_driver_83 : decode b_RD_driver 83 = .ok (.iconst 0, 1) := by decide +kernel
theorem d_RD_driver_84 : decode b_RD_driver 84 = .ok (.ireturn, 1) := by decide +kernel
theorem d_RD_driver_85 : decode b_RD_driver 85 = .ok (.bipush (-2), 2) := by decide +kernel
theorem d_RD_driver_87 : decode b_RD_driver 87 = .ok (.ireturn, 1) := by decide +kernel
theorem d_RD_request_0 : decode b_RD_request 0 = .ok (.iload_n 1, 1) := by decide +kernel
theorem d_RD_request_1 : decode b_RD_request 1 = .ok (.ifCond .ne 11, 3) := by decide +kernel
theorem d_RD_request_4 : decode b_RD_request 4 = .ok (.aload_n 0, 1) := by decide +kernel
theorem d_RD_request_5 : decode b_RD_request 5 = .ok (.getfield 38, 3) := by decide +kernel
theorem d_RD_request_8 : decode b_RD_request 8 = .ok (.invokevirtual 150, 3) := by decide +kernel
theorem d_RD_request_11 : decode b_RD_request 11 = .ok (.ireturn, 1) := by decide +kernel
theorem d_RD_request_12 : decode b_RD_request 12 = .ok (.iload_n 1, 1) := by decide +kernel
theorem d_RD_request_13 : decode b_RD_request 13 = .ok (.iconst 1, 1) := by decide +kernel
theorem d_RD_request_14 : decode b_RD_request 14 = .ok (.if_icmp .ne 13, 3) := by decide +kernel
theorem d_RD_request_17 : decode b_RD_request 17 = .ok (.aload_n 0, 1) := by decide +kernel
theorem d_RD_request_18 : decode b_RD_request 18 = .ok (.getfield 42, 3) := by decide +kernel
theorem d_RD_request_21 : decode b_RD_request 21 = .ok (.invokevirtual 150, 3) := by decide +kernel
theorem d_RD_request_24 : decode b_RD_request 24 = .ok (.goto 4, 3) := by decide +kernel
theorem d_RD_request_27 : decode b_RD_request 27 = .ok (.iconst (-1), 1) := by decide +kernel
theorem d_RD_request_28 : decode b_RD_request 28 = .ok (.ireturn, 1) := by decide +kernel
theorem d_RD_now_0 : decode b_RD_now 0 = .ok (.aload_n 0, 1) := by decide +kernel
theorem d_RD_now_1 : decode b_RD_now 1 = .ok (.getfield 79, 3) := by decide +kernel
theorem d_RD_now_4 : decode b_RD_now 4 = .ok (.ireturn, 1) := by decide +kernel
end
section
theorem mm_209 : Cond.code ⟨"RebornDrivers", "isUser", "(I)Z"⟩ prog_1_method_17_code 1 (some .boolean) ∈ kx_tbl := List.mem_filter.mpr ⟨List.mem_append_right _ (List.mem_of_getElem? (i := 209) (by decide +kernel)), by decide +kernel⟩
theorem mm_1 : Cond.initialized "RebornDrivers" ∈ kx_tbl := List.mem_filter.mpr ⟨List.mem_append_right _ (List.mem_of_getElem? (i := 1) (by decide +kernel)), by decide +kernel⟩
theorem mm_207 : Cond.methodLink "RebornDrivers" 109 ⟨"RebornDrivers", "isUser", "(I)Z"⟩ ∈ kx_tbl := List.mem_filter.mpr ⟨List.mem_append_right _ (List.mem_of_getElem? (i := 207) (by decide +kernel)), by decide +kernel⟩
theorem mm_208 : Cond.static ⟨"RebornDrivers", "isUser", "(I)Z"⟩ ∈ kx_tbl := List.mem_filter.mpr ⟨List.mem_append_right _ (List.mem_of_getElem? (i := 208) (by decide +kernel)), by decide +kernel⟩
theorem mm_157 : Cond.fieldLink "RebornDrivers" 11 "RebornDrivers" "operations" "[LRebornDrivers$Operation;" ∈ kx_tbl := List.mem_filter.mpr ⟨List.mem_append_right _ (List.mem_of_getElem? (i := 157) (by decide +kernel)), by decide +kernel⟩
theorem mm_140 : Cond.fieldLinkNest "RebornDrivers" 112 "RebornDrivers$Operation" "state" "I" "RebornDrivers" ∈ kx_nl := List.mem_filter.mpr ⟨List.mem_append_right _ (List.mem_of_getElem? (i := 140) (by decide +kernel)), by decide +kernel⟩
theorem mm_206 : Cond.code ⟨"RebornDrivers", "isFree", "(I)Z"⟩ prog_1_method_20_code 2 (some .boolean) ∈ kx_tbl := List.mem_filter.mpr ⟨List.mem_append_right _ (List.mem_of_getElem? (i := 206) (by decide +kernel)), by decide +kernel⟩
theorem mm_203 : Cond.methodLink "RebornDrivers" 64 ⟨"RebornDrivers", "isFree", "(I)Z"⟩ ∈ kx_tbl := List.mem_filter.mpr ⟨List.mem_append_right _ (List.mem_of_getElem? (i := 203) (by decide +kernel)), by decide +kernel⟩
theorem mm_205 : Cond.instanceMethod ⟨"RebornDrivers", "isFree", "(I)Z"⟩ ∈ kx_tbl := List.mem_filter.mpr ⟨List.mem_append_right _ (List.mem_of_getElem? (i := 205) (by decide +kernel)), by decide +kernel⟩
theorem mm_212 : Cond.code ⟨"RebornDrivers", "isBlock", "(I)Z"⟩ prog_1_method_18_code 1 (some .boolean) ∈ kx_tbl := List.mem_filter.mpr ⟨List.mem_append_right _ (List.mem_of_getElem? (i := 212) (by decide +kernel)), by decide +kernel⟩
theorem mm_210 : Cond.methodLink "RebornDrivers" 68 ⟨"RebornDrivers", "isBlock", "(I)Z"⟩ ∈ kx_tbl := List.mem_filter.mpr ⟨List.mem_append_right _ (List.mem_of_getElem? (i := 210) (by decide +kernel)), by decide +kernel⟩
theorem mm_211 : Cond.static ⟨"RebornDrivers", "isBlock", "(I)Z"⟩ ∈ kx_tbl := List.mem_filter.mpr ⟨List.mem_append_right _ (List.mem_of_getElem? (i := 211) (by decide +kernel)), by decide +kernel⟩
theorem mm_216 : Cond.code ⟨"RebornDrivers$Operation", "begin", "(III)V"⟩ prog_5_method_2_code 4 none ∈ kx_tbl := List.mem_filter.mpr ⟨List.mem_append_right _ (List.mem_of_getElem? (i := 216) (by decide +kernel)), by decide +kernel⟩
theorem mm_7 : Cond.initialized "RebornDrivers$Operation" ∈ kx_tbl := List.mem_filter.mpr ⟨List.mem_append_right _ (List.mem_of_getElem? (i := 7) (by decide +kernel)), by decide +kernel⟩
theorem mm_213 : Cond.methodLinkNest "RebornDrivers" 71 ⟨"RebornDrivers$Operation", "begin", "(III)V"⟩ "RebornDrivers" ∈ kx_nl := List.mem_filter.mpr ⟨List.mem_append_right _ (List.mem_of_getElem? (i := 213) (by decide +kernel)), by decide +kernel⟩
theorem mm_215 : Cond.instanceMethod ⟨"RebornDrivers$Operation", "begin", "(III)V"⟩ ∈ kx_tbl := List.mem_filter.mpr ⟨List.mem_append_right _ (List.mem_of_getElem? (i := 215) (by decide +kernel)), by decide +kernel⟩
theorem mm_158 : Cond.fieldLink "RebornDrivers" 18 "RebornDrivers" "fileLine" "LRebornDrivers$Line;" ∈ kx_tbl := List.mem_filter.mpr ⟨List.mem_append_right _ (List.mem_of_getElem? (i := 158) (by decide +kernel)), by decide +kernel⟩
theorem mm_220 : Cond.code ⟨"RebornDrivers$Line", "join", "(I)V"⟩ prog_4_method_4_code 2 none ∈ kx_tbl := List.mem_filter.mpr ⟨List.mem_append_right _ (List.mem_of_getElem? (i := 220) (by decide +kernel)), by decide +kernel⟩
theorem mm_2 : Cond.initialized "RebornDrivers$Line" ∈ kx_tbl := List.mem_filter.mpr ⟨List.mem_append_right _ (List.mem_of_getElem? (i := 2) (by decide +kernel)), by decide +kernel⟩
theorem mm_217 : Cond.methodLinkNest "RebornDrivers" 75 ⟨"RebornDrivers$Line", "join", "(I)V"⟩ "RebornDrivers" ∈ kx_nl := List.mem_filter.mpr ⟨List.mem_append_right _ (List.mem_of_getElem? (i := 217) (by decide +kernel)), by decide +kernel⟩
theorem mm_219 : Cond.instanceMethod ⟨"RebornDrivers$Line", "join", "(I)V"⟩ ∈ kx_tbl := List.mem_filter.mpr ⟨List.mem_append_right _ (List.mem_of_getElem? (i := 219) (by decide +kernel)), by decide +kernel⟩
theorem mm_159 : Cond.fieldLink "RebornDrivers" 22 "RebornDrivers" "terminalLine" "LRebornDrivers$Line;" ∈ kx_tbl := List.mem_filter.mpr ⟨List.mem_append_right _ (List.mem_of_getElem? (i := 159) (by decide +kernel)), by decide +kernel⟩
theorem mm_160 : Cond.fieldLink "RebornDrivers" 28 "RebornDrivers" "disk" "LRebornDrivers$Driver;" ∈ kx_tbl := List.mem_filter.mpr ⟨List.mem_append_right _ (List.mem_of_getElem? (i := 160) (by decide +kernel)), by decide +kernel⟩
theorem mm_161 : Cond.fieldLink "RebornDrivers" 32 "RebornDrivers" "console" "LRebornDrivers$Driver;" ∈ kx_tbl := List.mem_filter.mpr ⟨List.mem_append_right _ (List.mem_of_getElem? (i := 161) (by decide +kernel)), by decide +kernel⟩
theorem mm_380 : Cond.code ⟨"RebornDrivers", "isDriver", "(I)Z"⟩ prog_1_method_19_code 1 (some .boolean) ∈ kx_tbl := List.mem_filter.mpr ⟨List.mem_append_right _ (List.mem_of_getElem? (i := 380) (by decide +kernel)), by decide +kernel⟩
theorem mm_378 : Cond.methodLink "RebornDrivers" 99 ⟨"RebornDrivers", "isDriver", "(I)Z"⟩ ∈ kx_tbl := List.mem_filter.mpr ⟨List.mem_append_right _ (List.mem_of_getElem? (i := 378) (by decide +kernel)), by decide +kernel⟩
theorem mm_379 : Cond.static ⟨"RebornDrivers", "isDriver", "(I)Z"⟩ ∈ kx_tbl := List.mem_filter.mpr ⟨List.mem_append_right _ (List.mem_of_getElem? (i := 379) (by decide +kernel)), by decide +kernel⟩
theorem mm_384 : Cond.code ⟨"RebornDrivers", "driverOf", "(I)LRebornDrivers$Driver;"⟩ prog_1_method_21_code 2 (some (.object "RebornDrivers$Driver")) ∈ kx_tbl := List.mem_filter.mpr ⟨List.mem_append_right _ (List.mem_of_getElem? (i := 384) (by decide +kernel)), by decide +kernel⟩
theorem mm_381 : Cond.methodLink "RebornDrivers" 102 ⟨"RebornDrivers", "driverOf", "(I)LRebornDrivers$Driver;"⟩ ∈ kx_tbl := List.mem_filter.mpr ⟨List.mem_append_right _ (List.mem_of_getElem? (i := 381) (by decide +kernel)), by decide +kernel⟩
theorem mm_383 : Cond.instanceMethod ⟨"RebornDrivers", "driverOf", "(I)LRebornDrivers$Driver;"⟩ ∈ kx_tbl := List.mem_filter.mpr ⟨List.mem_append_right _ (List.mem_of_getElem? (i := 383) (by decide +kernel)), by decide +kernel⟩
theorem mm_388 : Cond.code ⟨"RebornDrivers$Driver", "suffer", "(I)Z"⟩ prog_3_method_2_code 2 (some .boolean) ∈ kx_tbl := List.mem_filter.mpr ⟨List.mem_append_right _ (List.mem_of_getElem? (i := 388) (by decide +kernel)), by decide +kernel⟩
theorem mm_385 : Cond.methodLinkNest "RebornDrivers" 106 ⟨"RebornDrivers$Driver", "suffer", "(I)Z"⟩ "RebornDrivers" ∈ kx_nl := List.mem_filter.mpr ⟨List.mem_append_right _ (List.mem_of_getElem? (i := 385) (by decide +kernel)), by decide +kernel⟩
theorem mm_387 : Cond.instanceMethod ⟨"RebornDrivers$Driver", "suffer", "(I)Z"⟩ ∈ kx_tbl := List.mem_filter.mpr ⟨List.mem_append_right _ (List.mem_of_getElem? (i := 387) (by decide +kernel)), by decide +kernel⟩
theorem mm_43 : Cond.fieldLinkNest "RebornDrivers" 134 "RebornDrivers$Driver" "endpoint" "I" "RebornDrivers" ∈ kx_nl := List.mem_filter.mpr ⟨List.mem_append_right _ (List.mem_of_getElem? (i := 43) (by decide +kernel)), by decide +kernel⟩
theorem mm_46 : Cond.fieldLinkNest "RebornDrivers" 137 "RebornDrivers$Driver" "condition" "I" "RebornDrivers" ∈ kx_nl := List.mem_filter.mpr ⟨List.mem_append_right _ (List.mem_of_getElem? (i := 46) (by decide +kernel)), by decide +kernel⟩
theorem mm_49 : Cond.fieldLinkNest "RebornDrivers" 140 "RebornDrivers$Driver" "stage" "I" "RebornDrivers" ∈ kx_nl := List.mem_filter.mpr ⟨List.mem_append_right _ (List.mem_of_getElem? (i := 49) (by decide +kernel)), by decide +kernel⟩
theorem mm_54 : Cond.fieldLinkNest "RebornDrivers" 143 "RebornDrivers$Driver" "refusals" "I" "RebornDrivers" ∈ kx_nl := List.mem_filter.mpr ⟨List.mem_append_right _ (List.mem_of_getElem? (i := 54) (by decide +kernel)), by decide +kernel⟩
theorem mm_51 : Cond.fieldLinkNest "RebornDrivers" 146 "RebornDrivers$Driver" "hasAnswered" "Z" "RebornDrivers" ∈ kx_nl := List.mem_filter.mpr ⟨List.mem_append_right _ (List.mem_of_getElem? (i := 51) (by decide +kernel)), by decide +kernel⟩
theorem mm_142 : Cond.fieldLinkNest "RebornDrivers" 115 "RebornDrivers$Operation" "result" "I" "RebornDrivers" ∈ kx_nl := List.mem_filter.mpr ⟨List.mem_append_right _ (List.mem_of_getElem? (i := 142) (by decide +kernel)), by decide +kernel⟩
theorem mm_28 : Cond.fieldLinkNest "RebornDrivers" 118 "RebornDrivers$Line" "length" "I" "RebornDrivers" ∈ kx_nl := List.mem_filter.mpr ⟨List.mem_append_right _ (List.mem_of_getElem? (i := 28) (by decide +kernel)), by decide +kernel⟩
theorem mm_165 : Cond.fieldLink "RebornDrivers" 52 "RebornDrivers" "deviceBlocks" "[I" ∈ kx_tbl := List.mem_filter.mpr ⟨List.mem_append_right _ (List.mem_of_getElem? (i := 165) (by decide +kernel)), by decide +kernel⟩
theorem mm_164 : Cond.fieldLink "RebornDrivers" 48 "RebornDrivers" "cache" "LRebornDrivers$Cache;" ∈ kx_tbl := List.mem_filter.mpr ⟨List.mem_append_right _ (List.mem_of_getElem? (i := 164) (by decide +kernel)), by decide +kernel⟩
theorem mm_109 : Cond.fieldLinkNest "RebornDrivers" 121 "RebornDrivers$Cache" "blocks" "[I" "RebornDrivers" ∈ kx_nl := List.mem_filter.mpr ⟨List.mem_append_right _ (List.mem_of_getElem? (i := 109) (by decide +kernel)), by decide +kernel⟩
theorem mm_111 : Cond.fieldLinkNest "RebornDrivers" 124 "RebornDrivers$Cache" "values" "[I" "RebornDrivers" ∈ kx_nl := List.mem_filter.mpr ⟨List.mem_append_right _ (List.mem_of_getElem? (i := 111) (by decide +kernel)), by decide +kernel⟩
theorem mm_113 : Cond.fieldLinkNest "RebornDrivers" 127 "RebornDrivers$Cache" "dirty" "[Z" "RebornDrivers" ∈ kx_nl := List.mem_filter.mpr ⟨List.mem_append_right _ (List.mem_of_getElem? (i := 113) (by decide +kernel)), by decide +kernel⟩
theorem mm_167 : Cond.fieldLink "RebornDrivers" 131 "RebornDrivers" "putOutLength" "I" ∈ kx_tbl := List.mem_filter.mpr ⟨List.mem_append_right _ (List.mem_of_getElem? (i := 167) (by decide +kernel)), by decide +kernel⟩
theorem mm_166 : Cond.fieldLink "RebornDrivers" 56 "RebornDrivers" "putOut" "[I" ∈ kx_tbl := List.mem_filter.mpr ⟨List.mem_append_right _ (List.mem_of_getElem? (i := 166) (by decide +kernel)), by decide +kernel⟩
theorem mm_163 : Cond.fieldLink "RebornDrivers" 42 "RebornDrivers" "terminalRequest" "LRebornDrivers$Request;" ∈ kx_tbl := List.mem_filter.mpr ⟨List.mem_append_right _ (List.mem_of_getElem? (i := 163) (by decide +kernel)), by decide +kernel⟩
theorem mm_424 : Cond.code ⟨"RebornDrivers$Request", "progress", "()I"⟩ prog_6_method_7_code 1 (some .int) ∈ kx_tbl := List.mem_filter.mpr ⟨List.mem_append_right _ (List.mem_of_getElem? (i := 424) (by decide +kernel)), by decide +kernel⟩
theorem mm_421 : Cond.methodLinkNest "RebornDrivers" 150 ⟨"RebornDrivers$Request", "progress", "()I"⟩ "RebornDrivers" ∈ kx_nl := List.mem_filter.mpr ⟨List.mem_append_right _ (List.mem_of_getElem? (i := 421) (by decide +kernel)), by decide +kernel⟩
theorem mm_423 : Cond.instanceMethod ⟨"RebornDrivers$Request", "progress", "()I"⟩ ∈ kx_tbl := List.mem_filter.mpr ⟨List.mem_append_right _ (List.mem_of_getElem? (i := 423) (by decide +kernel)), by decide +kernel⟩
theorem mm_162 : Cond.fieldLink "RebornDrivers" 38 "RebornDrivers" "fileRequest" "LRebornDrivers$Request;" ∈ kx_tbl := List.mem_filter.mpr ⟨List.mem_append_right _ (List.mem_of_getElem? (i := 162) (by decide +kernel)), by decide +kernel⟩
theorem mm_169 : Cond.fieldLink "RebornDrivers" 79 "RebornDrivers" "time" "I" ∈ kx_tbl := List.mem_filter.mpr ⟨List.mem_append_right _ (List.mem_of_getElem? (i := 169) (by decide +kernel)), by decide +kernel⟩
theorem fc_RD_109 : kx_m "RebornDrivers" 109 y_RD_isUser b_RD_isUser 1 (some .boolean) 1 ∧ Cond.static y_RD_isUser ∈ kx_tbl := ⟨⟨mm_209, mm_1, by decide +kernel, Or.inl mm_207⟩, mm_208⟩
theorem fg_RD_11 : kx_f "RebornDrivers" 11 0 1 := ⟨R_RD, F_RD, 14, rfl, by decide, in_RD, Or.inl mm_157⟩
theorem fg_RD_112 : kx_f "RebornDrivers" 112 1 4 := ⟨R_Op, F_Op, 6, rfl, by decide, in_Op, Or.inr ⟨_, mm_140⟩⟩
theorem sel_RD_isFree : Cond.selects "RebornDrivers" y_RD_isFree y_RD_isFree ∈ kx_tbl := List.mem_filter.mpr ⟨List.mem_append_left _ (by decide +kernel), by decide +kernel⟩
theorem fc_RD_64 : kx_m "RebornDrivers" 64 y_RD_isFree b_RD_isFree 2 (some .boolean) 1 ∧ Cond.instanceMethod y_RD_isFree ∈ kx_tbl ∧ Cond.selects "RebornDrivers" y_RD_isFree y_RD_isFree ∈ kx_tbl := ⟨⟨mm_206, mm_1, by decide +kernel, Or.inl mm_203⟩, mm_205, sel_RD_isFree⟩
theorem fc_RD_68 : kx_m "RebornDrivers" 68 y_RD_isBlock b_RD_isBlock 1 (some .boolean) 1 ∧ Cond.static y_RD_isBlock ∈ kx_tbl := ⟨⟨mm_212, mm_1, by decide +kernel, Or.inl mm_210⟩, mm_211⟩
theorem sel_Op_begin : Cond.selects "RebornDrivers$Operation" y_Op_begin y_Op_begin ∈ kx_tbl := List.mem_filter.mpr ⟨List.mem_append_left _ (by decide +kernel), by decide +kernel⟩
theorem fc_RD_71 : kx_m "RebornDrivers" 71 y_Op_begin b_Op_begin 4 none 3 ∧ Cond.instanceMethod y_Op_begin ∈ kx_tbl ∧ Cond.selects "RebornDrivers$Operation" y_Op_begin y_Op_begin ∈ kx_tbl := ⟨⟨mm_216, mm_7, by decide +kernel, Or.inr ⟨_, mm_213⟩⟩, mm_215, sel_Op_begin⟩
theorem fg_RD_18 : kx_f "RebornDrivers" 18 0 2 := ⟨R_RD, F_RD, 14, rfl, by decide, in_RD, Or.inl mm_158⟩
theorem sel_Ln_join : Cond.selects "RebornDrivers$Line" y_Ln_join y_Ln_join ∈ kx_tbl := List.mem_filter.mpr ⟨List.mem_append_left _ (by decide +kernel), by decide +kernel⟩
theorem fc_RD_75 : kx_m "RebornDrivers" 75 y_Ln_join b_Ln_join 2 none 1 ∧ Cond.instanceMethod y_Ln_join ∈ kx_tbl ∧ Cond.selects "RebornDrivers$Line" y_Ln_join y_Ln_join ∈ kx_tbl := ⟨⟨mm_220, mm_2, by decide +kernel, Or.inr ⟨_, mm_217⟩⟩, mm_219, sel_Ln_join⟩
theorem fg_RD_22 : kx_f "RebornDrivers" 22 0 3 := ⟨R_RD, F_RD, 14, rfl, by decide, in_RD, Or.inl mm_159⟩
theorem fg_RD_28 : kx_f "RebornDrivers" 28 0 4 := ⟨R_RD, F_RD, 14, rfl, by decide, in_RD, Or.inl mm_160⟩
theorem fg_RD_32 : kx_f "RebornDrivers" 32 0 5 := ⟨R_RD, F_RD, 14, rfl, by decide, in_RD, Or.inl mm_161⟩
theorem fc_RD_99 : kx_m "RebornDrivers" 99 y_RD_isDriver b_RD_isDriver 1 (some .boolean) 1 ∧ Cond.static y_RD_isDriver ∈ kx_tbl := ⟨⟨mm_380, mm_1, by decide +kernel, Or.inl mm_378⟩, mm_379⟩
theorem sel_RD_driverOf : Cond.selects "RebornDrivers" y_RD_driverOf y_RD_driverOf ∈ kx_tbl := List.mem_filter.mpr ⟨List.mem_append_left _ (by decide +kernel), by decide +kernel⟩
theorem fc_RD_102 : kx_m "RebornDrivers" 102 y_RD_driverOf b_RD_driverOf 2 (some (.object "RebornDrivers$Driver")) 1 ∧ Cond.instanceMethod y_RD_driverOf ∈ kx_tbl ∧ Cond.selects "RebornDrivers" y_RD_driverOf y_RD_driverOf ∈ kx_tbl := ⟨⟨mm_384, mm_1, by decide +kernel, Or.inl mm_381⟩, mm_383, sel_RD_driverOf⟩
theorem sel_Dr_suffer : Cond.selects "RebornDrivers$Driver" y_Dr_suffer y_Dr_suffer ∈ kx_tbl := List.mem_filter.mpr ⟨List.mem_append_left _ (by decide +kernel), by decide +kernel⟩
theorem fc_RD_106 : kx_m "RebornDrivers" 106 y_Dr_suffer b_Dr_suffer 2 (some .boolean) 1 ∧ Cond.instanceMethod y_Dr_suffer ∈ kx_tbl ∧ Cond.selects "RebornDrivers$Driver" y_Dr_suffer y_Dr_suffer ∈ kx_tbl := ⟨⟨mm_388, mm_3, by decide +kernel, Or.inr ⟨_, mm_385⟩⟩, mm_387, sel_Dr_suffer⟩
theorem fg_RD_134 : kx_f "RebornDrivers" 134 3 0 := ⟨R_Dr, F_Dr, 6, rfl, by decide, in_Dr, Or.inr ⟨_, mm_43⟩⟩
theorem fg_RD_137 : kx_f "RebornDrivers" 137 3 1 := ⟨R_Dr, F_Dr, 6, rfl, by decide, in_Dr, Or.inr ⟨_, mm_46⟩⟩
theorem fg_RD_140 : kx_f "RebornDrivers" 140 3 2 := ⟨R_Dr, F_Dr, 6, rfl, by decide, in_Dr, Or.inr ⟨_, mm_49⟩⟩
theorem fg_RD_143 : kx_f "RebornDrivers" 143 3 5 := ⟨R_Dr, F_Dr, 6, rfl, by decide, in_Dr, Or.inr ⟨_, mm_54⟩⟩
theorem fg_RD_146 : kx_f "RebornDrivers" 146 3 3 := ⟨R_Dr, F_Dr, 6, rfl, by decide, in_Dr, Or.inr ⟨_, mm_51⟩⟩
theorem fg_RD_115 : kx_f "RebornDrivers" 115 1 5 := ⟨R_Op, F_Op, 6, rfl, by decide, in_Op, Or.inr ⟨_, mm_142⟩⟩
theorem fg_RD_118 : kx_f "RebornDrivers" 118 2 1 := ⟨R_Ln, F_Ln, 2, rfl, by decide, in_Ln, Or.inr ⟨_, mm_28⟩⟩
theorem fg_RD_52 : kx_f "RebornDrivers" 52 0 9 := ⟨R_RD, F_RD, 14, rfl, by decide, in_RD, Or.inl mm_165⟩
theorem fg_RD_48 : kx_f "RebornDrivers" 48 0 8 := ⟨R_RD, F_RD, 14, rfl, by decide, in_RD, Or.inl mm_164⟩
theorem fg_RD_121 : kx_f "RebornDrivers" 121 5 0 := ⟨R_Ca, F_Ca, 4, rfl, by decide, in_Ca, Or.inr ⟨_, mm_109⟩⟩
theorem fg_RD_124 : kx_f "RebornDrivers" 124 5 1 := ⟨R_Ca, F_Ca, 4, rfl, by decide, in_Ca, Or.inr ⟨_, mm_111⟩⟩
theorem fg_RD_127 : kx_f "RebornDrivers" 127 5 2 := ⟨R_Ca, F_Ca, 4, rfl, by decide, in_Ca, Or.inr ⟨_, mm_113⟩⟩
theorem fg_RD_131 : kx_f "RebornDrivers" 131 0 11 := ⟨R_RD, F_RD, 14, rfl, by decide, in_RD, Or.inl mm_167⟩
theorem fg_RD_56 : kx_f "RebornDrivers" 56 0 10 := ⟨R_RD, F_RD, 14, rfl, by decide, in_RD, Or.inl mm_166⟩
theorem fg_RD_42 : kx_f "RebornDrivers" 42 0 7 := ⟨R_RD, F_RD, 14, rfl, by decide, in_RD, Or.inl mm_163⟩
theorem sel_Rq_progress : Cond.selects "RebornDrivers$Request" y_Rq_progress y_Rq_progress ∈ kx_tbl := List.mem_filter.mpr ⟨List.mem_append_left _ (by decide +kernel), by decide +kernel⟩
theorem fc_RD_150 : kx_m "RebornDrivers" 150 y_Rq_progress b_Rq_progress 1 (some .int) 0 ∧ Cond.instanceMethod y_Rq_progress ∈ kx_tbl ∧ Cond.selects "RebornDrivers$Request" y_Rq_progress y_Rq_progress ∈ kx_tbl := ⟨⟨mm_424, mm_4, by decide +kernel, Or.inr ⟨_, mm_421⟩⟩, mm_423, sel_Rq_progress⟩
theorem fg_RD_38 : kx_f "RebornDrivers" 38 0 6 := ⟨R_RD, F_RD, 14, rfl, by decide, in_RD, Or.inl mm_162⟩
theorem fg_RD_79 : kx_f "RebornDrivers" 79 0 13 := ⟨R_RD, F_RD, 14, rfl, by decide, in_RD, Or.inl mm_169⟩

def f_RD_isUser (u : Int32) : Int32 :=
  if u < 0 then 0
  else if 4 ≤ u then 0
  else 1
set_option maxHeartbeats 4000000 in
set_option maxRecDepth 100000 in
theorem c_RD_isUser (l : Launch) (D : va_G) (cI cZ cO : ClassId) (u : Int32) : kx_Ci (S := Unit) l y_RD_isUser b_RD_isUser 1 (some .boolean) 0 0 0 D (kx_T cI cZ cO) [.int u] [] (fun rr _ => rr = f_RD_isUser u ∧ kx_b rr) (fun _ => []) := by
  refine kx_enter_i (by decide) (Nat.le_of_ble_eq_true rfl) ?_
  intro p_ e_ s_ m_ below_ meth_ c_ ls A_ H I hl hw
  have S := I.1
  have hx := S.1
  have hb := S.2.1
  have hl : lv_has ls 1 [(0, .int u)] := hl
  refine lv_iload_n hx hb d_RD_isUser_0 rfl (lv_at hl 0 rfl) ?_
  refine lv_if_lt (tgt := 13) hx hb d_RD_isUser_1 (by decide) (fun h1 => ?_) (fun h1 => ?_)
  · refine lv_iconst (v := 0) hx hb d_RD_isUser_13 (by decide) ?_
    exact kx_ret_z I rfl hw (Or.inl rfl) () ⟨(by simp only [f_RD_isUser, if_pos h1]), (Or.inl rfl)⟩ [] (by decide) rfl d_RD_isUser_14
  · refine lv_iload_n hx hb d_RD_isUser_4 rfl (lv_at hl 0 rfl) ?_
    refine lv_iconst (v := 4) hx hb d_RD_isUser_5 (by decide) ?_
    refine lv_icmp_ge (tgt := 13) hx hb d_RD_isUser_6 (by decide) (fun h2 => ?_) (fun h2 => ?_)
    · refine lv_iconst (v := 0) hx hb d_RD_isUser_13 (by decide) ?_
      exact kx_ret_z I rfl hw (Or.inl rfl) () ⟨(by simp only [f_RD_isUser, if_neg h1, if_pos h2]), (Or.inl rfl)⟩ [] (by decide) rfl d_RD_isUser_14
    · refine lv_iconst (v := 1) hx hb d_RD_isUser_9 (by decide) ?_
      refine lv_goto (tgt := 14) hx hb d_RD_isUser_10 (by decide) ?_
      exact kx_ret_z I rfl hw (Or.inr rfl) () ⟨(by simp only [f_RD_isUser, if_neg h1, if_neg h2]), (Or.inr rfl)⟩ [] (by decide) rfl d_RD_isUser_14
def f_RD_isBlock (b : Int32) : Int32 :=
  if b < 0 then 0
  else if 16 ≤ b then 0
  else 1
set_option maxHeartbeats 4000000 in
set_option maxRecDepth 100000 in
theorem c_RD_isBlock (l : Launch) (D : va_G) (cI cZ cO : ClassId) (b : Int32) : kx_Ci (S := Unit) l y_RD_isBlock b_RD_isBlock 1 (some .boolean) 0 0 0 D (kx_T cI cZ cO) [.int b] [] (fun rr _ => rr = f_RD_isBlock b ∧ kx_b rr) (fun _ => []) := by
  refine kx_enter_i (by decide) (Nat.le_of_ble_eq_true rfl) ?_
  intro p_ e_ s_ m_ below_ meth_ c_ ls A_ H I hl hw
  have S := I.1
  have hx := S.1
  have hb := S.2.1
  have hl : lv_has ls 1 [(0, .int b)] := hl
  refine lv_iload_n hx hb d_RD_isBlock_0 rfl (lv_at hl 0 rfl) ?_
  refine lv_if_lt (tgt := 14) hx hb d_RD_isBlock_1 (by decide) (fun h1 => ?_) (fun h1 => ?_)
  · refine lv_iconst (v := 0) hx hb d_RD_isBlock_14 (by decide) ?_
    exact kx_ret_z I rfl hw (Or.inl rfl) () ⟨(by simp only [f_RD_isBlock, if_pos h1]), (Or.inl rfl)⟩ [] (by decide) rfl d_RD_isBlock_15
  · refine lv_iload_n hx hb d_RD_isBlock_4 rfl (lv_at hl 0 rfl) ?_
    refine lv_bipush (v := 16) hx hb d_RD_isBlock_5 (by decide) ?_
    refine lv_icmp_ge (tgt := 14) hx hb d_RD_isBlock_7 (by decide) (fun h2 => ?_) (fun h2 => ?_)
    · refine lv_iconst (v := 0) hx hb d_RD_isBlock_14 (by decide) ?_
      exact kx_ret_z I rfl hw (Or.inl rfl) () ⟨(by simp only [f_RD_isBlock, if_neg h1, if_pos h2]), (Or.inl rfl)⟩ [] (by decide) rfl d_RD_isBlock_15
    · refine lv_iconst (v := 1) hx hb d_RD_isBlock_10 (by decide) ?_
      refine lv_goto (tgt := 15) hx hb d_RD_isBlock_11 (by decide) ?_
      exact kx_ret_z I rfl hw (Or.inr rfl) () ⟨(by simp only [f_RD_isBlock, if_neg h1, if_neg h2]), (Or.inr rfl)⟩ [] (by decide) rfl d_RD_isBlock_15
def f_RD_isDriver (d : Int32) : Int32 :=
  if d = 0 then 1
  else if d = 1 then 1
  else 0
set_option maxHeartbeats 4000000 in
set_option maxRecDepth 100000 in
theorem c_RD_isDriver (l : Launch) (D : va_G) (cI cZ cO : ClassId) (d : Int32) : kx_Ci (S := Unit) l y_RD_isDriver b_RD_isDriver 1 (some .boolean) 0 0 0 D (kx_T cI cZ cO) [.int d] [] (fun rr _ => rr = f_RD_isDriver d ∧ kx_b rr) (fun _ => []) := by
  refine kx_enter_i (by decide) (Nat.le_of_ble_eq_true rfl) ?_
  intro p_ e_ s_ m_ below_ meth_ c_ ls A_ H I hl hw
  have S := I.1
  have hx := S.1
  have hb := S.2.1
  have hl : lv_has ls 1 [(0, .int d)] := hl
  refine lv_iload_n hx hb d_RD_isDriver_0 rfl (lv_at hl 0 rfl) ?_
  refine lv_if_eq (tgt := 9) hx hb d_RD_isDriver_1 (by decide) (fun h1 => ?_) (fun h1 => ?_)
  · refine lv_iconst (v := 1) hx hb d_RD_isDriver_9 (by decide) ?_
    refine lv_goto (tgt := 14) hx hb d_RD_isDriver_10 (by decide) ?_
    exact kx_ret_z I rfl hw (Or.inr rfl) () ⟨(by simp only [f_RD_isDriver, if_pos h1]), (Or.inr rfl)⟩ [] (by decide) rfl d_RD_isDriver_14
  · refine lv_iload_n hx hb d_RD_isDriver_4 rfl (lv_at hl 0 rfl) ?_
    refine lv_iconst (v := 1) hx hb d_RD_isDriver_5 (by decide) ?_
    refine lv_icmp_ne (tgt := 13) hx hb d_RD_isDriver_6 (by decide) (fun h2 => ?_) (fun h2 => ?_)
    · refine lv_iconst (v := 0) hx hb d_RD_isDriver_13 (by decide) ?_
      exact kx_ret_z I rfl hw (Or.inl rfl) () ⟨(by simp only [f_RD_isDriver, if_neg h1, if_neg h2]), (Or.inl rfl)⟩ [] (by decide) rfl d_RD_isDriver_14
    · refine lv_iconst (v := 1) hx hb d_RD_isDriver_9 (by decide) ?_
      refine lv_goto (tgt := 14) hx hb d_RD_isDriver_10 (by decide) ?_
      exact kx_ret_z I rfl hw (Or.inr rfl) () ⟨(by simp only [f_RD_isDriver, if_neg h1, if_pos h2]), (Or.inr rfl)⟩ [] (by decide) rfl d_RD_isDriver_14
theorem l_isUser {u : Int32} (h : ¬ f_RD_isUser u = 0) : vp_in u 4 := by
  unfold f_RD_isUser at h
  by_cases h1 : u < 0
  · rw [if_pos h1] at h
    exact absurd rfl h
  · by_cases h2 : 4 ≤ u
    · rw [if_neg h1, if_pos h2] at h
      exact absurd rfl h
    · exact kx_i2 (N := 4) rfl h1 h2
theorem l_isBlock {u : Int32} (h : ¬ f_RD_isBlock u = 0) : vp_in u 16 := by
  unfold f_RD_isBlock at h
  by_cases h1 : u < 0
  · rw [if_pos h1] at h
    exact absurd rfl h
  · by_cases h2 : 16 ≤ u
    · rw [if_neg h1, if_pos h2] at h
      exact absurd rfl h
    · exact kx_i2 (N := 16) rfl h1 h2
theorem l_find {c : kt_Ca} {b : Int32} (h : ¬ f_Ca_find c b = -1) : vp_in (f_Ca_find c b) 3 := by
  unfold f_Ca_find at h ⊢
  repeat' split
  all_goals first | (unfold vp_in; decide) | (exfalso; simp_all; done)
theorem l_stf (c : kt_Ca) : vp_in (f_Ca_slotToFill c) 3 := by
  by_cases h : f_Ca_find c (-1) = -1
  · unfold f_Ca_slotToFill
    simp only [h, if_pos]
    repeat' split
    all_goals first | (unfold vp_in; decide) | (exfalso; simp_all; done)
  · have h1 := l_find h
    unfold f_Ca_slotToFill
    simp only [h, if_neg, if_false]
    exact h1
theorem l_dsl {c : kt_Ca} (h : ¬ f_Ca_dirtySlotOfLowestBlock c = -1) : vp_in (f_Ca_dirtySlotOfLowestBlock c) 3 := by
  unfold f_Ca_dirtySlotOfLowestBlock at h ⊢
  repeat' split
  all_goals first | (unfold vp_in; decide) | (exfalso; simp_all; done)
theorem l_ne {n : kt_Ln} (h : f_Ln_isEmpty n = 0) : ¬ n.2 = 0 := by
  intro e
  unfold f_Ln_isEmpty at h
  rw [if_pos e] at h
  exact absurd h (by decide)
theorem l_open {q : kt_Rq} (h : ¬ f_Rq_isOpen q = 0) : ¬ q.1 = 0 := by
  intro e
  unfold f_Rq_isOpen at h
  rw [if_pos e] at h
  exact h rfl
def kv_fr (q : kt_Rq) : Prop := vp_in q.2.1 16 ∧ vp_in q.2.2.1 3
def kv_ol (mm : kt_M) : Prop := 0 ≤ mm.2.1 ∧ ¬ 200 < mm.2.1
def kv_ln (n : kt_Ln) : Prop := ∃ k : Nat, k ≤ 4 ∧ n.2 = nI k ∧ ∀ i : Nat, i < k → vp_in (n.1 i) 4
theorem kv_ln.ge {n : kt_Ln} (h : kv_ln n) : 0 ≤ n.2 := by
  obtain ⟨k, hk, e, -⟩ := h
  rw [e]
  exact nI_pos' (by omega)
theorem kv_ln.le {n : kt_Ln} (h : kv_ln n) : ¬ 4 < n.2 := by
  obtain ⟨k, hk, e, -⟩ := h
  rw [e]
  exact nI_nlt (a := 4) hk (by decide) |> fun q => by first | exact Int32.not_lt.mpr (nI_le hk (by decide)) | exact q
theorem kv_ln.hd {n : kt_Ln} (h : kv_ln n) (h0 : ¬ n.2 = 0) : vp_in (n.1 0) 4 := by
  obtain ⟨k, hk, e, hi⟩ := h
  refine hi 0 ?_
  rcases Nat.eq_zero_or_pos k with rfl | q
  · exact absurd e h0
  · exact q
theorem l_drop0 (f : Nat → Int32) : f_Ln_dropHead (f, nI 0) = (f, nI 0) := by
  unfold f_Ln_dropHead
  dsimp only
  rw [if_pos (show nI 0 ≤ 1 by decide), show (if (nI 0 - 1) < 0 then (0 : Int32) else nI 0 - 1) = nI 0 by decide]
theorem l_drop1 (f : Nat → Int32) : f_Ln_dropHead (f, nI 1) = (f, nI 0) := by
  unfold f_Ln_dropHead
  dsimp only
  rw [if_pos (show nI 1 ≤ 1 by decide), show (if (nI 1 - 1) < 0 then (0 : Int32) else nI 1 - 1) = nI 0 by decide]
theorem l_drop2 (f : Nat → Int32) : f_Ln_dropHead (f, nI 2) = (upd f 0 (f 1), nI 1) := by
  unfold f_Ln_dropHead
  dsimp only
  rw [if_neg (show ¬ nI 2 ≤ 1 by decide), if_pos (show nI 2 ≤ 2 by decide), show (if (nI 2 - 1) < 0 then (0 : Int32) else nI 2 - 1) = nI 1 by decide]
theorem l_drop3 (f : Nat → Int32) : f_Ln_dropHead (f, nI 3) = (upd (upd f 0 (f 1)) 1 (f 2), nI 2) := by
  unfold f_Ln_dropHead
  dsimp only
  rw [if_neg (show ¬ nI 3 ≤ 1 by decide), if_neg (show ¬ nI 3 ≤ 2 by decide), if_pos (show nI 3 ≤ 3 by decide), show (if (nI 3 - 1) < 0 then (0 : Int32) else nI 3 - 1) = nI 2 by decide]
  rfl
theorem l_drop4 (f : Nat → Int32) : f_Ln_dropHead (f, nI 4) = (upd (upd (upd f 0 (f 1)) 1 (f 2)) 2 (f 3), nI 3) := by
  unfold f_Ln_dropHead
  dsimp only
  rw [if_neg (show ¬ nI 4 ≤ 1 by decide), if_neg (show ¬ nI 4 ≤ 2 by decide), if_neg (show ¬ nI 4 ≤ 3 by decide), show (if (nI 4 - 1) < 0 then (0 : Int32) else nI 4 - 1) = nI 3 by decide]
  rfl
theorem kv_ln.drop {n : kt_Ln} (h : kv_ln n) : kv_ln (f_Ln_dropHead n) := by
  obtain ⟨f, x⟩ := n
  obtain ⟨k, hk, e, hi⟩ := h
  dsimp only at e hi
  subst e
  have hk : k = 0 ∨ k = 1 ∨ k = 2 ∨ k = 3 ∨ k = 4 := by omega
  rcases hk with rfl | rfl | rfl | rfl | rfl
  · rw [l_drop0]
    exact ⟨0, by omega, rfl, fun i h => by omega⟩
  · rw [l_drop1]
    exact ⟨0, by omega, rfl, fun i h => by omega⟩
  · rw [l_drop2]
    refine ⟨1, by omega, rfl, fun i h => ?_⟩
    rcases (show i = 0 by omega) with rfl
    exact hi 1 (by omega)
  · rw [l_drop3]
    refine ⟨2, by omega, rfl, fun i h => ?_⟩
    rcases (show i = 0 ∨ i = 1 by omega) with rfl | rfl
    · exact hi 1 (by omega)
    · exact hi 2 (by omega)
  · rw [l_drop4]
    refine ⟨3, by omega, rfl, fun i h => ?_⟩
    rcases (show i = 0 ∨ i = 1 ∨ i = 2 by omega) with rfl | rfl | rfl
    · exact hi 1 (by omega)
    · exact hi 2 (by omega)
    · exact hi 3 (by omega)
theorem kx_i5 {x n : Int32} (h0 : ¬ x < 0) (h1 : ¬ n ≤ x) (h2 : ¬ 200 < n) : vp_in x 200 := by
  rw [Int32.lt_iff_toInt_lt, show (0 : Int32).toInt = 0 from rfl] at h0
  rw [Int32.le_iff_toInt_le] at h1
  rw [Int32.lt_iff_toInt_lt, show (200 : Int32).toInt = 200 from rfl] at h2
  exact vp_in_iff.mpr ⟨by omega, by omega⟩
def f_RD_isFree (mm : kt_M) (ops : (Nat → kt_Op)) (u : Int32) : Int32 :=
  match f_RD_isUser u with
  | r1 => if r1 = 0 then 0
    else if ((ops u.toNatClampNeg).2.2.2.2.1) = 1 then 0
    else 1
set_option maxHeartbeats 4000000 in
set_option maxRecDepth 100000 in
theorem c_RD_isFree (l : Launch) (D : va_G) (cI cZ cO : ClassId) (ad : Nat → Nat) (mm : kt_M) (ops : (Nat → kt_Op)) (u : Int32) : kx_Ci (S := Unit) l y_RD_isFree b_RD_isFree 2 (some .boolean) 1 0 0 D (kx_T cI cZ cO) [.ref (ad 0), .int u] [((ad 0), .inr (0, [.int mm.1, .ref (ad 1), .ref (ad 6), .ref (ad 8), .ref (ad 10), .ref (ad 11), .ref (ad 12), .ref (ad 13), .ref (ad 14), .ref (ad 19), .ref (ad 20), .int mm.2.1, .int mm.2.2.1, .int mm.2.2.2])), ((ad 1), .inl (cO, 4, .inr (.inr (.inr (.inr (kx_opsf ad)))))), ((ad 2), .inr (1, [.int ((ops 0).1), .int ((ops 0).2.1), .int ((ops 0).2.2.1), .int ((ops 0).2.2.2.1), .int ((ops 0).2.2.2.2.1), .int ((ops 0).2.2.2.2.2)])), ((ad 3), .inr (1, [.int ((ops 1).1), .int ((ops 1).2.1), .int ((ops 1).2.2.1), .int ((ops 1).2.2.2.1), .int ((ops 1).2.2.2.2.1), .int ((ops 1).2.2.2.2.2)])), ((ad 4), .inr (1, [.int ((ops 2).1), .int ((ops 2).2.1), .int ((ops 2).2.2.1), .int ((ops 2).2.2.2.1), .int ((ops 2).2.2.2.2.1), .int ((ops 2).2.2.2.2.2)])), ((ad 5), .inr (1, [.int ((ops 3).1), .int ((ops 3).2.1), .int ((ops 3).2.2.1), .int ((ops 3).2.2.2.1), .int ((ops 3).2.2.2.2.1), .int ((ops 3).2.2.2.2.2)]))] (fun rr _ => rr = f_RD_isFree mm ops u ∧ kx_b rr) (fun _ => [((ad 0), .inr (0, [.int mm.1, .ref (ad 1), .ref (ad 6), .ref (ad 8), .ref (ad 10), .ref (ad 11), .ref (ad 12), .ref (ad 13), .ref (ad 14), .ref (ad 19), .ref (ad 20), .int mm.2.1, .int mm.2.2.1, .int mm.2.2.2])), ((ad 1), .inl (cO, 4, .inr (.inr (.inr (.inr (kx_opsf ad)))))), ((ad 2), .inr (1, [.int ((ops 0).1), .int ((ops 0).2.1), .int ((ops 0).2.2.1), .int ((ops 0).2.2.2.1), .int ((ops 0).2.2.2.2.1), .int ((ops 0).2.2.2.2.2)])), ((ad 3), .inr (1, [.int ((ops 1).1), .int ((ops 1).2.1), .int ((ops 1).2.2.1), .int ((ops 1).2.2.2.1), .int ((ops 1).2.2.2.2.1), .int ((ops 1).2.2.2.2.2)])), ((ad 4), .inr (1, [.int ((ops 2).1), .int ((ops 2).2.1), .int ((ops 2).2.2.1), .int ((ops 2).2.2.2.1), .int ((ops 2).2.2.2.2.1), .int ((ops 2).2.2.2.2.2)])), ((ad 5), .inr (1, [.int ((ops 3).1), .int ((ops 3).2.1), .int ((ops 3).2.2.1), .int ((ops 3).2.2.2.1), .int ((ops 3).2.2.2.2.1), .int ((ops 3).2.2.2.2.2)]))]) := by
  refine kx_enter_i (by decide) (Nat.le_of_ble_eq_true rfl) ?_
  intro p_ e_ s_ m_ below_ meth_ c_ ls A_ H I hl hw
  have S := I.1
  have hx := S.1
  have hb := S.2.1
  have hl : lv_has ls 2 [(0, .ref (ad 0)), (1, .int u)] := hl
  refine lv_iload_n hx hb d_RD_isFree_0 rfl (lv_at hl 1 rfl) ?_
  refine kx_call_i (wc := []) (wr := [((ad 0), .inr (0, [.int mm.1, .ref (ad 1), .ref (ad 6), .ref (ad 8), .ref (ad 10), .ref (ad 11), .ref (ad 12), .ref (ad 13), .ref (ad 14), .ref (ad 19), .ref (ad 20), .int mm.2.1, .int mm.2.2.1, .int mm.2.2.2])), ((ad 1), .inl (cO, 4, .inr (.inr (.inr (.inr (kx_opsf ad)))))), ((ad 2), .inr (1, [.int ((ops 0).1), .int ((ops 0).2.1), .int ((ops 0).2.2.1), .int ((ops 0).2.2.2.1), .int ((ops 0).2.2.2.2.1), .int ((ops 0).2.2.2.2.2)])), ((ad 3), .inr (1, [.int ((ops 1).1), .int ((ops 1).2.1), .int ((ops 1).2.2.1), .int ((ops 1).2.2.2.1), .int ((ops 1).2.2.2.2.1), .int ((ops 1).2.2.2.2.2)])), ((ad 4), .inr (1, [.int ((ops 2).1), .int ((ops 2).2.1), .int ((ops 2).2.2.1), .int ((ops 2).2.2.2.1), .int ((ops 2).2.2.2.2.1), .int ((ops 2).2.2.2.2.2)])), ((ad 5), .inr (1, [.int ((ops 3).1), .int ((ops 3).2.1), .int ((ops 3).2.2.1), .int ((ops 3).2.2.2.1), .int ((ops 3).2.2.2.2.1), .int ((ops 3).2.2.2.2.2)]))]) (rest := []) hw [] [0, 1, 2, 3, 4, 5] rfl rfl (by decide) (by decide) (kx_runS S hw fc_RD_109 [] (by decide) rfl (c_RD_isUser l D cI cZ cO u H.size) rfl hl.1 rfl (Nat.le_of_ble_eq_true rfl) d_RD_isFree_1 (by decide) (by decide)) (fun r1 u1 H locs hp1 hw => ?_)
  obtain ⟨hp1, hb1⟩ := hp1
  have hw : kx_w D (kx_T cI cZ cO) A_ s_ [((ad 0), .inr (0, [.int mm.1, .ref (ad 1), .ref (ad 6), .ref (ad 8), .ref (ad 10), .ref (ad 11), .ref (ad 12), .ref (ad 13), .ref (ad 14), .ref (ad 19), .ref (ad 20), .int mm.2.1, .int mm.2.2.1, .int mm.2.2.2])), ((ad 1), .inl (cO, 4, .inr (.inr (.inr (.inr (kx_opsf ad)))))), ((ad 2), .inr (1, [.int ((ops 0).1), .int ((ops 0).2.1), .int ((ops 0).2.2.1), .int ((ops 0).2.2.2.1), .int ((ops 0).2.2.2.2.1), .int ((ops 0).2.2.2.2.2)])), ((ad 3), .inr (1, [.int ((ops 1).1), .int ((ops 1).2.1), .int ((ops 1).2.2.1), .int ((ops 1).2.2.2.1), .int ((ops 1).2.2.2.2.1), .int ((ops 1).2.2.2.2.2)])), ((ad 4), .inr (1, [.int ((ops 2).1), .int ((ops 2).2.1), .int ((ops 2).2.2.1), .int ((ops 2).2.2.2.1), .int ((ops 2).2.2.2.2.1), .int ((ops 2).2.2.2.2.2)])), ((ad 5), .inr (1, [.int ((ops 3).1), .int ((ops 3).2.1), .int ((ops 3).2.2.1), .int ((ops 3).2.2.2.1), .int ((ops 3).2.2.2.2.1), .int ((ops 3).2.2.2.2.2)]))] H locs := hw
  refine lv_if_eq (tgt := 24) hx hb d_RD_isFree_4 (by decide) (fun h2 => ?_) (fun h2 => ?_)
  · refine lv_iconst (v := 0) hx hb d_RD_isFree_24 (by decide) ?_
    exact kx_ret_z I rfl hw (Or.inl rfl) () ⟨(by simp only [f_RD_isFree, ← hp1, if_pos h2]), (Or.inl rfl)⟩ [0, 1, 2, 3, 4, 5] (by decide) rfl d_RD_isFree_25
  · refine lv_aload_n hx hb d_RD_isFree_7 rfl (lv_at hl 0 rfl) ?_
    refine kx_get S hw fg_RD_11 0 rfl rfl d_RD_isFree_8 ?_
    refine lv_iload_n hx hb d_RD_isFree_11 rfl (lv_at hl 1 rfl) ?_
    rcases kx_c4 (l_isUser (hp1 ▸ h2)) with e3 | e3 | e3 | e3
    · refine kx_aald S hw 1 2 rfl rfl (b := (ad 2)) (by rw [e3]; rfl) (l_isUser (hp1 ▸ h2)) d_RD_isFree_12 ?_
      refine kx_get S hw fg_RD_112 2 rfl rfl d_RD_isFree_13 ?_
      refine lv_iconst (v := 1) hx hb d_RD_isFree_16 (by decide) ?_
      refine lv_icmp_eq (tgt := 24) hx hb d_RD_isFree_17 (by decide) (fun h4 => ?_) (fun h4 => ?_)
      · refine lv_iconst (v := 0) hx hb d_RD_isFree_24 (by decide) ?_
        exact kx_ret_z I rfl hw (Or.inl rfl) () ⟨(by simp only [f_RD_isFree, ← hp1, if_neg h2, e3, if_pos h4]), (Or.inl rfl)⟩ [0, 1, 2, 3, 4, 5] (by decide) rfl d_RD_isFree_25
      · refine lv_iconst (v := 1) hx hb d_RD_isFree_20 (by decide) ?_
        refine lv_goto (tgt := 25) hx hb d_RD_isFree_21 (by decide) ?_
        exact kx_ret_z I rfl hw (Or.inr rfl) () ⟨(by simp only [f_RD_isFree, ← hp1, if_neg h2, e3, if_neg h4]), (Or.inr rfl)⟩ [0, 1, 2, 3, 4, 5] (by decide) rfl d_RD_isFree_25
    · refine kx_aald S hw 1 2 rfl rfl (b := (ad 3)) (by rw [e3]; rfl) (l_isUser (hp1 ▸ h2)) d_RD_isFree_12 ?_
      refine kx_get S hw fg_RD_112 3 rfl rfl d_RD_isFree_13 ?_
      refine lv_iconst (v := 1) hx hb d_RD_isFree_16 (by decide) ?_
      refine lv_icmp_eq (tgt := 24) hx hb d_RD_isFree_17 (by decide) (fun h4 => ?_) (fun h4 => ?_)
      · refine lv_iconst (v := 0) hx hb d_RD_isFree_24 (by decide) ?_
        exact kx_ret_z I rfl hw (Or.inl rfl) () ⟨(by simp only [f_RD_isFree, ← hp1, if_neg h2, e3, if_pos h4]), (Or.inl rfl)⟩ [0, 1, 2, 3, 4, 5] (by decide) rfl d_RD_isFree_25
      · refine lv_iconst (v := 1) hx hb d_RD_isFree_20 (by decide) ?_
        refine lv_goto (tgt := 25) hx hb d_RD_isFree_21 (by decide) ?_
        exact kx_ret_z I rfl hw (Or.inr rfl) () ⟨(by simp only [f_RD_isFree, ← hp1, if_neg h2, e3, if_neg h4]), (Or.inr rfl)⟩ [0, 1, 2, 3, 4, 5] (by decide) rfl d_RD_isFree_25
    · refine kx_aald S hw 1 2 rfl rfl (b := (ad 4)) (by rw [e3]; rfl) (l_isUser (hp1 ▸ h2)) d_RD_isFree_12 ?_
      refine kx_get S hw fg_RD_112 4 rfl rfl d_RD_isFree_13 ?_
      refine lv_iconst (v := 1) hx hb d_RD_isFree_16 (by decide) ?_
      refine lv_icmp_eq (tgt := 24) hx hb d_RD_isFree_17 (by decide) (fun h4 => ?_) (fun h4 => ?_)
      · refine lv_iconst (v := 0) hx hb d_RD_isFree_24 (by decide) ?_
        exact kx_ret_z I rfl hw (Or.inl rfl) () ⟨(by simp only [f_RD_isFree, ← hp1, if_neg h2, e3, if_pos h4]), (Or.inl rfl)⟩ [0, 1, 2, 3, 4, 5] (by decide) rfl d_RD_isFree_25
      · refine lv_iconst (v := 1) hx hb d_RD_isFree_20 (by decide) ?_
        refine lv_goto (tgt := 25) hx hb d_RD_isFree_21 (by decide) ?_
        exact kx_ret_z I rfl hw (Or.inr rfl) () ⟨(by simp only [f_RD_isFree, ← hp1, if_neg h2, e3, if_neg h4]), (Or.inr rfl)⟩ [0, 1, 2, 3, 4, 5] (by decide) rfl d_RD_isFree_25
    · refine kx_aald S hw 1 2 rfl rfl (b := (ad 5)) (by rw [e3]; rfl) (l_isUser (hp1 ▸ h2)) d_RD_isFree_12 ?_
      refine kx_get S hw fg_RD_112 5 rfl rfl d_RD_isFree_13 ?_
      refine lv_iconst (v := 1) hx hb d_RD_isFree_16 (by decide) ?_
      refine lv_icmp_eq (tgt := 24) hx hb d_RD_isFree_17 (by decide) (fun h4 => ?_) (fun h4 => ?_)
      · refine lv_iconst (v := 0) hx hb d_RD_isFree_24 (by decide) ?_
        exact kx_ret_z I rfl hw (Or.inl rfl) () ⟨(by simp only [f_RD_isFree, ← hp1, if_neg h2, e3, if_pos h4]), (Or.inl rfl)⟩ [0, 1, 2, 3, 4, 5] (by decide) rfl d_RD_isFree_25
      · refine lv_iconst (v := 1) hx hb d_RD_isFree_20 (by decide) ?_
        refine lv_goto (tgt := 25) hx hb d_RD_isFree_21 (by decide) ?_
        exact kx_ret_z I rfl hw (Or.inr rfl) () ⟨(by simp only [f_RD_isFree, ← hp1, if_neg h2, e3, if_neg h4]), (Or.inr rfl)⟩ [0, 1, 2, 3, 4, 5] (by decide) rfl d_RD_isFree_25
theorem l_isFree {mm : kt_M} {ops : Nat → kt_Op} {u : Int32} (h : ¬ f_RD_isFree mm ops u = 0) : vp_in u 4 := by
  refine l_isUser (fun e => h ?_)
  unfold f_RD_isFree
  simp only [e, if_pos]
def f_RD_read (mm : kt_M) (ops : (Nat → kt_Op)) (fl : kt_Ln) (u : Int32) (b : Int32) : Int32 × (Nat → kt_Op) × kt_Ln :=
  match f_RD_isFree mm ops u with
  | r1 => if r1 = 0 then (0, ops, fl)
    else match f_RD_isBlock b with
    | r3 => if r3 = 0 then (0, ops, fl)
      else match f_Op_begin (ops u.toNatClampNeg) 0 b 0 with
      | o6 => match f_Ln_join fl u with
        | n7 => (1, va_up ops u.toNatClampNeg o6, n7)
set_option maxHeartbeats 4000000 in
set_option maxRecDepth 100000 in
theorem c_RD_read (l : Launch) (D : va_G) (cI cZ cO : ClassId) (ad : Nat → Nat) (mm : kt_M) (ops : (Nat → kt_Op)) (fl : kt_Ln) (u : Int32) (b : Int32) (hj : 0 ≤ fl.2) : kx_Ci (S := (Nat → kt_Op) × kt_Ln) l y_RD_read b_RD_read 3 (some .boolean) 2 0 0 D (kx_T cI cZ cO) [.ref (ad 0), .int u, .int b] [((ad 0), .inr (0, [.int mm.1, .ref (ad 1), .ref (ad 6), .ref (ad 8), .ref (ad 10), .ref (ad 11), .ref (ad 12), .ref (ad 13), .ref (ad 14), .ref (ad 19), .ref (ad 20), .int mm.2.1, .int mm.2.2.1, .int mm.2.2.2])), ((ad 1), .inl (cO, 4, .inr (.inr (.inr (.inr (kx_opsf ad)))))), ((ad 2), .inr (1, [.int ((ops 0).1), .int ((ops 0).2.1), .int ((ops 0).2.2.1), .int ((ops 0).2.2.2.1), .int ((ops 0).2.2.2.2.1), .int ((ops 0).2.2.2.2.2)])), ((ad 3), .inr (1, [.int ((ops 1).1), .int ((ops 1).2.1), .int ((ops 1).2.2.1), .int ((ops 1).2.2.2.1), .int ((ops 1).2.2.2.2.1), .int ((ops 1).2.2.2.2.2)])), ((ad 4), .inr (1, [.int ((ops 2).1), .int ((ops 2).2.1), .int ((ops 2).2.2.1), .int ((ops 2).2.2.2.1), .int ((ops 2).2.2.2.2.1), .int ((ops 2).2.2.2.2.2)])), ((ad 5), .inr (1, [.int ((ops 3).1), .int ((ops 3).2.1), .int ((ops 3).2.2.1), .int ((ops 3).2.2.2.1), .int ((ops 3).2.2.2.2.1), .int ((ops 3).2.2.2.2.2)])), ((ad 6), .inr (2, [.ref (ad 7), .int fl.2])), ((ad 7), .inl (cI, 4, .inl fl.1))] (fun rr zz => (rr, zz) = f_RD_read mm ops fl u b ∧ kx_b rr) (fun zz => [((ad 0), .inr (0, [.int mm.1, .ref (ad 1), .ref (ad 6), .ref (ad 8), .ref (ad 10), .ref (ad 11), .ref (ad 12), .ref (ad 13), .ref (ad 14), .ref (ad 19), .ref (ad 20), .int mm.2.1, .int mm.2.2.1, .int mm.2.2.2])), ((ad 1), .inl (cO, 4, .inr (.inr (.inr (.inr (kx_opsf ad)))))), ((ad 2), .inr (1, [.int ((zz.1 0).1), .int ((zz.1 0).2.1), .int ((zz.1 0).2.2.1), .int ((zz.1 0).2.2.2.1), .int ((zz.1 0).2.2.2.2.1), .int ((zz.1 0).2.2.2.2.2)])), ((ad 3), .inr (1, [.int ((zz.1 1).1), .int ((zz.1 1).2.1), .int ((zz.1 1).2.2.1), .int ((zz.1 1).2.2.2.1), .int ((zz.1 1).2.2.2.2.1), .int ((zz.1 1).2.2.2.2.2)])), ((ad 4), .inr (1, [.int ((zz.1 2).1), .int ((zz.1 2).2.1), .int ((zz.1 2).2.2.1), .int ((zz.1 2).2.2.2.1), .int ((zz.1 2).2.2.2.2.1), .int ((zz.1 2).2.2.2.2.2)])), ((ad 5), .inr (1, [.int ((zz.1 3).1), .int ((zz.1 3).2.1), .int ((zz.1 3).2.2.1), .int ((zz.1 3).2.2.2.1), .int ((zz.1 3).2.2.2.2.1), .int ((zz.1 3).2.2.2.2.2)])), ((ad 6), .inr (2, [.ref (ad 7), .int zz.2.2])), ((ad 7), .inl (cI, 4, .inl zz.2.1))]) := by
  refine kx_enter_i (by decide) (Nat.le_of_ble_eq_true rfl) ?_
  intro p_ e_ s_ m_ below_ meth_ c_ ls A_ H I hl hw
  have S := I.1
  have hx := S.1
  have hb := S.2.1
  have hl : lv_has ls 3 [(0, .ref (ad 0)), (1, .int u), (2, .int b)] := hl
  refine lv_aload_n hx hb d_RD_read_0 rfl (lv_at hl 0 rfl) ?_
  refine lv_iload_n hx hb d_RD_read_1 rfl (lv_at hl 1 rfl) ?_
  refine kx_call_i (wc := [((ad 0), .inr (0, [.int mm.1, .ref (ad 1), .ref (ad 6), .ref (ad 8), .ref (ad 10), .ref (ad 11), .ref (ad 12), .ref (ad 13), .ref (ad 14), .ref (ad 19), .ref (ad 20), .int mm.2.1, .int mm.2.2.1, .int mm.2.2.2])), ((ad 1), .inl (cO, 4, .inr (.inr (.inr (.inr (kx_opsf ad)))))), ((ad 2), .inr (1, [.int ((ops 0).1), .int ((ops 0).2.1), .int ((ops 0).2.2.1), .int ((ops 0).2.2.2.1), .int ((ops 0).2.2.2.2.1), .int ((ops 0).2.2.2.2.2)])), ((ad 3), .inr (1, [.int ((ops 1).1), .int ((ops 1).2.1), .int ((ops 1).2.2.1), .int ((ops 1).2.2.2.1), .int ((ops 1).2.2.2.2.1), .int ((ops 1).2.2.2.2.2)])), ((ad 4), .inr (1, [.int ((ops 2).1), .int ((ops 2).2.1), .int ((ops 2).2.2.1), .int ((ops 2).2.2.2.1), .int ((ops 2).2.2.2.2.1), .int ((ops 2).2.2.2.2.2)])), ((ad 5), .inr (1, [.int ((ops 3).1), .int ((ops 3).2.1), .int ((ops 3).2.2.1), .int ((ops 3).2.2.2.1), .int ((ops 3).2.2.2.2.1), .int ((ops 3).2.2.2.2.2)]))]) (wr := [((ad 6), .inr (2, [.ref (ad 7), .int fl.2])), ((ad 7), .inl (cI, 4, .inl fl.1))]) (rest := []) hw [0, 1, 2, 3, 4, 5] [6, 7] rfl rfl (by decide) (by decide) (kx_runV S hw fc_RD_64 rfl 0 rfl [0, 1, 2, 3, 4, 5] (by decide) rfl (c_RD_isFree l D cI cZ cO ad mm ops u H.size) rfl hl.1 rfl (Nat.le_of_ble_eq_true rfl) d_RD_read_2 (by decide) (by decide)) (fun r1 u1 H locs hp1 hw => ?_)
  obtain ⟨hp1, hb1⟩ := hp1
  have hw : kx_w D (kx_T cI cZ cO) A_ s_ [((ad 6), .inr (2, [.ref (ad 7), .int fl.2])), ((ad 7), .inl (cI, 4, .inl fl.1)), ((ad 0), .inr (0, [.int mm.1, .ref (ad 1), .ref (ad 6), .ref (ad 8), .ref (ad 10), .ref (ad 11), .ref (ad 12), .ref (ad 13), .ref (ad 14), .ref (ad 19), .ref (ad 20), .int mm.2.1, .int mm.2.2.1, .int mm.2.2.2])), ((ad 1), .inl (cO, 4, .inr (.inr (.inr (.inr (kx_opsf ad)))))), ((ad 2), .inr (1, [.int ((ops 0).1), .int ((ops 0).2.1), .int ((ops 0).2.2.1), .int ((ops 0).2.2.2.1), .int ((ops 0).2.2.2.2.1), .int ((ops 0).2.2.2.2.2)])), ((ad 3), .inr (1, [.int ((ops 1).1), .int ((ops 1).2.1), .int ((ops 1).2.2.1), .int ((ops 1).2.2.2.1), .int ((ops 1).2.2.2.2.1), .int ((ops 1).2.2.2.2.2)])), ((ad 4), .inr (1, [.int ((ops 2).1), .int ((ops 2).2.1), .int ((ops 2).2.2.1), .int ((ops 2).2.2.2.1), .int ((ops 2).2.2.2.2.1), .int ((ops 2).2.2.2.2.2)])), ((ad 5), .inr (1, [.int ((ops 3).1), .int ((ops 3).2.1), .int ((ops 3).2.2.1), .int ((ops 3).2.2.2.1), .int ((ops 3).2.2.2.2.1), .int ((ops 3).2.2.2.2.2)]))] H locs := hw
  refine lv_if_eq (tgt := 15) hx hb d_RD_read_5 (by decide) (fun h2 => ?_) (fun h2 => ?_)
  · refine lv_iconst (v := 0) hx hb d_RD_read_15 (by decide) ?_
    exact kx_ret_z I rfl hw (Or.inl rfl) (ops, fl) ⟨(by simp only [f_RD_read, ← hp1, if_pos h2]), (Or.inl rfl)⟩ [2, 3, 4, 5, 6, 7, 0, 1] (by decide) rfl d_RD_read_16
  · refine lv_iload_n hx hb d_RD_read_8 rfl (lv_at hl 2 rfl) ?_
    refine kx_call_i (wc := []) (wr := [((ad 6), .inr (2, [.ref (ad 7), .int fl.2])), ((ad 7), .inl (cI, 4, .inl fl.1)), ((ad 0), .inr (0, [.int mm.1, .ref (ad 1), .ref (ad 6), .ref (ad 8), .ref (ad 10), .ref (ad 11), .ref (ad 12), .ref (ad 13), .ref (ad 14), .ref (ad 19), .ref (ad 20), .int mm.2.1, .int mm.2.2.1, .int mm.2.2.2])), ((ad 1), .inl (cO, 4, .inr (.inr (.inr (.inr (kx_opsf ad)))))), ((ad 2), .inr (1, [.int ((ops 0).1), .int ((ops 0).2.1), .int ((ops 0).2.2.1), .int ((ops 0).2.2.2.1), .int ((ops 0).2.2.2.2.1), .int ((ops 0).2.2.2.2.2)])), ((ad 3), .inr (1, [.int ((ops 1).1), .int ((ops 1).2.1), .int ((ops 1).2.2.1), .int ((ops 1).2.2.2.1), .int ((ops 1).2.2.2.2.1), .int ((ops 1).2.2.2.2.2)])), ((ad 4), .inr (1, [.int ((ops 2).1), .int ((ops 2).2.1), .int ((ops 2).2.2.1), .int ((ops 2).2.2.2.1), .int ((ops 2).2.2.2.2.1), .int ((ops 2).2.2.2.2.2)])), ((ad 5), .inr (1, [.int ((ops 3).1), .int ((ops 3).2.1), .int ((ops 3).2.2.1), .int ((ops 3).2.2.2.1), .int ((ops 3).2.2.2.2.1), .int ((ops 3).2.2.2.2.2)]))]) (rest := []) hw [] [0, 1, 2, 3, 4, 5, 6, 7] rfl rfl (by decide) (by decide) (kx_runS S hw fc_RD_68 [] (by decide) rfl (c_RD_isBlock l D cI cZ cO b H.size) rfl hl.1 rfl (Nat.le_of_ble_eq_true rfl) d_RD_read_9 (by decide) (by decide)) (fun r3 u3 H locs hp3 hw => ?_)
    obtain ⟨hp3, hb3⟩ := hp3
    have hw : kx_w D (kx_T cI cZ cO) A_ s_ [((ad 6), .inr (2, [.ref (ad 7), .int fl.2])), ((ad 7), .inl (cI, 4, .inl fl.1)), ((ad 0), .inr (0, [.int mm.1, .ref (ad 1), .ref (ad 6), .ref (ad 8), .ref (ad 10), .ref (ad 11), .ref (ad 12), .ref (ad 13), .ref (ad 14), .ref (ad 19), .ref (ad 20), .int mm.2.1, .int mm.2.2.1, .int mm.2.2.2])), ((ad 1), .inl (cO, 4, .inr (.inr (.inr (.inr (kx_opsf ad)))))), ((ad 2), .inr (1, [.int ((ops 0).1), .int ((ops 0).2.1), .int ((ops 0).2.2.1), .int ((ops 0).2.2.2.1), .int ((ops 0).2.2.2.2.1), .int ((ops 0).2.2.2.2.2)])), ((ad 3), .inr (1, [.int ((ops 1).1), .int ((ops 1).2.1), .int ((ops 1).2.2.1), .int ((ops 1).2.2.2.1), .int ((ops 1).2.2.2.2.1), .int ((ops 1).2.2.2.2.2)])), ((ad 4), .inr (1, [.int ((ops 2).1), .int ((ops 2).2.1), .int ((ops 2).2.2.1), .int ((ops 2).2.2.2.1), .int ((ops 2).2.2.2.2.1), .int ((ops 2).2.2.2.2.2)])), ((ad 5), .inr (1, [.int ((ops 3).1), .int ((ops 3).2.1), .int ((ops 3).2.2.1), .int ((ops 3).2.2.2.1), .int ((ops 3).2.2.2.2.1), .int ((ops 3).2.2.2.2.2)]))] H locs := hw
    refine lv_if_ne (tgt := 17) hx hb d_RD_read_12 (by decide) (fun h4 => ?_) (fun h4 => ?_)
    · refine lv_aload_n hx hb d_RD_read_17 rfl (lv_at hl 0 rfl) ?_
      refine kx_get S hw fg_RD_11 2 rfl rfl d_RD_read_18 ?_
      refine lv_iload_n hx hb d_RD_read_21 rfl (lv_at hl 1 rfl) ?_
      rcases kx_c4 (l_isFree (hp1 ▸ h2)) with e5 | e5 | e5 | e5
      · refine kx_aald S hw 3 2 rfl rfl (b := (ad 2)) (by rw [e5]; rfl) (l_isFree (hp1 ▸ h2)) d_RD_read_22 ?_
        refine lv_iconst (v := 0) hx hb d_RD_read_23 (by decide) ?_
        refine lv_iload_n hx hb d_RD_read_24 rfl (lv_at hl 2 rfl) ?_
        refine lv_iconst (v := 0) hx hb d_RD_read_25 (by decide) ?_
        refine kx_call_v (wc := [((ad 2), .inr (1, [.int ((ops 0).1), .int ((ops 0).2.1), .int ((ops 0).2.2.1), .int ((ops 0).2.2.2.1), .int ((ops 0).2.2.2.2.1), .int ((ops 0).2.2.2.2.2)]))]) (wr := [((ad 6), .inr (2, [.ref (ad 7), .int fl.2])), ((ad 7), .inl (cI, 4, .inl fl.1)), ((ad 0), .inr (0, [.int mm.1, .ref (ad 1), .ref (ad 6), .ref (ad 8), .ref (ad 10), .ref (ad 11), .ref (ad 12), .ref (ad 13), .ref (ad 14), .ref (ad 19), .ref (ad 20), .int mm.2.1, .int mm.2.2.1, .int mm.2.2.2])), ((ad 1), .inl (cO, 4, .inr (.inr (.inr (.inr (kx_opsf ad)))))), ((ad 3), .inr (1, [.int ((ops 1).1), .int ((ops 1).2.1), .int ((ops 1).2.2.1), .int ((ops 1).2.2.2.1), .int ((ops 1).2.2.2.2.1), .int ((ops 1).2.2.2.2.2)])), ((ad 4), .inr (1, [.int ((ops 2).1), .int ((ops 2).2.1), .int ((ops 2).2.2.1), .int ((ops 2).2.2.2.1), .int ((ops 2).2.2.2.2.1), .int ((ops 2).2.2.2.2.2)])), ((ad 5), .inr (1, [.int ((ops 3).1), .int ((ops 3).2.1), .int ((ops 3).2.2.1), .int ((ops 3).2.2.2.1), .int ((ops 3).2.2.2.2.1), .int ((ops 3).2.2.2.2.2)]))]) (rest := []) hw [4] [0, 1, 2, 3, 5, 6, 7] rfl rfl (by decide) (by decide) (kx_runV S hw fc_RD_71 rfl 4 rfl [4] (by decide) rfl (c_Op_begin l D cI cZ cO (ad 2) (ops 0) 0 b 0 H.size) rfl hl.1 rfl (Nat.le_of_ble_eq_true rfl) d_RD_read_26 (by decide) (by decide)) (fun u6 H locs hp6 hw => ?_)
        obtain ⟨o6, rfl⟩ : ∃ z, z = u6 := ⟨_, rfl⟩
        have hw : kx_w D (kx_T cI cZ cO) A_ s_ [((ad 6), .inr (2, [.ref (ad 7), .int fl.2])), ((ad 7), .inl (cI, 4, .inl fl.1)), ((ad 0), .inr (0, [.int mm.1, .ref (ad 1), .ref (ad 6), .ref (ad 8), .ref (ad 10), .ref (ad 11), .ref (ad 12), .ref (ad 13), .ref (ad 14), .ref (ad 19), .ref (ad 20), .int mm.2.1, .int mm.2.2.1, .int mm.2.2.2])), ((ad 1), .inl (cO, 4, .inr (.inr (.inr (.inr (kx_opsf ad)))))), ((ad 3), .inr (1, [.int ((ops 1).1), .int ((ops 1).2.1), .int ((ops 1).2.2.1), .int ((ops 1).2.2.2.1), .int ((ops 1).2.2.2.2.1), .int ((ops 1).2.2.2.2.2)])), ((ad 4), .inr (1, [.int ((ops 2).1), .int ((ops 2).2.1), .int ((ops 2).2.2.1), .int ((ops 2).2.2.2.1), .int ((ops 2).2.2.2.2.1), .int ((ops 2).2.2.2.2.2)])), ((ad 5), .inr (1, [.int ((ops 3).1), .int ((ops 3).2.1), .int ((ops 3).2.2.1), .int ((ops 3).2.2.2.1), .int ((ops 3).2.2.2.2.1), .int ((ops 3).2.2.2.2.2)])), ((ad 2), .inr (1, [.int o6.1, .int o6.2.1, .int o6.2.2.1, .int o6.2.2.2.1, .int o6.2.2.2.2.1, .int o6.2.2.2.2.2]))] H locs := hw
        refine lv_aload_n hx hb d_RD_read_29 rfl (lv_at hl 0 rfl) ?_
        refine kx_get S hw fg_RD_18 2 rfl rfl d_RD_read_30 ?_
        refine lv_iload_n hx hb d_RD_read_33 rfl (lv_at hl 1 rfl) ?_
        refine kx_call_v (wc := [((ad 6), .inr (2, [.ref (ad 7), .int fl.2])), ((ad 7), .inl (cI, 4, .inl fl.1))]) (wr := [((ad 0), .inr (0, [.int mm.1, .ref (ad 1), .ref (ad 6), .ref (ad 8), .ref (ad 10), .ref (ad 11), .ref (ad 12), .ref (ad 13), .ref (ad 14), .ref (ad 19), .ref (ad 20), .int mm.2.1, .int mm.2.2.1, .int mm.2.2.2])), ((ad 1), .inl (cO, 4, .inr (.inr (.inr (.inr (kx_opsf ad)))))), ((ad 3), .inr (1, [.int ((ops 1).1), .int ((ops 1).2.1), .int ((ops 1).2.2.1), .int ((ops 1).2.2.2.1), .int ((ops 1).2.2.2.2.1), .int ((ops 1).2.2.2.2.2)])), ((ad 4), .inr (1, [.int ((ops 2).1), .int ((ops 2).2.1), .int ((ops 2).2.2.1), .int ((ops 2).2.2.2.1), .int ((ops 2).2.2.2.2.1), .int ((ops 2).2.2.2.2.2)])), ((ad 5), .inr (1, [.int ((ops 3).1), .int ((ops 3).2.1), .int ((ops 3).2.2.1), .int ((ops 3).2.2.2.1), .int ((ops 3).2.2.2.2.1), .int ((ops 3).2.2.2.2.2)])), ((ad 2), .inr (1, [.int o6.1, .int o6.2.1, .int o6.2.2.1, .int o6.2.2.2.1, .int o6.2.2.2.2.1, .int o6.2.2.2.2.2]))]) (rest := []) hw [0, 1] [2, 3, 4, 5, 6, 7] rfl rfl (by decide) (by decide) (kx_runV S hw fc_RD_75 rfl 0 rfl [0, 1] (by decide) rfl (c_Ln_join l D cI cZ cO (ad 6) (ad 7) fl u (hj) H.size) rfl hl.1 rfl (Nat.le_of_ble_eq_true rfl) d_RD_read_34 (by decide) (by decide)) (fun u7 H locs hp7 hw => ?_)
        obtain ⟨n7, rfl⟩ : ∃ z, z = u7 := ⟨_, rfl⟩
        have hw : kx_w D (kx_T cI cZ cO) A_ s_ [((ad 0), .inr (0, [.int mm.1, .ref (ad 1), .ref (ad 6), .ref (ad 8), .ref (ad 10), .ref (ad 11), .ref (ad 12), .ref (ad 13), .ref (ad 14), .ref (ad 19), .ref (ad 20), .int mm.2.1, .int mm.2.2.1, .int mm.2.2.2])), ((ad 1), .inl (cO, 4, .inr (.inr (.inr (.inr (kx_opsf ad)))))), ((ad 3), .inr (1, [.int ((ops 1).1), .int ((ops 1).2.1), .int ((ops 1).2.2.1), .int ((ops 1).2.2.2.1), .int ((ops 1).2.2.2.2.1), .int ((ops 1).2.2.2.2.2)])), ((ad 4), .inr (1, [.int ((ops 2).1), .int ((ops 2).2.1), .int ((ops 2).2.2.1), .int ((ops 2).2.2.2.1), .int ((ops 2).2.2.2.2.1), .int ((ops 2).2.2.2.2.2)])), ((ad 5), .inr (1, [.int ((ops 3).1), .int ((ops 3).2.1), .int ((ops 3).2.2.1), .int ((ops 3).2.2.2.1), .int ((ops 3).2.2.2.2.1), .int ((ops 3).2.2.2.2.2)])), ((ad 2), .inr (1, [.int o6.1, .int o6.2.1, .int o6.2.2.1, .int o6.2.2.2.1, .int o6.2.2.2.2.1, .int o6.2.2.2.2.2])), ((ad 6), .inr (2, [.ref (ad 7), .int n7.2])), ((ad 7), .inl (cI, 4, .inl n7.1))] H locs := hw
        refine lv_iconst (v := 1) hx hb d_RD_read_37 (by decide) ?_
        exact kx_ret_z I rfl hw (Or.inr rfl) (va_up ops 0 o6, n7) ⟨(by simp only [f_RD_read, ← hp1, if_neg h2, ← hp3, if_neg h4, e5, ← hp6, ← hp7]), (Or.inr rfl)⟩ [0, 1, 5, 2, 3, 4, 6, 7] (by decide) rfl d_RD_read_38
      · refine kx_aald S hw 3 2 rfl rfl (b := (ad 3)) (by rw [e5]; rfl) (l_isFree (hp1 ▸ h2)) d_RD_read_22 ?_
        refine lv_iconst (v := 0) hx hb d_RD_read_23 (by decide) ?_
        refine lv_iload_n hx hb d_RD_read_24 rfl (lv_at hl 2 rfl) ?_
        refine lv_iconst (v := 0) hx hb d_RD_read_25 (by decide) ?_
        refine kx_call_v (wc := [((ad 3), .inr (1, [.int ((ops 1).1), .int ((ops 1).2.1), .int ((ops 1).2.2.1), .int ((ops 1).2.2.2.1), .int ((ops 1).2.2.2.2.1), .int ((ops 1).2.2.2.2.2)]))]) (wr := [((ad 6), .inr (2, [.ref (ad 7), .int fl.2])), ((ad 7), .inl (cI, 4, .inl fl.1)), ((ad 0), .inr (0, [.int mm.1, .ref (ad 1), .ref (ad 6), .ref (ad 8), .ref (ad 10), .ref (ad 11), .ref (ad 12), .ref (ad 13), .ref (ad 14), .ref (ad 19), .ref (ad 20), .int mm.2.1, .int mm.2.2.1, .int mm.2.2.2])), ((ad 1), .inl (cO, 4, .inr (.inr (.inr (.inr (kx_opsf ad)))))), ((ad 2), .inr (1, [.int ((ops 0).1), .int ((ops 0).2.1), .int ((ops 0).2.2.1), .int ((ops 0).2.2.2.1), .int ((ops 0).2.2.2.2.1), .int ((ops 0).2.2.2.2.2)])), ((ad 4), .inr (1, [.int ((ops 2).1), .int ((ops 2).2.1), .int ((ops 2).2.2.1), .int ((ops 2).2.2.2.1), .int ((ops 2).2.2.2.2.1), .int ((ops 2).2.2.2.2.2)])), ((ad 5), .inr (1, [.int ((ops 3).1), .int ((ops 3).2.1), .int ((ops 3).2.2.1), .int ((ops 3).2.2.2.1), .int ((ops 3).2.2.2.2.1), .int ((ops 3).2.2.2.2.2)]))]) (rest := []) hw [5] [0, 1, 2, 3, 4, 6, 7] rfl rfl (by decide) (by decide) (kx_runV S hw fc_RD_71 rfl 5 rfl [5] (by decide) rfl (c_Op_begin l D cI cZ cO (ad 3) (ops 1) 0 b 0 H.size) rfl hl.1 rfl (Nat.le_of_ble_eq_true rfl) d_RD_read_26 (by decide) (by decide)) (fun u6 H locs hp6 hw => ?_)
        obtain ⟨o6, rfl⟩ : ∃ z, z = u6 := ⟨_, rfl⟩
        have hw : kx_w D (kx_T cI cZ cO) A_ s_ [((ad 6), .inr (2, [.ref (ad 7), .int fl.2])), ((ad 7), .inl (cI, 4, .inl fl.1)), ((ad 0), .inr (0, [.int mm.1, .ref (ad 1), .ref (ad 6), .ref (ad 8), .ref (ad 10), .ref (ad 11), .ref (ad 12), .ref (ad 13), .ref (ad 14), .ref (ad 19), .ref (ad 20), .int mm.2.1, .int mm.2.2.1, .int mm.2.2.2])), ((ad 1), .inl (cO, 4, .inr (.inr (.inr (.inr (kx_opsf ad)))))), ((ad 2), .inr (1, [.int ((ops 0).1), .int ((ops 0).2.1), .int ((ops 0).2.2.1), .int ((ops 0).2.2.2.1), .int ((ops 0).2.2.2.2.1), .int ((ops 0).2.2.2.2.2)])), ((ad 4), .inr (1, [.int ((ops 2).1), .int ((ops 2).2.1), .int ((ops 2).2.2.1), .int ((ops 2).2.2.2.1), .int ((ops 2).2.2.2.2.1), .int ((ops 2).2.2.2.2.2)])), ((ad 5), .inr (1, [.int ((ops 3).1), .int ((ops 3).2.1), .int ((ops 3).2.2.1), .int ((ops 3).2.2.2.1), .int ((ops 3).2.2.2.2.1), .int ((ops 3).2.2.2.2.2)])), ((ad 3), .inr (1, [.int o6.1, .int o6.2.1, .int o6.2.2.1, .int o6.2.2.2.1, .int o6.2.2.2.2.1, .int o6.2.2.2.2.2]))] H locs := hw
        refine lv_aload_n hx hb d_RD_read_29 rfl (lv_at hl 0 rfl) ?_
        refine kx_get S hw fg_RD_18 2 rfl rfl d_RD_read_30 ?_
        refine lv_iload_n hx hb d_RD_read_33 rfl (lv_at hl 1 rfl) ?_
        refine kx_call_v (wc := [((ad 6), .inr (2, [.ref (ad 7), .int fl.2])), ((ad 7), .inl (cI, 4, .inl fl.1))]) (wr := [((ad 0), .inr (0, [.int mm.1, .ref (ad 1), .ref (ad 6), .ref (ad 8), .ref (ad 10), .ref (ad 11), .ref (ad 12), .ref (ad 13), .ref (ad 14), .ref (ad 19), .ref (ad 20), .int mm.2.1, .int mm.2.2.1, .int mm.2.2.2])), ((ad 1), .inl (cO, 4, .inr (.inr (.inr (.inr (kx_opsf ad)))))), ((ad 2), .inr (1, [.int ((ops 0).1), .int ((ops 0).2.1), .int ((ops 0).2.2.1), .int ((ops 0).2.2.2.1), .int ((ops 0).2.2.2.2.1), .int ((ops 0).2.2.2.2.2)])), ((ad 4), .inr (1, [.int ((ops 2).1), .int ((ops 2).2.1), .int ((ops 2).2.2.1), .int ((ops 2).2.2.2.1), .int ((ops 2).2.2.2.2.1), .int ((ops 2).2.2.2.2.2)])), ((ad 5), .inr (1, [.int ((ops 3).1), .int ((ops 3).2.1), .int ((ops 3).2.2.1), .int ((ops 3).2.2.2.1), .int ((ops 3).2.2.2.2.1), .int ((ops 3).2.2.2.2.2)])), ((ad 3), .inr (1, [.int o6.1, .int o6.2.1, .int o6.2.2.1, .int o6.2.2.2.1, .int o6.2.2.2.2.1, .int o6.2.2.2.2.2]))]) (rest := []) hw [0, 1] [2, 3, 4, 5, 6, 7] rfl rfl (by decide) (by decide) (kx_runV S hw fc_RD_75 rfl 0 rfl [0, 1] (by decide) rfl (c_Ln_join l D cI cZ cO (ad 6) (ad 7) fl u (hj) H.size) rfl hl.1 rfl (Nat.le_of_ble_eq_true rfl) d_RD_read_34 (by decide) (by decide)) (fun u7 H locs hp7 hw => ?_)
        obtain ⟨n7, rfl⟩ : ∃ z, z = u7 := ⟨_, rfl⟩
        have hw : kx_w D (kx_T cI cZ cO) A_ s_ [((ad 0), .inr (0, [.int mm.1, .ref (ad 1), .ref (ad 6), .ref (ad 8), .ref (ad 10), .ref (ad 11), .ref (ad 12), .ref (ad 13), .ref (ad 14), .ref (ad 19), .ref (ad 20), .int mm.2.1, .int mm.2.2.1, .int mm.2.2.2])), ((ad 1), .inl (cO, 4, .inr (.inr (.inr (.inr (kx_opsf ad)))))), ((ad 2), .inr (1, [.int ((ops 0).1), .int ((ops 0).2.1), .int ((ops 0).2.2.1), .int ((ops 0).2.2.2.1), .int ((ops 0).2.2.2.2.1), .int ((ops 0).2.2.2.2.2)])), ((ad 4), .inr (1, [.int ((ops 2).1), .int ((ops 2).2.1), .int ((ops 2).2.2.1), .int ((ops 2).2.2.2.1), .int ((ops 2).2.2.2.2.1), .int ((ops 2).2.2.2.2.2)])), ((ad 5), .inr (1, [.int ((ops 3).1), .int ((ops 3).2.1), .int ((ops 3).2.2.1), .int ((ops 3).2.2.2.1), .int ((ops 3).2.2.2.2.1), .int ((ops 3).2.2.2.2.2)])), ((ad 3), .inr (1, [.int o6.1, .int o6.2.1, .int o6.2.2.1, .int o6.2.2.2.1, .int o6.2.2.2.2.1, .int o6.2.2.2.2.2])), ((ad 6), .inr (2, [.ref (ad 7), .int n7.2])), ((ad 7), .inl (cI, 4, .inl n7.1))] H locs := hw
        refine lv_iconst (v := 1) hx hb d_RD_read_37 (by decide) ?_
        exact kx_ret_z I rfl hw (Or.inr rfl) (va_up ops 1 o6, n7) ⟨(by simp only [f_RD_read, ← hp1, if_neg h2, ← hp3, if_neg h4, e5, ← hp6, ← hp7]), (Or.inr rfl)⟩ [0, 1, 2, 5, 3, 4, 6, 7] (by decide) rfl d_RD_read_38
      · refine kx_aald S hw 3 2 rfl rfl (b := (ad 4)) (by rw [e5]; rfl) (l_isFree (hp1 ▸ h2)) d_RD_read_22 ?_
        refine lv_iconst (v := 0) hx hb d_RD_read_23 (by decide) ?_
        refine lv_iload_n hx hb d_RD_read_24 rfl (lv_at hl 2 rfl) ?_
        refine lv_iconst (v := 0) hx hb d_RD_read_25 (by decide) ?_
        refine kx_call_v (wc := [((ad 4), .inr (1, [.int ((ops 2).1), .int ((ops 2).2.1), .int ((ops 2).2.2.1), .int ((ops 2).2.2.2.1), .int ((ops 2).2.2.2.2.1), .int ((ops 2).2.2.2.2.2)]))]) (wr := [((ad 6), .inr (2, [.ref (ad 7), .int fl.2])), ((ad 7), .inl (cI, 4, .inl fl.1)), ((ad 0), .inr (0, [.int mm.1, .ref (ad 1), .ref (ad 6), .ref (ad 8), .ref (ad 10), .ref (ad 11), .ref (ad 12), .ref (ad 13), .ref (ad 14), .ref (ad 19), .ref (ad 20), .int mm.2.1, .int mm.2.2.1, .int mm.2.2.2])), ((ad 1), .inl (cO, 4, .inr (.inr (.inr (.inr (kx_opsf ad)))))), ((ad 2), .inr (1, [.int ((ops 0).1), .int ((ops 0).2.1), .int ((ops 0).2.2.1), .int ((ops 0).2.2.2.1), .int ((ops 0).2.2.2.2.1), .int ((ops 0).2.2.2.2.2)])), ((ad 3), .inr (1, [.int ((ops 1).1), .int ((ops 1).2.1), .int ((ops 1).2.2.1), .int ((ops 1).2.2.2.1), .int ((ops 1).2.2.2.2.1), .int ((ops 1).2.2.2.2.2)])), ((ad 5), .inr (1, [.int ((ops 3).1), .int ((ops 3).2.1), .int ((ops 3).2.2.1), .int ((ops 3).2.2.2.1), .int ((ops 3).2.2.2.2.1), .int ((ops 3).2.2.2.2.2)]))]) (rest := []) hw [6] [0, 1, 2, 3, 4, 5, 7] rfl rfl (by decide) (by decide) (kx_runV S hw fc_RD_71 rfl 6 rfl [6] (by decide) rfl (c_Op_begin l D cI cZ cO (ad 4) (ops 2) 0 b 0 H.size) rfl hl.1 rfl (Nat.le_of_ble_eq_true rfl) d_RD_read_26 (by decide) (by decide)) (fun u6 H locs hp6 hw => ?_)
        obtain ⟨o6, rfl⟩ : ∃ z, z = u6 := ⟨_, rfl⟩
        have hw : kx_w D (kx_T cI cZ cO) A_ s_ [((ad 6), .inr (2, [.ref (ad 7), .int fl.2])), ((ad 7), .inl (cI, 4, .inl fl.1)), ((ad 0), .inr (0, [.int mm.1, .ref (ad 1), .ref (ad 6), .ref (ad 8), .ref (ad 10), .ref (ad 11), .ref (ad 12), .ref (ad 13), .ref (ad 14), .ref (ad 19), .ref (ad 20), .int mm.2.1, .int mm.2.2.1, .int mm.2.2.2])), ((ad 1), .inl (cO, 4, .inr (.inr (.inr (.inr (kx_opsf ad)))))), ((ad 2), .inr (1, [.int ((ops 0).1), .int ((ops 0).2.1), .int ((ops 0).2.2.1), .int ((ops 0).2.2.2.1), .int ((ops 0).2.2.2.2.1), .int ((ops 0).2.2.2.2.2)])), ((ad 3), .inr (1, [.int ((ops 1).1), .int ((ops 1).2.1), .int ((ops 1).2.2.1), .int ((ops 1).2.2.2.1), .int ((ops 1).2.2.2.2.1), .int ((ops 1).2.2.2.2.2)])), ((ad 5), .inr (1, [.int ((ops 3).1), .int ((ops 3).2.1), .int ((ops 3).2.2.1), .int ((ops 3).2.2.2.1), .int ((ops 3).2.2.2.2.1), .int ((ops 3).2.2.2.2.2)])), ((ad 4), .inr (1, [.int o6.1, .int o6.2.1, .int o6.2.2.1, .int o6.2.2.2.1, .int o6.2.2.2.2.1, .int o6.2.2.2.2.2]))] H locs := hw
        refine lv_aload_n hx hb d_RD_read_29 rfl (lv_at hl 0 rfl) ?_
        refine kx_get S hw fg_RD_18 2 rfl rfl d_RD_read_30 ?_
        refine lv_iload_n hx hb d_RD_read_33 rfl (lv_at hl 1 rfl) ?_
        refine kx_call_v (wc := [((ad 6), .inr (2, [.ref (ad 7), .int fl.2])), ((ad 7), .inl (cI, 4, .inl fl.1))]) (wr := [((ad 0), .inr (0, [.int mm.1, .ref (ad 1), .ref (ad 6), .ref (ad 8), .ref (ad 10), .ref (ad 11), .ref (ad 12), .ref (ad 13), .ref (ad 14), .ref (ad 19), .ref (ad 20), .int mm.2.1, .int mm.2.2.1, .int mm.2.2.2])), ((ad 1), .inl (cO, 4, .inr (.inr (.inr (.inr (kx_opsf ad)))))), ((ad 2), .inr (1, [.int ((ops 0).1), .int ((ops 0).2.1), .int ((ops 0).2.2.1), .int ((ops 0).2.2.2.1), .int ((ops 0).2.2.2.2.1), .int ((ops 0).2.2.2.2.2)])), ((ad 3), .inr (1, [.int ((ops 1).1), .int ((ops 1).2.1), .int ((ops 1).2.2.1), .int ((ops 1).2.2.2.1), .int ((ops 1).2.2.2.2.1), .int ((ops 1).2.2.2.2.2)])), ((ad 5), .inr (1, [.int ((ops 3).1), .int ((ops 3).2.1), .int ((ops 3).2.2.1), .int ((ops 3).2.2.2.1), .int ((ops 3).2.2.2.2.1), .int ((ops 3).2.2.2.2.2)])), ((ad 4), .inr (1, [.int o6.1, .int o6.2.1, .int o6.2.2.1, .int o6.2.2.2.1, .int o6.2.2.2.2.1, .int o6.2.2.2.2.2]))]) (rest := []) hw [0, 1] [2, 3, 4, 5, 6, 7] rfl rfl (by decide) (by decide) (kx_runV S hw fc_RD_75 rfl 0 rfl [0, 1] (by decide) rfl (c_Ln_join l D cI cZ cO (ad 6) (ad 7) fl u (hj) H.size) rfl hl.1 rfl (Nat.le_of_ble_eq_true rfl) d_RD_read_34 (by decide) (by decide)) (fun u7 H locs hp7 hw => ?_)
        obtain ⟨n7, rfl⟩ : ∃ z, z = u7 := ⟨_, rfl⟩
        have hw : kx_w D (kx_T cI cZ cO) A_ s_ [((ad 0), .inr (0, [.int mm.1, .ref (ad 1), .ref (ad 6), .ref (ad 8), .ref (ad 10), .ref (ad 11), .ref (ad 12), .ref (ad 13), .ref (ad 14), .ref (ad 19), .ref (ad 20), .int mm.2.1, .int mm.2.2.1, .int mm.2.2.2])), ((ad 1), .inl (cO, 4, .inr (.inr (.inr (.inr (kx_opsf ad)))))), ((ad 2), .inr (1, [.int ((ops 0).1), .int ((ops 0).2.1), .int ((ops 0).2.2.1), .int ((ops 0).2.2.2.1), .int ((ops 0).2.2.2.2.1), .int ((ops 0).2.2.2.2.2)])), ((ad 3), .inr (1, [.int ((ops 1).1), .int ((ops 1).2.1), .int ((ops 1).2.2.1), .int ((ops 1).2.2.2.1), .int ((ops 1).2.2.2.2.1), .int ((ops 1).2.2.2.2.2)])), ((ad 5), .inr (1, [.int ((ops 3).1), .int ((ops 3).2.1), .int ((ops 3).2.2.1), .int ((ops 3).2.2.2.1), .int ((ops 3).2.2.2.2.1), .int ((ops 3).2.2.2.2.2)])), ((ad 4), .inr (1, [.int o6.1, .int o6.2.1, .int o6.2.2.1, .int o6.2.2.2.1, .int o6.2.2.2.2.1, .int o6.2.2.2.2.2])), ((ad 6), .inr (2, [.ref (ad 7), .int n7.2])), ((ad 7), .inl (cI, 4, .inl n7.1))] H locs := hw
        refine lv_iconst (v := 1) hx hb d_RD_read_37 (by decide) ?_
        exact kx_ret_z I rfl hw (Or.inr rfl) (va_up ops 2 o6, n7) ⟨(by simp only [f_RD_read, ← hp1, if_neg h2, ← hp3, if_neg h4, e5, ← hp6, ← hp7]), (Or.inr rfl)⟩ [0, 1, 2, 3, 5, 4, 6, 7] (by decide) rfl d_RD_read_38
      · refine kx_aald S hw 3 2 rfl rfl (b := (ad 5)) (by rw [e5]; rfl) (l_isFree (hp1 ▸ h2)) d_RD_read_22 ?_
        refine lv_iconst (v := 0) hx hb d_RD_read_23 (by decide) ?_
        refine lv_iload_n hx hb d_RD_read_24 rfl (lv_at hl 2 rfl) ?_
        refine lv_iconst (v := 0) hx hb d_RD_read_25 (by decide) ?_
        refine kx_call_v (wc := [((ad 5), .inr (1, [.int ((ops 3).1), .int ((ops 3).2.1), .int ((ops 3).2.2.1), .int ((ops 3).2.2.2.1), .int ((ops 3).2.2.2.2.1), .int ((ops 3).2.2.2.2.2)]))]) (wr := [((ad 6), .inr (2, [.ref (ad 7), .int fl.2])), ((ad 7), .inl (cI, 4, .inl fl.1)), ((ad 0), .inr (0, [.int mm.1, .ref (ad 1), .ref (ad 6), .ref (ad 8), .ref (ad 10), .ref (ad 11), .ref (ad 12), .ref (ad 13), .ref (ad 14), .ref (ad 19), .ref (ad 20), .int mm.2.1, .int mm.2.2.1, .int mm.2.2.2])), ((ad 1), .inl (cO, 4, .inr (.inr (.inr (.inr (kx_opsf ad)))))), ((ad 2), .inr (1, [.int ((ops 0).1), .int ((ops 0).2.1), .int ((ops 0).2.2.1), .int ((ops 0).2.2.2.1), .int ((ops 0).2.2.2.2.1), .int ((ops 0).2.2.2.2.2)])), ((ad 3), .inr (1, [.int ((ops 1).1), .int ((ops 1).2.1), .int ((ops 1).2.2.1), .int ((ops 1).2.2.2.1), .int ((ops 1).2.2.2.2.1), .int ((ops 1).2.2.2.2.2)])), ((ad 4), .inr (1, [.int ((ops 2).1), .int ((ops 2).2.1), .int ((ops 2).2.2.1), .int ((ops 2).2.2.2.1), .int ((ops 2).2.2.2.2.1), .int ((ops 2).2.2.2.2.2)]))]) (rest := []) hw [7] [0, 1, 2, 3, 4, 5, 6] rfl rfl (by decide) (by decide) (kx_runV S hw fc_RD_71 rfl 7 rfl [7] (by decide) rfl (c_Op_begin l D cI cZ cO (ad 5) (ops 3) 0 b 0 H.size) rfl hl.1 rfl (Nat.le_of_ble_eq_true rfl) d_RD_read_26 (by decide) (by decide)) (fun u6 H locs hp6 hw => ?_)
        obtain ⟨o6, rfl⟩ : ∃ z, z = u6 := ⟨_, rfl⟩
        have hw : kx_w D (kx_T cI cZ cO) A_ s_ [((ad 6), .inr (2, [.ref (ad 7), .int fl.2])), ((ad 7), .inl (cI, 4, .inl fl.1)), ((ad 0), .inr (0, [.int mm.1, .ref (ad 1), .ref (ad 6), .ref (ad 8), .ref (ad 10), .ref (ad 11), .ref (ad 12), .ref (ad 13), .ref (ad 14), .ref (ad 19), .ref (ad 20), .int mm.2.1, .int mm.2.2.1, .int mm.2.2.2])), ((ad 1), .inl (cO, 4, .inr (.inr (.inr (.inr (kx_opsf ad)))))), ((ad 2), .inr (1, [.int ((ops 0).1), .int ((ops 0).2.1), .int ((ops 0).2.2.1), .int ((ops 0).2.2.2.1), .int ((ops 0).2.2.2.2.1), .int ((ops 0).2.2.2.2.2)])), ((ad 3), .inr (1, [.int ((ops 1).1), .int ((ops 1).2.1), .int ((ops 1).2.2.1), .int ((ops 1).2.2.2.1), .int ((ops 1).2.2.2.2.1), .int ((ops 1).2.2.2.2.2)])), ((ad 4), .inr (1, [.int ((ops 2).1), .int ((ops 2).2.1), .int ((ops 2).2.2.1), .int ((ops 2).2.2.2.1), .int ((ops 2).2.2.2.2.1), .int ((ops 2).2.2.2.2.2)])), ((ad 5), .inr (1, [.int o6.1, .int o6.2.1, .int o6.2.2.1, .int o6.2.2.2.1, .int o6.2.2.2.2.1, .int o6.2.2.2.2.2]))] H locs := hw
        refine lv_aload_n hx hb d_RD_read_29 rfl (lv_at hl 0 rfl) ?_
        refine kx_get S hw fg_RD_18 2 rfl rfl d_RD_read_30 ?_
        refine lv_iload_n hx hb d_RD_read_33 rfl (lv_at hl 1 rfl) ?_
        refine kx_call_v (wc := [((ad 6), .inr (2, [.ref (ad 7), .int fl.2])), ((ad 7), .inl (cI, 4, .inl fl.1))]) (wr := [((ad 0), .inr (0, [.int mm.1, .ref (ad 1), .ref (ad 6), .ref (ad 8), .ref (ad 10), .ref (ad 11), .ref (ad 12), .ref (ad 13), .ref (ad 14), .ref (ad 19), .ref (ad 20), .int mm.2.1, .int mm.2.2.1, .int mm.2.2.2])), ((ad 1), .inl (cO, 4, .inr (.inr (.inr (.inr (kx_opsf ad)))))), ((ad 2), .inr (1, [.int ((ops 0).1), .int ((ops 0).2.1), .int ((ops 0).2.2.1), .int ((ops 0).2.2.2.1), .int ((ops 0).2.2.2.2.1), .int ((ops 0).2.2.2.2.2)])), ((ad 3), .inr (1, [.int ((ops 1).1), .int ((ops 1).2.1), .int ((ops 1).2.2.1), .int ((ops 1).2.2.2.1), .int ((ops 1).2.2.2.2.1), .int ((ops 1).2.2.2.2.2)])), ((ad 4), .inr (1, [.int ((ops 2).1), .int ((ops 2).2.1), .int ((ops 2).2.2.1), .int ((ops 2).2.2.2.1), .int ((ops 2).2.2.2.2.1), .int ((ops 2).2.2.2.2.2)])), ((ad 5), .inr (1, [.int o6.1, .int o6.2.1, .int o6.2.2.1, .int o6.2.2.2.1, .int o6.2.2.2.2.1, .int o6.2.2.2.2.2]))]) (rest := []) hw [0, 1] [2, 3, 4, 5, 6, 7] rfl rfl (by decide) (by decide) (kx_runV S hw fc_RD_75 rfl 0 rfl [0, 1] (by decide) rfl (c_Ln_join l D cI cZ cO (ad 6) (ad 7) fl u (hj) H.size) rfl hl.1 rfl (Nat.le_of_ble_eq_true rfl) d_RD_read_34 (by decide) (by decide)) (fun u7 H locs hp7 hw => ?_)
        obtain ⟨n7, rfl⟩ : ∃ z, z = u7 := ⟨_, rfl⟩
        have hw : kx_w D (kx_T cI cZ cO) A_ s_ [((ad 0), .inr (0, [.int mm.1, .ref (ad 1), .ref (ad 6), .ref (ad 8), .ref (ad 10), .ref (ad 11), .ref (ad 12), .ref (ad 13), .ref (ad 14), .ref (ad 19), .ref (ad 20), .int mm.2.1, .int mm.2.2.1, .int mm.2.2.2])), ((ad 1), .inl (cO, 4, .inr (.inr (.inr (.inr (kx_opsf ad)))))), ((ad 2), .inr (1, [.int ((ops 0).1), .int ((ops 0).2.1), .int ((ops 0).2.2.1), .int ((ops 0).2.2.2.1), .int ((ops 0).2.2.2.2.1), .int ((ops 0).2.2.2.2.2)])), ((ad 3), .inr (1, [.int ((ops 1).1), .int ((ops 1).2.1), .int ((ops 1).2.2.1), .int ((ops 1).2.2.2.1), .int ((ops 1).2.2.2.2.1), .int ((ops 1).2.2.2.2.2)])), ((ad 4), .inr (1, [.int ((ops 2).1), .int ((ops 2).2.1), .int ((ops 2).2.2.1), .int ((ops 2).2.2.2.1), .int ((ops 2).2.2.2.2.1), .int ((ops 2).2.2.2.2.2)])), ((ad 5), .inr (1, [.int o6.1, .int o6.2.1, .int o6.2.2.1, .int o6.2.2.2.1, .int o6.2.2.2.2.1, .int o6.2.2.2.2.2])), ((ad 6), .inr (2, [.ref (ad 7), .int n7.2])), ((ad 7), .inl (cI, 4, .inl n7.1))] H locs := hw
        refine lv_iconst (v := 1) hx hb d_RD_read_37 (by decide) ?_
        exact kx_ret_z I rfl hw (Or.inr rfl) (va_up ops 3 o6, n7) ⟨(by simp only [f_RD_read, ← hp1, if_neg h2, ← hp3, if_neg h4, e5, ← hp6, ← hp7]), (Or.inr rfl)⟩ [0, 1, 2, 3, 4, 5, 6, 7] (by decide) rfl d_RD_read_38
    · refine lv_iconst (v := 0) hx hb d_RD_read_15 (by decide) ?_
      exact kx_ret_z I rfl hw (Or.inl rfl) (ops, fl) ⟨(by simp only [f_RD_read, ← hp1, if_neg h2, ← hp3, if_pos h4]), (Or.inl rfl)⟩ [2, 3, 4, 5, 6, 7, 0, 1] (by decide) rfl d_RD_read_16
def f_RD_write (mm : kt_M) (ops : (Nat → kt_Op)) (fl : kt_Ln) (u : Int32) (b : Int32) (v : Int32) : Int32 × (Nat → kt_Op) × kt_Ln :=
  match f_RD_isFree mm ops u with
  | r1 => if r1 = 0 then (0, ops, fl)
    else match f_RD_isBlock b with
    | r3 => if r3 = 0 then (0, ops, fl)
      else match f_Op_begin (ops u.toNatClampNeg) 1 b v with
      | o6 => match f_Ln_join fl u with
        | n7 => (1, va_up ops u.toNatClampNeg o6, n7)
set_option maxHeartbeats 4000000 in
set_option maxRecDepth 100000 in
theorem c_RD_write (l : Launch) (D : va_G) (cI cZ cO : ClassId) (ad : Nat → Nat) (mm : kt_M) (ops : (Nat → kt_Op)) (fl : kt_Ln) (u : Int32) (b : Int32) (v : Int32) (hj : 0 ≤ fl.2) : kx_Ci (S := (Nat → kt_Op) × kt_Ln) l y_RD_write b_RD_write 4 (some .boolean) 2 0 0 D (kx_T cI cZ cO) [.ref (ad 0), .int u, .int b, .int v] [((ad 0), .inr (0, [.int mm.1, .ref (ad 1), .ref (ad 6), .ref (ad 8), .ref (ad 10), .ref (ad 11), .ref (ad 12), .ref (ad 13), .ref (ad 14), .ref (ad 19), .ref (ad 20), .int mm.2.1, .int mm.2.2.1, .int mm.2.2.2])), ((ad 1), .inl (cO, 4, .inr (.inr (.inr (.inr (kx_opsf ad)))))), ((ad 2), .inr (1, [.int ((ops 0).1), .int ((ops 0).2.1), .int ((ops 0).2.2.1), .int ((ops 0).2.2.2.1), .int ((ops 0).2.2.2.2.1), .int ((ops 0).2.2.2.2.2)])), ((ad 3), .inr (1, [.int ((ops 1).1), .int ((ops 1).2.1), .int ((ops 1).2.2.1), .int ((ops 1).2.2.2.1), .int ((ops 1).2.2.2.2.1), .int ((ops 1).2.2.2.2.2)])), ((ad 4), .inr (1, [.int ((ops 2).1), .int ((ops 2).2.1), .int ((ops 2).2.2.1), .int ((ops 2).2.2.2.1), .int ((ops 2).2.2.2.2.1), .int ((ops 2).2.2.2.2.2)])), ((ad 5), .inr (1, [.int ((ops 3).1), .int ((ops 3).2.1), .int ((ops 3).2.2.1), .int ((ops 3).2.2.2.1), .int ((ops 3).2.2.2.2.1), .int ((ops 3).2.2.2.2.2)])), ((ad 6), .inr (2, [.ref (ad 7), .int fl.2])), ((ad 7), .inl (cI, 4, .inl fl.1))] (fun rr zz => (rr, zz) = f_RD_write mm ops fl u b v ∧ kx_b rr) (fun zz => [((ad 0), .inr (0, [.int mm.1, .ref (ad 1), .ref (ad 6), .ref (ad 8), .ref (ad 10), .ref (ad 11), .ref (ad 12), .ref (ad 13), .ref (ad 14), .ref (ad 19), .ref (ad 20), .int mm.2.1, .int mm.2.2.1, .int mm.2.2.2])), ((ad 1), .inl (cO, 4, .inr (.inr (.inr (.inr (kx_opsf ad)))))), ((ad 2), .inr (1, [.int ((zz.1 0).1), .int ((zz.1 0).2.1), .int ((zz.1 0).2.2.1), .int ((zz.1 0).2.2.2.1), .int ((zz.1 0).2.2.2.2.1), .int ((zz.1 0).2.2.2.2.2)])), ((ad 3), .inr (1, [.int ((zz.1 1).1), .int ((zz.1 1).2.1), .int ((zz.1 1).2.2.1), .int ((zz.1 1).2.2.2.1), .int ((zz.1 1).2.2.2.2.1), .int ((zz.1 1).2.2.2.2.2)])), ((ad 4), .inr (1, [.int ((zz.1 2).1), .int ((zz.1 2).2.1), .int ((zz.1 2).2.2.1), .int ((zz.1 2).2.2.2.1), .int ((zz.1 2).2.2.2.2.1), .int ((zz.1 2).2.2.2.2.2)])), ((ad 5), .inr (1, [.int ((zz.1 3).1), .int ((zz.1 3).2.1), .int ((zz.1 3).2.2.1), .int ((zz.1 3).2.2.2.1), .int ((zz.1 3).2.2.2.2.1), .int ((zz.1 3).2.2.2.2.2)])), ((ad 6), .inr (2, [.ref (ad 7), .int zz.2.2])), ((ad 7), .inl (cI, 4, .inl zz.2.1))]) := by
  refine kx_enter_i (by decide) (Nat.le_of_ble_eq_true rfl) ?_
  intro p_ e_ s_ m_ below_ meth_ c_ ls A_ H I hl hw
  have S := I.1
  have hx := S.1
  have hb := S.2.1
  have hl : lv_has ls 4 [(0, .ref (ad 0)), (1, .int u), (2, .int b), (3, .int v)] := hl
  refine lv_aload_n hx hb d_RD_write_0 rfl (lv_at hl 0 rfl) ?_
  refine lv_iload_n hx hb d_RD_write_1 rfl (lv_at hl 1 rfl) ?_
  refine kx_call_i (wc := [((ad 0), .inr (0, [.int mm.1, .ref (ad 1), .ref (ad 6), .ref (ad 8), .ref (ad 10), .ref (ad 11), .ref (ad 12), .ref (ad 13), .ref (ad 14), .ref (ad 19), .ref (ad 20), .int mm.2.1, .int mm.2.2.1, .int mm.2.2.2])), ((ad 1), .inl (cO, 4, .inr (.inr (.inr (.inr (kx_opsf ad)))))), ((ad 2), .inr (1, [.int ((ops 0).1), .int ((ops 0).2.1), .int ((ops 0).2.2.1), .int ((ops 0).2.2.2.1), .int ((ops 0).2.2.2.2.1), .int ((ops 0).2.2.2.2.2)])), ((ad 3), .inr (1, [.int ((ops 1).1), .int ((ops 1).2.1), .int ((ops 1).2.2.1), .int ((ops 1).2.2.2.1), .int ((ops 1).2.2.2.2.1), .int ((ops 1).2.2.2.2.2)])), ((ad 4), .inr (1, [.int ((ops 2).1), .int ((ops 2).2.1), .int ((ops 2).2.2.1), .int ((ops 2).2.2.2.1), .int ((ops 2).2.2.2.2.1), .int ((ops 2).2.2.2.2.2)])), ((ad 5), .inr (1, [.int ((ops 3).1), .int ((ops 3).2.1), .int ((ops 3).2.2.1), .int ((ops 3).2.2.2.1), .int ((ops 3).2.2.2.2.1), .int ((ops 3).2.2.2.2.2)]))]) (wr := [((ad 6), .inr (2, [.ref (ad 7), .int fl.2])), ((ad 7), .inl (cI, 4, .inl fl.1))]) (rest := []) hw [0, 1, 2, 3, 4, 5] [6, 7] rfl rfl (by decide) (by decide) (kx_runV S hw fc_RD_64 rfl 0 rfl [0, 1, 2, 3, 4, 5] (by decide) rfl (c_RD_isFree l D cI cZ cO ad mm ops u H.size) rfl hl.1 rfl (Nat.le_of_ble_eq_true rfl) d_RD_write_2 (by decide) (by decide)) (fun r1 u1 H locs hp1 hw => ?_)
  obtain ⟨hp1, hb1⟩ := hp1
  have hw : kx_w D (kx_T cI cZ cO) A_ s_ [((ad 6), .inr (2, [.ref (ad 7), .int fl.2])), ((ad 7), .inl (cI, 4, .inl fl.1)), ((ad 0), .inr (0, [.int mm.1, .ref (ad 1), .ref (ad 6), .ref (ad 8), .ref (ad 10), .ref (ad 11), .ref (ad 12), .ref (ad 13), .ref (ad 14), .ref (ad 19), .ref (ad 20), .int mm.2.1, .int mm.2.2.1, .int mm.2.2.2])), ((ad 1), .inl (cO, 4, .inr (.inr (.inr (.inr (kx_opsf ad)))))), ((ad 2), .inr (1, [.int ((ops 0).1), .int ((ops 0).2.1), .int ((ops 0).2.2.1), .int ((ops 0).2.2.2.1), .int ((ops 0).2.2.2.2.1), .int ((ops 0).2.2.2.2.2)])), ((ad 3), .inr (1, [.int ((ops 1).1), .int ((ops 1).2.1), .int ((ops 1).2.2.1), .int ((ops 1).2.2.2.1), .int ((ops 1).2.2.2.2.1), .int ((ops 1).2.2.2.2.2)])), ((ad 4), .inr (1, [.int ((ops 2).1), .int ((ops 2).2.1), .int ((ops 2).2.2.1), .int ((ops 2).2.2.2.1), .int ((ops 2).2.2.2.2.1), .int ((ops 2).2.2.2.2.2)])), ((ad 5), .inr (1, [.int ((ops 3).1), .int ((ops 3).2.1), .int ((ops 3).2.2.1), .int ((ops 3).2.2.2.1), .int ((ops 3).2.2.2.2.1), .int ((ops 3).2.2.2.2.2)]))] H locs := hw
  refine lv_if_eq (tgt := 15) hx hb d_RD_write_5 (by decide) (fun h2 => ?_) (fun h2 => ?_)
  · refine lv_iconst (v := 0) hx hb d_RD_write_15 (by decide) ?_
    exact kx_ret_z I rfl hw (Or.inl rfl) (ops, fl) ⟨(by simp only [f_RD_write, ← hp1, if_pos h2]), (Or.inl rfl)⟩ [2, 3, 4, 5, 6, 7, 0, 1] (by decide) rfl d_RD_write_16
  · refine lv_iload_n hx hb d_RD_write_8 rfl (lv_at hl 2 rfl) ?_
    refine kx_call_i (wc := []) (wr := [((ad 6), .inr (2, [.ref (ad 7), .int fl.2])), ((ad 7), .inl (cI, 4, .inl fl.1)), ((ad 0), .inr (0, [.int mm.1, .ref (ad 1), .ref (ad 6), .ref (ad 8), .ref (ad 10), .ref (ad 11), .ref (ad 12), .ref (ad 13), .ref (ad 14), .ref (ad 19), .ref (ad 20), .int mm.2.1, .int mm.2.2.1, .int mm.2.2.2])), ((ad 1), .inl (cO, 4, .inr (.inr (.inr (.inr (kx_opsf ad)))))), ((ad 2), .inr (1, [.int ((ops 0).1), .int ((ops 0).2.1), .int ((ops 0).2.2.1), .int ((ops 0).2.2.2.1), .int ((ops 0).2.2.2.2.1), .int ((ops 0).2.2.2.2.2)])), ((ad 3), .inr (1, [.int ((ops 1).1), .int ((ops 1).2.1), .int ((ops 1).2.2.1), .int ((ops 1).2.2.2.1), .int ((ops 1).2.2.2.2.1), .int ((ops 1).2.2.2.2.2)])), ((ad 4), .inr (1, [.int ((ops 2).1), .int ((ops 2).2.1), .int ((ops 2).2.2.1), .int ((ops 2).2.2.2.1), .int ((ops 2).2.2.2.2.1), .int ((ops 2).2.2.2.2.2)])), ((ad 5), .inr (1, [.int ((ops 3).1), .int ((ops 3).2.1), .int ((ops 3).2.2.1), .int ((ops 3).2.2.2.1), .int ((ops 3).2.2.2.2.1), .int ((ops 3).2.2.2.2.2)]))]) (rest := []) hw [] [0, 1, 2, 3, 4, 5, 6, 7] rfl rfl (by decide) (by decide) (kx_runS S hw fc_RD_68 [] (by decide) rfl (c_RD_isBlock l D cI cZ cO b H.size) rfl hl.1 rfl (Nat.le_of_ble_eq_true rfl) d_RD_write_9 (by decide) (by decide)) (fun r3 u3 H locs hp3 hw => ?_)
    obtain ⟨hp3, hb3⟩ := hp3
    have hw : kx_w D (kx_T cI cZ cO) A_ s_ [((ad 6), .inr (2, [.ref (ad 7), .int fl.2])), ((ad 7), .inl (cI, 4, .inl fl.1)), ((ad 0), .inr (0, [.int mm.1, .ref (ad 1), .ref (ad 6), .ref (ad 8), .ref (ad 10), .ref (ad 11), .ref (ad 12), .ref (ad 13), .ref (ad 14), .ref (ad 19), .ref (ad 20), .int mm.2.1, .int mm.2.2.1, .int mm.2.2.2])), ((ad 1), .inl (cO, 4, .inr (.inr (.inr (.inr (kx_opsf ad)))))), ((ad 2), .inr (1, [.int ((ops 0).1), .int ((ops 0).2.1), .int ((ops 0).2.2.1), .int ((ops 0).2.2.2.1), .int ((ops 0).2.2.2.2.1), .int ((ops 0).2.2.2.2.2)])), ((ad 3), .inr (1, [.int ((ops 1).1), .int ((ops 1).2.1), .int ((ops 1).2.2.1), .int ((ops 1).2.2.2.1), .int ((ops 1).2.2.2.2.1), .int ((ops 1).2.2.2.2.2)])), ((ad 4), .inr (1, [.int ((ops 2).1), .int ((ops 2).2.1), .int ((ops 2).2.2.1), .int ((ops 2).2.2.2.1), .int ((ops 2).2.2.2.2.1), .int ((ops 2).2.2.2.2.2)])), ((ad 5), .inr (1, [.int ((ops 3).1), .int ((ops 3).2.1), .int ((ops 3).2.2.1), .int ((ops 3).2.2.2.1), .int ((ops 3).2.2.2.2.1), .int ((ops 3).2.2.2.2.2)]))] H locs := hw
    refine lv_if_ne (tgt := 17) hx hb d_RD_write_12 (by decide) (fun h4 => ?_) (fun h4 => ?_)
    · refine lv_aload_n hx hb d_RD_write_17 rfl (lv_at hl 0 rfl) ?_
      refine kx_get S hw fg_RD_11 2 rfl rfl d_RD_write_18 ?_
      refine lv_iload_n hx hb d_RD_write_21 rfl (lv_at hl 1 rfl) ?_
      rcases kx_c4 (l_isFree (hp1 ▸ h2)) with e5 | e5 | e5 | e5
      · refine kx_aald S hw 3 2 rfl rfl (b := (ad 2)) (by rw [e5]; rfl) (l_isFree (hp1 ▸ h2)) d_RD_write_22 ?_
        refine lv_iconst (v := 1) hx hb d_RD_write_23 (by decide) ?_
        refine lv_iload_n hx hb d_RD_write_24 rfl (lv_at hl 2 rfl) ?_
        refine lv_iload_n hx hb d_RD_write_25 rfl (lv_at hl 3 rfl) ?_
        refine kx_call_v (wc := [((ad 2), .inr (1, [.int ((ops 0).1), .int ((ops 0).2.1), .int ((ops 0).2.2.1), .int ((ops 0).2.2.2.1), .int ((ops 0).2.2.2.2.1), .int ((ops 0).2.2.2.2.2)]))]) (wr := [((ad 6), .inr (2, [.ref (ad 7), .int fl.2])), ((ad 7), .inl (cI, 4, .inl fl.1)), ((ad 0), .inr (0, [.int mm.1, .ref (ad 1), .ref (ad 6), .ref (ad 8), .ref (ad 10), .ref (ad 11), .ref (ad 12), .ref (ad 13), .ref (ad 14), .ref (ad 19), .ref (ad 20), .int mm.2.1, .int mm.2.2.1, .int mm.2.2.2])), ((ad 1), .inl (cO, 4, .inr (.inr (.inr (.inr (kx_opsf ad)))))), ((ad 3), .inr (1, [.int ((ops 1).1), .int ((ops 1).2.1), .int ((ops 1).2.2.1), .int ((ops 1).2.2.2.1), .int ((ops 1).2.2.2.2.1), .int ((ops 1).2.2.2.2.2)])), ((ad 4), .inr (1, [.int ((ops 2).1), .int ((ops 2).2.1), .int ((ops 2).2.2.1), .int ((ops 2).2.2.2.1), .int ((ops 2).2.2.2.2.1), .int ((ops 2).2.2.2.2.2)])), ((ad 5), .inr (1, [.int ((ops 3).1), .int ((ops 3).2.1), .int ((ops 3).2.2.1), .int ((ops 3).2.2.2.1), .int ((ops 3).2.2.2.2.1), .int ((ops 3).2.2.2.2.2)]))]) (rest := []) hw [4] [0, 1, 2, 3, 5, 6, 7] rfl rfl (by decide) (by decide) (kx_runV S hw fc_RD_71 rfl 4 rfl [4] (by decide) rfl (c_Op_begin l D cI cZ cO (ad 2) (ops 0) 1 b v H.size) rfl hl.1 rfl (Nat.le_of_ble_eq_true rfl) d_RD_write_26 (by decide) (by decide)) (fun u6 H locs hp6 hw => ?_)
        obtain ⟨o6, rfl⟩ : ∃ z, z = u6 := ⟨_, rfl⟩
        have hw : kx_w D (kx_T cI cZ cO) A_ s_ [((ad 6), .inr (2, [.ref (ad 7), .int fl.2])), ((ad 7), .inl (cI, 4, .inl fl.1)), ((ad 0), .inr (0, [.int mm.1, .ref (ad 1), .ref (ad 6), .ref (ad 8), .ref (ad 10), .ref (ad 11), .ref (ad 12), .ref (ad 13), .ref (ad 14), .ref (ad 19), .ref (ad 20), .int mm.2.1, .int mm.2.2.1, .int mm.2.2.2])), ((ad 1), .inl (cO, 4, .inr (.inr (.inr (.inr (kx_opsf ad)))))), ((ad 3), .inr (1, [.int ((ops 1).1), .int ((ops 1).2.1), .int ((ops 1).2.2.1), .int ((ops 1).2.2.2.1), .int ((ops 1).2.2.2.2.1), .int ((ops 1).2.2.2.2.2)])), ((ad 4), .inr (1, [.int ((ops 2).1), .int ((ops 2).2.1), .int ((ops 2).2.2.1), .int ((ops 2).2.2.2.1), .int ((ops 2).2.2.2.2.1), .int ((ops 2).2.2.2.2.2)])), ((ad 5), .inr (1, [.int ((ops 3).1), .int ((ops 3).2.1), .int ((ops 3).2.2.1), .int ((ops 3).2.2.2.1), .int ((ops 3).2.2.2.2.1), .int ((ops 3).2.2.2.2.2)])), ((ad 2), .inr (1, [.int o6.1, .int o6.2.1, .int o6.2.2.1, .int o6.2.2.2.1, .int o6.2.2.2.2.1, .int o6.2.2.2.2.2]))] H locs := hw
        refine lv_aload_n hx hb d_RD_write_29 rfl (lv_at hl 0 rfl) ?_
        refine kx_get S hw fg_RD_18 2 rfl rfl d_RD_write_30 ?_
        refine lv_iload_n hx hb d_RD_write_33 rfl (lv_at hl 1 rfl) ?_
        refine kx_call_v (wc := [((ad 6), .inr (2, [.ref (ad 7), .int fl.2])), ((ad 7), .inl (cI, 4, .inl fl.1))]) (wr := [((ad 0), .inr (0, [.int mm.1, .ref (ad 1), .ref (ad 6), .ref (ad 8), .ref (ad 10), .ref (ad 11), .ref (ad 12), .ref (ad 13), .ref (ad 14), .ref (ad 19), .ref (ad 20), .int mm.2.1, .int mm.2.2.1, .int mm.2.2.2])), ((ad 1), .inl (cO, 4, .inr (.inr (.inr (.inr (kx_opsf ad)))))), ((ad 3), .inr (1, [.int ((ops 1).1), .int ((ops 1).2.1), .int ((ops 1).2.2.1), .int ((ops 1).2.2.2.1), .int ((ops 1).2.2.2.2.1), .int ((ops 1).2.2.2.2.2)])), ((ad 4), .inr (1, [.int ((ops 2).1), .int ((ops 2).2.1), .int ((ops 2).2.2.1), .int ((ops 2).2.2.2.1), .int ((ops 2).2.2.2.2.1), .int ((ops 2).2.2.2.2.2)])), ((ad 5), .inr (1, [.int ((ops 3).1), .int ((ops 3).2.1), .int ((ops 3).2.2.1), .int ((ops 3).2.2.2.1), .int ((ops 3).2.2.2.2.1), .int ((ops 3).2.2.2.2.2)])), ((ad 2), .inr (1, [.int o6.1, .int o6.2.1, .int o6.2.2.1, .int o6.2.2.2.1, .int o6.2.2.2.2.1, .int o6.2.2.2.2.2]))]) (rest := []) hw [0, 1] [2, 3, 4, 5, 6, 7] rfl rfl (by decide) (by decide) (kx_runV S hw fc_RD_75 rfl 0 rfl [0, 1] (by decide) rfl (c_Ln_join l D cI cZ cO (ad 6) (ad 7) fl u (hj) H.size) rfl hl.1 rfl (Nat.le_of_ble_eq_true rfl) d_RD_write_34 (by decide) (by decide)) (fun u7 H locs hp7 hw => ?_)
        obtain ⟨n7, rfl⟩ : ∃ z, z = u7 := ⟨_, rfl⟩
        have hw : kx_w D (kx_T cI cZ cO) A_ s_ [((ad 0), .inr (0, [.int mm.1, .ref (ad 1), .ref (ad 6), .ref (ad 8), .ref (ad 10), .ref (ad 11), .ref (ad 12), .ref (ad 13), .ref (ad 14), .ref (ad 19), .ref (ad 20), .int mm.2.1, .int mm.2.2.1, .int mm.2.2.2])), ((ad 1), .inl (cO, 4, .inr (.inr (.inr (.inr (kx_opsf ad)))))), ((ad 3), .inr (1, [.int ((ops 1).1), .int ((ops 1).2.1), .int ((ops 1).2.2.1), .int ((ops 1).2.2.2.1), .int ((ops 1).2.2.2.2.1), .int ((ops 1).2.2.2.2.2)])), ((ad 4), .inr (1, [.int ((ops 2).1), .int ((ops 2).2.1), .int ((ops 2).2.2.1), .int ((ops 2).2.2.2.1), .int ((ops 2).2.2.2.2.1), .int ((ops 2).2.2.2.2.2)])), ((ad 5), .inr (1, [.int ((ops 3).1), .int ((ops 3).2.1), .int ((ops 3).2.2.1), .int ((ops 3).2.2.2.1), .int ((ops 3).2.2.2.2.1), .int ((ops 3).2.2.2.2.2)])), ((ad 2), .inr (1, [.int o6.1, .int o6.2.1, .int o6.2.2.1, .int o6.2.2.2.1, .int o6.2.2.2.2.1, .int o6.2.2.2.2.2])), ((ad 6), .inr (2, [.ref (ad 7), .int n7.2])), ((ad 7), .inl (cI, 4, .inl n7.1))] H locs := hw
        refine lv_iconst (v := 1) hx hb d_RD_write_37 (by decide) ?_
        exact kx_ret_z I rfl hw (Or.inr rfl) (va_up ops 0 o6, n7) ⟨(by simp only [f_RD_write, ← hp1, if_neg h2, ← hp3, if_neg h4, e5, ← hp6, ← hp7]), (Or.inr rfl)⟩ [0, 1, 5, 2, 3, 4, 6, 7] (by decide) rfl d_RD_write_38
      · refine kx_aald S hw 3 2 rfl rfl (b := (ad 3)) (by rw [e5]; rfl) (l_isFree (hp1 ▸ h2)) d_RD_write_22 ?_
        refine lv_iconst (v := 1) hx hb d_RD_write_23 (by decide) ?_
        refine lv_iload_n hx hb d_RD_write_24 rfl (lv_at hl 2 rfl) ?_
        refine lv_iload_n hx hb d_RD_write_25 rfl (lv_at hl 3 rfl) ?_
        refine kx_call_v (wc := [((ad 3), .inr (1, [.int ((ops 1).1), .int ((ops 1).2.1), .int ((ops 1).2.2.1), .int ((ops 1).2.2.2.1), .int ((ops 1).2.2.2.2.1), .int ((ops 1).2.2.2.2.2)]))]) (wr := [((ad 6), .inr (2, [.ref (ad 7), .int fl.2])), ((ad 7), .inl (cI, 4, .inl fl.1)), ((ad 0), .inr (0, [.int mm.1, .ref (ad 1), .ref (ad 6), .ref (ad 8), .ref (ad 10), .ref (ad 11), .ref (ad 12), .ref (ad 13), .ref (ad 14), .ref (ad 19), .ref (ad 20), .int mm.2.1, .int mm.2.2.1, .int mm.2.2.2])), ((ad 1), .inl (cO, 4, .inr (.inr (.inr (.inr (kx_opsf ad)))))), ((ad 2), .inr (1, [.int ((ops 0).1), .int ((ops 0).2.1), .int ((ops 0).2.2.1), .int ((ops 0).2.2.2.1), .int ((ops 0).2.2.2.2.1), .int ((ops 0).2.2.2.2.2)])), ((ad 4), .inr (1, [.int ((ops 2).1), .int ((ops 2).2.1), .int ((ops 2).2.2.1), .int ((ops 2).2.2.2.1), .int ((ops 2).2.2.2.2.1), .int ((ops 2).2.2.2.2.2)])), ((ad 5), .inr (1, [.int ((ops 3).1), .int ((ops 3).2.1), .int ((ops 3).2.2.1), .int ((ops 3).2.2.2.1), .int ((ops 3).2.2.2.2.1), .int ((ops 3).2.2.2.2.2)]))]) (rest := []) hw [5] [0, 1, 2, 3, 4, 6, 7] rfl rfl (by decide) (by decide) (kx_runV S hw fc_RD_71 rfl 5 rfl [5] (by decide) rfl (c_Op_begin l D cI cZ cO (ad 3) (ops 1) 1 b v H.size) rfl hl.1 rfl (Nat.le_of_ble_eq_true rfl) d_RD_write_26 (by decide) (by decide)) (fun u6 H locs hp6 hw => ?_)
        obtain ⟨o6, rfl⟩ : ∃ z, z = u6 := ⟨_, rfl⟩
        have hw : kx_w D (kx_T cI cZ cO) A_ s_ [((ad 6), .inr (2, [.ref (ad 7), .int fl.2])), ((ad 7), .inl (cI, 4, .inl fl.1)), ((ad 0), .inr (0, [.int mm.1, .ref (ad 1), .ref (ad 6), .ref (ad 8), .ref (ad 10), .ref (ad 11), .ref (ad 12), .ref (ad 13), .ref (ad 14), .ref (ad 19), .ref (ad 20), .int mm.2.1, .int mm.2.2.1, .int mm.2.2.2])), ((ad 1), .inl (cO, 4, .inr (.inr (.inr (.inr (kx_opsf ad)))))), ((ad 2), .inr (1, [.int ((ops 0).1), .int ((ops 0).2.1), .int ((ops 0).2.2.1), .int ((ops 0).2.2.2.1), .int ((ops 0).2.2.2.2.1), .int ((ops 0).2.2.2.2.2)])), ((ad 4), .inr (1, [.int ((ops 2).1), .int ((ops 2).2.1), .int ((ops 2).2.2.1), .int ((ops 2).2.2.2.1), .int ((ops 2).2.2.2.2.1), .int ((ops 2).2.2.2.2.2)])), ((ad 5), .inr (1, [.int ((ops 3).1), .int ((ops 3).2.1), .int ((ops 3).2.2.1), .int ((ops 3).2.2.2.1), .int ((ops 3).2.2.2.2.1), .int ((ops 3).2.2.2.2.2)])), ((ad 3), .inr (1, [.int o6.1, .int o6.2.1, .int o6.2.2.1, .int o6.2.2.2.1, .int o6.2.2.2.2.1, .int o6.2.2.2.2.2]))] H locs := hw
        refine lv_aload_n hx hb d_RD_write_29 rfl (lv_at hl 0 rfl) ?_
        refine kx_get S hw fg_RD_18 2 rfl rfl d_RD_write_30 ?_
        refine lv_iload_n hx hb d_RD_write_33 rfl (lv_at hl 1 rfl) ?_
        refine kx_call_v (wc := [((ad 6), .inr (2, [.ref (ad 7), .int fl.2])), ((ad 7), .inl (cI, 4, .inl fl.1))]) (wr := [((ad 0), .inr (0, [.int mm.1, .ref (ad 1), .ref (ad 6), .ref (ad 8), .ref (ad 10), .ref (ad 11), .ref (ad 12), .ref (ad 13), .ref (ad 14), .ref (ad 19), .ref (ad 20), .int mm.2.1, .int mm.2.2.1, .int mm.2.2.2])), ((ad 1), .inl (cO, 4, .inr (.inr (.inr (.inr (kx_opsf ad)))))), ((ad 2), .inr (1, [.int ((ops 0).1), .int ((ops 0).2.1), .int ((ops 0).2.2.1), .int ((ops 0).2.2.2.1), .int ((ops 0).2.2.2.2.1), .int ((ops 0).2.2.2.2.2)])), ((ad 4), .inr (1, [.int ((ops 2).1), .int ((ops 2).2.1), .int ((ops 2).2.2.1), .int ((ops 2).2.2.2.1), .int ((ops 2).2.2.2.2.1), .int ((ops 2).2.2.2.2.2)])), ((ad 5), .inr (1, [.int ((ops 3).1), .int ((ops 3).2.1), .int ((ops 3).2.2.1), .int ((ops 3).2.2.2.1), .int ((ops 3).2.2.2.2.1), .int ((ops 3).2.2.2.2.2)])), ((ad 3), .inr (1, [.int o6.1, .int o6.2.1, .int o6.2.2.1, .int o6.2.2.2.1, .int o6.2.2.2.2.1, .int o6.2.2.2.2.2]))]) (rest := []) hw [0, 1] [2, 3, 4, 5, 6, 7] rfl rfl (by decide) (by decide) (kx_runV S hw fc_RD_75 rfl 0 rfl [0, 1] (by decide) rfl (c_Ln_join l D cI cZ cO (ad 6) (ad 7) fl u (hj) H.size) rfl hl.1 rfl (Nat.le_of_ble_eq_true rfl) d_RD_write_34 (by decide) (by decide)) (fun u7 H locs hp7 hw => ?_)
        obtain ⟨n7, rfl⟩ : ∃ z, z = u7 := ⟨_, rfl⟩
        have hw : kx_w D (kx_T cI cZ cO) A_ s_ [((ad 0), .inr (0, [.int mm.1, .ref (ad 1), .ref (ad 6), .ref (ad 8), .ref (ad 10), .ref (ad 11), .ref (ad 12), .ref (ad 13), .ref (ad 14), .ref (ad 19), .ref (ad 20), .int mm.2.1, .int mm.2.2.1, .int mm.2.2.2])), ((ad 1), .inl (cO, 4, .inr (.inr (.inr (.inr (kx_opsf ad)))))), ((ad 2), .inr (1, [.int ((ops 0).1), .int ((ops 0).2.1), .int ((ops 0).2.2.1), .int ((ops 0).2.2.2.1), .int ((ops 0).2.2.2.2.1), .int ((ops 0).2.2.2.2.2)])), ((ad 4), .inr (1, [.int ((ops 2).1), .int ((ops 2).2.1), .int ((ops 2).2.2.1), .int ((ops 2).2.2.2.1), .int ((ops 2).2.2.2.2.1), .int ((ops 2).2.2.2.2.2)])), ((ad 5), .inr (1, [.int ((ops 3).1), .int ((ops 3).2.1), .int ((ops 3).2.2.1), .int ((ops 3).2.2.2.1), .int ((ops 3).2.2.2.2.1), .int ((ops 3).2.2.2.2.2)])), ((ad 3), .inr (1, [.int o6.1, .int o6.2.1, .int o6.2.2.1, .int o6.2.2.2.1, .int o6.2.2.2.2.1, .int o6.2.2.2.2.2])), ((ad 6), .inr (2, [.ref (ad 7), .int n7.2])), ((ad 7), .inl (cI, 4, .inl n7.1))] H locs := hw
        refine lv_iconst (v := 1) hx hb d_RD_write_37 (by decide) ?_
        exact kx_ret_z I rfl hw (Or.inr rfl) (va_up ops 1 o6, n7) ⟨(by simp only [f_RD_write, ← hp1, if_neg h2, ← hp3, if_neg h4, e5, ← hp6, ← hp7]), (Or.inr rfl)⟩ [0, 1, 2, 5, 3, 4, 6, 7] (by decide) rfl d_RD_write_38
      · refine kx_aald S hw 3 2 rfl rfl (b := (ad 4)) (by rw [e5]; rfl) (l_isFree (hp1 ▸ h2)) d_RD_write_22 ?_
        refine lv_iconst (v := 1) hx hb d_RD_write_23 (by decide) ?_
        refine lv_iload_n hx hb d_RD_write_24 rfl (lv_at hl 2 rfl) ?_
        refine lv_iload_n hx hb d_RD_write_25 rfl (lv_at hl 3 rfl) ?_
        refine kx_call_v (wc := [((ad 4), .inr (1, [.int ((ops 2).1), .int ((ops 2).2.1), .int ((ops 2).2.2.1), .int ((ops 2).2.2.2.1), .int ((ops 2).2.2.2.2.1), .int ((ops 2).2.2.2.2.2)]))]) (wr := [((ad 6), .inr (2, [.ref (ad 7), .int fl.2])), ((ad 7), .inl (cI, 4, .inl fl.1)), ((ad 0), .inr (0, [.int mm.1, .ref (ad 1), .ref (ad 6), .ref (ad 8), .ref (ad 10), .ref (ad 11), .ref (ad 12), .ref (ad 13), .ref (ad 14), .ref (ad 19), .ref (ad 20), .int mm.2.1, .int mm.2.2.1, .int mm.2.2.2])), ((ad 1), .inl (cO, 4, .inr (.inr (.inr (.inr (kx_opsf ad)))))), ((ad 2), .inr (1, [.int ((ops 0).1), .int ((ops 0).2.1), .int ((ops 0).2.2.1), .int ((ops 0).2.2.2.1), .int ((ops 0).2.2.2.2.1), .int ((ops 0).2.2.2.2.2)])), ((ad 3), .inr (1, [.int ((ops 1).1), .int ((ops 1).2.1), .int ((ops 1).2.2.1), .int ((ops 1).2.2.2.1), .int ((ops 1).2.2.2.2.1), .int ((ops 1).2.2.2.2.2)])), ((ad 5), .inr (1, [.int ((ops 3).1), .int ((ops 3).2.1), .int ((ops 3).2.2.1), .int ((ops 3).2.2.2.1), .int ((ops 3).2.2.2.2.1), .int ((ops 3).2.2.2.2.2)]))]) (rest := []) hw [6] [0, 1, 2, 3, 4, 5, 7] rfl rfl (by decide) (by decide) (kx_runV S hw fc_RD_71 rfl 6 rfl [6] (by decide) rfl (c_Op_begin l D cI cZ cO (ad 4) (ops 2) 1 b v H.size) rfl hl.1 rfl (Nat.le_of_ble_eq_true rfl) d_RD_write_26 (by decide) (by decide)) (fun u6 H locs hp6 hw => ?_)
        obtain ⟨o6, rfl⟩ : ∃ z, z = u6 := ⟨_, rfl⟩
        have hw : kx_w D (kx_T cI cZ cO) A_ s_ [((ad 6), .inr (2, [.ref (ad 7), .int fl.2])), ((ad 7), .inl (cI, 4, .inl fl.1)), ((ad 0), .inr (0, [.int mm.1, .ref (ad 1), .ref (ad 6), .ref (ad 8), .ref (ad 10), .ref (ad 11), .ref (ad 12), .ref (ad 13), .ref (ad 14), .ref (ad 19), .ref (ad 20), .int mm.2.1, .int mm.2.2.1, .int mm.2.2.2])), ((ad 1), .inl (cO, 4, .inr (.inr (.inr (.inr (kx_opsf ad)))))), ((ad 2), .inr (1, [.int ((ops 0).1), .int ((ops 0).2.1), .int ((ops 0).2.2.1), .int ((ops 0).2.2.2.1), .int ((ops 0).2.2.2.2.1), .int ((ops 0).2.2.2.2.2)])), ((ad 3), .inr (1, [.int ((ops 1).1), .int ((ops 1).2.1), .int ((ops 1).2.2.1), .int ((ops 1).2.2.2.1), .int ((ops 1).2.2.2.2.1), .int ((ops 1).2.2.2.2.2)])), ((ad 5), .inr (1, [.int ((ops 3).1), .int ((ops 3).2.1), .int ((ops 3).2.2.1), .int ((ops 3).2.2.2.1), .int ((ops 3).2.2.2.2.1), .int ((ops 3).2.2.2.2.2)])), ((ad 4), .inr (1, [.int o6.1, .int o6.2.1, .int o6.2.2.1, .int o6.2.2.2.1, .int o6.2.2.2.2.1, .int o6.2.2.2.2.2]))] H locs := hw
        refine lv_aload_n hx hb d_RD_write_29 rfl (lv_at hl 0 rfl) ?_
        refine kx_get S hw fg_RD_18 2 rfl rfl d_RD_write_30 ?_
        refine lv_iload_n hx hb d_RD_write_33 rfl (lv_at hl 1 rfl) ?_
        refine kx_call_v (wc := [((ad 6), .inr (2, [.ref (ad 7), .int fl.2])), ((ad 7), .inl (cI, 4, .inl fl.1))]) (wr := [((ad 0), .inr (0, [.int mm.1, .ref (ad 1), .ref (ad 6), .ref (ad 8), .ref (ad 10), .ref (ad 11), .ref (ad 12), .ref (ad 13), .ref (ad 14), .ref (ad 19), .ref (ad 20), .int mm.2.1, .int mm.2.2.1, .int mm.2.2.2])), ((ad 1), .inl (cO, 4, .inr (.inr (.inr (.inr (kx_opsf ad)))))), ((ad 2), .inr (1, [.int ((ops 0).1), .int ((ops 0).2.1), .int ((ops 0).2.2.1), .int ((ops 0).2.2.2.1), .int ((ops 0).2.2.2.2.1), .int ((ops 0).2.2.2.2.2)])), ((ad 3), .inr (1, [.int ((ops 1).1), .int ((ops 1).2.1), .int ((ops 1).2.2.1), .int ((ops 1).2.2.2.1), .int ((ops 1).2.2.2.2.1), .int ((ops 1).2.2.2.2.2)])), ((ad 5), .inr (1, [.int ((ops 3).1), .int ((ops 3).2.1), .int ((ops 3).2.2.1), .int ((ops 3).2.2.2.1), .int ((ops 3).2.2.2.2.1), .int ((ops 3).2.2.2.2.2)])), ((ad 4), .inr (1, [.int o6.1, .int o6.2.1, .int o6.2.2.1, .int o6.2.2.2.1, .int o6.2.2.2.2.1, .int o6.2.2.2.2.2]))]) (rest := []) hw [0, 1] [2, 3, 4, 5, 6, 7] rfl rfl (by decide) (by decide) (kx_runV S hw fc_RD_75 rfl 0 rfl [0, 1] (by decide) rfl (c_Ln_join l D cI cZ cO (ad 6) (ad 7) fl u (hj) H.size) rfl hl.1 rfl (Nat.le_of_ble_eq_true rfl) d_RD_write_34 (by decide) (by decide)) (fun u7 H locs hp7 hw => ?_)
        obtain ⟨n7, rfl⟩ : ∃ z, z = u7 := ⟨_, rfl⟩
        have hw : kx_w D (kx_T cI cZ cO) A_ s_ [((ad 0), .inr (0, [.int mm.1, .ref (ad 1), .ref (ad 6), .ref (ad 8), .ref (ad 10), .ref (ad 11), .ref (ad 12), .ref (ad 13), .ref (ad 14), .ref (ad 19), .ref (ad 20), .int mm.2.1, .int mm.2.2.1, .int mm.2.2.2])), ((ad 1), .inl (cO, 4, .inr (.inr (.inr (.inr (kx_opsf ad)))))), ((ad 2), .inr (1, [.int ((ops 0).1), .int ((ops 0).2.1), .int ((ops 0).2.2.1), .int ((ops 0).2.2.2.1), .int ((ops 0).2.2.2.2.1), .int ((ops 0).2.2.2.2.2)])), ((ad 3), .inr (1, [.int ((ops 1).1), .int ((ops 1).2.1), .int ((ops 1).2.2.1), .int ((ops 1).2.2.2.1), .int ((ops 1).2.2.2.2.1), .int ((ops 1).2.2.2.2.2)])), ((ad 5), .inr (1, [.int ((ops 3).1), .int ((ops 3).2.1), .int ((ops 3).2.2.1), .int ((ops 3).2.2.2.1), .int ((ops 3).2.2.2.2.1), .int ((ops 3).2.2.2.2.2)])), ((ad 4), .inr (1, [.int o6.1, .int o6.2.1, .int o6.2.2.1, .int o6.2.2.2.1, .int o6.2.2.2.2.1, .int o6.2.2.2.2.2])), ((ad 6), .inr (2, [.ref (ad 7), .int n7.2])), ((ad 7), .inl (cI, 4, .inl n7.1))] H locs := hw
        refine lv_iconst (v := 1) hx hb d_RD_write_37 (by decide) ?_
        exact kx_ret_z I rfl hw (Or.inr rfl) (va_up ops 2 o6, n7) ⟨(by simp only [f_RD_write, ← hp1, if_neg h2, ← hp3, if_neg h4, e5, ← hp6, ← hp7]), (Or.inr rfl)⟩ [0, 1, 2, 3, 5, 4, 6, 7] (by decide) rfl d_RD_write_38
      · refine kx_aald S hw 3 2 rfl rfl (b := (ad 5)) (by rw [e5]; rfl) (l_isFree (hp1 ▸ h2)) d_RD_write_22 ?_
        refine lv_iconst (v := 1) hx hb d_RD_write_23 (by decide) ?_
        refine lv_iload_n hx hb d_RD_write_24 rfl (lv_at hl 2 rfl) ?_
        refine lv_iload_n hx hb d_RD_write_25 rfl (lv_at hl 3 rfl) ?_
        refine kx_call_v (wc := [((ad 5), .inr (1, [.int ((ops 3).1), .int ((ops 3).2.1), .int ((ops 3).2.2.1), .int ((ops 3).2.2.2.1), .int ((ops 3).2.2.2.2.1), .int ((ops 3).2.2.2.2.2)]))]) (wr := [((ad 6), .inr (2, [.ref (ad 7), .int fl.2])), ((ad 7), .inl (cI, 4, .inl fl.1)), ((ad 0), .inr (0, [.int mm.1, .ref (ad 1), .ref (ad 6), .ref (ad 8), .ref (ad 10), .ref (ad 11), .ref (ad 12), .ref (ad 13), .ref (ad 14), .ref (ad 19), .ref (ad 20), .int mm.2.1, .int mm.2.2.1, .int mm.2.2.2])), ((ad 1), .inl (cO, 4, .inr (.inr (.inr (.inr (kx_opsf ad)))))), ((ad 2), .inr (1, [.int ((ops 0).1), .int ((ops 0).2.1), .int ((ops 0).2.2.1), .int ((ops 0).2.2.2.1), .int ((ops 0).2.2.2.2.1), .int ((ops 0).2.2.2.2.2)])), ((ad 3), .inr (1, [.int ((ops 1).1), .int ((ops 1).2.1), .int ((ops 1).2.2.1), .int ((ops 1).2.2.2.1), .int ((ops 1).2.2.2.2.1), .int ((ops 1).2.2.2.2.2)])), ((ad 4), .inr (1, [.int ((ops 2).1), .int ((ops 2).2.1), .int ((ops 2).2.2.1), .int ((ops 2).2.2.2.1), .int ((ops 2).2.2.2.2.1), .int ((ops 2).2.2.2.2.2)]))]) (rest := []) hw [7] [0, 1, 2, 3, 4, 5, 6] rfl rfl (by decide) (by decide) (kx_runV S hw fc_RD_71 rfl 7 rfl [7] (by decide) rfl (c_Op_begin l D cI cZ cO (ad 5) (ops 3) 1 b v H.size) rfl hl.1 rfl (Nat.le_of_ble_eq_true rfl) d_RD_write_26 (by decide) (by decide)) (fun u6 H locs hp6 hw => ?_)
        obtain ⟨o6, rfl⟩ : ∃ z, z = u6 := ⟨_, rfl⟩
        have hw : kx_w D (kx_T cI cZ cO) A_ s_ [((ad 6), .inr (2, [.ref (ad 7), .int fl.2])), ((ad 7), .inl (cI, 4, .inl fl.1)), ((ad 0), .inr (0, [.int mm.1, .ref (ad 1), .ref (ad 6), .ref (ad 8), .ref (ad 10), .ref (ad 11), .ref (ad 12), .ref (ad 13), .ref (ad 14), .ref (ad 19), .ref (ad 20), .int mm.2.1, .int mm.2.2.1, .int mm.2.2.2])), ((ad 1), .inl (cO, 4, .inr (.inr (.inr (.inr (kx_opsf ad)))))), ((ad 2), .inr (1, [.int ((ops 0).1), .int ((ops 0).2.1), .int ((ops 0).2.2.1), .int ((ops 0).2.2.2.1), .int ((ops 0).2.2.2.2.1), .int ((ops 0).2.2.2.2.2)])), ((ad 3), .inr (1, [.int ((ops 1).1), .int ((ops 1).2.1), .int ((ops 1).2.2.1), .int ((ops 1).2.2.2.1), .int ((ops 1).2.2.2.2.1), .int ((ops 1).2.2.2.2.2)])), ((ad 4), .inr (1, [.int ((ops 2).1), .int ((ops 2).2.1), .int ((ops 2).2.2.1), .int ((ops 2).2.2.2.1), .int ((ops 2).2.2.2.2.1), .int ((ops 2).2.2.2.2.2)])), ((ad 5), .inr (1, [.int o6.1, .int o6.2.1, .int o6.2.2.1, .int o6.2.2.2.1, .int o6.2.2.2.2.1, .int o6.2.2.2.2.2]))] H locs := hw
        refine lv_aload_n hx hb d_RD_write_29 rfl (lv_at hl 0 rfl) ?_
        refine kx_get S hw fg_RD_18 2 rfl rfl d_RD_write_30 ?_
        refine lv_iload_n hx hb d_RD_write_33 rfl (lv_at hl 1 rfl) ?_
        refine kx_call_v (wc := [((ad 6), .inr (2, [.ref (ad 7), .int fl.2])), ((ad 7), .inl (cI, 4, .inl fl.1))]) (wr := [((ad 0), .inr (0, [.int mm.1, .ref (ad 1), .ref (ad 6), .ref (ad 8), .ref (ad 10), .ref (ad 11), .ref (ad 12), .ref (ad 13), .ref (ad 14), .ref (ad 19), .ref (ad 20), .int mm.2.1, .int mm.2.2.1, .int mm.2.2.2])), ((ad 1), .inl (cO, 4, .inr (.inr (.inr (.inr (kx_opsf ad)))))), ((ad 2), .inr (1, [.int ((ops 0).1), .int ((ops 0).2.1), .int ((ops 0).2.2.1), .int ((ops 0).2.2.2.1), .int ((ops 0).2.2.2.2.1), .int ((ops 0).2.2.2.2.2)])), ((ad 3), .inr (1, [.int ((ops 1).1), .int ((ops 1).2.1), .int ((ops 1).2.2.1), .int ((ops 1).2.2.2.1), .int ((ops 1).2.2.2.2.1), .int ((ops 1).2.2.2.2.2)])), ((ad 4), .inr (1, [.int ((ops 2).1), .int ((ops 2).2.1), .int ((ops 2).2.2.1), .int ((ops 2).2.2.2.1), .int ((ops 2).2.2.2.2.1), .int ((ops 2).2.2.2.2.2)])), ((ad 5), .inr (1, [.int o6.1, .int o6.2.1, .int o6.2.2.1, .int o6.2.2.2.1, .int o6.2.2.2.2.1, .int o6.2.2.2.2.2]))]) (rest := []) hw [0, 1] [2, 3, 4, 5, 6, 7] rfl rfl (by decide) (by decide) (kx_runV S hw fc_RD_75 rfl 0 rfl [0, 1] (by decide) rfl (c_Ln_join l D cI cZ cO (ad 6) (ad 7) fl u (hj) H.size) rfl hl.1 rfl (Nat.le_of_ble_eq_true rfl) d_RD_write_34 (by decide) (by decide)) (fun u7 H locs hp7 hw => ?_)
        obtain ⟨n7, rfl⟩ : ∃ z, z = u7 := ⟨_, rfl⟩
        have hw : kx_w D (kx_T cI cZ cO) A_ s_ [((ad 0), .inr (0, [.int mm.1, .ref (ad 1), .ref (ad 6), .ref (ad 8), .ref (ad 10), .ref (ad 11), .ref (ad 12), .ref (ad 13), .ref (ad 14), .ref (ad 19), .ref (ad 20), .int mm.2.1, .int mm.2.2.1, .int mm.2.2.2])), ((ad 1), .inl (cO, 4, .inr (.inr (.inr (.inr (kx_opsf ad)))))), ((ad 2), .inr (1, [.int ((ops 0).1), .int ((ops 0).2.1), .int ((ops 0).2.2.1), .int ((ops 0).2.2.2.1), .int ((ops 0).2.2.2.2.1), .int ((ops 0).2.2.2.2.2)])), ((ad 3), .inr (1, [.int ((ops 1).1), .int ((ops 1).2.1), .int ((ops 1).2.2.1), .int ((ops 1).2.2.2.1), .int ((ops 1).2.2.2.2.1), .int ((ops 1).2.2.2.2.2)])), ((ad 4), .inr (1, [.int ((ops 2).1), .int ((ops 2).2.1), .int ((ops 2).2.2.1), .int ((ops 2).2.2.2.1), .int ((ops 2).2.2.2.2.1), .int ((ops 2).2.2.2.2.2)])), ((ad 5), .inr (1, [.int o6.1, .int o6.2.1, .int o6.2.2.1, .int o6.2.2.2.1, .int o6.2.2.2.2.1, .int o6.2.2.2.2.2])), ((ad 6), .inr (2, [.ref (ad 7), .int n7.2])), ((ad 7), .inl (cI, 4, .inl n7.1))] H locs := hw
        refine lv_iconst (v := 1) hx hb d_RD_write_37 (by decide) ?_
        exact kx_ret_z I rfl hw (Or.inr rfl) (va_up ops 3 o6, n7) ⟨(by simp only [f_RD_write, ← hp1, if_neg h2, ← hp3, if_neg h4, e5, ← hp6, ← hp7]), (Or.inr rfl)⟩ [0, 1, 2, 3, 4, 5, 6, 7] (by decide) rfl d_RD_write_38
    · refine lv_iconst (v := 0) hx hb d_RD_write_15 (by decide) ?_
      exact kx_ret_z I rfl hw (Or.inl rfl) (ops, fl) ⟨(by simp only [f_RD_write, ← hp1, if_neg h2, ← hp3, if_pos h4]), (Or.inl rfl)⟩ [2, 3, 4, 5, 6, 7, 0, 1] (by decide) rfl d_RD_write_16
def f_RD_sync (mm : kt_M) (ops : (Nat → kt_Op)) (fl : kt_Ln) (u : Int32) : Int32 × (Nat → kt_Op) × kt_Ln :=
  match f_RD_isFree mm ops u with
  | r1 => if r1 = 0 then (0, ops, fl)
    else match f_Op_begin (ops u.toNatClampNeg) 2 (-1) 0 with
    | o4 => match f_Ln_join fl u with
      | n5 => (1, va_up ops u.toNatClampNeg o4, n5)
set_option maxHeartbeats 4000000 in
set_option maxRecDepth 100000 in
theorem c_RD_sync (l : Launch) (D : va_G) (cI cZ cO : ClassId) (ad : Nat → Nat) (mm : kt_M) (ops : (Nat → kt_Op)) (fl : kt_Ln) (u : Int32) (hj : 0 ≤ fl.2) : kx_Ci (S := (Nat → kt_Op) × kt_Ln) l y_RD_sync b_RD_sync 2 (some .boolean) 2 0 0 D (kx_T cI cZ cO) [.ref (ad 0), .int u] [((ad 0), .inr (0, [.int mm.1, .ref (ad 1), .ref (ad 6), .ref (ad 8), .ref (ad 10), .ref (ad 11), .ref (ad 12), .ref (ad 13), .ref (ad 14), .ref (ad 19), .ref (ad 20), .int mm.2.1, .int mm.2.2.1, .int mm.2.2.2])), ((ad 1), .inl (cO, 4, .inr (.inr (.inr (.inr (kx_opsf ad)))))), ((ad 2), .inr (1, [.int ((ops 0).1), .int ((ops 0).2.1), .int ((ops 0).2.2.1), .int ((ops 0).2.2.2.1), .int ((ops 0).2.2.2.2.1), .int ((ops 0).2.2.2.2.2)])), ((ad 3), .inr (1, [.int ((ops 1).1), .int ((ops 1).2.1), .int ((ops 1).2.2.1), .int ((ops 1).2.2.2.1), .int ((ops 1).2.2.2.2.1), .int ((ops 1).2.2.2.2.2)])), ((ad 4), .inr (1, [.int ((ops 2).1), .int ((ops 2).2.1), .int ((ops 2).2.2.1), .int ((ops 2).2.2.2.1), .int ((ops 2).2.2.2.2.1), .int ((ops 2).2.2.2.2.2)])), ((ad 5), .inr (1, [.int ((ops 3).1), .int ((ops 3).2.1), .int ((ops 3).2.2.1), .int ((ops 3).2.2.2.1), .int ((ops 3).2.2.2.2.1), .int ((ops 3).2.2.2.2.2)])), ((ad 6), .inr (2, [.ref (ad 7), .int fl.2])), ((ad 7), .inl (cI, 4, .inl fl.1))] (fun rr zz => (rr, zz) = f_RD_sync mm ops fl u ∧ kx_b rr) (fun zz => [((ad 0), .inr (0, [.int mm.1, .ref (ad 1), .ref (ad 6), .ref (ad 8), .ref (ad 10), .ref (ad 11), .ref (ad 12), .ref (ad 13), .ref (ad 14), .ref (ad 19), .ref (ad 20), .int mm.2.1, .int mm.2.2.1, .int mm.2.2.2])), ((ad 1), .inl (cO, 4, .inr (.inr (.inr (.inr (kx_opsf ad)))))), ((ad 2), .inr (1, [.int ((zz.1 0).1), .int ((zz.1 0).2.1), .int ((zz.1 0).2.2.1), .int ((zz.1 0).2.2.2.1), .int ((zz.1 0).2.2.2.2.1), .int ((zz.1 0).2.2.2.2.2)])), ((ad 3), .inr (1, [.int ((zz.1 1).1), .int ((zz.1 1).2.1), .int ((zz.1 1).2.2.1), .int ((zz.1 1).2.2.2.1), .int ((zz.1 1).2.2.2.2.1), .int ((zz.1 1).2.2.2.2.2)])), ((ad 4), .inr (1, [.int ((zz.1 2).1), .int ((zz.1 2).2.1), .int ((zz.1 2).2.2.1), .int ((zz.1 2).2.2.2.1), .int ((zz.1 2).2.2.2.2.1), .int ((zz.1 2).2.2.2.2.2)])), ((ad 5), .inr (1, [.int ((zz.1 3).1), .int ((zz.1 3).2.1), .int ((zz.1 3).2.2.1), .int ((zz.1 3).2.2.2.1), .int ((zz.1 3).2.2.2.2.1), .int ((zz.1 3).2.2.2.2.2)])), ((ad 6), .inr (2, [.ref (ad 7), .int zz.2.2])), ((ad 7), .inl (cI, 4, .inl zz.2.1))]) := by
  refine kx_enter_i (by decide) (Nat.le_of_ble_eq_true rfl) ?_
  intro p_ e_ s_ m_ below_ meth_ c_ ls A_ H I hl hw
  have S := I.1
  have hx := S.1
  have hb := S.2.1
  have hl : lv_has ls 2 [(0, .ref (ad 0)), (1, .int u)] := hl
  refine lv_aload_n hx hb d_RD_sync_0 rfl (lv_at hl 0 rfl) ?_
  refine lv_iload_n hx hb d_RD_sync_1 rfl (lv_at hl 1 rfl) ?_
  refine kx_call_i (wc := [((ad 0), .inr (0, [.int mm.1, .ref (ad 1), .ref (ad 6), .ref (ad 8), .ref (ad 10), .ref (ad 11), .ref (ad 12), .ref (ad 13), .ref (ad 14), .ref (ad 19), .ref (ad 20), .int mm.2.1, .int mm.2.2.1, .int mm.2.2.2])), ((ad 1), .inl (cO, 4, .inr (.inr (.inr (.inr (kx_opsf ad)))))), ((ad 2), .inr (1, [.int ((ops 0).1), .int ((ops 0).2.1), .int ((ops 0).2.2.1), .int ((ops 0).2.2.2.1), .int ((ops 0).2.2.2.2.1), .int ((ops 0).2.2.2.2.2)])), ((ad 3), .inr (1, [.int ((ops 1).1), .int ((ops 1).2.1), .int ((ops 1).2.2.1), .int ((ops 1).2.2.2.1), .int ((ops 1).2.2.2.2.1), .int ((ops 1).2.2.2.2.2)])), ((ad 4), .inr (1, [.int ((ops 2).1), .int ((ops 2).2.1), .int ((ops 2).2.2.1), .int ((ops 2).2.2.2.1), .int ((ops 2).2.2.2.2.1), .int ((ops 2).2.2.2.2.2)])), ((ad 5), .inr (1, [.int ((ops 3).1), .int ((ops 3).2.1), .int ((ops 3).2.2.1), .int ((ops 3).2.2.2.1), .int ((ops 3).2.2.2.2.1), .int ((ops 3).2.2.2.2.2)]))]) (wr := [((ad 6), .inr (2, [.ref (ad 7), .int fl.2])), ((ad 7), .inl (cI, 4, .inl fl.1))]) (rest := []) hw [0, 1, 2, 3, 4, 5] [6, 7] rfl rfl (by decide) (by decide) (kx_runV S hw fc_RD_64 rfl 0 rfl [0, 1, 2, 3, 4, 5] (by decide) rfl (c_RD_isFree l D cI cZ cO ad mm ops u H.size) rfl hl.1 rfl (Nat.le_of_ble_eq_true rfl) d_RD_sync_2 (by decide) (by decide)) (fun r1 u1 H locs hp1 hw => ?_)
  obtain ⟨hp1, hb1⟩ := hp1
  have hw : kx_w D (kx_T cI cZ cO) A_ s_ [((ad 6), .inr (2, [.ref (ad 7), .int fl.2])), ((ad 7), .inl (cI, 4, .inl fl.1)), ((ad 0), .inr (0, [.int mm.1, .ref (ad 1), .ref (ad 6), .ref (ad 8), .ref (ad 10), .ref (ad 11), .ref (ad 12), .ref (ad 13), .ref (ad 14), .ref (ad 19), .ref (ad 20), .int mm.2.1, .int mm.2.2.1, .int mm.2.2.2])), ((ad 1), .inl (cO, 4, .inr (.inr (.inr (.inr (kx_opsf ad)))))), ((ad 2), .inr (1, [.int ((ops 0).1), .int ((ops 0).2.1), .int ((ops 0).2.2.1), .int ((ops 0).2.2.2.1), .int ((ops 0).2.2.2.2.1), .int ((ops 0).2.2.2.2.2)])), ((ad 3), .inr (1, [.int ((ops 1).1), .int ((ops 1).2.1), .int ((ops 1).2.2.1), .int ((ops 1).2.2.2.1), .int ((ops 1).2.2.2.2.1), .int ((ops 1).2.2.2.2.2)])), ((ad 4), .inr (1, [.int ((ops 2).1), .int ((ops 2).2.1), .int ((ops 2).2.2.1), .int ((ops 2).2.2.2.1), .int ((ops 2).2.2.2.2.1), .int ((ops 2).2.2.2.2.2)])), ((ad 5), .inr (1, [.int ((ops 3).1), .int ((ops 3).2.1), .int ((ops 3).2.2.1), .int ((ops 3).2.2.2.1), .int ((ops 3).2.2.2.2.1), .int ((ops 3).2.2.2.2.2)]))] H locs := hw
  refine lv_if_ne (tgt := 10) hx hb d_RD_sync_5 (by decide) (fun h2 => ?_) (fun h2 => ?_)
  · refine lv_aload_n hx hb d_RD_sync_10 rfl (lv_at hl 0 rfl) ?_
    refine kx_get S hw fg_RD_11 2 rfl rfl d_RD_sync_11 ?_
    refine lv_iload_n hx hb d_RD_sync_14 rfl (lv_at hl 1 rfl) ?_
    rcases kx_c4 (l_isFree (hp1 ▸ h2)) with e3 | e3 | e3 | e3
    · refine kx_aald S hw 3 2 rfl rfl (b := (ad 2)) (by rw [e3]; rfl) (l_isFree (hp1 ▸ h2)) d_RD_sync_15 ?_
      refine lv_iconst (v := 2) hx hb d_RD_sync_16 (by decide) ?_
      refine lv_iconst (v := (-1)) hx hb d_RD_sync_17 (by decide) ?_
      refine lv_iconst (v := 0) hx hb d_RD_sync_18 (by decide) ?_
      refine kx_call_v (wc := [((ad 2), .inr (1, [.int ((ops 0).1), .int ((ops 0).2.1), .int ((ops 0).2.2.1), .int ((ops 0).2.2.2.1), .int ((ops 0).2.2.2.2.1), .int ((ops 0).2.2.2.2.2)]))]) (wr := [((ad 6), .inr (2, [.ref (ad 7), .int fl.2])), ((ad 7), .inl (cI, 4, .inl fl.1)), ((ad 0), .inr (0, [.int mm.1, .ref (ad 1), .ref (ad 6), .ref (ad 8), .ref (ad 10), .ref (ad 11), .ref (ad 12), .ref (ad 13), .ref (ad 14), .ref (ad 19), .ref (ad 20), .int mm.2.1, .int mm.2.2.1, .int mm.2.2.2])), ((ad 1), .inl (cO, 4, .inr (.inr (.inr (.inr (kx_opsf ad)))))), ((ad 3), .inr (1, [.int ((ops 1).1), .int ((ops 1).2.1), .int ((ops 1).2.2.1), .int ((ops 1).2.2.2.1), .int ((ops 1).2.2.2.2.1), .int ((ops 1).2.2.2.2.2)])), ((ad 4), .inr (1, [.int ((ops 2).1), .int ((ops 2).2.1), .int ((ops 2).2.2.1), .int ((ops 2).2.2.2.1), .int ((ops 2).2.2.2.2.1), .int ((ops 2).2.2.2.2.2)])), ((ad 5), .inr (1, [.int ((ops 3).1), .int ((ops 3).2.1), .int ((ops 3).2.2.1), .int ((ops 3).2.2.2.1), .int ((ops 3).2.2.2.2.1), .int ((ops 3).2.2.2.2.2)]))]) (rest := []) hw [4] [0, 1, 2, 3, 5, 6, 7] rfl rfl (by decide) (by decide) (kx_runV S hw fc_RD_71 rfl 4 rfl [4] (by decide) rfl (c_Op_begin l D cI cZ cO (ad 2) (ops 0) 2 (-1) 0 H.size) rfl hl.1 rfl (Nat.le_of_ble_eq_true rfl) d_RD_sync_19 (by decide) (by decide)) (fun u4 H locs hp4 hw => ?_)
      obtain ⟨o4, rfl⟩ : ∃ z, z = u4 := ⟨_, rfl⟩
      have hw : kx_w D (kx_T cI cZ cO) A_ s_ [((ad 6), .inr (2, [.ref (ad 7), .int fl.2])), ((ad 7), .inl (cI, 4, .inl fl.1)), ((ad 0), .inr (0, [.int mm.1, .ref (ad 1), .ref (ad 6), .ref (ad 8), .ref (ad 10), .ref (ad 11), .ref (ad 12), .ref (ad 13), .ref (ad 14), .ref (ad 19), .ref (ad 20), .int mm.2.1, .int mm.2.2.1, .int mm.2.2.2])), ((ad 1), .inl (cO, 4, .inr (.inr (.inr (.inr (kx_opsf ad)))))), ((ad 3), .inr (1, [.int ((ops 1).1), .int ((ops 1).2.1), .int ((ops 1).2.2.1), .int ((ops 1).2.2.2.1), .int ((ops 1).2.2.2.2.1), .int ((ops 1).2.2.2.2.2)])), ((ad 4), .inr (1, [.int ((ops 2).1), .int ((ops 2).2.1), .int ((ops 2).2.2.1), .int ((ops 2).2.2.2.1), .int ((ops 2).2.2.2.2.1), .int ((ops 2).2.2.2.2.2)])), ((ad 5), .inr (1, [.int ((ops 3).1), .int ((ops 3).2.1), .int ((ops 3).2.2.1), .int ((ops 3).2.2.2.1), .int ((ops 3).2.2.2.2.1), .int ((ops 3).2.2.2.2.2)])), ((ad 2), .inr (1, [.int o4.1, .int o4.2.1, .int o4.2.2.1, .int o4.2.2.2.1, .int o4.2.2.2.2.1, .int o4.2.2.2.2.2]))] H locs := hw
      refine lv_aload_n hx hb d_RD_sync_22 rfl (lv_at hl 0 rfl) ?_
      refine kx_get S hw fg_RD_18 2 rfl rfl d_RD_sync_23 ?_
      refine lv_iload_n hx hb d_RD_sync_26 rfl (lv_at hl 1 rfl) ?_
      refine kx_call_v (wc := [((ad 6), .inr (2, [.ref (ad 7), .int fl.2])), ((ad 7), .inl (cI, 4, .inl fl.1))]) (wr := [((ad 0), .inr (0, [.int mm.1, .ref (ad 1), .ref (ad 6), .ref (ad 8), .ref (ad 10), .ref (ad 11), .ref (ad 12), .ref (ad 13), .ref (ad 14), .ref (ad 19), .ref (ad 20), .int mm.2.1, .int mm.2.2.1, .int mm.2.2.2])), ((ad 1), .inl (cO, 4, .inr (.inr (.inr (.inr (kx_opsf ad)))))), ((ad 3), .inr (1, [.int ((ops 1).1), .int ((ops 1).2.1), .int ((ops 1).2.2.1), .int ((ops 1).2.2.2.1), .int ((ops 1).2.2.2.2.1), .int ((ops 1).2.2.2.2.2)])), ((ad 4), .inr (1, [.int ((ops 2).1), .int ((ops 2).2.1), .int ((ops 2).2.2.1), .int ((ops 2).2.2.2.1), .int ((ops 2).2.2.2.2.1), .int ((ops 2).2.2.2.2.2)])), ((ad 5), .inr (1, [.int ((ops 3).1), .int ((ops 3).2.1), .int ((ops 3).2.2.1), .int ((ops 3).2.2.2.1), .int ((ops 3).2.2.2.2.1), .int ((ops 3).2.2.2.2.2)])), ((ad 2), .inr (1, [.int o4.1, .int o4.2.1, .int o4.2.2.1, .int o4.2.2.2.1, .int o4.2.2.2.2.1, .int o4.2.2.2.2.2]))]) (rest := []) hw [0, 1] [2, 3, 4, 5, 6, 7] rfl rfl (by decide) (by decide) (kx_runV S hw fc_RD_75 rfl 0 rfl [0, 1] (by decide) rfl (c_Ln_join l D cI cZ cO (ad 6) (ad 7) fl u (hj) H.size) rfl hl.1 rfl (Nat.le_of_ble_eq_true rfl) d_RD_sync_27 (by decide) (by decide)) (fun u5 H locs hp5 hw => ?_)
      obtain ⟨n5, rfl⟩ : ∃ z, z = u5 := ⟨_, rfl⟩
      have hw : kx_w D (kx_T cI cZ cO) A_ s_ [((ad 0), .inr (0, [.int mm.1, .ref (ad 1), .ref (ad 6), .ref (ad 8), .ref (ad 10), .ref (ad 11), .ref (ad 12), .ref (ad 13), .ref (ad 14), .ref (ad 19), .ref (ad 20), .int mm.2.1, .int mm.2.2.1, .int mm.2.2.2])), ((ad 1), .inl (cO, 4, .inr (.inr (.inr (.inr (kx_opsf ad)))))), ((ad 3), .inr (1, [.int ((ops 1).1), .int ((ops 1).2.1), .int ((ops 1).2.2.1), .int ((ops 1).2.2.2.1), .int ((ops 1).2.2.2.2.1), .int ((ops 1).2.2.2.2.2)])), ((ad 4), .inr (1, [.int ((ops 2).1), .int ((ops 2).2.1), .int ((ops 2).2.2.1), .int ((ops 2).2.2.2.1), .int ((ops 2).2.2.2.2.1), .int ((ops 2).2.2.2.2.2)])), ((ad 5), .inr (1, [.int ((ops 3).1), .int ((ops 3).2.1), .int ((ops 3).2.2.1), .int ((ops 3).2.2.2.1), .int ((ops 3).2.2.2.2.1), .int ((ops 3).2.2.2.2.2)])), ((ad 2), .inr (1, [.int o4.1, .int o4.2.1, .int o4.2.2.1, .int o4.2.2.2.1, .int o4.2.2.2.2.1, .int o4.2.2.2.2.2])), ((ad 6), .inr (2, [.ref (ad 7), .int n5.2])), ((ad 7), .inl (cI, 4, .inl n5.1))] H locs := hw
      refine lv_iconst (v := 1) hx hb d_RD_sync_30 (by decide) ?_
      exact kx_ret_z I rfl hw (Or.inr rfl) (va_up ops 0 o4, n5) ⟨(by simp only [f_RD_sync, ← hp1, if_neg h2, e3, ← hp4, ← hp5]), (Or.inr rfl)⟩ [0, 1, 5, 2, 3, 4, 6, 7] (by decide) rfl d_RD_sync_31
    · refine kx_aald S hw 3 2 rfl rfl (b := (ad 3)) (by rw [e3]; rfl) (l_isFree (hp1 ▸ h2)) d_RD_sync_15 ?_
      refine lv_iconst (v := 2) hx hb d_RD_sync_16 (by decide) ?_
      refine lv_iconst (v := (-1)) hx hb d_RD_sync_17 (by decide) ?_
      refine lv_iconst (v := 0) hx hb d_RD_sync_18 (by decide) ?_
      refine kx_call_v (wc := [((ad 3), .inr (1, [.int ((ops 1).1), .int ((ops 1).2.1), .int ((ops 1).2.2.1), .int ((ops 1).2.2.2.1), .int ((ops 1).2.2.2.2.1), .int ((ops 1).2.2.2.2.2)]))]) (wr := [((ad 6), .inr (2, [.ref (ad 7), .int fl.2])), ((ad 7), .inl (cI, 4, .inl fl.1)), ((ad 0), .inr (0, [.int mm.1, .ref (ad 1), .ref (ad 6), .ref (ad 8), .ref (ad 10), .ref (ad 11), .ref (ad 12), .ref (ad 13), .ref (ad 14), .ref (ad 19), .ref (ad 20), .int mm.2.1, .int mm.2.2.1, .int mm.2.2.2])), ((ad 1), .inl (cO, 4, .inr (.inr (.inr (.inr (kx_opsf ad)))))), ((ad 2), .inr (1, [.int ((ops 0).1), .int ((ops 0).2.1), .int ((ops 0).2.2.1), .int ((ops 0).2.2.2.1), .int ((ops 0).2.2.2.2.1), .int ((ops 0).2.2.2.2.2)])), ((ad 4), .inr (1, [.int ((ops 2).1), .int ((ops 2).2.1), .int ((ops 2).2.2.1), .int ((ops 2).2.2.2.1), .int ((ops 2).2.2.2.2.1), .int ((ops 2).2.2.2.2.2)])), ((ad 5), .inr (1, [.int ((ops 3).1), .int ((ops 3).2.1), .int ((ops 3).2.2.1), .int ((ops 3).2.2.2.1), .int ((ops 3).2.2.2.2.1), .int ((ops 3).2.2.2.2.2)]))]) (rest := []) hw [5] [0, 1, 2, 3, 4, 6, 7] rfl rfl (by decide) (by decide) (kx_runV S hw fc_RD_71 rfl 5 rfl [5] (by decide) rfl (c_Op_begin l D cI cZ cO (ad 3) (ops 1) 2 (-1) 0 H.size) rfl hl.1 rfl (Nat.le_of_ble_eq_true rfl) d_RD_sync_19 (by decide) (by decide)) (fun u4 H locs hp4 hw => ?_)
      obtain ⟨o4, rfl⟩ : ∃ z, z = u4 := ⟨_, rfl⟩
      have hw : kx_w D (kx_T cI cZ cO) A_ s_ [((ad 6), .inr (2, [.ref (ad 7), .int fl.2])), ((ad 7), .inl (cI, 4, .inl fl.1)), ((ad 0), .inr (0, [.int mm.1, .ref (ad 1), .ref (ad 6), .ref (ad 8), .ref (ad 10), .ref (ad 11), .ref (ad 12), .ref (ad 13), .ref (ad 14), .ref (ad 19), .ref (ad 20), .int mm.2.1, .int mm.2.2.1, .int mm.2.2.2])), ((ad 1), .inl (cO, 4, .inr (.inr (.inr (.inr (kx_opsf ad)))))), ((ad 2), .inr (1, [.int ((ops 0).1), .int ((ops 0).2.1), .int ((ops 0).2.2.1), .int ((ops 0).2.2.2.1), .int ((ops 0).2.2.2.2.1), .int ((ops 0).2.2.2.2.2)])), ((ad 4), .inr (1, [.int ((ops 2).1), .int ((ops 2).2.1), .int ((ops 2).2.2.1), .int ((ops 2).2.2.2.1), .int ((ops 2).2.2.2.2.1), .int ((ops 2).2.2.2.2.2)])), ((ad 5), .inr (1, [.int ((ops 3).1), .int ((ops 3).2.1), .int ((ops 3).2.2.1), .int ((ops 3).2.2.2.1), .int ((ops 3).2.2.2.2.1), .int ((ops 3).2.2.2.2.2)])), ((ad 3), .inr (1, [.int o4.1, .int o4.2.1, .int o4.2.2.1, .int o4.2.2.2.1, .int o4.2.2.2.2.1, .int o4.2.2.2.2.2]))] H locs := hw
      refine lv_aload_n hx hb d_RD_sync_22 rfl (lv_at hl 0 rfl) ?_
      refine kx_get S hw fg_RD_18 2 rfl rfl d_RD_sync_23 ?_
      refine lv_iload_n hx hb d_RD_sync_26 rfl (lv_at hl 1 rfl) ?_
      refine kx_call_v (wc := [((ad 6), .inr (2, [.ref (ad 7), .int fl.2])), ((ad 7), .inl (cI, 4, .inl fl.1))]) (wr := [((ad 0), .inr (0, [.int mm.1, .ref (ad 1), .ref (ad 6), .ref (ad 8), .ref (ad 10), .ref (ad 11), .ref (ad 12), .ref (ad 13), .ref (ad 14), .ref (ad 19), .ref (ad 20), .int mm.2.1, .int mm.2.2.1, .int mm.2.2.2])), ((ad 1), .inl (cO, 4, .inr (.inr (.inr (.inr (kx_opsf ad)))))), ((ad 2), .inr (1, [.int ((ops 0).1), .int ((ops 0).2.1), .int ((ops 0).2.2.1), .int ((ops 0).2.2.2.1), .int ((ops 0).2.2.2.2.1), .int ((ops 0).2.2.2.2.2)])), ((ad 4), .inr (1, [.int ((ops 2).1), .int ((ops 2).2.1), .int ((ops 2).2.2.1), .int ((ops 2).2.2.2.1), .int ((ops 2).2.2.2.2.1), .int ((ops 2).2.2.2.2.2)])), ((ad 5), .inr (1, [.int ((ops 3).1), .int ((ops 3).2.1), .int ((ops 3).2.2.1), .int ((ops 3).2.2.2.1), .int ((ops 3).2.2.2.2.1), .int ((ops 3).2.2.2.2.2)])), ((ad 3), .inr (1, [.int o4.1, .int o4.2.1, .int o4.2.2.1, .int o4.2.2.2.1, .int o4.2.2.2.2.1, .int o4.2.2.2.2.2]))]) (rest := []) hw [0, 1] [2, 3, 4, 5, 6, 7] rfl rfl (by decide) (by decide) (kx_runV S hw fc_RD_75 rfl 0 rfl [0, 1] (by decide) rfl (c_Ln_join l D cI cZ cO (ad 6) (ad 7) fl u (hj) H.size) rfl hl.1 rfl (Nat.le_of_ble_eq_true rfl) d_RD_sync_27 (by decide) (by decide)) (fun u5 H locs hp5 hw => ?_)
      obtain ⟨n5, rfl⟩ : ∃ z, z = u5 := ⟨_, rfl⟩
      have hw : kx_w D (kx_T cI cZ cO) A_ s_ [((ad 0), .inr (0, [.int mm.1, .ref (ad 1), .ref (ad 6), .ref (ad 8), .ref (ad 10), .ref (ad 11), .ref (ad 12), .ref (ad 13), .ref (ad 14), .ref (ad 19), .ref (ad 20), .int mm.2.1, .int mm.2.2.1, .int mm.2.2.2])), ((ad 1), .inl (cO, 4, .inr (.inr (.inr (.inr (kx_opsf ad)))))), ((ad 2), .inr (1, [.int ((ops 0).1), .int ((ops 0).2.1), .int ((ops 0).2.2.1), .int ((ops 0).2.2.2.1), .int ((ops 0).2.2.2.2.1), .int ((ops 0).2.2.2.2.2)])), ((ad 4), .inr (1, [.int ((ops 2).1), .int ((ops 2).2.1), .int ((ops 2).2.2.1), .int ((ops 2).2.2.2.1), .int ((ops 2).2.2.2.2.1), .int ((ops 2).2.2.2.2.2)])), ((ad 5), .inr (1, [.int ((ops 3).1), .int ((ops 3).2.1), .int ((ops 3).2.2.1), .int ((ops 3).2.2.2.1), .int ((ops 3).2.2.2.2.1), .int ((ops 3).2.2.2.2.2)])), ((ad 3), .inr (1, [.int o4.1, .int o4.2.1, .int o4.2.2.1, .int o4.2.2.2.1, .int o4.2.2.2.2.1, .int o4.2.2.2.2.2])), ((ad 6), .inr (2, [.ref (ad 7), .int n5.2])), ((ad 7), .inl (cI, 4, .inl n5.1))] H locs := hw
      refine lv_iconst (v := 1) hx hb d_RD_sync_30 (by decide) ?_
      exact kx_ret_z I rfl hw (Or.inr rfl) (va_up ops 1 o4, n5) ⟨(by simp only [f_RD_sync, ← hp1, if_neg h2, e3, ← hp4, ← hp5]), (Or.inr rfl)⟩ [0, 1, 2, 5, 3, 4, 6, 7] (by decide) rfl d_RD_sync_31
    · refine kx_aald S hw 3 2 rfl rfl (b := (ad 4)) (by rw [e3]; rfl) (l_isFree (hp1 ▸ h2)) d_RD_sync_15 ?_
      refine lv_iconst (v := 2) hx hb d_RD_sync_16 (by decide) ?_
      refine lv_iconst (v := (-1)) hx hb d_RD_sync_17 (by decide) ?_
      refine lv_iconst (v := 0) hx hb d_RD_sync_18 (by decide) ?_
      refine kx_call_v (wc := [((ad 4), .inr (1, [.int ((ops 2).1), .int ((ops 2).2.1), .int ((ops 2).2.2.1), .int ((ops 2).2.2.2.1), .int ((ops 2).2.2.2.2.1), .int ((ops 2).2.2.2.2.2)]))]) (wr := [((ad 6), .inr (2, [.ref (ad 7), .int fl.2])), ((ad 7), .inl (cI, 4, .inl fl.1)), ((ad 0), .inr (0, [.int mm.1, .ref (ad 1), .ref (ad 6), .ref (ad 8), .ref (ad 10), .ref (ad 11), .ref (ad 12), .ref (ad 13), .ref (ad 14), .ref (ad 19), .ref (ad 20), .int mm.2.1, .int mm.2.2.1, .int mm.2.2.2])), ((ad 1), .inl (cO, 4, .inr (.inr (.inr (.inr (kx_opsf ad)))))), ((ad 2), .inr (1, [.int ((ops 0).1), .int ((ops 0).2.1), .int ((ops 0).2.2.1), .int ((ops 0).2.2.2.1), .int ((ops 0).2.2.2.2.1), .int ((ops 0).2.2.2.2.2)])), ((ad 3), .inr (1, [.int ((ops 1).1), .int ((ops 1).2.1), .int ((ops 1).2.2.1), .int ((ops 1).2.2.2.1), .int ((ops 1).2.2.2.2.1), .int ((ops 1).2.2.2.2.2)])), ((ad 5), .inr (1, [.int ((ops 3).1), .int ((ops 3).2.1), .int ((ops 3).2.2.1), .int ((ops 3).2.2.2.1), .int ((ops 3).2.2.2.2.1), .int ((ops 3).2.2.2.2.2)]))]) (rest := []) hw [6] [0, 1, 2, 3, 4, 5, 7] rfl rfl (by decide) (by decide) (kx_runV S hw fc_RD_71 rfl 6 rfl [6] (by decide) rfl (c_Op_begin l D cI cZ cO (ad 4) (ops 2) 2 (-1) 0 H.size) rfl hl.1 rfl (Nat.le_of_ble_eq_true rfl) d_RD_sync_19 (by decide) (by decide)) (fun u4 H locs hp4 hw => ?_)
      obtain ⟨o4, rfl⟩ : ∃ z, z = u4 := ⟨_, rfl⟩
      have hw : kx_w D (kx_T cI cZ cO) A_ s_ [((ad 6), .inr (2, [.ref (ad 7), .int fl.2])), ((ad 7), .inl (cI, 4, .inl fl.1)), ((ad 0), .inr (0, [.int mm.1, .ref (ad 1), .ref (ad 6), .ref (ad 8), .ref (ad 10), .ref (ad 11), .ref (ad 12), .ref (ad 13), .ref (ad 14), .ref (ad 19), .ref (ad 20), .int mm.2.1, .int mm.2.2.1, .int mm.2.2.2])), ((ad 1), .inl (cO, 4, .inr (.inr (.inr (.inr (kx_opsf ad)))))), ((ad 2), .inr (1, [.int ((ops 0).1), .int ((ops 0).2.1), .int ((ops 0).2.2.1), .int ((ops 0).2.2.2.1), .int ((ops 0).2.2.2.2.1), .int ((ops 0).2.2.2.2.2)])), ((ad 3), .inr (1, [.int ((ops 1).1), .int ((ops 1).2.1), .int ((ops 1).2.2.1), .int ((ops 1).2.2.2.1), .int ((ops 1).2.2.2.2.1), .int ((ops 1).2.2.2.2.2)])), ((ad 5), .inr (1, [.int ((ops 3).1), .int ((ops 3).2.1), .int ((ops 3).2.2.1), .int ((ops 3).2.2.2.1), .int ((ops 3).2.2.2.2.1), .int ((ops 3).2.2.2.2.2)])), ((ad 4), .inr (1, [.int o4.1, .int o4.2.1, .int o4.2.2.1, .int o4.2.2.2.1, .int o4.2.2.2.2.1, .int o4.2.2.2.2.2]))] H locs := hw
      refine lv_aload_n hx hb d_RD_sync_22 rfl (lv_at hl 0 rfl) ?_
      refine kx_get S hw fg_RD_18 2 rfl rfl d_RD_sync_23 ?_
      refine lv_iload_n hx hb d_RD_sync_26 rfl (lv_at hl 1 rfl) ?_
      refine kx_call_v (wc := [((ad 6), .inr (2, [.ref (ad 7), .int fl.2])), ((ad 7), .inl (cI, 4, .inl fl.1))]) (wr := [((ad 0), .inr (0, [.int mm.1, .ref (ad 1), .ref (ad 6), .ref (ad 8), .ref (ad 10), .ref (ad 11), .ref (ad 12), .ref (ad 13), .ref (ad 14), .ref (ad 19), .ref (ad 20), .int mm.2.1, .int mm.2.2.1, .int mm.2.2.2])), ((ad 1), .inl (cO, 4, .inr (.inr (.inr (.inr (kx_opsf ad)))))), ((ad 2), .inr (1, [.int ((ops 0).1), .int ((ops 0).2.1), .int ((ops 0).2.2.1), .int ((ops 0).2.2.2.1), .int ((ops 0).2.2.2.2.1), .int ((ops 0).2.2.2.2.2)])), ((ad 3), .inr (1, [.int ((ops 1).1), .int ((ops 1).2.1), .int ((ops 1).2.2.1), .int ((ops 1).2.2.2.1), .int ((ops 1).2.2.2.2.1), .int ((ops 1).2.2.2.2.2)])), ((ad 5), .inr (1, [.int ((ops 3).1), .int ((ops 3).2.1), .int ((ops 3).2.2.1), .int ((ops 3).2.2.2.1), .int ((ops 3).2.2.2.2.1), .int ((ops 3).2.2.2.2.2)])), ((ad 4), .inr (1, [.int o4.1, .int o4.2.1, .int o4.2.2.1, .int o4.2.2.2.1, .int o4.2.2.2.2.1, .int o4.2.2.2.2.2]))]) (rest := []) hw [0, 1] [2, 3, 4, 5, 6, 7] rfl rfl (by decide) (by decide) (kx_runV S hw fc_RD_75 rfl 0 rfl [0, 1] (by decide) rfl (c_Ln_join l D cI cZ cO (ad 6) (ad 7) fl u (hj) H.size) rfl hl.1 rfl (Nat.le_of_ble_eq_true rfl) d_RD_sync_27 (by decide) (by decide)) (fun u5 H locs hp5 hw => ?_)
      obtain ⟨n5, rfl⟩ : ∃ z, z = u5 := ⟨_, rfl⟩
      have hw : kx_w D (kx_T cI cZ cO) A_ s_ [((ad 0), .inr (0, [.int mm.1, .ref (ad 1), .ref (ad 6), .ref (ad 8), .ref (ad 10), .ref (ad 11), .ref (ad 12), .ref (ad 13), .ref (ad 14), .ref (ad 19), .ref (ad 20), .int mm.2.1, .int mm.2.2.1, .int mm.2.2.2])), ((ad 1), .inl (cO, 4, .inr (.inr (.inr (.inr (kx_opsf ad)))))), ((ad 2), .inr (1, [.int ((ops 0).1), .int ((ops 0).2.1), .int ((ops 0).2.2.1), .int ((ops 0).2.2.2.1), .int ((ops 0).2.2.2.2.1), .int ((ops 0).2.2.2.2.2)])), ((ad 3), .inr (1, [.int ((ops 1).1), .int ((ops 1).2.1), .int ((ops 1).2.2.1), .int ((ops 1).2.2.2.1), .int ((ops 1).2.2.2.2.1), .int ((ops 1).2.2.2.2.2)])), ((ad 5), .inr (1, [.int ((ops 3).1), .int ((ops 3).2.1), .int ((ops 3).2.2.1), .int ((ops 3).2.2.2.1), .int ((ops 3).2.2.2.2.1), .int ((ops 3).2.2.2.2.2)])), ((ad 4), .inr (1, [.int o4.1, .int o4.2.1, .int o4.2.2.1, .int o4.2.2.2.1, .int o4.2.2.2.2.1, .int o4.2.2.2.2.2])), ((ad 6), .inr (2, [.ref (ad 7), .int n5.2])), ((ad 7), .inl (cI, 4, .inl n5.1))] H locs := hw
      refine lv_iconst (v := 1) hx hb d_RD_sync_30 (by decide) ?_
      exact kx_ret_z I rfl hw (Or.inr rfl) (va_up ops 2 o4, n5) ⟨(by simp only [f_RD_sync, ← hp1, if_neg h2, e3, ← hp4, ← hp5]), (Or.inr rfl)⟩ [0, 1, 2, 3, 5, 4, 6, 7] (by decide) rfl d_RD_sync_31
    · refine kx_aald S hw 3 2 rfl rfl (b := (ad 5)) (by rw [e3]; rfl) (l_isFree (hp1 ▸ h2)) d_RD_sync_15 ?_
      refine lv_iconst (v := 2) hx hb d_RD_sync_16 (by decide) ?_
      refine lv_iconst (v := (-1)) hx hb d_RD_sync_17 (by decide) ?_
      refine lv_iconst (v := 0) hx hb d_RD_sync_18 (by decide) ?_
      refine kx_call_v (wc := [((ad 5), .inr (1, [.int ((ops 3).1), .int ((ops 3).2.1), .int ((ops 3).2.2.1), .int ((ops 3).2.2.2.1), .int ((ops 3).2.2.2.2.1), .int ((ops 3).2.2.2.2.2)]))]) (wr := [((ad 6), .inr (2, [.ref (ad 7), .int fl.2])), ((ad 7), .inl (cI, 4, .inl fl.1)), ((ad 0), .inr (0, [.int mm.1, .ref (ad 1), .ref (ad 6), .ref (ad 8), .ref (ad 10), .ref (ad 11), .ref (ad 12), .ref (ad 13), .ref (ad 14), .ref (ad 19), .ref (ad 20), .int mm.2.1, .int mm.2.2.1, .int mm.2.2.2])), ((ad 1), .inl (cO, 4, .inr (.inr (.inr (.inr (kx_opsf ad)))))), ((ad 2), .inr (1, [.int ((ops 0).1), .int ((ops 0).2.1), .int ((ops 0).2.2.1), .int ((ops 0).2.2.2.1), .int ((ops 0).2.2.2.2.1), .int ((ops 0).2.2.2.2.2)])), ((ad 3), .inr (1, [.int ((ops 1).1), .int ((ops 1).2.1), .int ((ops 1).2.2.1), .int ((ops 1).2.2.2.1), .int ((ops 1).2.2.2.2.1), .int ((ops 1).2.2.2.2.2)])), ((ad 4), .inr (1, [.int ((ops 2).1), .int ((ops 2).2.1), .int ((ops 2).2.2.1), .int ((ops 2).2.2.2.1), .int ((ops 2).2.2.2.2.1), .int ((ops 2).2.2.2.2.2)]))]) (rest := []) hw [7] [0, 1, 2, 3, 4, 5, 6] rfl rfl (by decide) (by decide) (kx_runV S hw fc_RD_71 rfl 7 rfl [7] (by decide) rfl (c_Op_begin l D cI cZ cO (ad 5) (ops 3) 2 (-1) 0 H.size) rfl hl.1 rfl (Nat.le_of_ble_eq_true rfl) d_RD_sync_19 (by decide) (by decide)) (fun u4 H locs hp4 hw => ?_)
      obtain ⟨o4, rfl⟩ : ∃ z, z = u4 := ⟨_, rfl⟩
      have hw : kx_w D (kx_T cI cZ cO) A_ s_ [((ad 6), .inr (2, [.ref (ad 7), .int fl.2])), ((ad 7), .inl (cI, 4, .inl fl.1)), ((ad 0), .inr (0, [.int mm.1, .ref (ad 1), .ref (ad 6), .ref (ad 8), .ref (ad 10), .ref (ad 11), .ref (ad 12), .ref (ad 13), .ref (ad 14), .ref (ad 19), .ref (ad 20), .int mm.2.1, .int mm.2.2.1, .int mm.2.2.2])), ((ad 1), .inl (cO, 4, .inr (.inr (.inr (.inr (kx_opsf ad)))))), ((ad 2), .inr (1, [.int ((ops 0).1), .int ((ops 0).2.1), .int ((ops 0).2.2.1), .int ((ops 0).2.2.2.1), .int ((ops 0).2.2.2.2.1), .int ((ops 0).2.2.2.2.2)])), ((ad 3), .inr (1, [.int ((ops 1).1), .int ((ops 1).2.1), .int ((ops 1).2.2.1), .int ((ops 1).2.2.2.1), .int ((ops 1).2.2.2.2.1), .int ((ops 1).2.2.2.2.2)])), ((ad 4), .inr (1, [.int ((ops 2).1), .int ((ops 2).2.1), .int ((ops 2).2.2.1), .int ((ops 2).2.2.2.1), .int ((ops 2).2.2.2.2.1), .int ((ops 2).2.2.2.2.2)])), ((ad 5), .inr (1, [.int o4.1, .int o4.2.1, .int o4.2.2.1, .int o4.2.2.2.1, .int o4.2.2.2.2.1, .int o4.2.2.2.2.2]))] H locs := hw
      refine lv_aload_n hx hb d_RD_sync_22 rfl (lv_at hl 0 rfl) ?_
      refine kx_get S hw fg_RD_18 2 rfl rfl d_RD_sync_23 ?_
      refine lv_iload_n hx hb d_RD_sync_26 rfl (lv_at hl 1 rfl) ?_
      refine kx_call_v (wc := [((ad 6), .inr (2, [.ref (ad 7), .int fl.2])), ((ad 7), .inl (cI, 4, .inl fl.1))]) (wr := [((ad 0), .inr (0, [.int mm.1, .ref (ad 1), .ref (ad 6), .ref (ad 8), .ref (ad 10), .ref (ad 11), .ref (ad 12), .ref (ad 13), .ref (ad 14), .ref (ad 19), .ref (ad 20), .int mm.2.1, .int mm.2.2.1, .int mm.2.2.2])), ((ad 1), .inl (cO, 4, .inr (.inr (.inr (.inr (kx_opsf ad)))))), ((ad 2), .inr (1, [.int ((ops 0).1), .int ((ops 0).2.1), .int ((ops 0).2.2.1), .int ((ops 0).2.2.2.1), .int ((ops 0).2.2.2.2.1), .int ((ops 0).2.2.2.2.2)])), ((ad 3), .inr (1, [.int ((ops 1).1), .int ((ops 1).2.1), .int ((ops 1).2.2.1), .int ((ops 1).2.2.2.1), .int ((ops 1).2.2.2.2.1), .int ((ops 1).2.2.2.2.2)])), ((ad 4), .inr (1, [.int ((ops 2).1), .int ((ops 2).2.1), .int ((ops 2).2.2.1), .int ((ops 2).2.2.2.1), .int ((ops 2).2.2.2.2.1), .int ((ops 2).2.2.2.2.2)])), ((ad 5), .inr (1, [.int o4.1, .int o4.2.1, .int o4.2.2.1, .int o4.2.2.2.1, .int o4.2.2.2.2.1, .int o4.2.2.2.2.2]))]) (rest := []) hw [0, 1] [2, 3, 4, 5, 6, 7] rfl rfl (by decide) (by decide) (kx_runV S hw fc_RD_75 rfl 0 rfl [0, 1] (by decide) rfl (c_Ln_join l D cI cZ cO (ad 6) (ad 7) fl u (hj) H.size) rfl hl.1 rfl (Nat.le_of_ble_eq_true rfl) d_RD_sync_27 (by decide) (by decide)) (fun u5 H locs hp5 hw => ?_)
      obtain ⟨n5, rfl⟩ : ∃ z, z = u5 := ⟨_, rfl⟩
      have hw : kx_w D (kx_T cI cZ cO) A_ s_ [((ad 0), .inr (0, [.int mm.1, .ref (ad 1), .ref (ad 6), .ref (ad 8), .ref (ad 10), .ref (ad 11), .ref (ad 12), .ref (ad 13), .ref (ad 14), .ref (ad 19), .ref (ad 20), .int mm.2.1, .int mm.2.2.1, .int mm.2.2.2])), ((ad 1), .inl (cO, 4, .inr (.inr (.inr (.inr (kx_opsf ad)))))), ((ad 2), .inr (1, [.int ((ops 0).1), .int ((ops 0).2.1), .int ((ops 0).2.2.1), .int ((ops 0).2.2.2.1), .int ((ops 0).2.2.2.2.1), .int ((ops 0).2.2.2.2.2)])), ((ad 3), .inr (1, [.int ((ops 1).1), .int ((ops 1).2.1), .int ((ops 1).2.2.1), .int ((ops 1).2.2.2.1), .int ((ops 1).2.2.2.2.1), .int ((ops 1).2.2.2.2.2)])), ((ad 4), .inr (1, [.int ((ops 2).1), .int ((ops 2).2.1), .int ((ops 2).2.2.1), .int ((ops 2).2.2.2.1), .int ((ops 2).2.2.2.2.1), .int ((ops 2).2.2.2.2.2)])), ((ad 5), .inr (1, [.int o4.1, .int o4.2.1, .int o4.2.2.1, .int o4.2.2.2.1, .int o4.2.2.2.2.1, .int o4.2.2.2.2.2])), ((ad 6), .inr (2, [.ref (ad 7), .int n5.2])), ((ad 7), .inl (cI, 4, .inl n5.1))] H locs := hw
      refine lv_iconst (v := 1) hx hb d_RD_sync_30 (by decide) ?_
      exact kx_ret_z I rfl hw (Or.inr rfl) (va_up ops 3 o4, n5) ⟨(by simp only [f_RD_sync, ← hp1, if_neg h2, e3, ← hp4, ← hp5]), (Or.inr rfl)⟩ [0, 1, 2, 3, 4, 5, 6, 7] (by decide) rfl d_RD_sync_31
  · refine lv_iconst (v := 0) hx hb d_RD_sync_8 (by decide) ?_
    exact kx_ret_z I rfl hw (Or.inl rfl) (ops, fl) ⟨(by simp only [f_RD_sync, ← hp1, if_pos h2]), (Or.inl rfl)⟩ [2, 3, 4, 5, 6, 7, 0, 1] (by decide) rfl d_RD_sync_9
def f_RD_print (mm : kt_M) (ops : (Nat → kt_Op)) (tl : kt_Ln) (u : Int32) (c : Int32) : Int32 × (Nat → kt_Op) × kt_Ln :=
  match f_RD_isFree mm ops u with
  | r1 => if r1 = 0 then (0, ops, tl)
    else if c < 32 then (0, ops, tl)
    else if c ≤ 126 then (match f_Op_begin (ops u.toNatClampNeg) 3 (-1) c with
      | o6 => match f_Ln_join tl u with
        | n7 => (1, va_up ops u.toNatClampNeg o6, n7))
    else (0, ops, tl)
set_option maxHeartbeats 4000000 in
set_option maxRecDepth 100000 in
theorem c_RD_print (l : Launch) (D : va_G) (cI cZ cO : ClassId) (ad : Nat → Nat) (mm : kt_M) (ops : (Nat → kt_Op)) (tl : kt_Ln) (u : Int32) (c : Int32) (hj : 0 ≤ tl.2) : kx_Ci (S := (Nat → kt_Op) × kt_Ln) l y_RD_print b_RD_print 3 (some .boolean) 2 0 0 D (kx_T cI cZ cO) [.ref (ad 0), .int u, .int c] [((ad 0), .inr (0, [.int mm.1, .ref (ad 1), .ref (ad 6), .ref (ad 8), .ref (ad 10), .ref (ad 11), .ref (ad 12), .ref (ad 13), .ref (ad 14), .ref (ad 19), .ref (ad 20), .int mm.2.1, .int mm.2.2.1, .int mm.2.2.2])), ((ad 1), .inl (cO, 4, .inr (.inr (.inr (.inr (kx_opsf ad)))))), ((ad 2), .inr (1, [.int ((ops 0).1), .int ((ops 0).2.1), .int ((ops 0).2.2.1), .int ((ops 0).2.2.2.1), .int ((ops 0).2.2.2.2.1), .int ((ops 0).2.2.2.2.2)])), ((ad 3), .inr (1, [.int ((ops 1).1), .int ((ops 1).2.1), .int ((ops 1).2.2.1), .int ((ops 1).2.2.2.1), .int ((ops 1).2.2.2.2.1), .int ((ops 1).2.2.2.2.2)])), ((ad 4), .inr (1, [.int ((ops 2).1), .int ((ops 2).2.1), .int ((ops 2).2.2.1), .int ((ops 2).2.2.2.1), .int ((ops 2).2.2.2.2.1), .int ((ops 2).2.2.2.2.2)])), ((ad 5), .inr (1, [.int ((ops 3).1), .int ((ops 3).2.1), .int ((ops 3).2.2.1), .int ((ops 3).2.2.2.1), .int ((ops 3).2.2.2.2.1), .int ((ops 3).2.2.2.2.2)])), ((ad 8), .inr (2, [.ref (ad 9), .int tl.2])), ((ad 9), .inl (cI, 4, .inl tl.1))] (fun rr zz => (rr, zz) = f_RD_print mm ops tl u c ∧ kx_b rr) (fun zz => [((ad 0), .inr (0, [.int mm.1, .ref (ad 1), .ref (ad 6), .ref (ad 8), .ref (ad 10), .ref (ad 11), .ref (ad 12), .ref (ad 13), .ref (ad 14), .ref (ad 19), .ref (ad 20), .int mm.2.1, .int mm.2.2.1, .int mm.2.2.2])), ((ad 1), .inl (cO, 4, .inr (.inr (.inr (.inr (kx_opsf ad)))))), ((ad 2), .inr (1, [.int ((zz.1 0).1), .int ((zz.1 0).2.1), .int ((zz.1 0).2.2.1), .int ((zz.1 0).2.2.2.1), .int ((zz.1 0).2.2.2.2.1), .int ((zz.1 0).2.2.2.2.2)])), ((ad 3), .inr (1, [.int ((zz.1 1).1), .int ((zz.1 1).2.1), .int ((zz.1 1).2.2.1), .int ((zz.1 1).2.2.2.1), .int ((zz.1 1).2.2.2.2.1), .int ((zz.1 1).2.2.2.2.2)])), ((ad 4), .inr (1, [.int ((zz.1 2).1), .int ((zz.1 2).2.1), .int ((zz.1 2).2.2.1), .int ((zz.1 2).2.2.2.1), .int ((zz.1 2).2.2.2.2.1), .int ((zz.1 2).2.2.2.2.2)])), ((ad 5), .inr (1, [.int ((zz.1 3).1), .int ((zz.1 3).2.1), .int ((zz.1 3).2.2.1), .int ((zz.1 3).2.2.2.1), .int ((zz.1 3).2.2.2.2.1), .int ((zz.1 3).2.2.2.2.2)])), ((ad 8), .inr (2, [.ref (ad 9), .int zz.2.2])), ((ad 9), .inl (cI, 4, .inl zz.2.1))]) := by
  refine kx_enter_i (by decide) (Nat.le_of_ble_eq_true rfl) ?_
  intro p_ e_ s_ m_ below_ meth_ c_ ls A_ H I hl hw
  have S := I.1
  have hx := S.1
  have hb := S.2.1
  have hl : lv_has ls 3 [(0, .ref (ad 0)), (1, .int u), (2, .int c)] := hl
  refine lv_aload_n hx hb d_RD_print_0 rfl (lv_at hl 0 rfl) ?_
  refine lv_iload_n hx hb d_RD_print_1 rfl (lv_at hl 1 rfl) ?_
  refine kx_call_i (wc := [((ad 0), .inr (0, [.int mm.1, .ref (ad 1), .ref (ad 6), .ref (ad 8), .ref (ad 10), .ref (ad 11), .ref (ad 12), .ref (ad 13), .ref (ad 14), .ref (ad 19), .ref (ad 20), .int mm.2.1, .int mm.2.2.1, .int mm.2.2.2])), ((ad 1), .inl (cO, 4, .inr (.inr (.inr (.inr (kx_opsf ad)))))), ((ad 2), .inr (1, [.int ((ops 0).1), .int ((ops 0).2.1), .int ((ops 0).2.2.1), .int ((ops 0).2.2.2.1), .int ((ops 0).2.2.2.2.1), .int ((ops 0).2.2.2.2.2)])), ((ad 3), .inr (1, [.int ((ops 1).1), .int ((ops 1).2.1), .int ((ops 1).2.2.1), .int ((ops 1).2.2.2.1), .int ((ops 1).2.2.2.2.1), .int ((ops 1).2.2.2.2.2)])), ((ad 4), .inr (1, [.int ((ops 2).1), .int ((ops 2).2.1), .int ((ops 2).2.2.1), .int ((ops 2).2.2.2.1), .int ((ops 2).2.2.2.2.1), .int ((ops 2).2.2.2.2.2)])), ((ad 5), .inr (1, [.int ((ops 3).1), .int ((ops 3).2.1), .int ((ops 3).2.2.1), .int ((ops 3).2.2.2.1), .int ((ops 3).2.2.2.2.1), .int ((ops 3).2.2.2.2.2)]))]) (wr := [((ad 8), .inr (2, [.ref (ad 9), .int tl.2])), ((ad 9), .inl (cI, 4, .inl tl.1))]) (rest := []) hw [0, 1, 2, 3, 4, 5] [6, 7] rfl rfl (by decide) (by decide) (kx_runV S hw fc_RD_64 rfl 0 rfl [0, 1, 2, 3, 4, 5] (by decide) rfl (c_RD_isFree l D cI cZ cO ad mm ops u H.size) rfl hl.1 rfl (Nat.le_of_ble_eq_true rfl) d_RD_print_2 (by decide) (by decide)) (fun r1 u1 H locs hp1 hw => ?_)
  obtain ⟨hp1, hb1⟩ := hp1
  have hw : kx_w D (kx_T cI cZ cO) A_ s_ [((ad 8), .inr (2, [.ref (ad 9), .int tl.2])), ((ad 9), .inl (cI, 4, .inl tl.1)), ((ad 0), .inr (0, [.int mm.1, .ref (ad 1), .ref (ad 6), .ref (ad 8), .ref (ad 10), .ref (ad 11), .ref (ad 12), .ref (ad 13), .ref (ad 14), .ref (ad 19), .ref (ad 20), .int mm.2.1, .int mm.2.2.1, .int mm.2.2.2])), ((ad 1), .inl (cO, 4, .inr (.inr (.inr (.inr (kx_opsf ad)))))), ((ad 2), .inr (1, [.int ((ops 0).1), .int ((ops 0).2.1), .int ((ops 0).2.2.1), .int ((ops 0).2.2.2.1), .int ((ops 0).2.2.2.2.1), .int ((ops 0).2.2.2.2.2)])), ((ad 3), .inr (1, [.int ((ops 1).1), .int ((ops 1).2.1), .int ((ops 1).2.2.1), .int ((ops 1).2.2.2.1), .int ((ops 1).2.2.2.2.1), .int ((ops 1).2.2.2.2.2)])), ((ad 4), .inr (1, [.int ((ops 2).1), .int ((ops 2).2.1), .int ((ops 2).2.2.1), .int ((ops 2).2.2.2.1), .int ((ops 2).2.2.2.2.1), .int ((ops 2).2.2.2.2.2)])), ((ad 5), .inr (1, [.int ((ops 3).1), .int ((ops 3).2.1), .int ((ops 3).2.2.1), .int ((ops 3).2.2.2.1), .int ((ops 3).2.2.2.2.1), .int ((ops 3).2.2.2.2.2)]))] H locs := hw
  refine lv_if_eq (tgt := 20) hx hb d_RD_print_5 (by decide) (fun h2 => ?_) (fun h2 => ?_)
  · refine lv_iconst (v := 0) hx hb d_RD_print_20 (by decide) ?_
    exact kx_ret_z I rfl hw (Or.inl rfl) (ops, tl) ⟨(by simp only [f_RD_print, ← hp1, if_pos h2]), (Or.inl rfl)⟩ [2, 3, 4, 5, 6, 7, 0, 1] (by decide) rfl d_RD_print_21
  · refine lv_iload_n hx hb d_RD_print_8 rfl (lv_at hl 2 rfl) ?_
    refine lv_bipush (v := 32) hx hb d_RD_print_9 (by decide) ?_
    refine lv_icmp_lt (tgt := 20) hx hb d_RD_print_11 (by decide) (fun h3 => ?_) (fun h3 => ?_)
    · refine lv_iconst (v := 0) hx hb d_RD_print_20 (by decide) ?_
      exact kx_ret_z I rfl hw (Or.inl rfl) (ops, tl) ⟨(by simp only [f_RD_print, ← hp1, if_neg h2, if_pos h3]), (Or.inl rfl)⟩ [2, 3, 4, 5, 6, 7, 0, 1] (by decide) rfl d_RD_print_21
    · refine lv_iload_n hx hb d_RD_print_14 rfl (lv_at hl 2 rfl) ?_
      refine lv_bipush (v := 126) hx hb d_RD_print_15 (by decide) ?_
      refine lv_icmp_le (tgt := 22) hx hb d_RD_print_17 (by decide) (fun h4 => ?_) (fun h4 => ?_)
      · refine lv_aload_n hx hb d_RD_print_22 rfl (lv_at hl 0 rfl) ?_
        refine kx_get S hw fg_RD_11 2 rfl rfl d_RD_print_23 ?_
        refine lv_iload_n hx hb d_RD_print_26 rfl (lv_at hl 1 rfl) ?_
        rcases kx_c4 (l_isFree (hp1 ▸ h2)) with e5 | e5 | e5 | e5
        · refine kx_aald S hw 3 2 rfl rfl (b := (ad 2)) (by rw [e5]; rfl) (l_isFree (hp1 ▸ h2)) d_RD_print_27 ?_
          refine lv_iconst (v := 3) hx hb d_RD_print_28 (by decide) ?_
          refine lv_iconst (v := (-1)) hx hb d_RD_print_29 (by decide) ?_
          refine lv_iload_n hx hb d_RD_print_30 rfl (lv_at hl 2 rfl) ?_
          refine kx_call_v (wc := [((ad 2), .inr (1, [.int ((ops 0).1), .int ((ops 0).2.1), .int ((ops 0).2.2.1), .int ((ops 0).2.2.2.1), .int ((ops 0).2.2.2.2.1), .int ((ops 0).2.2.2.2.2)]))]) (wr := [((ad 8), .inr (2, [.ref (ad 9), .int tl.2])), ((ad 9), .inl (cI, 4, .inl tl.1)), ((ad 0), .inr (0, [.int mm.1, .ref (ad 1), .ref (ad 6), .ref (ad 8), .ref (ad 10), .ref (ad 11), .ref (ad 12), .ref (ad 13), .ref (ad 14), .ref (ad 19), .ref (ad 20), .int mm.2.1, .int mm.2.2.1, .int mm.2.2.2])), ((ad 1), .inl (cO, 4, .inr (.inr (.inr (.inr (kx_opsf ad)))))), ((ad 3), .inr (1, [.int ((ops 1).1), .int ((ops 1).2.1), .int ((ops 1).2.2.1), .int ((ops 1).2.2.2.1), .int ((ops 1).2.2.2.2.1), .int ((ops 1).2.2.2.2.2)])), ((ad 4), .inr (1, [.int ((ops 2).1), .int ((ops 2).2.1), .int ((ops 2).2.2.1), .int ((ops 2).2.2.2.1), .int ((ops 2).2.2.2.2.1), .int ((ops 2).2.2.2.2.2)])), ((ad 5), .inr (1, [.int ((ops 3).1), .int ((ops 3).2.1), .int ((ops 3).2.2.1), .int ((ops 3).2.2.2.1), .int ((ops 3).2.2.2.2.1), .int ((ops 3).2.2.2.2.2)]))]) (rest := []) hw [4] [0, 1, 2, 3, 5, 6, 7] rfl rfl (by decide) (by decide) (kx_runV S hw fc_RD_71 rfl 4 rfl [4] (by decide) rfl (c_Op_begin l D cI cZ cO (ad 2) (ops 0) 3 (-1) c H.size) rfl hl.1 rfl (Nat.le_of_ble_eq_true rfl) d_RD_print_31 (by decide) (by decide)) (fun u6 H locs hp6 hw => ?_)
          obtain ⟨o6, rfl⟩ : ∃ z, z = u6 := ⟨_, rfl⟩
          have hw : kx_w D (kx_T cI cZ cO) A_ s_ [((ad 8), .inr (2, [.ref (ad 9), .int tl.2])), ((ad 9), .inl (cI, 4, .inl tl.1)), ((ad 0), .inr (0, [.int mm.1, .ref (ad 1), .ref (ad 6), .ref (ad 8), .ref (ad 10), .ref (ad 11), .ref (ad 12), .ref (ad 13), .ref (ad 14), .ref (ad 19), .ref (ad 20), .int mm.2.1, .int mm.2.2.1, .int mm.2.2.2])), ((ad 1), .inl (cO, 4, .inr (.inr (.inr (.inr (kx_opsf ad)))))), ((ad 3), .inr (1, [.int ((ops 1).1), .int ((ops 1).2.1), .int ((ops 1).2.2.1), .int ((ops 1).2.2.2.1), .int ((ops 1).2.2.2.2.1), .int ((ops 1).2.2.2.2.2)])), ((ad 4), .inr (1, [.int ((ops 2).1), .int ((ops 2).2.1), .int ((ops 2).2.2.1), .int ((ops 2).2.2.2.1), .int ((ops 2).2.2.2.2.1), .int ((ops 2).2.2.2.2.2)])), ((ad 5), .inr (1, [.int ((ops 3).1), .int ((ops 3).2.1), .int ((ops 3).2.2.1), .int ((ops 3).2.2.2.1), .int ((ops 3).2.2.2.2.1), .int ((ops 3).2.2.2.2.2)])), ((ad 2), .inr (1, [.int o6.1, .int o6.2.1, .int o6.2.2.1, .int o6.2.2.2.1, .int o6.2.2.2.2.1, .int o6.2.2.2.2.2]))] H locs := hw
          refine lv_aload_n hx hb d_RD_print_34 rfl (lv_at hl 0 rfl) ?_
          refine kx_get S hw fg_RD_22 2 rfl rfl d_RD_print_35 ?_
          refine lv_iload_n hx hb d_RD_print_38 rfl (lv_at hl 1 rfl) ?_
          refine kx_call_v (wc := [((ad 8), .inr (2, [.ref (ad 9), .int tl.2])), ((ad 9), .inl (cI, 4, .inl tl.1))]) (wr := [((ad 0), .inr (0, [.int mm.1, .ref (ad 1), .ref (ad 6), .ref (ad 8), .ref (ad 10), .ref (ad 11), .ref (ad 12), .ref (ad 13), .ref (ad 14), .ref (ad 19), .ref (ad 20), .int mm.2.1, .int mm.2.2.1, .int mm.2.2.2])), ((ad 1), .inl (cO, 4, .inr (.inr (.inr (.inr (kx_opsf ad)))))), ((ad 3), .inr (1, [.int ((ops 1).1), .int ((ops 1).2.1), .int ((ops 1).2.2.1), .int ((ops 1).2.2.2.1), .int ((ops 1).2.2.2.2.1), .int ((ops 1).2.2.2.2.2)])), ((ad 4), .inr (1, [.int ((ops 2).1), .int ((ops 2).2.1), .int ((ops 2).2.2.1), .int ((ops 2).2.2.2.1), .int ((ops 2).2.2.2.2.1), .int ((ops 2).2.2.2.2.2)])), ((ad 5), .inr (1, [.int ((ops 3).1), .int ((ops 3).2.1), .int ((ops 3).2.2.1), .int ((ops 3).2.2.2.1), .int ((ops 3).2.2.2.2.1), .int ((ops 3).2.2.2.2.2)])), ((ad 2), .inr (1, [.int o6.1, .int o6.2.1, .int o6.2.2.1, .int o6.2.2.2.1, .int o6.2.2.2.2.1, .int o6.2.2.2.2.2]))]) (rest := []) hw [0, 1] [2, 3, 4, 5, 6, 7] rfl rfl (by decide) (by decide) (kx_runV S hw fc_RD_75 rfl 0 rfl [0, 1] (by decide) rfl (c_Ln_join l D cI cZ cO (ad 8) (ad 9) tl u (hj) H.size) rfl hl.1 rfl (Nat.le_of_ble_eq_true rfl) d_RD_print_39 (by decide) (by decide)) (fun u7 H locs hp7 hw => ?_)
          obtain ⟨n7, rfl⟩ : ∃ z, z = u7 := ⟨_, rfl⟩
          have hw : kx_w D (kx_T cI cZ cO) A_ s_ [((ad 0), .inr (0, [.int mm.1, .ref (ad 1), .ref (ad 6), .ref (ad 8), .ref (ad 10), .ref (ad 11), .ref (ad 12), .ref (ad 13), .ref (ad 14), .ref (ad 19), .ref (ad 20), .int mm.2.1, .int mm.2.2.1, .int mm.2.2.2])), ((ad 1), .inl (cO, 4, .inr (.inr (.inr (.inr (kx_opsf ad)))))), ((ad 3), .inr (1, [.int ((ops 1).1), .int ((ops 1).2.1), .int ((ops 1).2.2.1), .int ((ops 1).2.2.2.1), .int ((ops 1).2.2.2.2.1), .int ((ops 1).2.2.2.2.2)])), ((ad 4), .inr (1, [.int ((ops 2).1), .int ((ops 2).2.1), .int ((ops 2).2.2.1), .int ((ops 2).2.2.2.1), .int ((ops 2).2.2.2.2.1), .int ((ops 2).2.2.2.2.2)])), ((ad 5), .inr (1, [.int ((ops 3).1), .int ((ops 3).2.1), .int ((ops 3).2.2.1), .int ((ops 3).2.2.2.1), .int ((ops 3).2.2.2.2.1), .int ((ops 3).2.2.2.2.2)])), ((ad 2), .inr (1, [.int o6.1, .int o6.2.1, .int o6.2.2.1, .int o6.2.2.2.1, .int o6.2.2.2.2.1, .int o6.2.2.2.2.2])), ((ad 8), .inr (2, [.ref (ad 9), .int n7.2])), ((ad 9), .inl (cI, 4, .inl n7.1))] H locs := hw
          refine lv_iconst (v := 1) hx hb d_RD_print_42 (by decide) ?_
          exact kx_ret_z I rfl hw (Or.inr rfl) (va_up ops 0 o6, n7) ⟨(by simp only [f_RD_print, ← hp1, if_neg h2, if_neg h3, if_pos h4, e5, ← hp6, ← hp7]), (Or.inr rfl)⟩ [0, 1, 5, 2, 3, 4, 6, 7] (by decide) rfl d_RD_print_43
        · refine kx_aald S hw 3 2 rfl rfl (b := (ad 3)) (by rw [e5]; rfl) (l_isFree (hp1 ▸ h2)) d_RD_print_27 ?_
          refine lv_iconst (v := 3) hx hb d_RD_print_28 (by decide) ?_
          refine lv_iconst (v := (-1)) hx hb d_RD_print_29 (by decide) ?_
          refine lv_iload_n hx hb d_RD_print_30 rfl (lv_at hl 2 rfl) ?_
          refine kx_call_v (wc := [((ad 3), .inr (1, [.int ((ops 1).1), .int ((ops 1).2.1), .int ((ops 1).2.2.1), .int ((ops 1).2.2.2.1), .int ((ops 1).2.2.2.2.1), .int ((ops 1).2.2.2.2.2)]))]) (wr := [((ad 8), .inr (2, [.ref (ad 9), .int tl.2])), ((ad 9), .inl (cI, 4, .inl tl.1)), ((ad 0), .inr (0, [.int mm.1, .ref (ad 1), .ref (ad 6), .ref (ad 8), .ref (ad 10), .ref (ad 11), .ref (ad 12), .ref (ad 13), .ref (ad 14), .ref (ad 19), .ref (ad 20), .int mm.2.1, .int mm.2.2.1, .int mm.2.2.2])), ((ad 1), .inl (cO, 4, .inr (.inr (.inr (.inr (kx_opsf ad)))))), ((ad 2), .inr (1, [.int ((ops 0).1), .int ((ops 0).2.1), .int ((ops 0).2.2.1), .int ((ops 0).2.2.2.1), .int ((ops 0).2.2.2.2.1), .int ((ops 0).2.2.2.2.2)])), ((ad 4), .inr (1, [.int ((ops 2).1), .int ((ops 2).2.1), .int ((ops 2).2.2.1), .int ((ops 2).2.2.2.1), .int ((ops 2).2.2.2.2.1), .int ((ops 2).2.2.2.2.2)])), ((ad 5), .inr (1, [.int ((ops 3).1), .int ((ops 3).2.1), .int ((ops 3).2.2.1), .int ((ops 3).2.2.2.1), .int ((ops 3).2.2.2.2.1), .int ((ops 3).2.2.2.2.2)]))]) (rest := []) hw [5] [0, 1, 2, 3, 4, 6, 7] rfl rfl (by decide) (by decide) (kx_runV S hw fc_RD_71 rfl 5 rfl [5] (by decide) rfl (c_Op_begin l D cI cZ cO (ad 3) (ops 1) 3 (-1) c H.size) rfl hl.1 rfl (Nat.le_of_ble_eq_true rfl) d_RD_print_31 (by decide) (by decide)) (fun u6 H locs hp6 hw => ?_)
          obtain ⟨o6, rfl⟩ : ∃ z, z = u6 := ⟨_, rfl⟩
          have hw : kx_w D (kx_T cI cZ cO) A_ s_ [((ad 8), .inr (2, [.ref (ad 9), .int tl.2])), ((ad 9), .inl (cI, 4, .inl tl.1)), ((ad 0), .inr (0, [.int mm.1, .ref (ad 1), .ref (ad 6), .ref (ad 8), .ref (ad 10), .ref (ad 11), .ref (ad 12), .ref (ad 13), .ref (ad 14), .ref (ad 19), .ref (ad 20), .int mm.2.1, .int mm.2.2.1, .int mm.2.2.2])), ((ad 1), .inl (cO, 4, .inr (.inr (.inr (.inr (kx_opsf ad)))))), ((ad 2), .inr (1, [.int ((ops 0).1), .int ((ops 0).2.1), .int ((ops 0).2.2.1), .int ((ops 0).2.2.2.1), .int ((ops 0).2.2.2.2.1), .int ((ops 0).2.2.2.2.2)])), ((ad 4), .inr (1, [.int ((ops 2).1), .int ((ops 2).2.1), .int ((ops 2).2.2.1), .int ((ops 2).2.2.2.1), .int ((ops 2).2.2.2.2.1), .int ((ops 2).2.2.2.2.2)])), ((ad 5), .inr (1, [.int ((ops 3).1), .int ((ops 3).2.1), .int ((ops 3).2.2.1), .int ((ops 3).2.2.2.1), .int ((ops 3).2.2.2.2.1), .int ((ops 3).2.2.2.2.2)])), ((ad 3), .inr (1, [.int o6.1, .int o6.2.1, .int o6.2.2.1, .int o6.2.2.2.1, .int o6.2.2.2.2.1, .int o6.2.2.2.2.2]))] H locs := hw
          refine lv_aload_n hx hb d_RD_print_34 rfl (lv_at hl 0 rfl) ?_
          refine kx_get S hw fg_RD_22 2 rfl rfl d_RD_print_35 ?_
          refine lv_iload_n hx hb d_RD_print_38 rfl (lv_at hl 1 rfl) ?_
          refine kx_call_v (wc := [((ad 8), .inr (2, [.ref (ad 9), .int tl.2])), ((ad 9), .inl (cI, 4, .inl tl.1))]) (wr := [((ad 0), .inr (0, [.int mm.1, .ref (ad 1), .ref (ad 6), .ref (ad 8), .ref (ad 10), .ref (ad 11), .ref (ad 12), .ref (ad 13), .ref (ad 14), .ref (ad 19), .ref (ad 20), .int mm.2.1, .int mm.2.2.1, .int mm.2.2.2])), ((ad 1), .inl (cO, 4, .inr (.inr (.inr (.inr (kx_opsf ad)))))), ((ad 2), .inr (1, [.int ((ops 0).1), .int ((ops 0).2.1), .int ((ops 0).2.2.1), .int ((ops 0).2.2.2.1), .int ((ops 0).2.2.2.2.1), .int ((ops 0).2.2.2.2.2)])), ((ad 4), .inr (1, [.int ((ops 2).1), .int ((ops 2).2.1), .int ((ops 2).2.2.1), .int ((ops 2).2.2.2.1), .int ((ops 2).2.2.2.2.1), .int ((ops 2).2.2.2.2.2)])), ((ad 5), .inr (1, [.int ((ops 3).1), .int ((ops 3).2.1), .int ((ops 3).2.2.1), .int ((ops 3).2.2.2.1), .int ((ops 3).2.2.2.2.1), .int ((ops 3).2.2.2.2.2)])), ((ad 3), .inr (1, [.int o6.1, .int o6.2.1, .int o6.2.2.1, .int o6.2.2.2.1, .int o6.2.2.2.2.1, .int o6.2.2.2.2.2]))]) (rest := []) hw [0, 1] [2, 3, 4, 5, 6, 7] rfl rfl (by decide) (by decide) (kx_runV S hw fc_RD_75 rfl 0 rfl [0, 1] (by decide) rfl (c_Ln_join l D cI cZ cO (ad 8) (ad 9) tl u (hj) H.size) rfl hl.1 rfl (Nat.le_of_ble_eq_true rfl) d_RD_print_39 (by decide) (by decide)) (fun u7 H locs hp7 hw => ?_)
          obtain ⟨n7, rfl⟩ : ∃ z, z = u7 := ⟨_, rfl⟩
          have hw : kx_w D (kx_T cI cZ cO) A_ s_ [((ad 0), .inr (0, [.int mm.1, .ref (ad 1), .ref (ad 6), .ref (ad 8), .ref (ad 10), .ref (ad 11), .ref (ad 12), .ref (ad 13), .ref (ad 14), .ref (ad 19), .ref (ad 20), .int mm.2.1, .int mm.2.2.1, .int mm.2.2.2])), ((ad 1), .inl (cO, 4, .inr (.inr (.inr (.inr (kx_opsf ad)))))), ((ad 2), .inr (1, [.int ((ops 0).1), .int ((ops 0).2.1), .int ((ops 0).2.2.1), .int ((ops 0).2.2.2.1), .int ((ops 0).2.2.2.2.1), .int ((ops 0).2.2.2.2.2)])), ((ad 4), .inr (1, [.int ((ops 2).1), .int ((ops 2).2.1), .int ((ops 2).2.2.1), .int ((ops 2).2.2.2.1), .int ((ops 2).2.2.2.2.1), .int ((ops 2).2.2.2.2.2)])), ((ad 5), .inr (1, [.int ((ops 3).1), .int ((ops 3).2.1), .int ((ops 3).2.2.1), .int ((ops 3).2.2.2.1), .int ((ops 3).2.2.2.2.1), .int ((ops 3).2.2.2.2.2)])), ((ad 3), .inr (1, [.int o6.1, .int o6.2.1, .int o6.2.2.1, .int o6.2.2.2.1, .int o6.2.2.2.2.1, .int o6.2.2.2.2.2])), ((ad 8), .inr (2, [.ref (ad 9), .int n7.2])), ((ad 9), .inl (cI, 4, .inl n7.1))] H locs := hw
          refine lv_iconst (v := 1) hx hb d_RD_print_42 (by decide) ?_
          exact kx_ret_z I rfl hw (Or.inr rfl) (va_up ops 1 o6, n7) ⟨(by simp only [f_RD_print, ← hp1, if_neg h2, if_neg h3, if_pos h4, e5, ← hp6, ← hp7]), (Or.inr rfl)⟩ [0, 1, 2, 5, 3, 4, 6, 7] (by decide) rfl d_RD_print_43
        · refine kx_aald S hw 3 2 rfl rfl (b := (ad 4)) (by rw [e5]; rfl) (l_isFree (hp1 ▸ h2)) d_RD_print_27 ?_
          refine lv_iconst (v := 3) hx hb d_RD_print_28 (by decide) ?_
          refine lv_iconst (v := (-1)) hx hb d_RD_print_29 (by decide) ?_
          refine lv_iload_n hx hb d_RD_print_30 rfl (lv_at hl 2 rfl) ?_
          refine kx_call_v (wc := [((ad 4), .inr (1, [.int ((ops 2).1), .int ((ops 2).2.1), .int ((ops 2).2.2.1), .int ((ops 2).2.2.2.1), .int ((ops 2).2.2.2.2.1), .int ((ops 2).2.2.2.2.2)]))]) (wr := [((ad 8), .inr (2, [.ref (ad 9), .int tl.2])), ((ad 9), .inl (cI, 4, .inl tl.1)), ((ad 0), .inr (0, [.int mm.1, .ref (ad 1), .ref (ad 6), .ref (ad 8), .ref (ad 10), .ref (ad 11), .ref (ad 12), .ref (ad 13), .ref (ad 14), .ref (ad 19), .ref (ad 20), .int mm.2.1, .int mm.2.2.1, .int mm.2.2.2])), ((ad 1), .inl (cO, 4, .inr (.inr (.inr (.inr (kx_opsf ad)))))), ((ad 2), .inr (1, [.int ((ops 0).1), .int ((ops 0).2.1), .int ((ops 0).2.2.1), .int ((ops 0).2.2.2.1), .int ((ops 0).2.2.2.2.1), .int ((ops 0).2.2.2.2.2)])), ((ad 3), .inr (1, [.int ((ops 1).1), .int ((ops 1).2.1), .int ((ops 1).2.2.1), .int ((ops 1).2.2.2.1), .int ((ops 1).2.2.2.2.1), .int ((ops 1).2.2.2.2.2)])), ((ad 5), .inr (1, [.int ((ops 3).1), .int ((ops 3).2.1), .int ((ops 3).2.2.1), .int ((ops 3).2.2.2.1), .int ((ops 3).2.2.2.2.1), .int ((ops 3).2.2.2.2.2)]))]) (rest := []) hw [6] [0, 1, 2, 3, 4, 5, 7] rfl rfl (by decide) (by decide) (kx_runV S hw fc_RD_71 rfl 6 rfl [6] (by decide) rfl (c_Op_begin l D cI cZ cO (ad 4) (ops 2) 3 (-1) c H.size) rfl hl.1 rfl (Nat.le_of_ble_eq_true rfl) d_RD_print_31 (by decide) (by decide)) (fun u6 H locs hp6 hw => ?_)
          obtain ⟨o6, rfl⟩ : ∃ z, z = u6 := ⟨_, rfl⟩
          have hw : kx_w D (kx_T cI cZ cO) A_ s_ [((ad 8), .inr (2, [.ref (ad 9), .int tl.2])), ((ad 9), .inl (cI, 4, .inl tl.1)), ((ad 0), .inr (0, [.int mm.1, .ref (ad 1), .ref (ad 6), .ref (ad 8), .ref (ad 10), .ref (ad 11), .ref (ad 12), .ref (ad 13), .ref (ad 14), .ref (ad 19), .ref (ad 20), .int mm.2.1, .int mm.2.2.1, .int mm.2.2.2])), ((ad 1), .inl (cO, 4, .inr (.inr (.inr (.inr (kx_opsf ad)))))), ((ad 2), .inr (1, [.int ((ops 0).1), .int ((ops 0).2.1), .int ((ops 0).2.2.1), .int ((ops 0).2.2.2.1), .int ((ops 0).2.2.2.2.1), .int ((ops 0).2.2.2.2.2)])), ((ad 3), .inr (1, [.int ((ops 1).1), .int ((ops 1).2.1), .int ((ops 1).2.2.1), .int ((ops 1).2.2.2.1), .int ((ops 1).2.2.2.2.1), .int ((ops 1).2.2.2.2.2)])), ((ad 5), .inr (1, [.int ((ops 3).1), .int ((ops 3).2.1), .int ((ops 3).2.2.1), .int ((ops 3).2.2.2.1), .int ((ops 3).2.2.2.2.1), .int ((ops 3).2.2.2.2.2)])), ((ad 4), .inr (1, [.int o6.1, .int o6.2.1, .int o6.2.2.1, .int o6.2.2.2.1, .int o6.2.2.2.2.1, .int o6.2.2.2.2.2]))] H locs := hw
          refine lv_aload_n hx hb d_RD_print_34 rfl (lv_at hl 0 rfl) ?_
          refine kx_get S hw fg_RD_22 2 rfl rfl d_RD_print_35 ?_
          refine lv_iload_n hx hb d_RD_print_38 rfl (lv_at hl 1 rfl) ?_
          refine kx_call_v (wc := [((ad 8), .inr (2, [.ref (ad 9), .int tl.2])), ((ad 9), .inl (cI, 4, .inl tl.1))]) (wr := [((ad 0), .inr (0, [.int mm.1, .ref (ad 1), .ref (ad 6), .ref (ad 8), .ref (ad 10), .ref (ad 11), .ref (ad 12), .ref (ad 13), .ref (ad 14), .ref (ad 19), .ref (ad 20), .int mm.2.1, .int mm.2.2.1, .int mm.2.2.2])), ((ad 1), .inl (cO, 4, .inr (.inr (.inr (.inr (kx_opsf ad)))))), ((ad 2), .inr (1, [.int ((ops 0).1), .int ((ops 0).2.1), .int ((ops 0).2.2.1), .int ((ops 0).2.2.2.1), .int ((ops 0).2.2.2.2.1), .int ((ops 0).2.2.2.2.2)])), ((ad 3), .inr (1, [.int ((ops 1).1), .int ((ops 1).2.1), .int ((ops 1).2.2.1), .int ((ops 1).2.2.2.1), .int ((ops 1).2.2.2.2.1), .int ((ops 1).2.2.2.2.2)])), ((ad 5), .inr (1, [.int ((ops 3).1), .int ((ops 3).2.1), .int ((ops 3).2.2.1), .int ((ops 3).2.2.2.1), .int ((ops 3).2.2.2.2.1), .int ((ops 3).2.2.2.2.2)])), ((ad 4), .inr (1, [.int o6.1, .int o6.2.1, .int o6.2.2.1, .int o6.2.2.2.1, .int o6.2.2.2.2.1, .int o6.2.2.2.2.2]))]) (rest := []) hw [0, 1] [2, 3, 4, 5, 6, 7] rfl rfl (by decide) (by decide) (kx_runV S hw fc_RD_75 rfl 0 rfl [0, 1] (by decide) rfl (c_Ln_join l D cI cZ cO (ad 8) (ad 9) tl u (hj) H.size) rfl hl.1 rfl (Nat.le_of_ble_eq_true rfl) d_RD_print_39 (by decide) (by decide)) (fun u7 H locs hp7 hw => ?_)
          obtain ⟨n7, rfl⟩ : ∃ z, z = u7 := ⟨_, rfl⟩
          have hw : kx_w D (kx_T cI cZ cO) A_ s_ [((ad 0), .inr (0, [.int mm.1, .ref (ad 1), .ref (ad 6), .ref (ad 8), .ref (ad 10), .ref (ad 11), .ref (ad 12), .ref (ad 13), .ref (ad 14), .ref (ad 19), .ref (ad 20), .int mm.2.1, .int mm.2.2.1, .int mm.2.2.2])), ((ad 1), .inl (cO, 4, .inr (.inr (.inr (.inr (kx_opsf ad)))))), ((ad 2), .inr (1, [.int ((ops 0).1), .int ((ops 0).2.1), .int ((ops 0).2.2.1), .int ((ops 0).2.2.2.1), .int ((ops 0).2.2.2.2.1), .int ((ops 0).2.2.2.2.2)])), ((ad 3), .inr (1, [.int ((ops 1).1), .int ((ops 1).2.1), .int ((ops 1).2.2.1), .int ((ops 1).2.2.2.1), .int ((ops 1).2.2.2.2.1), .int ((ops 1).2.2.2.2.2)])), ((ad 5), .inr (1, [.int ((ops 3).1), .int ((ops 3).2.1), .int ((ops 3).2.2.1), .int ((ops 3).2.2.2.1), .int ((ops 3).2.2.2.2.1), .int ((ops 3).2.2.2.2.2)])), ((ad 4), .inr (1, [.int o6.1, .int o6.2.1, .int o6.2.2.1, .int o6.2.2.2.1, .int o6.2.2.2.2.1, .int o6.2.2.2.2.2])), ((ad 8), .inr (2, [.ref (ad 9), .int n7.2])), ((ad 9), .inl (cI, 4, .inl n7.1))] H locs := hw
          refine lv_iconst (v := 1) hx hb d_RD_print_42 (by decide) ?_
          exact kx_ret_z I rfl hw (Or.inr rfl) (va_up ops 2 o6, n7) ⟨(by simp only [f_RD_print, ← hp1, if_neg h2, if_neg h3, if_pos h4, e5, ← hp6, ← hp7]), (Or.inr rfl)⟩ [0, 1, 2, 3, 5, 4, 6, 7] (by decide) rfl d_RD_print_43
        · refine kx_aald S hw 3 2 rfl rfl (b := (ad 5)) (by rw [e5]; rfl) (l_isFree (hp1 ▸ h2)) d_RD_print_27 ?_
          refine lv_iconst (v := 3) hx hb d_RD_print_28 (by decide) ?_
          refine lv_iconst (v := (-1)) hx hb d_RD_print_29 (by decide) ?_
          refine lv_iload_n hx hb d_RD_print_30 rfl (lv_at hl 2 rfl) ?_
          refine kx_call_v (wc := [((ad 5), .inr (1, [.int ((ops 3).1), .int ((ops 3).2.1), .int ((ops 3).2.2.1), .int ((ops 3).2.2.2.1), .int ((ops 3).2.2.2.2.1), .int ((ops 3).2.2.2.2.2)]))]) (wr := [((ad 8), .inr (2, [.ref (ad 9), .int tl.2])), ((ad 9), .inl (cI, 4, .inl tl.1)), ((ad 0), .inr (0, [.int mm.1, .ref (ad 1), .ref (ad 6), .ref (ad 8), .ref (ad 10), .ref (ad 11), .ref (ad 12), .ref (ad 13), .ref (ad 14), .ref (ad 19), .ref (ad 20), .int mm.2.1, .int mm.2.2.1, .int mm.2.2.2])), ((ad 1), .inl (cO, 4, .inr (.inr (.inr (.inr (kx_opsf ad)))))), ((ad 2), .inr (1, [.int ((ops 0).1), .int ((ops 0).2.1), .int ((ops 0).2.2.1), .int ((ops 0).2.2.2.1), .int ((ops 0).2.2.2.2.1), .int ((ops 0).2.2.2.2.2)])), ((ad 3), .inr (1, [.int ((ops 1).1), .int ((ops 1).2.1), .int ((ops 1).2.2.1), .int ((ops 1).2.2.2.1), .int ((ops 1).2.2.2.2.1), .int ((ops 1).2.2.2.2.2)])), ((ad 4), .inr (1, [.int ((ops 2).1), .int ((ops 2).2.1), .int ((ops 2).2.2.1), .int ((ops 2).2.2.2.1), .int ((ops 2).2.2.2.2.1), .int ((ops 2).2.2.2.2.2)]))]) (rest := []) hw [7] [0, 1, 2, 3, 4, 5, 6] rfl rfl (by decide) (by decide) (kx_runV S hw fc_RD_71 rfl 7 rfl [7] (by decide) rfl (c_Op_begin l D cI cZ cO (ad 5) (ops 3) 3 (-1) c H.size) rfl hl.1 rfl (Nat.le_of_ble_eq_true rfl) d_RD_print_31 (by decide) (by decide)) (fun u6 H locs hp6 hw => ?_)
          obtain ⟨o6, rfl⟩ : ∃ z, z = u6 := ⟨_, rfl⟩
          have hw : kx_w D (kx_T cI cZ cO) A_ s_ [((ad 8), .inr (2, [.ref (ad 9), .int tl.2])), ((ad 9), .inl (cI, 4, .inl tl.1)), ((ad 0), .inr (0, [.int mm.1, .ref (ad 1), .ref (ad 6), .ref (ad 8), .ref (ad 10), .ref (ad 11), .ref (ad 12), .ref (ad 13), .ref (ad 14), .ref (ad 19), .ref (ad 20), .int mm.2.1, .int mm.2.2.1, .int mm.2.2.2])), ((ad 1), .inl (cO, 4, .inr (.inr (.inr (.inr (kx_opsf ad)))))), ((ad 2), .inr (1, [.int ((ops 0).1), .int ((ops 0).2.1), .int ((ops 0).2.2.1), .int ((ops 0).2.2.2.1), .int ((ops 0).2.2.2.2.1), .int ((ops 0).2.2.2.2.2)])), ((ad 3), .inr (1, [.int ((ops 1).1), .int ((ops 1).2.1), .int ((ops 1).2.2.1), .int ((ops 1).2.2.2.1), .int ((ops 1).2.2.2.2.1), .int ((ops 1).2.2.2.2.2)])), ((ad 4), .inr (1, [.int ((ops 2).1), .int ((ops 2).2.1), .int ((ops 2).2.2.1), .int ((ops 2).2.2.2.1), .int ((ops 2).2.2.2.2.1), .int ((ops 2).2.2.2.2.2)])), ((ad 5), .inr (1, [.int o6.1, .int o6.2.1, .int o6.2.2.1, .int o6.2.2.2.1, .int o6.2.2.2.2.1, .int o6.2.2.2.2.2]))] H locs := hw
          refine lv_aload_n hx hb d_RD_print_34 rfl (lv_at hl 0 rfl) ?_
          refine kx_get S hw fg_RD_22 2 rfl rfl d_RD_print_35 ?_
          refine lv_iload_n hx hb d_RD_print_38 rfl (lv_at hl 1 rfl) ?_
          refine kx_call_v (wc := [((ad 8), .inr (2, [.ref (ad 9), .int tl.2])), ((ad 9), .inl (cI, 4, .inl tl.1))]) (wr := [((ad 0), .inr (0, [.int mm.1, .ref (ad 1), .ref (ad 6), .ref (ad 8), .ref (ad 10), .ref (ad 11), .ref (ad 12), .ref (ad 13), .ref (ad 14), .ref (ad 19), .ref (ad 20), .int mm.2.1, .int mm.2.2.1, .int mm.2.2.2])), ((ad 1), .inl (cO, 4, .inr (.inr (.inr (.inr (kx_opsf ad)))))), ((ad 2), .inr (1, [.int ((ops 0).1), .int ((ops 0).2.1), .int ((ops 0).2.2.1), .int ((ops 0).2.2.2.1), .int ((ops 0).2.2.2.2.1), .int ((ops 0).2.2.2.2.2)])), ((ad 3), .inr (1, [.int ((ops 1).1), .int ((ops 1).2.1), .int ((ops 1).2.2.1), .int ((ops 1).2.2.2.1), .int ((ops 1).2.2.2.2.1), .int ((ops 1).2.2.2.2.2)])), ((ad 4), .inr (1, [.int ((ops 2).1), .int ((ops 2).2.1), .int ((ops 2).2.2.1), .int ((ops 2).2.2.2.1), .int ((ops 2).2.2.2.2.1), .int ((ops 2).2.2.2.2.2)])), ((ad 5), .inr (1, [.int o6.1, .int o6.2.1, .int o6.2.2.1, .int o6.2.2.2.1, .int o6.2.2.2.2.1, .int o6.2.2.2.2.2]))]) (rest := []) hw [0, 1] [2, 3, 4, 5, 6, 7] rfl rfl (by decide) (by decide) (kx_runV S hw fc_RD_75 rfl 0 rfl [0, 1] (by decide) rfl (c_Ln_join l D cI cZ cO (ad 8) (ad 9) tl u (hj) H.size) rfl hl.1 rfl (Nat.le_of_ble_eq_true rfl) d_RD_print_39 (by decide) (by decide)) (fun u7 H locs hp7 hw => ?_)
          obtain ⟨n7, rfl⟩ : ∃ z, z = u7 := ⟨_, rfl⟩
          have hw : kx_w D (kx_T cI cZ cO) A_ s_ [((ad 0), .inr (0, [.int mm.1, .ref (ad 1), .ref (ad 6), .ref (ad 8), .ref (ad 10), .ref (ad 11), .ref (ad 12), .ref (ad 13), .ref (ad 14), .ref (ad 19), .ref (ad 20), .int mm.2.1, .int mm.2.2.1, .int mm.2.2.2])), ((ad 1), .inl (cO, 4, .inr (.inr (.inr (.inr (kx_opsf ad)))))), ((ad 2), .inr (1, [.int ((ops 0).1), .int ((ops 0).2.1), .int ((ops 0).2.2.1), .int ((ops 0).2.2.2.1), .int ((ops 0).2.2.2.2.1), .int ((ops 0).2.2.2.2.2)])), ((ad 3), .inr (1, [.int ((ops 1).1), .int ((ops 1).2.1), .int ((ops 1).2.2.1), .int ((ops 1).2.2.2.1), .int ((ops 1).2.2.2.2.1), .int ((ops 1).2.2.2.2.2)])), ((ad 4), .inr (1, [.int ((ops 2).1), .int ((ops 2).2.1), .int ((ops 2).2.2.1), .int ((ops 2).2.2.2.1), .int ((ops 2).2.2.2.2.1), .int ((ops 2).2.2.2.2.2)])), ((ad 5), .inr (1, [.int o6.1, .int o6.2.1, .int o6.2.2.1, .int o6.2.2.2.1, .int o6.2.2.2.2.1, .int o6.2.2.2.2.2])), ((ad 8), .inr (2, [.ref (ad 9), .int n7.2])), ((ad 9), .inl (cI, 4, .inl n7.1))] H locs := hw
          refine lv_iconst (v := 1) hx hb d_RD_print_42 (by decide) ?_
          exact kx_ret_z I rfl hw (Or.inr rfl) (va_up ops 3 o6, n7) ⟨(by simp only [f_RD_print, ← hp1, if_neg h2, if_neg h3, if_pos h4, e5, ← hp6, ← hp7]), (Or.inr rfl)⟩ [0, 1, 2, 3, 4, 5, 6, 7] (by decide) rfl d_RD_print_43
      · refine lv_iconst (v := 0) hx hb d_RD_print_20 (by decide) ?_
        exact kx_ret_z I rfl hw (Or.inl rfl) (ops, tl) ⟨(by simp only [f_RD_print, ← hp1, if_neg h2, if_neg h3, if_neg h4]), (Or.inl rfl)⟩ [2, 3, 4, 5, 6, 7, 0, 1] (by decide) rfl d_RD_print_21
set_option maxHeartbeats 4000000 in
set_option maxRecDepth 100000 in
theorem c_RD_driverOf_0 (l : Launch) (D : va_G) (cI cZ cO : ClassId) (ad : Nat → Nat) (mm : kt_M) (d : Int32) (hd : d = 0) : kx_Cr (S := Unit) l y_RD_driverOf b_RD_driverOf 2 (some (.object "RebornDrivers$Driver")) 0 0 0 D (kx_T cI cZ cO) [.ref (ad 0), .int d] [((ad 0), .inr (0, [.int mm.1, .ref (ad 1), .ref (ad 6), .ref (ad 8), .ref (ad 10), .ref (ad 11), .ref (ad 12), .ref (ad 13), .ref (ad 14), .ref (ad 19), .ref (ad 20), .int mm.2.1, .int mm.2.2.1, .int mm.2.2.2]))] (fun _ => True) (fun _ => (ad 10)) (fun _ => [((ad 0), .inr (0, [.int mm.1, .ref (ad 1), .ref (ad 6), .ref (ad 8), .ref (ad 10), .ref (ad 11), .ref (ad 12), .ref (ad 13), .ref (ad 14), .ref (ad 19), .ref (ad 20), .int mm.2.1, .int mm.2.2.1, .int mm.2.2.2]))]) := by
  refine kx_enter_r (by decide) (Nat.le_of_ble_eq_true rfl) ?_
  intro p_ e_ s_ m_ below_ meth_ c_ ls A_ H I hl hw
  have S := I.1
  have hx := S.1
  have hb := S.2.1
  have hl : lv_has ls 2 [(0, .ref (ad 0)), (1, .int d)] := hl
  refine lv_iload_n hx hb d_RD_driverOf_0 rfl (lv_at hl 1 rfl) ?_
  refine lv_if_ne (tgt := 11) hx hb d_RD_driverOf_1 (by decide) (fun hq => (hq hd).elim) (fun _ => ?_)
  refine lv_aload_n hx hb d_RD_driverOf_4 rfl (lv_at hl 0 rfl) ?_
  refine kx_get S hw fg_RD_28 0 rfl rfl d_RD_driverOf_5 ?_
  refine lv_goto (tgt := 15) hx hb d_RD_driverOf_8 (by decide) ?_
  exact kx_ret_r I rfl hw () rfl trivial [0] (by decide) rfl d_RD_driverOf_15
set_option maxHeartbeats 4000000 in
set_option maxRecDepth 100000 in
theorem c_RD_driverOf_1 (l : Launch) (D : va_G) (cI cZ cO : ClassId) (ad : Nat → Nat) (mm : kt_M) (d : Int32) (hd : ¬ d = 0) : kx_Cr (S := Unit) l y_RD_driverOf b_RD_driverOf 2 (some (.object "RebornDrivers$Driver")) 0 0 0 D (kx_T cI cZ cO) [.ref (ad 0), .int d] [((ad 0), .inr (0, [.int mm.1, .ref (ad 1), .ref (ad 6), .ref (ad 8), .ref (ad 10), .ref (ad 11), .ref (ad 12), .ref (ad 13), .ref (ad 14), .ref (ad 19), .ref (ad 20), .int mm.2.1, .int mm.2.2.1, .int mm.2.2.2]))] (fun _ => True) (fun _ => (ad 11)) (fun _ => [((ad 0), .inr (0, [.int mm.1, .ref (ad 1), .ref (ad 6), .ref (ad 8), .ref (ad 10), .ref (ad 11), .ref (ad 12), .ref (ad 13), .ref (ad 14), .ref (ad 19), .ref (ad 20), .int mm.2.1, .int mm.2.2.1, .int mm.2.2.2]))]) := by
  refine kx_enter_r (by decide) (Nat.le_of_ble_eq_true rfl) ?_
  intro p_ e_ s_ m_ below_ meth_ c_ ls A_ H I hl hw
  have S := I.1
  have hx := S.1
  have hb := S.2.1
  have hl : lv_has ls 2 [(0, .ref (ad 0)), (1, .int d)] := hl
  refine lv_iload_n hx hb d_RD_driverOf_0 rfl (lv_at hl 1 rfl) ?_
  refine lv_if_ne (tgt := 11) hx hb d_RD_driverOf_1 (by decide) (fun _ => ?_) (fun hq => (hd hq).elim)
  refine lv_aload_n hx hb d_RD_driverOf_11 rfl (lv_at hl 0 rfl) ?_
  refine kx_get S hw fg_RD_32 0 rfl rfl d_RD_driverOf_12 ?_
  exact kx_ret_r I rfl hw () rfl trivial [0] (by decide) rfl d_RD_driverOf_15
def f_RD_fault (mm : kt_M) (dk : kt_Dr) (co : kt_Dr) (d : Int32) (k : Int32) : Int32 × kt_Dr × kt_Dr :=
  match f_RD_isDriver d with
  | r1 => if r1 = 0 then (0, dk, co)
    else if k < 0 then (0, dk, co)
    else if k ≤ 3 then (if d = 0 then (match f_Dr_suffer dk k with
        | (r7, d7) => (r7, d7, co))
      else match f_Dr_suffer co k with
      | (r9, d9) => (r9, dk, d9))
    else (0, dk, co)
set_option maxHeartbeats 4000000 in
set_option maxRecDepth 100000 in
theorem c_RD_fault (l : Launch) (D : va_G) (cI cZ cO : ClassId) (ad : Nat → Nat) (mm : kt_M) (dk : kt_Dr) (co : kt_Dr) (d : Int32) (k : Int32) : kx_Ci (S := kt_Dr × kt_Dr) l y_RD_fault b_RD_fault 3 (some .boolean) 2 0 0 D (kx_T cI cZ cO) [.ref (ad 0), .int d, .int k] [((ad 0), .inr (0, [.int mm.1, .ref (ad 1), .ref (ad 6), .ref (ad 8), .ref (ad 10), .ref (ad 11), .ref (ad 12), .ref (ad 13), .ref (ad 14), .ref (ad 19), .ref (ad 20), .int mm.2.1, .int mm.2.2.1, .int mm.2.2.2])), ((ad 10), .inr (3, [.int dk.1, .int dk.2.1, .int dk.2.2.1, .int dk.2.2.2.1, .int dk.2.2.2.2.1, .int dk.2.2.2.2.2])), ((ad 11), .inr (3, [.int co.1, .int co.2.1, .int co.2.2.1, .int co.2.2.2.1, .int co.2.2.2.2.1, .int co.2.2.2.2.2]))] (fun rr zz => (rr, zz) = f_RD_fault mm dk co d k ∧ kx_b rr) (fun zz => [((ad 0), .inr (0, [.int mm.1, .ref (ad 1), .ref (ad 6), .ref (ad 8), .ref (ad 10), .ref (ad 11), .ref (ad 12), .ref (ad 13), .ref (ad 14), .ref (ad 19), .ref (ad 20), .int mm.2.1, .int mm.2.2.1, .int mm.2.2.2])), ((ad 10), .inr (3, [.int zz.1.1, .int zz.1.2.1, .int zz.1.2.2.1, .int zz.1.2.2.2.1, .int zz.1.2.2.2.2.1, .int zz.1.2.2.2.2.2])), ((ad 11), .inr (3, [.int zz.2.1, .int zz.2.2.1, .int zz.2.2.2.1, .int zz.2.2.2.2.1, .int zz.2.2.2.2.2.1, .int zz.2.2.2.2.2.2]))]) := by
  refine kx_enter_i (by decide) (Nat.le_of_ble_eq_true rfl) ?_
  intro p_ e_ s_ m_ below_ meth_ c_ ls A_ H I hl hw
  have S := I.1
  have hx := S.1
  have hb := S.2.1
  have hl : lv_has ls 3 [(0, .ref (ad 0)), (1, .int d), (2, .int k)] := hl
  refine lv_iload_n hx hb d_RD_fault_0 rfl (lv_at hl 1 rfl) ?_
  refine kx_call_i (wc := []) (wr := [((ad 0), .inr (0, [.int mm.1, .ref (ad 1), .ref (ad 6), .ref (ad 8), .ref (ad 10), .ref (ad 11), .ref (ad 12), .ref (ad 13), .ref (ad 14), .ref (ad 19), .ref (ad 20), .int mm.2.1, .int mm.2.2.1, .int mm.2.2.2])), ((ad 10), .inr (3, [.int dk.1, .int dk.2.1, .int dk.2.2.1, .int dk.2.2.2.1, .int dk.2.2.2.2.1, .int dk.2.2.2.2.2])), ((ad 11), .inr (3, [.int co.1, .int co.2.1, .int co.2.2.1, .int co.2.2.2.1, .int co.2.2.2.2.1, .int co.2.2.2.2.2]))]) (rest := []) hw [] [0, 1, 2] rfl rfl (by decide) (by decide) (kx_runS S hw fc_RD_99 [] (by decide) rfl (c_RD_isDriver l D cI cZ cO d H.size) rfl hl.1 rfl (Nat.le_of_ble_eq_true rfl) d_RD_fault_1 (by decide) (by decide)) (fun r1 u1 H locs hp1 hw => ?_)
  obtain ⟨hp1, hb1⟩ := hp1
  have hw : kx_w D (kx_T cI cZ cO) A_ s_ [((ad 0), .inr (0, [.int mm.1, .ref (ad 1), .ref (ad 6), .ref (ad 8), .ref (ad 10), .ref (ad 11), .ref (ad 12), .ref (ad 13), .ref (ad 14), .ref (ad 19), .ref (ad 20), .int mm.2.1, .int mm.2.2.1, .int mm.2.2.2])), ((ad 10), .inr (3, [.int dk.1, .int dk.2.1, .int dk.2.2.1, .int dk.2.2.2.1, .int dk.2.2.2.2.1, .int dk.2.2.2.2.2])), ((ad 11), .inr (3, [.int co.1, .int co.2.1, .int co.2.2.1, .int co.2.2.2.1, .int co.2.2.2.2.1, .int co.2.2.2.2.2]))] H locs := hw
  refine lv_if_eq (tgt := 16) hx hb d_RD_fault_4 (by decide) (fun h2 => ?_) (fun h2 => ?_)
  · refine lv_iconst (v := 0) hx hb d_RD_fault_16 (by decide) ?_
    exact kx_ret_z I rfl hw (Or.inl rfl) (dk, co) ⟨(by simp only [f_RD_fault, ← hp1, if_pos h2]), (Or.inl rfl)⟩ [0, 1, 2] (by decide) rfl d_RD_fault_17
  · refine lv_iload_n hx hb d_RD_fault_7 rfl (lv_at hl 2 rfl) ?_
    refine lv_if_lt (tgt := 16) hx hb d_RD_fault_8 (by decide) (fun h3 => ?_) (fun h3 => ?_)
    · refine lv_iconst (v := 0) hx hb d_RD_fault_16 (by decide) ?_
      exact kx_ret_z I rfl hw (Or.inl rfl) (dk, co) ⟨(by simp only [f_RD_fault, ← hp1, if_neg h2, if_pos h3]), (Or.inl rfl)⟩ [0, 1, 2] (by decide) rfl d_RD_fault_17
    · refine lv_iload_n hx hb d_RD_fault_11 rfl (lv_at hl 2 rfl) ?_
      refine lv_iconst (v := 3) hx hb d_RD_fault_12 (by decide) ?_
      refine lv_icmp_le (tgt := 18) hx hb d_RD_fault_13 (by decide) (fun h4 => ?_) (fun h4 => ?_)
      · refine lv_aload_n hx hb d_RD_fault_18 rfl (lv_at hl 0 rfl) ?_
        refine lv_iload_n hx hb d_RD_fault_19 rfl (lv_at hl 1 rfl) ?_
        by_cases h5 : d = 0
        · refine kx_call_r (wc := [((ad 0), .inr (0, [.int mm.1, .ref (ad 1), .ref (ad 6), .ref (ad 8), .ref (ad 10), .ref (ad 11), .ref (ad 12), .ref (ad 13), .ref (ad 14), .ref (ad 19), .ref (ad 20), .int mm.2.1, .int mm.2.2.1, .int mm.2.2.2]))]) (wr := [((ad 10), .inr (3, [.int dk.1, .int dk.2.1, .int dk.2.2.1, .int dk.2.2.2.1, .int dk.2.2.2.2.1, .int dk.2.2.2.2.2])), ((ad 11), .inr (3, [.int co.1, .int co.2.1, .int co.2.2.1, .int co.2.2.2.1, .int co.2.2.2.2.1, .int co.2.2.2.2.2]))]) (rest := []) hw [0] [1, 2] rfl rfl (by decide) (by decide) (kx_runV S hw fc_RD_102 rfl 0 rfl [0] (by decide) rfl (c_RD_driverOf_0 l D cI cZ cO ad mm d (h5) H.size) rfl hl.1 rfl (Nat.le_of_ble_eq_true rfl) d_RD_fault_20 (by decide) (by decide)) (fun u6 H locs hp6 hw => ?_)
          have hw : kx_w D (kx_T cI cZ cO) A_ s_ [((ad 10), .inr (3, [.int dk.1, .int dk.2.1, .int dk.2.2.1, .int dk.2.2.2.1, .int dk.2.2.2.2.1, .int dk.2.2.2.2.2])), ((ad 11), .inr (3, [.int co.1, .int co.2.1, .int co.2.2.1, .int co.2.2.2.1, .int co.2.2.2.2.1, .int co.2.2.2.2.2])), ((ad 0), .inr (0, [.int mm.1, .ref (ad 1), .ref (ad 6), .ref (ad 8), .ref (ad 10), .ref (ad 11), .ref (ad 12), .ref (ad 13), .ref (ad 14), .ref (ad 19), .ref (ad 20), .int mm.2.1, .int mm.2.2.1, .int mm.2.2.2]))] H locs := hw
          refine lv_iload_n hx hb d_RD_fault_23 rfl (lv_at hl 2 rfl) ?_
          refine kx_call_i (wc := [((ad 10), .inr (3, [.int dk.1, .int dk.2.1, .int dk.2.2.1, .int dk.2.2.2.1, .int dk.2.2.2.2.1, .int dk.2.2.2.2.2]))]) (wr := [((ad 11), .inr (3, [.int co.1, .int co.2.1, .int co.2.2.1, .int co.2.2.2.1, .int co.2.2.2.2.1, .int co.2.2.2.2.2])), ((ad 0), .inr (0, [.int mm.1, .ref (ad 1), .ref (ad 6), .ref (ad 8), .ref (ad 10), .ref (ad 11), .ref (ad 12), .ref (ad 13), .ref (ad 14), .ref (ad 19), .ref (ad 20), .int mm.2.1, .int mm.2.2.1, .int mm.2.2.2]))]) (rest := []) hw [0] [1, 2] rfl rfl (by decide) (by decide) (kx_runV S hw fc_RD_106 rfl 0 rfl [0] (by decide) rfl (c_Dr_suffer l D cI cZ cO (ad 10) dk k H.size) rfl hl.1 rfl (Nat.le_of_ble_eq_true rfl) d_RD_fault_24 (by decide) (by decide)) (fun r7 u7 H locs hp7 hw => ?_)
          obtain ⟨d7, rfl⟩ : ∃ z, z = u7 := ⟨_, rfl⟩
          obtain ⟨hp7, hb7⟩ := hp7
          have hw : kx_w D (kx_T cI cZ cO) A_ s_ [((ad 11), .inr (3, [.int co.1, .int co.2.1, .int co.2.2.1, .int co.2.2.2.1, .int co.2.2.2.2.1, .int co.2.2.2.2.2])), ((ad 0), .inr (0, [.int mm.1, .ref (ad 1), .ref (ad 6), .ref (ad 8), .ref (ad 10), .ref (ad 11), .ref (ad 12), .ref (ad 13), .ref (ad 14), .ref (ad 19), .ref (ad 20), .int mm.2.1, .int mm.2.2.1, .int mm.2.2.2])), ((ad 10), .inr (3, [.int d7.1, .int d7.2.1, .int d7.2.2.1, .int d7.2.2.2.1, .int d7.2.2.2.2.1, .int d7.2.2.2.2.2]))] H locs := hw
          exact kx_ret_z I rfl hw hb7 (d7, co) ⟨(by simp only [f_RD_fault, ← hp1, if_neg h2, if_neg h3, if_pos h4, if_pos h5, ← hp7]), hb7⟩ [1, 2, 0] (by decide) rfl d_RD_fault_27
        · refine kx_call_r (wc := [((ad 0), .inr (0, [.int mm.1, .ref (ad 1), .ref (ad 6), .ref (ad 8), .ref (ad 10), .ref (ad 11), .ref (ad 12), .ref (ad 13), .ref (ad 14), .ref (ad 19), .ref (ad 20), .int mm.2.1, .int mm.2.2.1, .int mm.2.2.2]))]) (wr := [((ad 10), .inr (3, [.int dk.1, .int dk.2.1, .int dk.2.2.1, .int dk.2.2.2.1, .int dk.2.2.2.2.1, .int dk.2.2.2.2.2])), ((ad 11), .inr (3, [.int co.1, .int co.2.1, .int co.2.2.1, .int co.2.2.2.1, .int co.2.2.2.2.1, .int co.2.2.2.2.2]))]) (rest := []) hw [0] [1, 2] rfl rfl (by decide) (by decide) (kx_runV S hw fc_RD_102 rfl 0 rfl [0] (by decide) rfl (c_RD_driverOf_1 l D cI cZ cO ad mm d (h5) H.size) rfl hl.1 rfl (Nat.le_of_ble_eq_true rfl) d_RD_fault_20 (by decide) (by decide)) (fun u8 H locs hp8 hw => ?_)
          have hw : kx_w D (kx_T cI cZ cO) A_ s_ [((ad 10), .inr (3, [.int dk.1, .int dk.2.1, .int dk.2.2.1, .int dk.2.2.2.1, .int dk.2.2.2.2.1, .int dk.2.2.2.2.2])), ((ad 11), .inr (3, [.int co.1, .int co.2.1, .int co.2.2.1, .int co.2.2.2.1, .int co.2.2.2.2.1, .int co.2.2.2.2.2])), ((ad 0), .inr (0, [.int mm.1, .ref (ad 1), .ref (ad 6), .ref (ad 8), .ref (ad 10), .ref (ad 11), .ref (ad 12), .ref (ad 13), .ref (ad 14), .ref (ad 19), .ref (ad 20), .int mm.2.1, .int mm.2.2.1, .int mm.2.2.2]))] H locs := hw
          refine lv_iload_n hx hb d_RD_fault_23 rfl (lv_at hl 2 rfl) ?_
          refine kx_call_i (wc := [((ad 11), .inr (3, [.int co.1, .int co.2.1, .int co.2.2.1, .int co.2.2.2.1, .int co.2.2.2.2.1, .int co.2.2.2.2.2]))]) (wr := [((ad 10), .inr (3, [.int dk.1, .int dk.2.1, .int dk.2.2.1, .int dk.2.2.2.1, .int dk.2.2.2.2.1, .int dk.2.2.2.2.2])), ((ad 0), .inr (0, [.int mm.1, .ref (ad 1), .ref (ad 6), .ref (ad 8), .ref (ad 10), .ref (ad 11), .ref (ad 12), .ref (ad 13), .ref (ad 14), .ref (ad 19), .ref (ad 20), .int mm.2.1, .int mm.2.2.1, .int mm.2.2.2]))]) (rest := []) hw [1] [0, 2] rfl rfl (by decide) (by decide) (kx_runV S hw fc_RD_106 rfl 1 rfl [1] (by decide) rfl (c_Dr_suffer l D cI cZ cO (ad 11) co k H.size) rfl hl.1 rfl (Nat.le_of_ble_eq_true rfl) d_RD_fault_24 (by decide) (by decide)) (fun r9 u9 H locs hp9 hw => ?_)
          obtain ⟨d9, rfl⟩ : ∃ z, z = u9 := ⟨_, rfl⟩
          obtain ⟨hp9, hb9⟩ := hp9
          have hw : kx_w D (kx_T cI cZ cO) A_ s_ [((ad 10), .inr (3, [.int dk.1, .int dk.2.1, .int dk.2.2.1, .int dk.2.2.2.1, .int dk.2.2.2.2.1, .int dk.2.2.2.2.2])), ((ad 0), .inr (0, [.int mm.1, .ref (ad 1), .ref (ad 6), .ref (ad 8), .ref (ad 10), .ref (ad 11), .ref (ad 12), .ref (ad 13), .ref (ad 14), .ref (ad 19), .ref (ad 20), .int mm.2.1, .int mm.2.2.1, .int mm.2.2.2])), ((ad 11), .inr (3, [.int d9.1, .int d9.2.1, .int d9.2.2.1, .int d9.2.2.2.1, .int d9.2.2.2.2.1, .int d9.2.2.2.2.2]))] H locs := hw
          exact kx_ret_z I rfl hw hb9 (dk, d9) ⟨(by simp only [f_RD_fault, ← hp1, if_neg h2, if_neg h3, if_pos h4, if_neg h5, ← hp9]), hb9⟩ [1, 0, 2] (by decide) rfl d_RD_fault_27
      · refine lv_iconst (v := 0) hx hb d_RD_fault_16 (by decide) ?_
        exact kx_ret_z I rfl hw (Or.inl rfl) (dk, co) ⟨(by simp only [f_RD_fault, ← hp1, if_neg h2, if_neg h3, if_neg h4]), (Or.inl rfl)⟩ [0, 1, 2] (by decide) rfl d_RD_fault_17
def f_RD_driver (mm : kt_M) (dk : kt_Dr) (co : kt_Dr) (d : Int32) (k : Int32) : Int32 :=
  match f_RD_isDriver d with
  | r1 => if r1 = 0 then (-2)
    else if d = 0 then (if k = 0 then dk.1
      else if k = 1 then dk.2.1
      else if k = 2 then dk.2.2.1
      else if k = 3 then dk.2.2.2.2.2
      else if k = 4 then (if dk.2.2.2.1 = 0 then 0
        else 1)
      else (-2))
    else if k = 0 then co.1
    else if k = 1 then co.2.1
    else if k = 2 then co.2.2.1
    else if k = 3 then co.2.2.2.2.2
    else if k = 4 then (if co.2.2.2.1 = 0 then 0
      else 1)
    else (-2)
set_option maxHeartbeats 4000000 in
set_option maxRecDepth 100000 in
theorem c_RD_driver (l : Launch) (D : va_G) (cI cZ cO : ClassId) (ad : Nat → Nat) (mm : kt_M) (dk : kt_Dr) (co : kt_Dr) (d : Int32) (k : Int32) : kx_Ci (S := Unit) l y_RD_driver b_RD_driver 4 (some .int) 1 0 0 D (kx_T cI cZ cO) [.ref (ad 0), .int d, .int k] [((ad 0), .inr (0, [.int mm.1, .ref (ad 1), .ref (ad 6), .ref (ad 8), .ref (ad 10), .ref (ad 11), .ref (ad 12), .ref (ad 13), .ref (ad 14), .ref (ad 19), .ref (ad 20), .int mm.2.1, .int mm.2.2.1, .int mm.2.2.2])), ((ad 10), .inr (3, [.int dk.1, .int dk.2.1, .int dk.2.2.1, .int dk.2.2.2.1, .int dk.2.2.2.2.1, .int dk.2.2.2.2.2])), ((ad 11), .inr (3, [.int co.1, .int co.2.1, .int co.2.2.1, .int co.2.2.2.1, .int co.2.2.2.2.1, .int co.2.2.2.2.2]))] (fun rr _ => rr = f_RD_driver mm dk co d k) (fun _ => [((ad 0), .inr (0, [.int mm.1, .ref (ad 1), .ref (ad 6), .ref (ad 8), .ref (ad 10), .ref (ad 11), .ref (ad 12), .ref (ad 13), .ref (ad 14), .ref (ad 19), .ref (ad 20), .int mm.2.1, .int mm.2.2.1, .int mm.2.2.2])), ((ad 10), .inr (3, [.int dk.1, .int dk.2.1, .int dk.2.2.1, .int dk.2.2.2.1, .int dk.2.2.2.2.1, .int dk.2.2.2.2.2])), ((ad 11), .inr (3, [.int co.1, .int co.2.1, .int co.2.2.1, .int co.2.2.2.1, .int co.2.2.2.2.1, .int co.2.2.2.2.2]))]) := by
  refine kx_enter_i (by decide) (Nat.le_of_ble_eq_true rfl) ?_
  intro p_ e_ s_ m_ below_ meth_ c_ ls A_ H I hl hw
  have S := I.1
  have hx := S.1
  have hb := S.2.1
  have hl : lv_has ls 4 [(0, .ref (ad 0)), (1, .int d), (2, .int k)] := hl
  refine lv_iload_n hx hb d_RD_driver_0 rfl (lv_at hl 1 rfl) ?_
  refine kx_call_i (wc := []) (wr := [((ad 0), .inr (0, [.int mm.1, .ref (ad 1), .ref (ad 6), .ref (ad 8), .ref (ad 10), .ref (ad 11), .ref (ad 12), .ref (ad 13), .ref (ad 14), .ref (ad 19), .ref (ad 20), .int mm.2.1, .int mm.2.2.1, .int mm.2.2.2])), ((ad 10), .inr (3, [.int dk.1, .int dk.2.1, .int dk.2.2.1, .int dk.2.2.2.1, .int dk.2.2.2.2.1, .int dk.2.2.2.2.2])), ((ad 11), .inr (3, [.int co.1, .int co.2.1, .int co.2.2.1, .int co.2.2.2.1, .int co.2.2.2.2.1, .int co.2.2.2.2.2]))]) (rest := []) hw [] [0, 1, 2] rfl rfl (by decide) (by decide) (kx_runS S hw fc_RD_99 [] (by decide) rfl (c_RD_isDriver l D cI cZ cO d H.size) rfl hl.1 rfl (Nat.le_of_ble_eq_true rfl) d_RD_driver_1 (by decide) (by decide)) (fun r1 u1 H locs hp1 hw => ?_)
  obtain ⟨hp1, hb1⟩ := hp1
  have hw : kx_w D (kx_T cI cZ cO) A_ s_ [((ad 0), .inr (0, [.int mm.1, .ref (ad 1), .ref (ad 6), .ref (ad 8), .ref (ad 10), .ref (ad 11), .ref (ad 12), .ref (ad 13), .ref (ad 14), .ref (ad 19), .ref (ad 20), .int mm.2.1, .int mm.2.2.1, .int mm.2.2.2])), ((ad 10), .inr (3, [.int dk.1, .int dk.2.1, .int dk.2.2.1, .int dk.2.2.2.1, .int dk.2.2.2.2.1, .int dk.2.2.2.2.2])), ((ad 11), .inr (3, [.int co.1, .int co.2.1, .int co.2.2.1, .int co.2.2.2.1, .int co.2.2.2.2.1, .int co.2.2.2.2.2]))] H locs := hw
  refine lv_if_ne (tgt := 10) hx hb d_RD_driver_4 (by decide) (fun h2 => ?_) (fun h2 => ?_)
  · refine lv_aload_n hx hb d_RD_driver_10 rfl (lv_at hl 0 rfl) ?_
    refine lv_iload_n hx hb d_RD_driver_11 rfl (lv_at hl 1 rfl) ?_
    by_cases h3 : d = 0
    · refine kx_call_r (wc := [((ad 0), .inr (0, [.int mm.1, .ref (ad 1), .ref (ad 6), .ref (ad 8), .ref (ad 10), .ref (ad 11), .ref (ad 12), .ref (ad 13), .ref (ad 14), .ref (ad 19), .ref (ad 20), .int mm.2.1, .int mm.2.2.1, .int mm.2.2.2]))]) (wr := [((ad 10), .inr (3, [.int dk.1, .int dk.2.1, .int dk.2.2.1, .int dk.2.2.2.1, .int dk.2.2.2.2.1, .int dk.2.2.2.2.2])), ((ad 11), .inr (3, [.int co.1, .int co.2.1, .int co.2.2.1, .int co.2.2.2.1, .int co.2.2.2.2.1, .int co.2.2.2.2.2]))]) (rest := []) hw [0] [1, 2] rfl rfl (by decide) (by decide) (kx_runV S hw fc_RD_102 rfl 0 rfl [0] (by decide) rfl (c_RD_driverOf_0 l D cI cZ cO ad mm d (h3) H.size) rfl hl.1 rfl (Nat.le_of_ble_eq_true rfl) d_RD_driver_12 (by decide) (by decide)) (fun u4 H locs hp4 hw => ?_)
      have hw : kx_w D (kx_T cI cZ cO) A_ s_ [((ad 10), .inr (3, [.int dk.1, .int dk.2.1, .int dk.2.2.1, .int dk.2.2.2.1, .int dk.2.2.2.2.1, .int dk.2.2.2.2.2])), ((ad 11), .inr (3, [.int co.1, .int co.2.1, .int co.2.2.1, .int co.2.2.2.1, .int co.2.2.2.2.1, .int co.2.2.2.2.2])), ((ad 0), .inr (0, [.int mm.1, .ref (ad 1), .ref (ad 6), .ref (ad 8), .ref (ad 10), .ref (ad 11), .ref (ad 12), .ref (ad 13), .ref (ad 14), .ref (ad 19), .ref (ad 20), .int mm.2.1, .int mm.2.2.1, .int mm.2.2.2]))] H locs := hw
      refine lv_astore_n (lv' := [(3, .ref (ad 10)), (0, .ref (ad 0)), (1, .int d), (2, .int k)]) hx hb d_RD_driver_15 rfl hl (by decide) rfl (fun ls hl => ?_)
      refine lv_iload_n hx hb d_RD_driver_16 rfl (lv_at hl 3 rfl) ?_
      by_cases h5 : k = 0
      · refine lv_tableIn (off := 35) (tgt := 52) hx hb d_RD_driver_17 (by rw [h5]; decide) (by rw [h5]; decide) (by rw [h5]; decide) (by decide) ?_
        refine lv_aload_n hx hb d_RD_driver_52 rfl (lv_at hl 0 rfl) ?_
        refine kx_get S hw fg_RD_134 0 rfl rfl d_RD_driver_53 ?_
        exact kx_ret_i I rfl hw () (by simp only [f_RD_driver, ← hp1, if_neg h2, if_pos h3, if_pos h5]) [2, 0, 1] (by decide) rfl d_RD_driver_56
      by_cases h6 : k = 1
      · refine lv_tableIn (off := 40) (tgt := 57) hx hb d_RD_driver_17 (by rw [h6]; decide) (by rw [h6]; decide) (by rw [h6]; decide) (by decide) ?_
        refine lv_aload_n hx hb d_RD_driver_57 rfl (lv_at hl 0 rfl) ?_
        refine kx_get S hw fg_RD_137 0 rfl rfl d_RD_driver_58 ?_
        exact kx_ret_i I rfl hw () (by simp only [f_RD_driver, ← hp1, if_neg h2, if_pos h3, if_neg h5, if_pos h6]) [2, 0, 1] (by decide) rfl d_RD_driver_61
      by_cases h7 : k = 2
      · refine lv_tableIn (off := 45) (tgt := 62) hx hb d_RD_driver_17 (by rw [h7]; decide) (by rw [h7]; decide) (by rw [h7]; decide) (by decide) ?_
        refine lv_aload_n hx hb d_RD_driver_62 rfl (lv_at hl 0 rfl) ?_
        refine kx_get S hw fg_RD_140 0 rfl rfl d_RD_driver_63 ?_
        exact kx_ret_i I rfl hw () (by simp only [f_RD_driver, ← hp1, if_neg h2, if_pos h3, if_neg h5, if_neg h6, if_pos h7]) [2, 0, 1] (by decide) rfl d_RD_driver_66
      by_cases h8 : k = 3
      · refine lv_tableIn (off := 50) (tgt := 67) hx hb d_RD_driver_17 (by rw [h8]; decide) (by rw [h8]; decide) (by rw [h8]; decide) (by decide) ?_
        refine lv_aload_n hx hb d_RD_driver_67 rfl (lv_at hl 0 rfl) ?_
        refine kx_get S hw fg_RD_143 0 rfl rfl d_RD_driver_68 ?_
        exact kx_ret_i I rfl hw () (by simp only [f_RD_driver, ← hp1, if_neg h2, if_pos h3, if_neg h5, if_neg h6, if_neg h7, if_pos h8]) [2, 0, 1] (by decide) rfl d_RD_driver_71
      by_cases h9 : k = 4
      · refine lv_tableIn (off := 55) (tgt := 72) hx hb d_RD_driver_17 (by rw [h9]; decide) (by rw [h9]; decide) (by rw [h9]; decide) (by decide) ?_
        refine lv_aload_n hx hb d_RD_driver_72 rfl (lv_at hl 0 rfl) ?_
        refine kx_get S hw fg_RD_146 0 rfl rfl d_RD_driver_73 ?_
        refine lv_if_eq (tgt := 83) hx hb d_RD_driver_76 (by decide) (fun h10 => ?_) (fun h10 => ?_)
        · refine lv_iconst (v := 0) hx hb d_RD_driver_83 (by decide) ?_
          exact kx_ret_i I rfl hw () (by simp only [f_RD_driver, ← hp1, if_neg h2, if_pos h3, if_neg h5, if_neg h6, if_neg h7, if_neg h8, if_pos h9, if_pos h10]) [2, 0, 1] (by decide) rfl d_RD_driver_84
        · refine lv_iconst (v := 1) hx hb d_RD_driver_79 (by decide) ?_
          refine lv_goto (tgt := 84) hx hb d_RD_driver_80 (by decide) ?_
          exact kx_ret_i I rfl hw () (by simp only [f_RD_driver, ← hp1, if_neg h2, if_pos h3, if_neg h5, if_neg h6, if_neg h7, if_neg h8, if_pos h9, if_neg h10]) [2, 0, 1] (by decide) rfl d_RD_driver_84
      refine lv_tableOut (tgt := 85) hx hb d_RD_driver_17 (kx_sw5 h5 h6 h7 h8 h9) (by decide) ?_
      refine lv_bipush (v := (-2)) hx hb d_RD_driver_85 (by decide) ?_
      exact kx_ret_i I rfl hw () (by simp only [f_RD_driver, ← hp1, if_neg h2, if_pos h3, if_neg h5, if_neg h6, if_neg h7, if_neg h8, if_neg h9]) [2, 0, 1] (by decide) rfl d_RD_driver_87
    · refine kx_call_r (wc := [((ad 0), .inr (0, [.int mm.1, .ref (ad 1), .ref (ad 6), .ref (ad 8), .ref (ad 10), .ref (ad 11), .ref (ad 12), .ref (ad 13), .ref (ad 14), .ref (ad 19), .ref (ad 20), .int mm.2.1, .int mm.2.2.1, .int mm.2.2.2]))]) (wr := [((ad 10), .inr (3, [.int dk.1, .int dk.2.1, .int dk.2.2.1, .int dk.2.2.2.1, .int dk.2.2.2.2.1, .int dk.2.2.2.2.2])), ((ad 11), .inr (3, [.int co.1, .int co.2.1, .int co.2.2.1, .int co.2.2.2.1, .int co.2.2.2.2.1, .int co.2.2.2.2.2]))]) (rest := []) hw [0] [1, 2] rfl rfl (by decide) (by decide) (kx_runV S hw fc_RD_102 rfl 0 rfl [0] (by decide) rfl (c_RD_driverOf_1 l D cI cZ cO ad mm d (h3) H.size) rfl hl.1 rfl (Nat.le_of_ble_eq_true rfl) d_RD_driver_12 (by decide) (by decide)) (fun u11 H locs hp11 hw => ?_)
      have hw : kx_w D (kx_T cI cZ cO) A_ s_ [((ad 10), .inr (3, [.int dk.1, .int dk.2.1, .int dk.2.2.1, .int dk.2.2.2.1, .int dk.2.2.2.2.1, .int dk.2.2.2.2.2])), ((ad 11), .inr (3, [.int co.1, .int co.2.1, .int co.2.2.1, .int co.2.2.2.1, .int co.2.2.2.2.1, .int co.2.2.2.2.2])), ((ad 0), .inr (0, [.int mm.1, .ref (ad 1), .ref (ad 6), .ref (ad 8), .ref (ad 10), .ref (ad 11), .ref (ad 12), .ref (ad 13), .ref (ad 14), .ref (ad 19), .ref (ad 20), .int mm.2.1, .int mm.2.2.1, .int mm.2.2.2]))] H locs := hw
      refine lv_astore_n (lv' := [(3, .ref (ad 11)), (0, .ref (ad 0)), (1, .int d), (2, .int k)]) hx hb d_RD_driver_15 rfl hl (by decide) rfl (fun ls hl => ?_)
      refine lv_iload_n hx hb d_RD_driver_16 rfl (lv_at hl 3 rfl) ?_
      by_cases h12 : k = 0
      · refine lv_tableIn (off := 35) (tgt := 52) hx hb d_RD_driver_17 (by rw [h12]; decide) (by rw [h12]; decide) (by rw [h12]; decide) (by decide) ?_
        refine lv_aload_n hx hb d_RD_driver_52 rfl (lv_at hl 0 rfl) ?_
        refine kx_get S hw fg_RD_134 1 rfl rfl d_RD_driver_53 ?_
        exact kx_ret_i I rfl hw () (by simp only [f_RD_driver, ← hp1, if_neg h2, if_neg h3, if_pos h12]) [2, 0, 1] (by decide) rfl d_RD_driver_56
      by_cases h13 : k = 1
      · refine lv_tableIn (off := 40) (tgt := 57) hx hb d_RD_driver_17 (by rw [h13]; decide) (by rw [h13]; decide) (by rw [h13]; decide) (by decide) ?_
        refine lv_aload_n hx hb d_RD_driver_57 rfl (lv_at hl 0 rfl) ?_
        refine kx_get S hw fg_RD_137 1 rfl rfl d_RD_driver_58 ?_
        exact kx_ret_i I rfl hw () (by simp only [f_RD_driver, ← hp1, if_neg h2, if_neg h3, if_neg h12, if_pos h13]) [2, 0, 1] (by decide) rfl d_RD_driver_61
      by_cases h14 : k = 2
      · refine lv_tableIn (off := 45) (tgt := 62) hx hb d_RD_driver_17 (by rw [h14]; decide) (by rw [h14]; decide) (by rw [h14]; decide) (by decide) ?_
        refine lv_aload_n hx hb d_RD_driver_62 rfl (lv_at hl 0 rfl) ?_
        refine kx_get S hw fg_RD_140 1 rfl rfl d_RD_driver_63 ?_
        exact kx_ret_i I rfl hw () (by simp only [f_RD_driver, ← hp1, if_neg h2, if_neg h3, if_neg h12, if_neg h13, if_pos h14]) [2, 0, 1] (by decide) rfl d_RD_driver_66
      by_cases h15 : k = 3
      · refine lv_tableIn (off := 50) (tgt := 67) hx hb d_RD_driver_17 (by rw [h15]; decide) (by rw [h15]; decide) (by rw [h15]; decide) (by decide) ?_
        refine lv_aload_n hx hb d_RD_driver_67 rfl (lv_at hl 0 rfl) ?_
        refine kx_get S hw fg_RD_143 1 rfl rfl d_RD_driver_68 ?_
        exact kx_ret_i I rfl hw () (by simp only [f_RD_driver, ← hp1, if_neg h2, if_neg h3, if_neg h12, if_neg h13, if_neg h14, if_pos h15]) [2, 0, 1] (by decide) rfl d_RD_driver_71
      by_cases h16 : k = 4
      · refine lv_tableIn (off := 55) (tgt := 72) hx hb d_RD_driver_17 (by rw [h16]; decide) (by rw [h16]; decide) (by rw [h16]; decide) (by decide) ?_
        refine lv_aload_n hx hb d_RD_driver_72 rfl (lv_at hl 0 rfl) ?_
        refine kx_get S hw fg_RD_146 1 rfl rfl d_RD_driver_73 ?_
        refine lv_if_eq (tgt := 83) hx hb d_RD_driver_76 (by decide) (fun h17 => ?_) (fun h17 => ?_)
        · refine lv_iconst (v := 0) hx hb d_RD_driver_83 (by decide) ?_
          exact kx_ret_i I rfl hw () (by simp only [f_RD_driver, ← hp1, if_neg h2, if_neg h3, if_neg h12, if_neg h13, if_neg h14, if_neg h15, if_pos h16, if_pos h17]) [2, 0, 1] (by decide) rfl d_RD_driver_84
        · refine lv_iconst (v := 1) hx hb d_RD_driver_79 (by decide) ?_
          refine lv_goto (tgt := 84) hx hb d_RD_driver_80 (by decide) ?_
          exact kx_ret_i I rfl hw () (by simp only [f_RD_driver, ← hp1, if_neg h2, if_neg h3, if_neg h12, if_neg h13, if_neg h14, if_neg h15, if_pos h16, if_neg h17]) [2, 0, 1] (by decide) rfl d_RD_driver_84
      refine lv_tableOut (tgt := 85) hx hb d_RD_driver_17 (kx_sw5 h12 h13 h14 h15 h16) (by decide) ?_
      refine lv_bipush (v := (-2)) hx hb d_RD_driver_85 (by decide) ?_
      exact kx_ret_i I rfl hw () (by simp only [f_RD_driver, ← hp1, if_neg h2, if_neg h3, if_neg h12, if_neg h13, if_neg h14, if_neg h15, if_neg h16]) [2, 0, 1] (by decide) rfl d_RD_driver_87
  · refine lv_bipush (v := (-2)) hx hb d_RD_driver_7 (by decide) ?_
    exact kx_ret_i I rfl hw () (by simp only [f_RD_driver, ← hp1, if_pos h2]) [0, 1, 2] (by decide) rfl d_RD_driver_9
def f_RD_state (mm : kt_M) (ops : (Nat → kt_Op)) (u : Int32) : Int32 :=
  match f_RD_isUser u with
  | r1 => if r1 = 0 then (-1)
    else (ops u.toNatClampNeg).2.2.2.2.1
set_option maxHeartbeats 4000000 in
set_option maxRecDepth 100000 in
theorem c_RD_state (l : Launch) (D : va_G) (cI cZ cO : ClassId) (ad : Nat → Nat) (mm : kt_M) (ops : (Nat → kt_Op)) (u : Int32) : kx_Ci (S := Unit) l y_RD_state b_RD_state 2 (some .int) 1 0 0 D (kx_T cI cZ cO) [.ref (ad 0), .int u] [((ad 0), .inr (0, [.int mm.1, .ref (ad 1), .ref (ad 6), .ref (ad 8), .ref (ad 10), .ref (ad 11), .ref (ad 12), .ref (ad 13), .ref (ad 14), .ref (ad 19), .ref (ad 20), .int mm.2.1, .int mm.2.2.1, .int mm.2.2.2])), ((ad 1), .inl (cO, 4, .inr (.inr (.inr (.inr (kx_opsf ad)))))), ((ad 2), .inr (1, [.int ((ops 0).1), .int ((ops 0).2.1), .int ((ops 0).2.2.1), .int ((ops 0).2.2.2.1), .int ((ops 0).2.2.2.2.1), .int ((ops 0).2.2.2.2.2)])), ((ad 3), .inr (1, [.int ((ops 1).1), .int ((ops 1).2.1), .int ((ops 1).2.2.1), .int ((ops 1).2.2.2.1), .int ((ops 1).2.2.2.2.1), .int ((ops 1).2.2.2.2.2)])), ((ad 4), .inr (1, [.int ((ops 2).1), .int ((ops 2).2.1), .int ((ops 2).2.2.1), .int ((ops 2).2.2.2.1), .int ((ops 2).2.2.2.2.1), .int ((ops 2).2.2.2.2.2)])), ((ad 5), .inr (1, [.int ((ops 3).1), .int ((ops 3).2.1), .int ((ops 3).2.2.1), .int ((ops 3).2.2.2.1), .int ((ops 3).2.2.2.2.1), .int ((ops 3).2.2.2.2.2)]))] (fun rr _ => rr = f_RD_state mm ops u) (fun _ => [((ad 0), .inr (0, [.int mm.1, .ref (ad 1), .ref (ad 6), .ref (ad 8), .ref (ad 10), .ref (ad 11), .ref (ad 12), .ref (ad 13), .ref (ad 14), .ref (ad 19), .ref (ad 20), .int mm.2.1, .int mm.2.2.1, .int mm.2.2.2])), ((ad 1), .inl (cO, 4, .inr (.inr (.inr (.inr (kx_opsf ad)))))), ((ad 2), .inr (1, [.int ((ops 0).1), .int ((ops 0).2.1), .int ((ops 0).2.2.1), .int ((ops 0).2.2.2.1), .int ((ops 0).2.2.2.2.1), .int ((ops 0).2.2.2.2.2)])), ((ad 3), .inr (1, [.int ((ops 1).1), .int ((ops 1).2.1), .int ((ops 1).2.2.1), .int ((ops 1).2.2.2.1), .int ((ops 1).2.2.2.2.1), .int ((ops 1).2.2.2.2.2)])), ((ad 4), .inr (1, [.int ((ops 2).1), .int ((ops 2).2.1), .int ((ops 2).2.2.1), .int ((ops 2).2.2.2.1), .int ((ops 2).2.2.2.2.1), .int ((ops 2).2.2.2.2.2)])), ((ad 5), .inr (1, [.int ((ops 3).1), .int ((ops 3).2.1), .int ((ops 3).2.2.1), .int ((ops 3).2.2.2.1), .int ((ops 3).2.2.2.2.1), .int ((ops 3).2.2.2.2.2)]))]) := by
  refine kx_enter_i (by decide) (Nat.le_of_ble_eq_true rfl) ?_
  intro p_ e_ s_ m_ below_ meth_ c_ ls A_ H I hl hw
  have S := I.1
  have hx := S.1
  have hb := S.2.1
  have hl : lv_has ls 2 [(0, .ref (ad 0)), (1, .int u)] := hl
  refine lv_iload_n hx hb d_RD_state_0 rfl (lv_at hl 1 rfl) ?_
  refine kx_call_i (wc := []) (wr := [((ad 0), .inr (0, [.int mm.1, .ref (ad 1), .ref (ad 6), .ref (ad 8), .ref (ad 10), .ref (ad 11), .ref (ad 12), .ref (ad 13), .ref (ad 14), .ref (ad 19), .ref (ad 20), .int mm.2.1, .int mm.2.2.1, .int mm.2.2.2])), ((ad 1), .inl (cO, 4, .inr (.inr (.inr (.inr (kx_opsf ad)))))), ((ad 2), .inr (1, [.int ((ops 0).1), .int ((ops 0).2.1), .int ((ops 0).2.2.1), .int ((ops 0).2.2.2.1), .int ((ops 0).2.2.2.2.1), .int ((ops 0).2.2.2.2.2)])), ((ad 3), .inr (1, [.int ((ops 1).1), .int ((ops 1).2.1), .int ((ops 1).2.2.1), .int ((ops 1).2.2.2.1), .int ((ops 1).2.2.2.2.1), .int ((ops 1).2.2.2.2.2)])), ((ad 4), .inr (1, [.int ((ops 2).1), .int ((ops 2).2.1), .int ((ops 2).2.2.1), .int ((ops 2).2.2.2.1), .int ((ops 2).2.2.2.2.1), .int ((ops 2).2.2.2.2.2)])), ((ad 5), .inr (1, [.int ((ops 3).1), .int ((ops 3).2.1), .int ((ops 3).2.2.1), .int ((ops 3).2.2.2.1), .int ((ops 3).2.2.2.2.1), .int ((ops 3).2.2.2.2.2)]))]) (rest := []) hw [] [0, 1, 2, 3, 4, 5] rfl rfl (by decide) (by decide) (kx_runS S hw fc_RD_109 [] (by decide) rfl (c_RD_isUser l D cI cZ cO u H.size) rfl hl.1 rfl (Nat.le_of_ble_eq_true rfl) d_RD_state_1 (by decide) (by decide)) (fun r1 u1 H locs hp1 hw => ?_)
  obtain ⟨hp1, hb1⟩ := hp1
  have hw : kx_w D (kx_T cI cZ cO) A_ s_ [((ad 0), .inr (0, [.int mm.1, .ref (ad 1), .ref (ad 6), .ref (ad 8), .ref (ad 10), .ref (ad 11), .ref (ad 12), .ref (ad 13), .ref (ad 14), .ref (ad 19), .ref (ad 20), .int mm.2.1, .int mm.2.2.1, .int mm.2.2.2])), ((ad 1), .inl (cO, 4, .inr (.inr (.inr (.inr (kx_opsf ad)))))), ((ad 2), .inr (1, [.int ((ops 0).1), .int ((ops 0).2.1), .int ((ops 0).2.2.1), .int ((ops 0).2.2.2.1), .int ((ops 0).2.2.2.2.1), .int ((ops 0).2.2.2.2.2)])), ((ad 3), .inr (1, [.int ((ops 1).1), .int ((ops 1).2.1), .int ((ops 1).2.2.1), .int ((ops 1).2.2.2.1), .int ((ops 1).2.2.2.2.1), .int ((ops 1).2.2.2.2.2)])), ((ad 4), .inr (1, [.int ((ops 2).1), .int ((ops 2).2.1), .int ((ops 2).2.2.1), .int ((ops 2).2.2.2.1), .int ((ops 2).2.2.2.2.1), .int ((ops 2).2.2.2.2.2)])), ((ad 5), .inr (1, [.int ((ops 3).1), .int ((ops 3).2.1), .int ((ops 3).2.2.1), .int ((ops 3).2.2.2.1), .int ((ops 3).2.2.2.2.1), .int ((ops 3).2.2.2.2.2)]))] H locs := hw
  refine lv_if_eq (tgt := 19) hx hb d_RD_state_4 (by decide) (fun h2 => ?_) (fun h2 => ?_)
  · refine lv_iconst (v := (-1)) hx hb d_RD_state_19 (by decide) ?_
    exact kx_ret_i I rfl hw () (by simp only [f_RD_state, ← hp1, if_pos h2]) [0, 1, 2, 3, 4, 5] (by decide) rfl d_RD_state_20
  · refine lv_aload_n hx hb d_RD_state_7 rfl (lv_at hl 0 rfl) ?_
    refine kx_get S hw fg_RD_11 0 rfl rfl d_RD_state_8 ?_
    refine lv_iload_n hx hb d_RD_state_11 rfl (lv_at hl 1 rfl) ?_
    rcases kx_c4 (l_isUser (hp1 ▸ h2)) with e3 | e3 | e3 | e3
    · refine kx_aald S hw 1 2 rfl rfl (b := (ad 2)) (by rw [e3]; rfl) (l_isUser (hp1 ▸ h2)) d_RD_state_12 ?_
      refine kx_get S hw fg_RD_112 2 rfl rfl d_RD_state_13 ?_
      refine lv_goto (tgt := 20) hx hb d_RD_state_16 (by decide) ?_
      exact kx_ret_i I rfl hw () (by simp only [f_RD_state, ← hp1, if_neg h2, e3]) [0, 1, 2, 3, 4, 5] (by decide) rfl d_RD_state_20
    · refine kx_aald S hw 1 2 rfl rfl (b := (ad 3)) (by rw [e3]; rfl) (l_isUser (hp1 ▸ h2)) d_RD_state_12 ?_
      refine kx_get S hw fg_RD_112 3 rfl rfl d_RD_state_13 ?_
      refine lv_goto (tgt := 20) hx hb d_RD_state_16 (by decide) ?_
      exact kx_ret_i I rfl hw () (by simp only [f_RD_state, ← hp1, if_neg h2, e3]) [0, 1, 2, 3, 4, 5] (by decide) rfl d_RD_state_20
    · refine kx_aald S hw 1 2 rfl rfl (b := (ad 4)) (by rw [e3]; rfl) (l_isUser (hp1 ▸ h2)) d_RD_state_12 ?_
      refine kx_get S hw fg_RD_112 4 rfl rfl d_RD_state_13 ?_
      refine lv_goto (tgt := 20) hx hb d_RD_state_16 (by decide) ?_
      exact kx_ret_i I rfl hw () (by simp only [f_RD_state, ← hp1, if_neg h2, e3]) [0, 1, 2, 3, 4, 5] (by decide) rfl d_RD_state_20
    · refine kx_aald S hw 1 2 rfl rfl (b := (ad 5)) (by rw [e3]; rfl) (l_isUser (hp1 ▸ h2)) d_RD_state_12 ?_
      refine kx_get S hw fg_RD_112 5 rfl rfl d_RD_state_13 ?_
      refine lv_goto (tgt := 20) hx hb d_RD_state_16 (by decide) ?_
      exact kx_ret_i I rfl hw () (by simp only [f_RD_state, ← hp1, if_neg h2, e3]) [0, 1, 2, 3, 4, 5] (by decide) rfl d_RD_state_20
def f_RD_result (mm : kt_M) (ops : (Nat → kt_Op)) (u : Int32) : Int32 :=
  match f_RD_isUser u with
  | r1 => if r1 = 0 then 0
    else (ops u.toNatClampNeg).2.2.2.2.2
set_option maxHeartbeats 4000000 in
set_option maxRecDepth 100000 in
theorem c_RD_result (l : Launch) (D : va_G) (cI cZ cO : ClassId) (ad : Nat → Nat) (mm : kt_M) (ops : (Nat → kt_Op)) (u : Int32) : kx_Ci (S := Unit) l y_RD_result b_RD_result 2 (some .int) 1 0 0 D (kx_T cI cZ cO) [.ref (ad 0), .int u] [((ad 0), .inr (0, [.int mm.1, .ref (ad 1), .ref (ad 6), .ref (ad 8), .ref (ad 10), .ref (ad 11), .ref (ad 12), .ref (ad 13), .ref (ad 14), .ref (ad 19), .ref (ad 20), .int mm.2.1, .int mm.2.2.1, .int mm.2.2.2])), ((ad 1), .inl (cO, 4, .inr (.inr (.inr (.inr (kx_opsf ad)))))), ((ad 2), .inr (1, [.int ((ops 0).1), .int ((ops 0).2.1), .int ((ops 0).2.2.1), .int ((ops 0).2.2.2.1), .int ((ops 0).2.2.2.2.1), .int ((ops 0).2.2.2.2.2)])), ((ad 3), .inr (1, [.int ((ops 1).1), .int ((ops 1).2.1), .int ((ops 1).2.2.1), .int ((ops 1).2.2.2.1), .int ((ops 1).2.2.2.2.1), .int ((ops 1).2.2.2.2.2)])), ((ad 4), .inr (1, [.int ((ops 2).1), .int ((ops 2).2.1), .int ((ops 2).2.2.1), .int ((ops 2).2.2.2.1), .int ((ops 2).2.2.2.2.1), .int ((ops 2).2.2.2.2.2)])), ((ad 5), .inr (1, [.int ((ops 3).1), .int ((ops 3).2.1), .int ((ops 3).2.2.1), .int ((ops 3).2.2.2.1), .int ((ops 3).2.2.2.2.1), .int ((ops 3).2.2.2.2.2)]))] (fun rr _ => rr = f_RD_result mm ops u) (fun _ => [((ad 0), .inr (0, [.int mm.1, .ref (ad 1), .ref (ad 6), .ref (ad 8), .ref (ad 10), .ref (ad 11), .ref (ad 12), .ref (ad 13), .ref (ad 14), .ref (ad 19), .ref (ad 20), .int mm.2.1, .int mm.2.2.1, .int mm.2.2.2])), ((ad 1), .inl (cO, 4, .inr (.inr (.inr (.inr (kx_opsf ad)))))), ((ad 2), .inr (1, [.int ((ops 0).1), .int ((ops 0).2.1), .int ((ops 0).2.2.1), .int ((ops 0).2.2.2.1), .int ((ops 0).2.2.2.2.1), .int ((ops 0).2.2.2.2.2)])), ((ad 3), .inr (1, [.int ((ops 1).1), .int ((ops 1).2.1), .int ((ops 1).2.2.1), .int ((ops 1).2.2.2.1), .int ((ops 1).2.2.2.2.1), .int ((ops 1).2.2.2.2.2)])), ((ad 4), .inr (1, [.int ((ops 2).1), .int ((ops 2).2.1), .int ((ops 2).2.2.1), .int ((ops 2).2.2.2.1), .int ((ops 2).2.2.2.2.1), .int ((ops 2).2.2.2.2.2)])), ((ad 5), .inr (1, [.int ((ops 3).1), .int ((ops 3).2.1), .int ((ops 3).2.2.1), .int ((ops 3).2.2.2.1), .int ((ops 3).2.2.2.2.1), .int ((ops 3).2.2.2.2.2)]))]) := by
  refine kx_enter_i (by decide) (Nat.le_of_ble_eq_true rfl) ?_
  intro p_ e_ s_ m_ below_ meth_ c_ ls A_ H I hl hw
  have S := I.1
  have hx := S.1
  have hb := S.2.1
  have hl : lv_has ls 2 [(0, .ref (ad 0)), (1, .int u)] := hl
  refine lv_iload_n hx hb d_RD_result_0 rfl (lv_at hl 1 rfl) ?_
  refine kx_call_i (wc := []) (wr := [((ad 0), .inr (0, [.int mm.1, .ref (ad 1), .ref (ad 6), .ref (ad 8), .ref (ad 10), .ref (ad 11), .ref (ad 12), .ref (ad 13), .ref (ad 14), .ref (ad 19), .ref (ad 20), .int mm.2.1, .int mm.2.2.1, .int mm.2.2.2])), ((ad 1), .inl (cO, 4, .inr (.inr (.inr (.inr (kx_opsf ad)))))), ((ad 2), .inr (1, [.int ((ops 0).1), .int ((ops 0).2.1), .int ((ops 0).2.2.1), .int ((ops 0).2.2.2.1), .int ((ops 0).2.2.2.2.1), .int ((ops 0).2.2.2.2.2)])), ((ad 3), .inr (1, [.int ((ops 1).1), .int ((ops 1).2.1), .int ((ops 1).2.2.1), .int ((ops 1).2.2.2.1), .int ((ops 1).2.2.2.2.1), .int ((ops 1).2.2.2.2.2)])), ((ad 4), .inr (1, [.int ((ops 2).1), .int ((ops 2).2.1), .int ((ops 2).2.2.1), .int ((ops 2).2.2.2.1), .int ((ops 2).2.2.2.2.1), .int ((ops 2).2.2.2.2.2)])), ((ad 5), .inr (1, [.int ((ops 3).1), .int ((ops 3).2.1), .int ((ops 3).2.2.1), .int ((ops 3).2.2.2.1), .int ((ops 3).2.2.2.2.1), .int ((ops 3).2.2.2.2.2)]))]) (rest := []) hw [] [0, 1, 2, 3, 4, 5] rfl rfl (by decide) (by decide) (kx_runS S hw fc_RD_109 [] (by decide) rfl (c_RD_isUser l D cI cZ cO u H.size) rfl hl.1 rfl (Nat.le_of_ble_eq_true rfl) d_RD_result_1 (by decide) (by decide)) (fun r1 u1 H locs hp1 hw => ?_)
  obtain ⟨hp1, hb1⟩ := hp1
  have hw : kx_w D (kx_T cI cZ cO) A_ s_ [((ad 0), .inr (0, [.int mm.1, .ref (ad 1), .ref (ad 6), .ref (ad 8), .ref (ad 10), .ref (ad 11), .ref (ad 12), .ref (ad 13), .ref (ad 14), .ref (ad 19), .ref (ad 20), .int mm.2.1, .int mm.2.2.1, .int mm.2.2.2])), ((ad 1), .inl (cO, 4, .inr (.inr (.inr (.inr (kx_opsf ad)))))), ((ad 2), .inr (1, [.int ((ops 0).1), .int ((ops 0).2.1), .int ((ops 0).2.2.1), .int ((ops 0).2.2.2.1), .int ((ops 0).2.2.2.2.1), .int ((ops 0).2.2.2.2.2)])), ((ad 3), .inr (1, [.int ((ops 1).1), .int ((ops 1).2.1), .int ((ops 1).2.2.1), .int ((ops 1).2.2.2.1), .int ((ops 1).2.2.2.2.1), .int ((ops 1).2.2.2.2.2)])), ((ad 4), .inr (1, [.int ((ops 2).1), .int ((ops 2).2.1), .int ((ops 2).2.2.1), .int ((ops 2).2.2.2.1), .int ((ops 2).2.2.2.2.1), .int ((ops 2).2.2.2.2.2)])), ((ad 5), .inr (1, [.int ((ops 3).1), .int ((ops 3).2.1), .int ((ops 3).2.2.1), .int ((ops 3).2.2.2.1), .int ((ops 3).2.2.2.2.1), .int ((ops 3).2.2.2.2.2)]))] H locs := hw
  refine lv_if_eq (tgt := 19) hx hb d_RD_result_4 (by decide) (fun h2 => ?_) (fun h2 => ?_)
  · refine lv_iconst (v := 0) hx hb d_RD_result_19 (by decide) ?_
    exact kx_ret_i I rfl hw () (by simp only [f_RD_result, ← hp1, if_pos h2]) [0, 1, 2, 3, 4, 5] (by decide) rfl d_RD_result_20
  · refine lv_aload_n hx hb d_RD_result_7 rfl (lv_at hl 0 rfl) ?_
    refine kx_get S hw fg_RD_11 0 rfl rfl d_RD_result_8 ?_
    refine lv_iload_n hx hb d_RD_result_11 rfl (lv_at hl 1 rfl) ?_
    rcases kx_c4 (l_isUser (hp1 ▸ h2)) with e3 | e3 | e3 | e3
    · refine kx_aald S hw 1 2 rfl rfl (b := (ad 2)) (by rw [e3]; rfl) (l_isUser (hp1 ▸ h2)) d_RD_result_12 ?_
      refine kx_get S hw fg_RD_115 2 rfl rfl d_RD_result_13 ?_
      refine lv_goto (tgt := 20) hx hb d_RD_result_16 (by decide) ?_
      exact kx_ret_i I rfl hw () (by simp only [f_RD_result, ← hp1, if_neg h2, e3]) [0, 1, 2, 3, 4, 5] (by decide) rfl d_RD_result_20
    · refine kx_aald S hw 1 2 rfl rfl (b := (ad 3)) (by rw [e3]; rfl) (l_isUser (hp1 ▸ h2)) d_RD_result_12 ?_
      refine kx_get S hw fg_RD_115 3 rfl rfl d_RD_result_13 ?_
      refine lv_goto (tgt := 20) hx hb d_RD_result_16 (by decide) ?_
      exact kx_ret_i I rfl hw () (by simp only [f_RD_result, ← hp1, if_neg h2, e3]) [0, 1, 2, 3, 4, 5] (by decide) rfl d_RD_result_20
    · refine kx_aald S hw 1 2 rfl rfl (b := (ad 4)) (by rw [e3]; rfl) (l_isUser (hp1 ▸ h2)) d_RD_result_12 ?_
      refine kx_get S hw fg_RD_115 4 rfl rfl d_RD_result_13 ?_
      refine lv_goto (tgt := 20) hx hb d_RD_result_16 (by decide) ?_
      exact kx_ret_i I rfl hw () (by simp only [f_RD_result, ← hp1, if_neg h2, e3]) [0, 1, 2, 3, 4, 5] (by decide) rfl d_RD_result_20
    · refine kx_aald S hw 1 2 rfl rfl (b := (ad 5)) (by rw [e3]; rfl) (l_isUser (hp1 ▸ h2)) d_RD_result_12 ?_
      refine kx_get S hw fg_RD_115 5 rfl rfl d_RD_result_13 ?_
      refine lv_goto (tgt := 20) hx hb d_RD_result_16 (by decide) ?_
      exact kx_ret_i I rfl hw () (by simp only [f_RD_result, ← hp1, if_neg h2, e3]) [0, 1, 2, 3, 4, 5] (by decide) rfl d_RD_result_20
def f_RD_line (mm : kt_M) (fl : kt_Ln) (tl : kt_Ln) (s : Int32) : Int32 :=
  if s = 0 then fl.2
  else if s = 1 then tl.2
  else (-1)
set_option maxHeartbeats 4000000 in
set_option maxRecDepth 100000 in
theorem c_RD_line (l : Launch) (D : va_G) (cI cZ cO : ClassId) (ad : Nat → Nat) (mm : kt_M) (fl : kt_Ln) (tl : kt_Ln) (s : Int32) : kx_Ci (S := Unit) l y_RD_line b_RD_line 2 (some .int) 0 0 0 D (kx_T cI cZ cO) [.ref (ad 0), .int s] [((ad 0), .inr (0, [.int mm.1, .ref (ad 1), .ref (ad 6), .ref (ad 8), .ref (ad 10), .ref (ad 11), .ref (ad 12), .ref (ad 13), .ref (ad 14), .ref (ad 19), .ref (ad 20), .int mm.2.1, .int mm.2.2.1, .int mm.2.2.2])), ((ad 6), .inr (2, [.ref (ad 7), .int fl.2])), ((ad 7), .inl (cI, 4, .inl fl.1)), ((ad 8), .inr (2, [.ref (ad 9), .int tl.2])), ((ad 9), .inl (cI, 4, .inl tl.1))] (fun rr _ => rr = f_RD_line mm fl tl s) (fun _ => [((ad 0), .inr (0, [.int mm.1, .ref (ad 1), .ref (ad 6), .ref (ad 8), .ref (ad 10), .ref (ad 11), .ref (ad 12), .ref (ad 13), .ref (ad 14), .ref (ad 19), .ref (ad 20), .int mm.2.1, .int mm.2.2.1, .int mm.2.2.2])), ((ad 6), .inr (2, [.ref (ad 7), .int fl.2])), ((ad 7), .inl (cI, 4, .inl fl.1)), ((ad 8), .inr (2, [.ref (ad 9), .int tl.2])), ((ad 9), .inl (cI, 4, .inl tl.1))]) := by
  refine kx_enter_i (by decide) (Nat.le_of_ble_eq_true rfl) ?_
  intro p_ e_ s_ m_ below_ meth_ c_ ls A_ H I hl hw
  have S := I.1
  have hx := S.1
  have hb := S.2.1
  have hl : lv_has ls 2 [(0, .ref (ad 0)), (1, .int s)] := hl
  refine lv_iload_n hx hb d_RD_line_0 rfl (lv_at hl 1 rfl) ?_
  refine lv_if_ne (tgt := 12) hx hb d_RD_line_1 (by decide) (fun h1 => ?_) (fun h1 => ?_)
  · refine lv_iload_n hx hb d_RD_line_12 rfl (lv_at hl 1 rfl) ?_
    refine lv_iconst (v := 1) hx hb d_RD_line_13 (by decide) ?_
    refine lv_icmp_ne (tgt := 27) hx hb d_RD_line_14 (by decide) (fun h2 => ?_) (fun h2 => ?_)
    · refine lv_iconst (v := (-1)) hx hb d_RD_line_27 (by decide) ?_
      exact kx_ret_i I rfl hw () (by simp only [f_RD_line, if_neg h1, if_neg h2]) [0, 1, 2, 3, 4] (by decide) rfl d_RD_line_28
    · refine lv_aload_n hx hb d_RD_line_17 rfl (lv_at hl 0 rfl) ?_
      refine kx_get S hw fg_RD_22 0 rfl rfl d_RD_line_18 ?_
      refine kx_get S hw fg_RD_118 3 rfl rfl d_RD_line_21 ?_
      refine lv_goto (tgt := 28) hx hb d_RD_line_24 (by decide) ?_
      exact kx_ret_i I rfl hw () (by simp only [f_RD_line, if_neg h1, if_pos h2]) [0, 1, 2, 3, 4] (by decide) rfl d_RD_line_28
  · refine lv_aload_n hx hb d_RD_line_4 rfl (lv_at hl 0 rfl) ?_
    refine kx_get S hw fg_RD_18 0 rfl rfl d_RD_line_5 ?_
    refine kx_get S hw fg_RD_118 1 rfl rfl d_RD_line_8 ?_
    exact kx_ret_i I rfl hw () (by simp only [f_RD_line, if_pos h1]) [0, 1, 2, 3, 4] (by decide) rfl d_RD_line_11
def f_RD_device (mm : kt_M) (dv : (Nat → Int32)) (b : Int32) : Int32 :=
  match f_RD_isBlock b with
  | r1 => if r1 = 0 then 0
    else dv b.toNatClampNeg
set_option maxHeartbeats 4000000 in
set_option maxRecDepth 100000 in
theorem c_RD_device (l : Launch) (D : va_G) (cI cZ cO : ClassId) (ad : Nat → Nat) (mm : kt_M) (dv : (Nat → Int32)) (b : Int32) : kx_Ci (S := Unit) l y_RD_device b_RD_device 2 (some .int) 1 0 0 D (kx_T cI cZ cO) [.ref (ad 0), .int b] [((ad 0), .inr (0, [.int mm.1, .ref (ad 1), .ref (ad 6), .ref (ad 8), .ref (ad 10), .ref (ad 11), .ref (ad 12), .ref (ad 13), .ref (ad 14), .ref (ad 19), .ref (ad 20), .int mm.2.1, .int mm.2.2.1, .int mm.2.2.2])), ((ad 19), .inl (cI, 16, .inl dv))] (fun rr _ => rr = f_RD_device mm dv b) (fun _ => [((ad 0), .inr (0, [.int mm.1, .ref (ad 1), .ref (ad 6), .ref (ad 8), .ref (ad 10), .ref (ad 11), .ref (ad 12), .ref (ad 13), .ref (ad 14), .ref (ad 19), .ref (ad 20), .int mm.2.1, .int mm.2.2.1, .int mm.2.2.2])), ((ad 19), .inl (cI, 16, .inl dv))]) := by
  refine kx_enter_i (by decide) (Nat.le_of_ble_eq_true rfl) ?_
  intro p_ e_ s_ m_ below_ meth_ c_ ls A_ H I hl hw
  have S := I.1
  have hx := S.1
  have hb := S.2.1
  have hl : lv_has ls 2 [(0, .ref (ad 0)), (1, .int b)] := hl
  refine lv_iload_n hx hb d_RD_device_0 rfl (lv_at hl 1 rfl) ?_
  refine kx_call_i (wc := []) (wr := [((ad 0), .inr (0, [.int mm.1, .ref (ad 1), .ref (ad 6), .ref (ad 8), .ref (ad 10), .ref (ad 11), .ref (ad 12), .ref (ad 13), .ref (ad 14), .ref (ad 19), .ref (ad 20), .int mm.2.1, .int mm.2.2.1, .int mm.2.2.2])), ((ad 19), .inl (cI, 16, .inl dv))]) (rest := []) hw [] [0, 1] rfl rfl (by decide) (by decide) (kx_runS S hw fc_RD_68 [] (by decide) rfl (c_RD_isBlock l D cI cZ cO b H.size) rfl hl.1 rfl (Nat.le_of_ble_eq_true rfl) d_RD_device_1 (by decide) (by decide)) (fun r1 u1 H locs hp1 hw => ?_)
  obtain ⟨hp1, hb1⟩ := hp1
  have hw : kx_w D (kx_T cI cZ cO) A_ s_ [((ad 0), .inr (0, [.int mm.1, .ref (ad 1), .ref (ad 6), .ref (ad 8), .ref (ad 10), .ref (ad 11), .ref (ad 12), .ref (ad 13), .ref (ad 14), .ref (ad 19), .ref (ad 20), .int mm.2.1, .int mm.2.2.1, .int mm.2.2.2])), ((ad 19), .inl (cI, 16, .inl dv))] H locs := hw
  refine lv_if_eq (tgt := 16) hx hb d_RD_device_4 (by decide) (fun h2 => ?_) (fun h2 => ?_)
  · refine lv_iconst (v := 0) hx hb d_RD_device_16 (by decide) ?_
    exact kx_ret_i I rfl hw () (by simp only [f_RD_device, ← hp1, if_pos h2]) [0, 1] (by decide) rfl d_RD_device_17
  · refine lv_aload_n hx hb d_RD_device_7 rfl (lv_at hl 0 rfl) ?_
    refine kx_get S hw fg_RD_52 0 rfl rfl d_RD_device_8 ?_
    refine lv_iload_n hx hb d_RD_device_11 rfl (lv_at hl 1 rfl) ?_
    refine kx_iald S hw 1 0 rfl rfl (j := b.toNatClampNeg) rfl (l_isBlock (hp1 ▸ h2)) d_RD_device_12 ?_
    refine lv_goto (tgt := 17) hx hb d_RD_device_13 (by decide) ?_
    exact kx_ret_i I rfl hw () (by simp only [f_RD_device, ← hp1, if_neg h2]) [0, 1] (by decide) rfl d_RD_device_17
def f_RD_slot (mm : kt_M) (ca : kt_Ca) (i : Int32) (k : Int32) : Int32 :=
  if i < 0 then (-1)
  else if i < 3 then (if k = 0 then ca.1 i.toNatClampNeg
    else if k = 1 then (if (ca.1 i.toNatClampNeg) = (-1) then 0
      else ca.2.1 i.toNatClampNeg)
    else if k = 2 then (if (ca.2.2.1 i.toNatClampNeg) = 0 then 0
      else 1)
    else (-1))
  else (-1)
set_option maxHeartbeats 4000000 in
set_option maxRecDepth 100000 in
theorem c_RD_slot (l : Launch) (D : va_G) (cI cZ cO : ClassId) (ad : Nat → Nat) (mm : kt_M) (ca : kt_Ca) (i : Int32) (k : Int32) : kx_Ci (S := Unit) l y_RD_slot b_RD_slot 3 (some .int) 0 0 0 D (kx_T cI cZ cO) [.ref (ad 0), .int i, .int k] [((ad 0), .inr (0, [.int mm.1, .ref (ad 1), .ref (ad 6), .ref (ad 8), .ref (ad 10), .ref (ad 11), .ref (ad 12), .ref (ad 13), .ref (ad 14), .ref (ad 19), .ref (ad 20), .int mm.2.1, .int mm.2.2.1, .int mm.2.2.2])), ((ad 14), .inr (5, [.ref (ad 15), .ref (ad 16), .ref (ad 17), .ref (ad 18)])), ((ad 15), .inl (cI, 3, .inl ca.1)), ((ad 16), .inl (cI, 3, .inl ca.2.1)), ((ad 17), .inl (cZ, 3, .inl ca.2.2.1)), ((ad 18), .inl (cI, 3, .inl ca.2.2.2))] (fun rr _ => rr = f_RD_slot mm ca i k) (fun _ => [((ad 0), .inr (0, [.int mm.1, .ref (ad 1), .ref (ad 6), .ref (ad 8), .ref (ad 10), .ref (ad 11), .ref (ad 12), .ref (ad 13), .ref (ad 14), .ref (ad 19), .ref (ad 20), .int mm.2.1, .int mm.2.2.1, .int mm.2.2.2])), ((ad 14), .inr (5, [.ref (ad 15), .ref (ad 16), .ref (ad 17), .ref (ad 18)])), ((ad 15), .inl (cI, 3, .inl ca.1)), ((ad 16), .inl (cI, 3, .inl ca.2.1)), ((ad 17), .inl (cZ, 3, .inl ca.2.2.1)), ((ad 18), .inl (cI, 3, .inl ca.2.2.2))]) := by
  refine kx_enter_i (by decide) (Nat.le_of_ble_eq_true rfl) ?_
  intro p_ e_ s_ m_ below_ meth_ c_ ls A_ H I hl hw
  have S := I.1
  have hx := S.1
  have hb := S.2.1
  have hl : lv_has ls 3 [(0, .ref (ad 0)), (1, .int i), (2, .int k)] := hl
  refine lv_iload_n hx hb d_RD_slot_0 rfl (lv_at hl 1 rfl) ?_
  refine lv_if_lt (tgt := 9) hx hb d_RD_slot_1 (by decide) (fun h1 => ?_) (fun h1 => ?_)
  · refine lv_iconst (v := (-1)) hx hb d_RD_slot_9 (by decide) ?_
    exact kx_ret_i I rfl hw () (by simp only [f_RD_slot, if_pos h1]) [0, 1, 2, 3, 4, 5] (by decide) rfl d_RD_slot_10
  · refine lv_iload_n hx hb d_RD_slot_4 rfl (lv_at hl 1 rfl) ?_
    refine lv_iconst (v := 3) hx hb d_RD_slot_5 (by decide) ?_
    refine lv_icmp_lt (tgt := 11) hx hb d_RD_slot_6 (by decide) (fun h2 => ?_) (fun h2 => ?_)
    · refine lv_iload_n hx hb d_RD_slot_11 rfl (lv_at hl 2 rfl) ?_
      by_cases h3 : k = 0
      · refine lv_tableIn (off := 28) (tgt := 40) hx hb d_RD_slot_12 (by rw [h3]; decide) (by rw [h3]; decide) (by rw [h3]; decide) (by decide) ?_
        refine lv_aload_n hx hb d_RD_slot_40 rfl (lv_at hl 0 rfl) ?_
        refine kx_get S hw fg_RD_48 0 rfl rfl d_RD_slot_41 ?_
        refine kx_get S hw fg_RD_121 1 rfl rfl d_RD_slot_44 ?_
        refine lv_iload_n hx hb d_RD_slot_47 rfl (lv_at hl 1 rfl) ?_
        refine kx_iald S hw 2 0 rfl rfl (j := i.toNatClampNeg) rfl (kx_i2 rfl h1 (Int32.not_le.mpr h2)) d_RD_slot_48 ?_
        exact kx_ret_i I rfl hw () (by simp only [f_RD_slot, if_neg h1, if_pos h2, if_pos h3]) [0, 1, 2, 3, 4, 5] (by decide) rfl d_RD_slot_49
      by_cases h4 : k = 1
      · refine lv_tableIn (off := 38) (tgt := 50) hx hb d_RD_slot_12 (by rw [h4]; decide) (by rw [h4]; decide) (by rw [h4]; decide) (by decide) ?_
        refine lv_aload_n hx hb d_RD_slot_50 rfl (lv_at hl 0 rfl) ?_
        refine kx_get S hw fg_RD_48 0 rfl rfl d_RD_slot_51 ?_
        refine kx_get S hw fg_RD_121 1 rfl rfl d_RD_slot_54 ?_
        refine lv_iload_n hx hb d_RD_slot_57 rfl (lv_at hl 1 rfl) ?_
        refine kx_iald S hw 2 0 rfl rfl (j := i.toNatClampNeg) rfl (kx_i2 rfl h1 (Int32.not_le.mpr h2)) d_RD_slot_58 ?_
        refine lv_iconst (v := (-1)) hx hb d_RD_slot_59 (by decide) ?_
        refine lv_icmp_ne (tgt := 67) hx hb d_RD_slot_60 (by decide) (fun h5 => ?_) (fun h5 => ?_)
        · refine lv_aload_n hx hb d_RD_slot_67 rfl (lv_at hl 0 rfl) ?_
          refine kx_get S hw fg_RD_48 0 rfl rfl d_RD_slot_68 ?_
          refine kx_get S hw fg_RD_124 1 rfl rfl d_RD_slot_71 ?_
          refine lv_iload_n hx hb d_RD_slot_74 rfl (lv_at hl 1 rfl) ?_
          refine kx_iald S hw 3 0 rfl rfl (j := i.toNatClampNeg) rfl (kx_i2 rfl h1 (Int32.not_le.mpr h2)) d_RD_slot_75 ?_
          exact kx_ret_i I rfl hw () (by simp only [f_RD_slot, if_neg h1, if_pos h2, if_neg h3, if_pos h4, if_neg h5]) [0, 1, 2, 3, 4, 5] (by decide) rfl d_RD_slot_76
        · refine lv_iconst (v := 0) hx hb d_RD_slot_63 (by decide) ?_
          refine lv_goto (tgt := 76) hx hb d_RD_slot_64 (by decide) ?_
          exact kx_ret_i I rfl hw () (by simp only [f_RD_slot, if_neg h1, if_pos h2, if_neg h3, if_pos h4, if_pos h5]) [0, 1, 2, 3, 4, 5] (by decide) rfl d_RD_slot_76
      by_cases h6 : k = 2
      · refine lv_tableIn (off := 65) (tgt := 77) hx hb d_RD_slot_12 (by rw [h6]; decide) (by rw [h6]; decide) (by rw [h6]; decide) (by decide) ?_
        refine lv_aload_n hx hb d_RD_slot_77 rfl (lv_at hl 0 rfl) ?_
        refine kx_get S hw fg_RD_48 0 rfl rfl d_RD_slot_78 ?_
        refine kx_get S hw fg_RD_127 1 rfl rfl d_RD_slot_81 ?_
        refine lv_iload_n hx hb d_RD_slot_84 rfl (lv_at hl 1 rfl) ?_
        refine kx_zald S hw 4 1 rfl rfl (j := i.toNatClampNeg) rfl (kx_i2 rfl h1 (Int32.not_le.mpr h2)) d_RD_slot_85 ?_
        refine lv_if_eq (tgt := 93) hx hb d_RD_slot_86 (by decide) (fun h7 => ?_) (fun h7 => ?_)
        · refine lv_iconst (v := 0) hx hb d_RD_slot_93 (by decide) ?_
          exact kx_ret_i I rfl hw () (by simp only [f_RD_slot, if_neg h1, if_pos h2, if_neg h3, if_neg h4, if_pos h6, if_pos h7]) [0, 1, 2, 3, 4, 5] (by decide) rfl d_RD_slot_94
        · refine lv_iconst (v := 1) hx hb d_RD_slot_89 (by decide) ?_
          refine lv_goto (tgt := 94) hx hb d_RD_slot_90 (by decide) ?_
          exact kx_ret_i I rfl hw () (by simp only [f_RD_slot, if_neg h1, if_pos h2, if_neg h3, if_neg h4, if_pos h6, if_neg h7]) [0, 1, 2, 3, 4, 5] (by decide) rfl d_RD_slot_94
      refine lv_tableOut (tgt := 95) hx hb d_RD_slot_12 (kx_sw3 h3 h4 h6) (by decide) ?_
      refine lv_iconst (v := (-1)) hx hb d_RD_slot_95 (by decide) ?_
      exact kx_ret_i I rfl hw () (by simp only [f_RD_slot, if_neg h1, if_pos h2, if_neg h3, if_neg h4, if_neg h6]) [0, 1, 2, 3, 4, 5] (by decide) rfl d_RD_slot_96
    · refine lv_iconst (v := (-1)) hx hb d_RD_slot_9 (by decide) ?_
      exact kx_ret_i I rfl hw () (by simp only [f_RD_slot, if_neg h1, if_neg h2]) [0, 1, 2, 3, 4, 5] (by decide) rfl d_RD_slot_10
def f_RD_output (mm : kt_M) (po : (Nat → Int32)) (i : Int32) : Int32 :=
  if i = (-1) then mm.2.1
  else if i < 0 then (-2)
  else if mm.2.1 ≤ i then (-2)
  else po i.toNatClampNeg
set_option maxHeartbeats 4000000 in
set_option maxRecDepth 100000 in
theorem c_RD_output (l : Launch) (D : va_G) (cI cZ cO : ClassId) (ad : Nat → Nat) (mm : kt_M) (po : (Nat → Int32)) (i : Int32) (hol : kv_ol mm) : kx_Ci (S := Unit) l y_RD_output b_RD_output 2 (some .int) 0 0 0 D (kx_T cI cZ cO) [.ref (ad 0), .int i] [((ad 0), .inr (0, [.int mm.1, .ref (ad 1), .ref (ad 6), .ref (ad 8), .ref (ad 10), .ref (ad 11), .ref (ad 12), .ref (ad 13), .ref (ad 14), .ref (ad 19), .ref (ad 20), .int mm.2.1, .int mm.2.2.1, .int mm.2.2.2])), ((ad 20), .inl (cI, 200, .inl po))] (fun rr _ => rr = f_RD_output mm po i) (fun _ => [((ad 0), .inr (0, [.int mm.1, .ref (ad 1), .ref (ad 6), .ref (ad 8), .ref (ad 10), .ref (ad 11), .ref (ad 12), .ref (ad 13), .ref (ad 14), .ref (ad 19), .ref (ad 20), .int mm.2.1, .int mm.2.2.1, .int mm.2.2.2])), ((ad 20), .inl (cI, 200, .inl po))]) := by
  refine kx_enter_i (by decide) (Nat.le_of_ble_eq_true rfl) ?_
  intro p_ e_ s_ m_ below_ meth_ c_ ls A_ H I hl hw
  have S := I.1
  have hx := S.1
  have hb := S.2.1
  have hl : lv_has ls 2 [(0, .ref (ad 0)), (1, .int i)] := hl
  refine lv_iload_n hx hb d_RD_output_0 rfl (lv_at hl 1 rfl) ?_
  refine lv_iconst (v := (-1)) hx hb d_RD_output_1 (by decide) ?_
  refine lv_icmp_ne (tgt := 10) hx hb d_RD_output_2 (by decide) (fun h1 => ?_) (fun h1 => ?_)
  · refine lv_iload_n hx hb d_RD_output_10 rfl (lv_at hl 1 rfl) ?_
    refine lv_if_lt (tgt := 31) hx hb d_RD_output_11 (by decide) (fun h2 => ?_) (fun h2 => ?_)
    · refine lv_bipush (v := (-2)) hx hb d_RD_output_31 (by decide) ?_
      exact kx_ret_i I rfl hw () (by simp only [f_RD_output, if_neg h1, if_pos h2]) [0, 1] (by decide) rfl d_RD_output_33
    · refine lv_iload_n hx hb d_RD_output_14 rfl (lv_at hl 1 rfl) ?_
      refine lv_aload_n hx hb d_RD_output_15 rfl (lv_at hl 0 rfl) ?_
      refine kx_get S hw fg_RD_131 0 rfl rfl d_RD_output_16 ?_
      refine lv_icmp_ge (tgt := 31) hx hb d_RD_output_19 (by decide) (fun h3 => ?_) (fun h3 => ?_)
      · refine lv_bipush (v := (-2)) hx hb d_RD_output_31 (by decide) ?_
        exact kx_ret_i I rfl hw () (by simp only [f_RD_output, if_neg h1, if_neg h2, if_pos h3]) [0, 1] (by decide) rfl d_RD_output_33
      · refine lv_aload_n hx hb d_RD_output_22 rfl (lv_at hl 0 rfl) ?_
        refine kx_get S hw fg_RD_56 0 rfl rfl d_RD_output_23 ?_
        refine lv_iload_n hx hb d_RD_output_26 rfl (lv_at hl 1 rfl) ?_
        refine kx_iald S hw 1 0 rfl rfl (j := i.toNatClampNeg) rfl (kx_i5 h2 h3 hol.2) d_RD_output_27 ?_
        refine lv_goto (tgt := 33) hx hb d_RD_output_28 (by decide) ?_
        exact kx_ret_i I rfl hw () (by simp only [f_RD_output, if_neg h1, if_neg h2, if_neg h3]) [0, 1] (by decide) rfl d_RD_output_33
  · refine lv_aload_n hx hb d_RD_output_5 rfl (lv_at hl 0 rfl) ?_
    refine kx_get S hw fg_RD_131 0 rfl rfl d_RD_output_6 ?_
    exact kx_ret_i I rfl hw () (by simp only [f_RD_output, if_pos h1]) [0, 1] (by decide) rfl d_RD_output_9
def f_RD_request (mm : kt_M) (fr : kt_Rq) (tr : kt_Rq) (s : Int32) : Int32 :=
  if s = 0 then (match f_Rq_progress fr with
    | r4 => r4)
  else if s = 1 then (match f_Rq_progress tr with
    | r3 => r3)
  else (-1)
set_option maxHeartbeats 4000000 in
set_option maxRecDepth 100000 in
theorem c_RD_request (l : Launch) (D : va_G) (cI cZ cO : ClassId) (ad : Nat → Nat) (mm : kt_M) (fr : kt_Rq) (tr : kt_Rq) (s : Int32) : kx_Ci (S := Unit) l y_RD_request b_RD_request 2 (some .int) 2 0 0 D (kx_T cI cZ cO) [.ref (ad 0), .int s] [((ad 0), .inr (0, [.int mm.1, .ref (ad 1), .ref (ad 6), .ref (ad 8), .ref (ad 10), .ref (ad 11), .ref (ad 12), .ref (ad 13), .ref (ad 14), .ref (ad 19), .ref (ad 20), .int mm.2.1, .int mm.2.2.1, .int mm.2.2.2])), ((ad 12), .inr (4, [.int fr.1, .int fr.2.1, .int fr.2.2.1, .int fr.2.2.2.1, .int fr.2.2.2.2.1, .int fr.2.2.2.2.2.1, .int fr.2.2.2.2.2.2])), ((ad 13), .inr (4, [.int tr.1, .int tr.2.1, .int tr.2.2.1, .int tr.2.2.2.1, .int tr.2.2.2.2.1, .int tr.2.2.2.2.2.1, .int tr.2.2.2.2.2.2]))] (fun rr _ => rr = f_RD_request mm fr tr s) (fun _ => [((ad 0), .inr (0, [.int mm.1, .ref (ad 1), .ref (ad 6), .ref (ad 8), .ref (ad 10), .ref (ad 11), .ref (ad 12), .ref (ad 13), .ref (ad 14), .ref (ad 19), .ref (ad 20), .int mm.2.1, .int mm.2.2.1, .int mm.2.2.2])), ((ad 12), .inr (4, [.int fr.1, .int fr.2.1, .int fr.2.2.1, .int fr.2.2.2.1, .int fr.2.2.2.2.1, .int fr.2.2.2.2.2.1, .int fr.2.2.2.2.2.2])), ((ad 13), .inr (4, [.int tr.1, .int tr.2.1, .int tr.2.2.1, .int tr.2.2.2.1, .int tr.2.2.2.2.1, .int tr.2.2.2.2.2.1, .int tr.2.2.2.2.2.2]))]) := by
  refine kx_enter_i (by decide) (Nat.le_of_ble_eq_true rfl) ?_
  intro p_ e_ s_ m_ below_ meth_ c_ ls A_ H I hl hw
  have S := I.1
  have hx := S.1
  have hb := S.2.1
  have hl : lv_has ls 2 [(0, .ref (ad 0)), (1, .int s)] := hl
  refine lv_iload_n hx hb d_RD_request_0 rfl (lv_at hl 1 rfl) ?_
  refine lv_if_ne (tgt := 12) hx hb d_RD_request_1 (by decide) (fun h1 => ?_) (fun h1 => ?_)
  · refine lv_iload_n hx hb d_RD_request_12 rfl (lv_at hl 1 rfl) ?_
    refine lv_iconst (v := 1) hx hb d_RD_request_13 (by decide) ?_
    refine lv_icmp_ne (tgt := 27) hx hb d_RD_request_14 (by decide) (fun h2 => ?_) (fun h2 => ?_)
    · refine lv_iconst (v := (-1)) hx hb d_RD_request_27 (by decide) ?_
      exact kx_ret_i I rfl hw () (by simp only [f_RD_request, if_neg h1, if_neg h2]) [0, 1, 2] (by decide) rfl d_RD_request_28
    · refine lv_aload_n hx hb d_RD_request_17 rfl (lv_at hl 0 rfl) ?_
      refine kx_get S hw fg_RD_42 0 rfl rfl d_RD_request_18 ?_
      refine kx_call_i (wc := [((ad 13), .inr (4, [.int tr.1, .int tr.2.1, .int tr.2.2.1, .int tr.2.2.2.1, .int tr.2.2.2.2.1, .int tr.2.2.2.2.2.1, .int tr.2.2.2.2.2.2]))]) (wr := [((ad 0), .inr (0, [.int mm.1, .ref (ad 1), .ref (ad 6), .ref (ad 8), .ref (ad 10), .ref (ad 11), .ref (ad 12), .ref (ad 13), .ref (ad 14), .ref (ad 19), .ref (ad 20), .int mm.2.1, .int mm.2.2.1, .int mm.2.2.2])), ((ad 12), .inr (4, [.int fr.1, .int fr.2.1, .int fr.2.2.1, .int fr.2.2.2.1, .int fr.2.2.2.2.1, .int fr.2.2.2.2.2.1, .int fr.2.2.2.2.2.2]))]) (rest := []) hw [2] [0, 1] rfl rfl (by decide) (by decide) (kx_runV S hw fc_RD_150 rfl 2 rfl [2] (by decide) rfl (c_Rq_progress l D cI cZ cO (ad 13) tr H.size) rfl hl.1 rfl (Nat.le_of_ble_eq_true rfl) d_RD_request_21 (by decide) (by decide)) (fun r3 u3 H locs hp3 hw => ?_)
      have hw : kx_w D (kx_T cI cZ cO) A_ s_ [((ad 0), .inr (0, [.int mm.1, .ref (ad 1), .ref (ad 6), .ref (ad 8), .ref (ad 10), .ref (ad 11), .ref (ad 12), .ref (ad 13), .ref (ad 14), .ref (ad 19), .ref (ad 20), .int mm.2.1, .int mm.2.2.1, .int mm.2.2.2])), ((ad 12), .inr (4, [.int fr.1, .int fr.2.1, .int fr.2.2.1, .int fr.2.2.2.1, .int fr.2.2.2.2.1, .int fr.2.2.2.2.2.1, .int fr.2.2.2.2.2.2])), ((ad 13), .inr (4, [.int tr.1, .int tr.2.1, .int tr.2.2.1, .int tr.2.2.2.1, .int tr.2.2.2.2.1, .int tr.2.2.2.2.2.1, .int tr.2.2.2.2.2.2]))] H locs := hw
      refine lv_goto (tgt := 28) hx hb d_RD_request_24 (by decide) ?_
      exact kx_ret_i I rfl hw () (by simp only [f_RD_request, if_neg h1, if_pos h2, ← hp3]) [0, 1, 2] (by decide) rfl d_RD_request_28
  · refine lv_aload_n hx hb d_RD_request_4 rfl (lv_at hl 0 rfl) ?_
    refine kx_get S hw fg_RD_38 0 rfl rfl d_RD_request_5 ?_
    refine kx_call_i (wc := [((ad 12), .inr (4, [.int fr.1, .int fr.2.1, .int fr.2.2.1, .int fr.2.2.2.1, .int fr.2.2.2.2.1, .int fr.2.2.2.2.2.1, .int fr.2.2.2.2.2.2]))]) (wr := [((ad 0), .inr (0, [.int mm.1, .ref (ad 1), .ref (ad 6), .ref (ad 8), .ref (ad 10), .ref (ad 11), .ref (ad 12), .ref (ad 13), .ref (ad 14), .ref (ad 19), .ref (ad 20), .int mm.2.1, .int mm.2.2.1, .int mm.2.2.2])), ((ad 13), .inr (4, [.int tr.1, .int tr.2.1, .int tr.2.2.1, .int tr.2.2.2.1, .int tr.2.2.2.2.1, .int tr.2.2.2.2.2.1, .int tr.2.2.2.2.2.2]))]) (rest := []) hw [1] [0, 2] rfl rfl (by decide) (by decide) (kx_runV S hw fc_RD_150 rfl 1 rfl [1] (by decide) rfl (c_Rq_progress l D cI cZ cO (ad 12) fr H.size) rfl hl.1 rfl (Nat.le_of_ble_eq_true rfl) d_RD_request_8 (by decide) (by decide)) (fun r4 u4 H locs hp4 hw => ?_)
    have hw : kx_w D (kx_T cI cZ cO) A_ s_ [((ad 0), .inr (0, [.int mm.1, .ref (ad 1), .ref (ad 6), .ref (ad 8), .ref (ad 10), .ref (ad 11), .ref (ad 12), .ref (ad 13), .ref (ad 14), .ref (ad 19), .ref (ad 20), .int mm.2.1, .int mm.2.2.1, .int mm.2.2.2])), ((ad 13), .inr (4, [.int tr.1, .int tr.2.1, .int tr.2.2.1, .int tr.2.2.2.1, .int tr.2.2.2.2.1, .int tr.2.2.2.2.2.1, .int tr.2.2.2.2.2.2])), ((ad 12), .inr (4, [.int fr.1, .int fr.2.1, .int fr.2.2.1, .int fr.2.2.2.1, .int fr.2.2.2.2.1, .int fr.2.2.2.2.2.1, .int fr.2.2.2.2.2.2]))] H locs := hw
    exact kx_ret_i I rfl hw () (by simp only [f_RD_request, if_pos h1, ← hp4]) [0, 2, 1] (by decide) rfl d_RD_request_11
def f_RD_now (mm : kt_M) : Int32 :=
  mm.2.2.2
set_option maxHeartbeats 4000000 in
set_option maxRecDepth 100000 in
theorem c_RD_now (l : Launch) (D : va_G) (cI cZ cO : ClassId) (ad : Nat → Nat) (mm : kt_M) : kx_Ci (S := Unit) l y_RD_now b_RD_now 1 (some .int) 0 0 0 D (kx_T cI cZ cO) [.ref (ad 0)] [((ad 0), .inr (0, [.int mm.1, .ref (ad 1), .ref (ad 6), .ref (ad 8), .ref (ad 10), .ref (ad 11), .ref (ad 12), .ref (ad 13), .ref (ad 14), .ref (ad 19), .ref (ad 20), .int mm.2.1, .int mm.2.2.1, .int mm.2.2.2]))] (fun rr _ => rr = f_RD_now mm) (fun _ => [((ad 0), .inr (0, [.int mm.1, .ref (ad 1), .ref (ad 6), .ref (ad 8), .ref (ad 10), .ref (ad 11), .ref (ad 12), .ref (ad 13), .ref (ad 14), .ref (ad 19), .ref (ad 20), .int mm.2.1, .int mm.2.2.1, .int mm.2.2.2]))]) := by
  refine kx_enter_i (by decide) (Nat.le_of_ble_eq_true rfl) ?_
  intro p_ e_ s_ m_ below_ meth_ c_ ls A_ H I hl hw
  have S := I.1
  have hx := S.1
  have hb := S.2.1
  have hl : lv_has ls 1 [(0, .ref (ad 0))] := hl
  refine lv_aload_n hx hb d_RD_now_0 rfl (lv_at hl 0 rfl) ?_
  refine kx_get S hw fg_RD_79 0 rfl rfl d_RD_now_1 ?_
  exact kx_ret_i I rfl hw () (by simp only [f_RD_now]) [0] (by decide) rfl d_RD_now_4
end
section
theorem mm_75 : Cond.fieldLinkNest "RebornDrivers" 162 "RebornDrivers$Request" "kind" "I" "RebornDrivers" ∈ kx_nl := List.mem_filter.mpr ⟨List.mem_append_right _ (List.mem_of_getElem? (i := 75) (by decide +kernel)), by decide +kernel⟩
theorem mm_76 : Cond.fieldLinkNest "RebornDrivers" 165 "RebornDrivers$Request" "block" "I" "RebornDrivers" ∈ kx_nl := List.mem_filter.mpr ⟨List.mem_append_right _ (List.mem_of_getElem? (i := 76) (by decide +kernel)), by decide +kernel⟩
theorem mm_77 : Cond.fieldLinkNest "RebornDrivers" 171 "RebornDrivers$Request" "slot" "I" "RebornDrivers" ∈ kx_nl := List.mem_filter.mpr ⟨List.mem_append_right _ (List.mem_of_getElem? (i := 77) (by decide +kernel)), by decide +kernel⟩
theorem mm_168 : Cond.fieldLink "RebornDrivers" 168 "RebornDrivers" "buffer" "I" ∈ kx_tbl := List.mem_filter.mpr ⟨List.mem_append_right _ (List.mem_of_getElem? (i := 168) (by decide +kernel)), by decide +kernel⟩
theorem mm_252 : Cond.code ⟨"RebornDrivers$Driver", "takeStep", "()I"⟩ prog_3_method_6_code 2 (some .int) ∈ kx_tbl := List.mem_filter.mpr ⟨List.mem_append_right _ (List.mem_of_getElem? (i := 252) (by decide +kernel)), by decide +kernel⟩
theorem mm_249 : Cond.methodLinkNest "RebornDrivers" 153 ⟨"RebornDrivers$Driver", "takeStep", "()I"⟩ "RebornDrivers" ∈ kx_nl := List.mem_filter.mpr ⟨List.mem_append_right _ (List.mem_of_getElem? (i := 249) (by decide +kernel)), by decide +kernel⟩
theorem mm_251 : Cond.instanceMethod ⟨"RebornDrivers$Driver", "takeStep", "()I"⟩ ∈ kx_tbl := List.mem_filter.mpr ⟨List.mem_append_right _ (List.mem_of_getElem? (i := 251) (by decide +kernel)), by decide +kernel⟩
theorem mm_82 : Cond.fieldLinkNest "RebornDrivers" 159 "RebornDrivers$Request" "answered" "Z" "RebornDrivers" ∈ kx_nl := List.mem_filter.mpr ⟨List.mem_append_right _ (List.mem_of_getElem? (i := 82) (by decide +kernel)), by decide +kernel⟩
theorem mm_264 : Cond.code ⟨"RebornDrivers", "moveBlock", "()V"⟩ prog_1_method_23_code 1 none ∈ kx_tbl := List.mem_filter.mpr ⟨List.mem_append_right _ (List.mem_of_getElem? (i := 264) (by decide +kernel)), by decide +kernel⟩
theorem mm_261 : Cond.methodLink "RebornDrivers" 156 ⟨"RebornDrivers", "moveBlock", "()V"⟩ ∈ kx_tbl := List.mem_filter.mpr ⟨List.mem_append_right _ (List.mem_of_getElem? (i := 261) (by decide +kernel)), by decide +kernel⟩
theorem mm_263 : Cond.instanceMethod ⟨"RebornDrivers", "moveBlock", "()V"⟩ ∈ kx_tbl := List.mem_filter.mpr ⟨List.mem_append_right _ (List.mem_of_getElem? (i := 263) (by decide +kernel)), by decide +kernel⟩
theorem mm_78 : Cond.fieldLinkNest "RebornDrivers" 174 "RebornDrivers$Request" "character" "I" "RebornDrivers" ∈ kx_nl := List.mem_filter.mpr ⟨List.mem_append_right _ (List.mem_of_getElem? (i := 78) (by decide +kernel)), by decide +kernel⟩
theorem mm_272 : Cond.code ⟨"RebornDrivers", "putOutCharacter", "(I)V"⟩ prog_1_method_25_code 2 none ∈ kx_tbl := List.mem_filter.mpr ⟨List.mem_append_right _ (List.mem_of_getElem? (i := 272) (by decide +kernel)), by decide +kernel⟩
theorem mm_269 : Cond.methodLink "RebornDrivers" 177 ⟨"RebornDrivers", "putOutCharacter", "(I)V"⟩ ∈ kx_tbl := List.mem_filter.mpr ⟨List.mem_append_right _ (List.mem_of_getElem? (i := 269) (by decide +kernel)), by decide +kernel⟩
theorem mm_271 : Cond.instanceMethod ⟨"RebornDrivers", "putOutCharacter", "(I)V"⟩ ∈ kx_tbl := List.mem_filter.mpr ⟨List.mem_append_right _ (List.mem_of_getElem? (i := 271) (by decide +kernel)), by decide +kernel⟩
theorem mm_300 : Cond.code ⟨"RebornDrivers$Request", "close", "()V"⟩ prog_6_method_4_code 1 none ∈ kx_tbl := List.mem_filter.mpr ⟨List.mem_append_right _ (List.mem_of_getElem? (i := 300) (by decide +kernel)), by decide +kernel⟩
theorem mm_297 : Cond.methodLinkNest "RebornDrivers" 215 ⟨"RebornDrivers$Request", "close", "()V"⟩ "RebornDrivers" ∈ kx_nl := List.mem_filter.mpr ⟨List.mem_append_right _ (List.mem_of_getElem? (i := 297) (by decide +kernel)), by decide +kernel⟩
theorem mm_299 : Cond.instanceMethod ⟨"RebornDrivers$Request", "close", "()V"⟩ ∈ kx_tbl := List.mem_filter.mpr ⟨List.mem_append_right _ (List.mem_of_getElem? (i := 299) (by decide +kernel)), by decide +kernel⟩
theorem mm_293 : Cond.methodLinkNest "RebornDrivers" 211 ⟨"RebornDrivers$Cache", "hold", "(IIIZ)V"⟩ "RebornDrivers" ∈ kx_nl := List.mem_filter.mpr ⟨List.mem_append_right _ (List.mem_of_getElem? (i := 293) (by decide +kernel)), by decide +kernel⟩
theorem mm_332 : Cond.code ⟨"RebornDrivers$Request", "open", "(I)V"⟩ prog_6_method_3_code 2 none ∈ kx_tbl := List.mem_filter.mpr ⟨List.mem_append_right _ (List.mem_of_getElem? (i := 332) (by decide +kernel)), by decide +kernel⟩
theorem mm_329 : Cond.methodLinkNest "RebornDrivers" 258 ⟨"RebornDrivers$Request", "open", "(I)V"⟩ "RebornDrivers" ∈ kx_nl := List.mem_filter.mpr ⟨List.mem_append_right _ (List.mem_of_getElem? (i := 329) (by decide +kernel)), by decide +kernel⟩
theorem mm_331 : Cond.instanceMethod ⟨"RebornDrivers$Request", "open", "(I)V"⟩ ∈ kx_tbl := List.mem_filter.mpr ⟨List.mem_append_right _ (List.mem_of_getElem? (i := 331) (by decide +kernel)), by decide +kernel⟩
theorem mm_288 : Cond.code ⟨"RebornDrivers$Request", "giveTo", "(LRebornDrivers$Driver;)V"⟩ prog_6_method_6_code 2 none ∈ kx_tbl := List.mem_filter.mpr ⟨List.mem_append_right _ (List.mem_of_getElem? (i := 288) (by decide +kernel)), by decide +kernel⟩
theorem mm_285 : Cond.methodLinkNest "RebornDrivers" 191 ⟨"RebornDrivers$Request", "giveTo", "(LRebornDrivers$Driver;)V"⟩ "RebornDrivers" ∈ kx_nl := List.mem_filter.mpr ⟨List.mem_append_right _ (List.mem_of_getElem? (i := 285) (by decide +kernel)), by decide +kernel⟩
theorem mm_287 : Cond.instanceMethod ⟨"RebornDrivers$Request", "giveTo", "(LRebornDrivers$Driver;)V"⟩ ∈ kx_tbl := List.mem_filter.mpr ⟨List.mem_append_right _ (List.mem_of_getElem? (i := 287) (by decide +kernel)), by decide +kernel⟩
theorem fg_RD_162 : kx_f "RebornDrivers" 162 4 0 := ⟨R_Rq, F_Rq, 7, rfl, by decide, in_Rq, Or.inr ⟨_, mm_75⟩⟩
theorem fg_RD_165 : kx_f "RebornDrivers" 165 4 1 := ⟨R_Rq, F_Rq, 7, rfl, by decide, in_Rq, Or.inr ⟨_, mm_76⟩⟩
theorem fg_RD_171 : kx_f "RebornDrivers" 171 4 2 := ⟨R_Rq, F_Rq, 7, rfl, by decide, in_Rq, Or.inr ⟨_, mm_77⟩⟩
theorem fp_RD_168 : kx_q "RebornDrivers" 168 0 12 (.int) := ⟨R_RD, F_RD, 14, t_RD, rfl, by decide, in_RD, Or.inl mm_168, t_RD_ok, n_RD, rfl, by decide +kernel⟩
theorem sel_Dr_takeStep : Cond.selects "RebornDrivers$Driver" y_Dr_takeStep y_Dr_takeStep ∈ kx_tbl := List.mem_filter.mpr ⟨List.mem_append_left _ (by decide +kernel), by decide +kernel⟩
theorem fc_RD_153 : kx_m "RebornDrivers" 153 y_Dr_takeStep b_Dr_takeStep 2 (some .int) 0 ∧ Cond.instanceMethod y_Dr_takeStep ∈ kx_tbl ∧ Cond.selects "RebornDrivers$Driver" y_Dr_takeStep y_Dr_takeStep ∈ kx_tbl := ⟨⟨mm_252, mm_3, by decide +kernel, Or.inr ⟨_, mm_249⟩⟩, mm_251, sel_Dr_takeStep⟩
theorem fp_RD_159 : kx_q "RebornDrivers" 159 4 5 (.boolean) := ⟨R_Rq, F_Rq, 7, t_Rq, rfl, by decide, in_Rq, Or.inr ⟨_, mm_82⟩, t_Rq_ok, n_Rq, rfl, by decide +kernel⟩
theorem sel_RD_moveBlock : Cond.selects "RebornDrivers" y_RD_moveBlock y_RD_moveBlock ∈ kx_tbl := List.mem_filter.mpr ⟨List.mem_append_left _ (by decide +kernel), by decide +kernel⟩
theorem fc_RD_156 : kx_m "RebornDrivers" 156 y_RD_moveBlock b_RD_moveBlock 1 none 0 ∧ Cond.instanceMethod y_RD_moveBlock ∈ kx_tbl ∧ Cond.selects "RebornDrivers" y_RD_moveBlock y_RD_moveBlock ∈ kx_tbl := ⟨⟨mm_264, mm_1, by decide +kernel, Or.inl mm_261⟩, mm_263, sel_RD_moveBlock⟩
theorem fp_RD_131 : kx_q "RebornDrivers" 131 0 11 (.int) := ⟨R_RD, F_RD, 14, t_RD, rfl, by decide, in_RD, Or.inl mm_167, t_RD_ok, n_RD, rfl, by decide +kernel⟩
theorem fg_RD_174 : kx_f "RebornDrivers" 174 4 3 := ⟨R_Rq, F_Rq, 7, rfl, by decide, in_Rq, Or.inr ⟨_, mm_78⟩⟩
theorem sel_RD_putOutCharacter : Cond.selects "RebornDrivers" y_RD_putOutCharacter y_RD_putOutCharacter ∈ kx_tbl := List.mem_filter.mpr ⟨List.mem_append_left _ (by decide +kernel), by decide +kernel⟩
theorem fc_RD_177 : kx_m "RebornDrivers" 177 y_RD_putOutCharacter b_RD_putOutCharacter 2 none 1 ∧ Cond.instanceMethod y_RD_putOutCharacter ∈ kx_tbl ∧ Cond.selects "RebornDrivers" y_RD_putOutCharacter y_RD_putOutCharacter ∈ kx_tbl := ⟨⟨mm_272, mm_1, by decide +kernel, Or.inl mm_269⟩, mm_271, sel_RD_putOutCharacter⟩
theorem sel_Rq_close : Cond.selects "RebornDrivers$Request" y_Rq_close y_Rq_close ∈ kx_tbl := List.mem_filter.mpr ⟨List.mem_append_left _ (by decide +kernel), by decide +kernel⟩
theorem fc_RD_215 : kx_m "RebornDrivers" 215 y_Rq_close b_Rq_close 1 none 0 ∧ Cond.instanceMethod y_Rq_close ∈ kx_tbl ∧ Cond.selects "RebornDrivers$Request" y_Rq_close y_Rq_close ∈ kx_tbl := ⟨⟨mm_300, mm_4, by decide +kernel, Or.inr ⟨_, mm_297⟩⟩, mm_299, sel_Rq_close⟩
theorem fg_RD_168 : kx_f "RebornDrivers" 168 0 12 := ⟨R_RD, F_RD, 14, rfl, by decide, in_RD, Or.inl mm_168⟩
theorem fc_RD_211 : kx_m "RebornDrivers" 211 y_Ca_hold b_Ca_hold 5 none 4 ∧ Cond.instanceMethod y_Ca_hold ∈ kx_tbl ∧ Cond.selects "RebornDrivers$Cache" y_Ca_hold y_Ca_hold ∈ kx_tbl := ⟨⟨mm_296, mm_5, by decide +kernel, Or.inr ⟨_, mm_293⟩⟩, mm_295, sel_Ca_hold⟩
theorem sel_Rq_open : Cond.selects "RebornDrivers$Request" y_Rq_open y_Rq_open ∈ kx_tbl := List.mem_filter.mpr ⟨List.mem_append_left _ (by decide +kernel), by decide +kernel⟩
theorem fc_RD_258 : kx_m "RebornDrivers" 258 y_Rq_open b_Rq_open 2 none 1 ∧ Cond.instanceMethod y_Rq_open ∈ kx_tbl ∧ Cond.selects "RebornDrivers$Request" y_Rq_open y_Rq_open ∈ kx_tbl := ⟨⟨mm_332, mm_4, by decide +kernel, Or.inr ⟨_, mm_329⟩⟩, mm_331, sel_Rq_open⟩
theorem fp_RD_165 : kx_q "RebornDrivers" 165 4 1 (.int) := ⟨R_Rq, F_Rq, 7, t_Rq, rfl, by decide, in_Rq, Or.inr ⟨_, mm_76⟩, t_Rq_ok, n_Rq, rfl, by decide +kernel⟩
theorem fp_RD_171 : kx_q "RebornDrivers" 171 4 2 (.int) := ⟨R_Rq, F_Rq, 7, t_Rq, rfl, by decide, in_Rq, Or.inr ⟨_, mm_77⟩, t_Rq_ok, n_Rq, rfl, by decide +kernel⟩
theorem sel_Rq_giveTo : Cond.selects "RebornDrivers$Request" y_Rq_giveTo y_Rq_giveTo ∈ kx_tbl := List.mem_filter.mpr ⟨List.mem_append_left _ (by decide +kernel), by decide +kernel⟩
theorem fc_RD_191 : kx_m "RebornDrivers" 191 y_Rq_giveTo b_Rq_giveTo 2 none 1 ∧ Cond.instanceMethod y_Rq_giveTo ∈ kx_tbl ∧ Cond.selects "RebornDrivers$Request" y_Rq_giveTo y_Rq_giveTo ∈ kx_tbl := ⟨⟨mm_288, mm_4, by decide +kernel, Or.inr ⟨_, mm_285⟩⟩, mm_287, sel_Rq_giveTo⟩
theorem fp_RD_174 : kx_q "RebornDrivers" 174 4 3 (.int) := ⟨R_Rq, F_Rq, 7, t_Rq, rfl, by decide, in_Rq, Or.inr ⟨_, mm_78⟩, t_Rq_ok, n_Rq, rfl, by decide +kernel⟩

def f_RD_moveBlock (mm : kt_M) (fr : kt_Rq) (ca : kt_Ca) (dv : (Nat → Int32)) : kt_M × (Nat → Int32) :=
  if fr.1 = 1 then ((mm.1, mm.2.1, dv fr.2.1.toNatClampNeg, mm.2.2.2), dv)
  else (mm, upd dv fr.2.1.toNatClampNeg (ca.2.1 fr.2.2.1.toNatClampNeg))
set_option maxHeartbeats 4000000 in
set_option maxRecDepth 100000 in
theorem c_RD_moveBlock (l : Launch) (D : va_G) (cI cZ cO : ClassId) (ad : Nat → Nat) (mm : kt_M) (fr : kt_Rq) (ca : kt_Ca) (dv : (Nat → Int32)) (hfr : kv_fr fr) : kx_Cv (S := kt_M × (Nat → Int32)) l y_RD_moveBlock b_RD_moveBlock 1 0 0 0 D (kx_T cI cZ cO) [.ref (ad 0)] [((ad 0), .inr (0, [.int mm.1, .ref (ad 1), .ref (ad 6), .ref (ad 8), .ref (ad 10), .ref (ad 11), .ref (ad 12), .ref (ad 13), .ref (ad 14), .ref (ad 19), .ref (ad 20), .int mm.2.1, .int mm.2.2.1, .int mm.2.2.2])), ((ad 12), .inr (4, [.int fr.1, .int fr.2.1, .int fr.2.2.1, .int fr.2.2.2.1, .int fr.2.2.2.2.1, .int fr.2.2.2.2.2.1, .int fr.2.2.2.2.2.2])), ((ad 14), .inr (5, [.ref (ad 15), .ref (ad 16), .ref (ad 17), .ref (ad 18)])), ((ad 15), .inl (cI, 3, .inl ca.1)), ((ad 16), .inl (cI, 3, .inl ca.2.1)), ((ad 17), .inl (cZ, 3, .inl ca.2.2.1)), ((ad 18), .inl (cI, 3, .inl ca.2.2.2)), ((ad 19), .inl (cI, 16, .inl dv))] (fun zz => zz = f_RD_moveBlock mm fr ca dv) (fun zz => [((ad 0), .inr (0, [.int zz.1.1, .ref (ad 1), .ref (ad 6), .ref (ad 8), .ref (ad 10), .ref (ad 11), .ref (ad 12), .ref (ad 13), .ref (ad 14), .ref (ad 19), .ref (ad 20), .int zz.1.2.1, .int zz.1.2.2.1, .int zz.1.2.2.2])), ((ad 12), .inr (4, [.int fr.1, .int fr.2.1, .int fr.2.2.1, .int fr.2.2.2.1, .int fr.2.2.2.2.1, .int fr.2.2.2.2.2.1, .int fr.2.2.2.2.2.2])), ((ad 14), .inr (5, [.ref (ad 15), .ref (ad 16), .ref (ad 17), .ref (ad 18)])), ((ad 15), .inl (cI, 3, .inl ca.1)), ((ad 16), .inl (cI, 3, .inl ca.2.1)), ((ad 17), .inl (cZ, 3, .inl ca.2.2.1)), ((ad 18), .inl (cI, 3, .inl ca.2.2.2)), ((ad 19), .inl (cI, 16, .inl zz.2))]) := by
  refine kx_enter_v (by decide) (Nat.le_of_ble_eq_true rfl) ?_
  intro p_ e_ s_ m_ below_ meth_ c_ ls A_ H I hl hw
  have S := I.1
  have hx := S.1
  have hb := S.2.1
  have hl : lv_has ls 1 [(0, .ref (ad 0))] := hl
  refine lv_aload_n hx hb d_RD_moveBlock_0 rfl (lv_at hl 0 rfl) ?_
  refine kx_get S hw fg_RD_38 0 rfl rfl d_RD_moveBlock_1 ?_
  refine kx_get S hw fg_RD_162 1 rfl rfl d_RD_moveBlock_4 ?_
  refine lv_iconst (v := 1) hx hb d_RD_moveBlock_7 (by decide) ?_
  refine lv_icmp_ne (tgt := 30) hx hb d_RD_moveBlock_8 (by decide) (fun h1 => ?_) (fun h1 => ?_)
  · refine lv_aload_n hx hb d_RD_moveBlock_30 rfl (lv_at hl 0 rfl) ?_
    refine kx_get S hw fg_RD_52 0 rfl rfl d_RD_moveBlock_31 ?_
    refine lv_aload_n hx hb d_RD_moveBlock_34 rfl (lv_at hl 0 rfl) ?_
    refine kx_get S hw fg_RD_38 0 rfl rfl d_RD_moveBlock_35 ?_
    refine kx_get S hw fg_RD_165 1 rfl rfl d_RD_moveBlock_38 ?_
    refine lv_aload_n hx hb d_RD_moveBlock_41 rfl (lv_at hl 0 rfl) ?_
    refine kx_get S hw fg_RD_48 0 rfl rfl d_RD_moveBlock_42 ?_
    refine kx_get S hw fg_RD_124 2 rfl rfl d_RD_moveBlock_45 ?_
    refine lv_aload_n hx hb d_RD_moveBlock_48 rfl (lv_at hl 0 rfl) ?_
    refine kx_get S hw fg_RD_38 0 rfl rfl d_RD_moveBlock_49 ?_
    refine kx_get S hw fg_RD_171 1 rfl rfl d_RD_moveBlock_52 ?_
    refine kx_iald S hw 4 0 rfl rfl (j := fr.2.2.1.toNatClampNeg) rfl (hfr.2) d_RD_moveBlock_55 ?_
    refine kx_iast S hw 7 0 rfl rfl (j := fr.2.1.toNatClampNeg) rfl (hfr.1) d_RD_moveBlock_56 (fun H locs hw => ?_)
    have hw : kx_w D (kx_T cI cZ cO) A_ s_ [((ad 0), .inr (0, [.int mm.1, .ref (ad 1), .ref (ad 6), .ref (ad 8), .ref (ad 10), .ref (ad 11), .ref (ad 12), .ref (ad 13), .ref (ad 14), .ref (ad 19), .ref (ad 20), .int mm.2.1, .int mm.2.2.1, .int mm.2.2.2])), ((ad 12), .inr (4, [.int fr.1, .int fr.2.1, .int fr.2.2.1, .int fr.2.2.2.1, .int fr.2.2.2.2.1, .int fr.2.2.2.2.2.1, .int fr.2.2.2.2.2.2])), ((ad 14), .inr (5, [.ref (ad 15), .ref (ad 16), .ref (ad 17), .ref (ad 18)])), ((ad 15), .inl (cI, 3, .inl ca.1)), ((ad 16), .inl (cI, 3, .inl ca.2.1)), ((ad 17), .inl (cZ, 3, .inl ca.2.2.1)), ((ad 18), .inl (cI, 3, .inl ca.2.2.2)), ((ad 19), .inl (cI, 16, .inl (upd dv fr.2.1.toNatClampNeg (ca.2.1 fr.2.2.1.toNatClampNeg))))] H locs := hw
    exact kx_ret_v I rfl hw (mm, upd dv fr.2.1.toNatClampNeg (ca.2.1 fr.2.2.1.toNatClampNeg)) (by simp only [f_RD_moveBlock, if_neg h1]) [0, 1, 2, 3, 4, 5, 6, 7] (by decide) rfl d_RD_moveBlock_57
  · refine lv_aload_n hx hb d_RD_moveBlock_11 rfl (lv_at hl 0 rfl) ?_
    refine lv_aload_n hx hb d_RD_moveBlock_12 rfl (lv_at hl 0 rfl) ?_
    refine kx_get S hw fg_RD_52 0 rfl rfl d_RD_moveBlock_13 ?_
    refine lv_aload_n hx hb d_RD_moveBlock_16 rfl (lv_at hl 0 rfl) ?_
    refine kx_get S hw fg_RD_38 0 rfl rfl d_RD_moveBlock_17 ?_
    refine kx_get S hw fg_RD_165 1 rfl rfl d_RD_moveBlock_20 ?_
    refine kx_iald S hw 7 0 rfl rfl (j := fr.2.1.toNatClampNeg) rfl (hfr.1) d_RD_moveBlock_23 ?_
    refine kx_put S hw fp_RD_168 0 rfl rfl rfl (Nat.le_of_ble_eq_true rfl) d_RD_moveBlock_24 (fun H locs hw => ?_)
    have hw : kx_w D (kx_T cI cZ cO) A_ s_ [((ad 0), .inr (0, [.int mm.1, .ref (ad 1), .ref (ad 6), .ref (ad 8), .ref (ad 10), .ref (ad 11), .ref (ad 12), .ref (ad 13), .ref (ad 14), .ref (ad 19), .ref (ad 20), .int mm.2.1, .int (dv fr.2.1.toNatClampNeg), .int mm.2.2.2])), ((ad 12), .inr (4, [.int fr.1, .int fr.2.1, .int fr.2.2.1, .int fr.2.2.2.1, .int fr.2.2.2.2.1, .int fr.2.2.2.2.2.1, .int fr.2.2.2.2.2.2])), ((ad 14), .inr (5, [.ref (ad 15), .ref (ad 16), .ref (ad 17), .ref (ad 18)])), ((ad 15), .inl (cI, 3, .inl ca.1)), ((ad 16), .inl (cI, 3, .inl ca.2.1)), ((ad 17), .inl (cZ, 3, .inl ca.2.2.1)), ((ad 18), .inl (cI, 3, .inl ca.2.2.2)), ((ad 19), .inl (cI, 16, .inl dv))] H locs := hw
    refine lv_goto (tgt := 57) hx hb d_RD_moveBlock_27 (by decide) ?_
    exact kx_ret_v I rfl hw ((mm.1, mm.2.1, dv fr.2.1.toNatClampNeg, mm.2.2.2), dv) (by simp only [f_RD_moveBlock, if_pos h1]) [0, 1, 2, 3, 4, 5, 6, 7] (by decide) rfl d_RD_moveBlock_57
def f_RD_stepDisk (mm : kt_M) (dk : kt_Dr) (fr : kt_Rq) (ca : kt_Ca) (dv : (Nat → Int32)) : kt_M × kt_Dr × kt_Rq × (Nat → Int32) :=
  match f_Dr_takeStep dk with
  | (r1, d1) => if r1 = 1 then (match f_RD_moveBlock mm fr ca dv with
      | (mm4, dv4) => (mm4, d1, fr, dv4))
    else if r1 = 2 then (mm, d1, (fr.1, fr.2.1, fr.2.2.1, fr.2.2.2.1, fr.2.2.2.2.1, 1, fr.2.2.2.2.2.2), dv)
    else (mm, d1, fr, dv)
set_option maxHeartbeats 4000000 in
set_option maxRecDepth 100000 in
theorem c_RD_stepDisk (l : Launch) (D : va_G) (cI cZ cO : ClassId) (ad : Nat → Nat) (mm : kt_M) (dk : kt_Dr) (fr : kt_Rq) (ca : kt_Ca) (dv : (Nat → Int32)) (hfr : kv_fr fr) : kx_Cv (S := kt_M × kt_Dr × kt_Rq × (Nat → Int32)) l y_RD_stepDisk b_RD_stepDisk 2 3 0 0 D (kx_T cI cZ cO) [.ref (ad 0)] [((ad 0), .inr (0, [.int mm.1, .ref (ad 1), .ref (ad 6), .ref (ad 8), .ref (ad 10), .ref (ad 11), .ref (ad 12), .ref (ad 13), .ref (ad 14), .ref (ad 19), .ref (ad 20), .int mm.2.1, .int mm.2.2.1, .int mm.2.2.2])), ((ad 10), .inr (3, [.int dk.1, .int dk.2.1, .int dk.2.2.1, .int dk.2.2.2.1, .int dk.2.2.2.2.1, .int dk.2.2.2.2.2])), ((ad 12), .inr (4, [.int fr.1, .int fr.2.1, .int fr.2.2.1, .int fr.2.2.2.1, .int fr.2.2.2.2.1, .int fr.2.2.2.2.2.1, .int fr.2.2.2.2.2.2])), ((ad 14), .inr (5, [.ref (ad 15), .ref (ad 16), .ref (ad 17), .ref (ad 18)])), ((ad 15), .inl (cI, 3, .inl ca.1)), ((ad 16), .inl (cI, 3, .inl ca.2.1)), ((ad 17), .inl (cZ, 3, .inl ca.2.2.1)), ((ad 18), .inl (cI, 3, .inl ca.2.2.2)), ((ad 19), .inl (cI, 16, .inl dv))] (fun zz => zz = f_RD_stepDisk mm dk fr ca dv) (fun zz => [((ad 0), .inr (0, [.int zz.1.1, .ref (ad 1), .ref (ad 6), .ref (ad 8), .ref (ad 10), .ref (ad 11), .ref (ad 12), .ref (ad 13), .ref (ad 14), .ref (ad 19), .ref (ad 20), .int zz.1.2.1, .int zz.1.2.2.1, .int zz.1.2.2.2])), ((ad 10), .inr (3, [.int zz.2.1.1, .int zz.2.1.2.1, .int zz.2.1.2.2.1, .int zz.2.1.2.2.2.1, .int zz.2.1.2.2.2.2.1, .int zz.2.1.2.2.2.2.2])), ((ad 12), .inr (4, [.int zz.2.2.1.1, .int zz.2.2.1.2.1, .int zz.2.2.1.2.2.1, .int zz.2.2.1.2.2.2.1, .int zz.2.2.1.2.2.2.2.1, .int zz.2.2.1.2.2.2.2.2.1, .int zz.2.2.1.2.2.2.2.2.2])), ((ad 14), .inr (5, [.ref (ad 15), .ref (ad 16), .ref (ad 17), .ref (ad 18)])), ((ad 15), .inl (cI, 3, .inl ca.1)), ((ad 16), .inl (cI, 3, .inl ca.2.1)), ((ad 17), .inl (cZ, 3, .inl ca.2.2.1)), ((ad 18), .inl (cI, 3, .inl ca.2.2.2)), ((ad 19), .inl (cI, 16, .inl zz.2.2.2))]) := by
  refine kx_enter_v (by decide) (Nat.le_of_ble_eq_true rfl) ?_
  intro p_ e_ s_ m_ below_ meth_ c_ ls A_ H I hl hw
  have S := I.1
  have hx := S.1
  have hb := S.2.1
  have hl : lv_has ls 2 [(0, .ref (ad 0))] := hl
  refine lv_aload_n hx hb d_RD_stepDisk_0 rfl (lv_at hl 0 rfl) ?_
  refine kx_get S hw fg_RD_28 0 rfl rfl d_RD_stepDisk_1 ?_
  refine kx_call_i (wc := [((ad 10), .inr (3, [.int dk.1, .int dk.2.1, .int dk.2.2.1, .int dk.2.2.2.1, .int dk.2.2.2.2.1, .int dk.2.2.2.2.2]))]) (wr := [((ad 0), .inr (0, [.int mm.1, .ref (ad 1), .ref (ad 6), .ref (ad 8), .ref (ad 10), .ref (ad 11), .ref (ad 12), .ref (ad 13), .ref (ad 14), .ref (ad 19), .ref (ad 20), .int mm.2.1, .int mm.2.2.1, .int mm.2.2.2])), ((ad 12), .inr (4, [.int fr.1, .int fr.2.1, .int fr.2.2.1, .int fr.2.2.2.1, .int fr.2.2.2.2.1, .int fr.2.2.2.2.2.1, .int fr.2.2.2.2.2.2])), ((ad 14), .inr (5, [.ref (ad 15), .ref (ad 16), .ref (ad 17), .ref (ad 18)])), ((ad 15), .inl (cI, 3, .inl ca.1)), ((ad 16), .inl (cI, 3, .inl ca.2.1)), ((ad 17), .inl (cZ, 3, .inl ca.2.2.1)), ((ad 18), .inl (cI, 3, .inl ca.2.2.2)), ((ad 19), .inl (cI, 16, .inl dv))]) (rest := []) hw [1] [0, 2, 3, 4, 5, 6, 7, 8] rfl rfl (by decide) (by decide) (kx_runV S hw fc_RD_153 rfl 1 rfl [1] (by decide) rfl (c_Dr_takeStep l D cI cZ cO (ad 10) dk H.size) rfl hl.1 rfl (Nat.le_of_ble_eq_true rfl) d_RD_stepDisk_4 (by decide) (by decide)) (fun r1 u1 H locs hp1 hw => ?_)
  obtain ⟨d1, rfl⟩ : ∃ z, z = u1 := ⟨_, rfl⟩
  have hw : kx_w D (kx_T cI cZ cO) A_ s_ [((ad 0), .inr (0, [.int mm.1, .ref (ad 1), .ref (ad 6), .ref (ad 8), .ref (ad 10), .ref (ad 11), .ref (ad 12), .ref (ad 13), .ref (ad 14), .ref (ad 19), .ref (ad 20), .int mm.2.1, .int mm.2.2.1, .int mm.2.2.2])), ((ad 12), .inr (4, [.int fr.1, .int fr.2.1, .int fr.2.2.1, .int fr.2.2.2.1, .int fr.2.2.2.2.1, .int fr.2.2.2.2.2.1, .int fr.2.2.2.2.2.2])), ((ad 14), .inr (5, [.ref (ad 15), .ref (ad 16), .ref (ad 17), .ref (ad 18)])), ((ad 15), .inl (cI, 3, .inl ca.1)), ((ad 16), .inl (cI, 3, .inl ca.2.1)), ((ad 17), .inl (cZ, 3, .inl ca.2.2.1)), ((ad 18), .inl (cI, 3, .inl ca.2.2.2)), ((ad 19), .inl (cI, 16, .inl dv)), ((ad 10), .inr (3, [.int d1.1, .int d1.2.1, .int d1.2.2.1, .int d1.2.2.2.1, .int d1.2.2.2.2.1, .int d1.2.2.2.2.2]))] H locs := hw
  refine lv_istore_n (lv' := [(1, .int r1), (0, .ref (ad 0))]) hx hb d_RD_stepDisk_7 rfl hl (by decide) rfl (fun ls hl => ?_)
  refine lv_iload_n hx hb d_RD_stepDisk_8 rfl (lv_at hl 0 rfl) ?_
  refine lv_iconst (v := 1) hx hb d_RD_stepDisk_9 (by decide) ?_
  refine lv_icmp_ne (tgt := 20) hx hb d_RD_stepDisk_10 (by decide) (fun h2 => ?_) (fun h2 => ?_)
  · refine lv_iload_n hx hb d_RD_stepDisk_20 rfl (lv_at hl 0 rfl) ?_
    refine lv_iconst (v := 2) hx hb d_RD_stepDisk_21 (by decide) ?_
    refine lv_icmp_ne (tgt := 33) hx hb d_RD_stepDisk_22 (by decide) (fun h3 => ?_) (fun h3 => ?_)
    · exact kx_ret_v I rfl hw (mm, d1, fr, dv) (by simp only [f_RD_stepDisk, ← hp1, if_neg h2, if_neg h3]) [0, 8, 1, 2, 3, 4, 5, 6, 7] (by decide) rfl d_RD_stepDisk_33
    · refine lv_aload_n hx hb d_RD_stepDisk_25 rfl (lv_at hl 1 rfl) ?_
      refine kx_get S hw fg_RD_38 0 rfl rfl d_RD_stepDisk_26 ?_
      refine lv_iconst (v := 1) hx hb d_RD_stepDisk_29 (by decide) ?_
      refine kx_put S hw fp_RD_159 1 rfl rfl rfl (Nat.le_of_ble_eq_true rfl) d_RD_stepDisk_30 (fun H locs hw => ?_)
      have hw : kx_w D (kx_T cI cZ cO) A_ s_ [((ad 0), .inr (0, [.int mm.1, .ref (ad 1), .ref (ad 6), .ref (ad 8), .ref (ad 10), .ref (ad 11), .ref (ad 12), .ref (ad 13), .ref (ad 14), .ref (ad 19), .ref (ad 20), .int mm.2.1, .int mm.2.2.1, .int mm.2.2.2])), ((ad 12), .inr (4, [.int fr.1, .int fr.2.1, .int fr.2.2.1, .int fr.2.2.2.1, .int fr.2.2.2.2.1, .int 1, .int fr.2.2.2.2.2.2])), ((ad 14), .inr (5, [.ref (ad 15), .ref (ad 16), .ref (ad 17), .ref (ad 18)])), ((ad 15), .inl (cI, 3, .inl ca.1)), ((ad 16), .inl (cI, 3, .inl ca.2.1)), ((ad 17), .inl (cZ, 3, .inl ca.2.2.1)), ((ad 18), .inl (cI, 3, .inl ca.2.2.2)), ((ad 19), .inl (cI, 16, .inl dv)), ((ad 10), .inr (3, [.int d1.1, .int d1.2.1, .int d1.2.2.1, .int d1.2.2.2.1, .int d1.2.2.2.2.1, .int d1.2.2.2.2.2]))] H locs := hw
      exact kx_ret_v I rfl hw (mm, d1, (fr.1, fr.2.1, fr.2.2.1, fr.2.2.2.1, fr.2.2.2.2.1, 1, fr.2.2.2.2.2.2), dv) (by simp only [f_RD_stepDisk, ← hp1, if_neg h2, if_pos h3]) [0, 8, 1, 2, 3, 4, 5, 6, 7] (by decide) rfl d_RD_stepDisk_33
  · refine lv_aload_n hx hb d_RD_stepDisk_13 rfl (lv_at hl 1 rfl) ?_
    refine kx_call_v (wc := [((ad 0), .inr (0, [.int mm.1, .ref (ad 1), .ref (ad 6), .ref (ad 8), .ref (ad 10), .ref (ad 11), .ref (ad 12), .ref (ad 13), .ref (ad 14), .ref (ad 19), .ref (ad 20), .int mm.2.1, .int mm.2.2.1, .int mm.2.2.2])), ((ad 12), .inr (4, [.int fr.1, .int fr.2.1, .int fr.2.2.1, .int fr.2.2.2.1, .int fr.2.2.2.2.1, .int fr.2.2.2.2.2.1, .int fr.2.2.2.2.2.2])), ((ad 14), .inr (5, [.ref (ad 15), .ref (ad 16), .ref (ad 17), .ref (ad 18)])), ((ad 15), .inl (cI, 3, .inl ca.1)), ((ad 16), .inl (cI, 3, .inl ca.2.1)), ((ad 17), .inl (cZ, 3, .inl ca.2.2.1)), ((ad 18), .inl (cI, 3, .inl ca.2.2.2)), ((ad 19), .inl (cI, 16, .inl dv))]) (wr := [((ad 10), .inr (3, [.int d1.1, .int d1.2.1, .int d1.2.2.1, .int d1.2.2.2.1, .int d1.2.2.2.2.1, .int d1.2.2.2.2.2]))]) (rest := []) hw [0, 1, 2, 3, 4, 5, 6, 7] [8] rfl rfl (by decide) (by decide) (kx_runV S hw fc_RD_156 rfl 0 rfl [0, 1, 2, 3, 4, 5, 6, 7] (by decide) rfl (c_RD_moveBlock l D cI cZ cO ad mm fr ca dv (hfr) H.size) rfl hl.1 rfl (Nat.le_of_ble_eq_true rfl) d_RD_stepDisk_14 (by decide) (by decide)) (fun u4 H locs hp4 hw => ?_)
    obtain ⟨mm4, dv4⟩ := u4
    have hw : kx_w D (kx_T cI cZ cO) A_ s_ [((ad 10), .inr (3, [.int d1.1, .int d1.2.1, .int d1.2.2.1, .int d1.2.2.2.1, .int d1.2.2.2.2.1, .int d1.2.2.2.2.2])), ((ad 0), .inr (0, [.int mm4.1, .ref (ad 1), .ref (ad 6), .ref (ad 8), .ref (ad 10), .ref (ad 11), .ref (ad 12), .ref (ad 13), .ref (ad 14), .ref (ad 19), .ref (ad 20), .int mm4.2.1, .int mm4.2.2.1, .int mm4.2.2.2])), ((ad 12), .inr (4, [.int fr.1, .int fr.2.1, .int fr.2.2.1, .int fr.2.2.2.1, .int fr.2.2.2.2.1, .int fr.2.2.2.2.2.1, .int fr.2.2.2.2.2.2])), ((ad 14), .inr (5, [.ref (ad 15), .ref (ad 16), .ref (ad 17), .ref (ad 18)])), ((ad 15), .inl (cI, 3, .inl ca.1)), ((ad 16), .inl (cI, 3, .inl ca.2.1)), ((ad 17), .inl (cZ, 3, .inl ca.2.2.1)), ((ad 18), .inl (cI, 3, .inl ca.2.2.2)), ((ad 19), .inl (cI, 16, .inl dv4))] H locs := hw
    refine lv_goto (tgt := 33) hx hb d_RD_stepDisk_17 (by decide) ?_
    exact kx_ret_v I rfl hw (mm4, d1, fr, dv4) (by simp only [f_RD_stepDisk, ← hp1, if_pos h2, ← hp4]) [1, 0, 2, 3, 4, 5, 6, 7, 8] (by decide) rfl d_RD_stepDisk_33
def f_RD_putOutCharacter (mm : kt_M) (po : (Nat → Int32)) (c : Int32) : kt_M × (Nat → Int32) :=
  if 200 ≤ mm.2.1 then (mm, po)
  else ((mm.1, mm.2.1 + 1, mm.2.2.1, mm.2.2.2), upd po mm.2.1.toNatClampNeg c)
set_option maxHeartbeats 4000000 in
set_option maxRecDepth 100000 in
theorem c_RD_putOutCharacter (l : Launch) (D : va_G) (cI cZ cO : ClassId) (ad : Nat → Nat) (mm : kt_M) (po : (Nat → Int32)) (c : Int32) (hol : 0 ≤ mm.2.1) : kx_Cv (S := kt_M × (Nat → Int32)) l y_RD_putOutCharacter b_RD_putOutCharacter 2 0 0 0 D (kx_T cI cZ cO) [.ref (ad 0), .int c] [((ad 0), .inr (0, [.int mm.1, .ref (ad 1), .ref (ad 6), .ref (ad 8), .ref (ad 10), .ref (ad 11), .ref (ad 12), .ref (ad 13), .ref (ad 14), .ref (ad 19), .ref (ad 20), .int mm.2.1, .int mm.2.2.1, .int mm.2.2.2])), ((ad 20), .inl (cI, 200, .inl po))] (fun zz => zz = f_RD_putOutCharacter mm po c) (fun zz => [((ad 0), .inr (0, [.int zz.1.1, .ref (ad 1), .ref (ad 6), .ref (ad 8), .ref (ad 10), .ref (ad 11), .ref (ad 12), .ref (ad 13), .ref (ad 14), .ref (ad 19), .ref (ad 20), .int zz.1.2.1, .int zz.1.2.2.1, .int zz.1.2.2.2])), ((ad 20), .inl (cI, 200, .inl zz.2))]) := by
  refine kx_enter_v (by decide) (Nat.le_of_ble_eq_true rfl) ?_
  intro p_ e_ s_ m_ below_ meth_ c_ ls A_ H I hl hw
  have S := I.1
  have hx := S.1
  have hb := S.2.1
  have hl : lv_has ls 2 [(0, .ref (ad 0)), (1, .int c)] := hl
  refine lv_aload_n hx hb d_RD_putOutCharacter_0 rfl (lv_at hl 0 rfl) ?_
  refine kx_get S hw fg_RD_131 0 rfl rfl d_RD_putOutCharacter_1 ?_
  refine lv_sipush (v := 200) hx hb d_RD_putOutCharacter_4 (by decide) ?_
  refine lv_icmp_ge (tgt := 30) hx hb d_RD_putOutCharacter_7 (by decide) (fun h1 => ?_) (fun h1 => ?_)
  · exact kx_ret_v I rfl hw (mm, po) (by simp only [f_RD_putOutCharacter, if_pos h1]) [0, 1] (by decide) rfl d_RD_putOutCharacter_30
  · refine lv_aload_n hx hb d_RD_putOutCharacter_10 rfl (lv_at hl 0 rfl) ?_
    refine kx_get S hw fg_RD_56 0 rfl rfl d_RD_putOutCharacter_11 ?_
    refine lv_aload_n hx hb d_RD_putOutCharacter_14 rfl (lv_at hl 0 rfl) ?_
    refine kx_get S hw fg_RD_131 0 rfl rfl d_RD_putOutCharacter_15 ?_
    refine lv_iload_n hx hb d_RD_putOutCharacter_18 rfl (lv_at hl 1 rfl) ?_
    refine kx_iast S hw 1 0 rfl rfl (j := mm.2.1.toNatClampNeg) rfl (kx_i3 rfl hol h1) d_RD_putOutCharacter_19 (fun H locs hw => ?_)
    have hw : kx_w D (kx_T cI cZ cO) A_ s_ [((ad 0), .inr (0, [.int mm.1, .ref (ad 1), .ref (ad 6), .ref (ad 8), .ref (ad 10), .ref (ad 11), .ref (ad 12), .ref (ad 13), .ref (ad 14), .ref (ad 19), .ref (ad 20), .int mm.2.1, .int mm.2.2.1, .int mm.2.2.2])), ((ad 20), .inl (cI, 200, .inl (upd po mm.2.1.toNatClampNeg c)))] H locs := hw
    refine lv_aload_n hx hb d_RD_putOutCharacter_20 rfl (lv_at hl 0 rfl) ?_
    refine lv_dup hx hb d_RD_putOutCharacter_21 rfl ?_
    refine kx_get S hw fg_RD_131 0 rfl rfl d_RD_putOutCharacter_22 ?_
    refine lv_iconst (v := 1) hx hb d_RD_putOutCharacter_25 (by decide) ?_
    refine lv_iadd hx hb d_RD_putOutCharacter_26 ?_
    refine kx_put S hw fp_RD_131 0 rfl rfl rfl (Nat.le_of_ble_eq_true rfl) d_RD_putOutCharacter_27 (fun H locs hw => ?_)
    have hw : kx_w D (kx_T cI cZ cO) A_ s_ [((ad 0), .inr (0, [.int mm.1, .ref (ad 1), .ref (ad 6), .ref (ad 8), .ref (ad 10), .ref (ad 11), .ref (ad 12), .ref (ad 13), .ref (ad 14), .ref (ad 19), .ref (ad 20), .int (mm.2.1 + 1), .int mm.2.2.1, .int mm.2.2.2])), ((ad 20), .inl (cI, 200, .inl (upd po mm.2.1.toNatClampNeg c)))] H locs := hw
    exact kx_ret_v I rfl hw ((mm.1, mm.2.1 + 1, mm.2.2.1, mm.2.2.2), upd po mm.2.1.toNatClampNeg c) (by simp only [f_RD_putOutCharacter, if_neg h1]) [0, 1] (by decide) rfl d_RD_putOutCharacter_30
def f_RD_stepConsole (mm : kt_M) (co : kt_Dr) (tr : kt_Rq) (po : (Nat → Int32)) : kt_M × kt_Dr × kt_Rq × (Nat → Int32) :=
  match f_Dr_takeStep co with
  | (r1, d1) => if r1 = 1 then (match f_RD_putOutCharacter mm po tr.2.2.2.1 with
      | (mm4, po4) => (mm4, d1, tr, po4))
    else if r1 = 2 then (mm, d1, (tr.1, tr.2.1, tr.2.2.1, tr.2.2.2.1, tr.2.2.2.2.1, 1, tr.2.2.2.2.2.2), po)
    else (mm, d1, tr, po)
set_option maxHeartbeats 4000000 in
set_option maxRecDepth 100000 in
theorem c_RD_stepConsole (l : Launch) (D : va_G) (cI cZ cO : ClassId) (ad : Nat → Nat) (mm : kt_M) (co : kt_Dr) (tr : kt_Rq) (po : (Nat → Int32)) (hol : 0 ≤ mm.2.1) : kx_Cv (S := kt_M × kt_Dr × kt_Rq × (Nat → Int32)) l y_RD_stepConsole b_RD_stepConsole 2 3 0 0 D (kx_T cI cZ cO) [.ref (ad 0)] [((ad 0), .inr (0, [.int mm.1, .ref (ad 1), .ref (ad 6), .ref (ad 8), .ref (ad 10), .ref (ad 11), .ref (ad 12), .ref (ad 13), .ref (ad 14), .ref (ad 19), .ref (ad 20), .int mm.2.1, .int mm.2.2.1, .int mm.2.2.2])), ((ad 11), .inr (3, [.int co.1, .int co.2.1, .int co.2.2.1, .int co.2.2.2.1, .int co.2.2.2.2.1, .int co.2.2.2.2.2])), ((ad 13), .inr (4, [.int tr.1, .int tr.2.1, .int tr.2.2.1, .int tr.2.2.2.1, .int tr.2.2.2.2.1, .int tr.2.2.2.2.2.1, .int tr.2.2.2.2.2.2])), ((ad 20), .inl (cI, 200, .inl po))] (fun zz => zz = f_RD_stepConsole mm co tr po) (fun zz => [((ad 0), .inr (0, [.int zz.1.1, .ref (ad 1), .ref (ad 6), .ref (ad 8), .ref (ad 10), .ref (ad 11), .ref (ad 12), .ref (ad 13), .ref (ad 14), .ref (ad 19), .ref (ad 20), .int zz.1.2.1, .int zz.1.2.2.1, .int zz.1.2.2.2])), ((ad 11), .inr (3, [.int zz.2.1.1, .int zz.2.1.2.1, .int zz.2.1.2.2.1, .int zz.2.1.2.2.2.1, .int zz.2.1.2.2.2.2.1, .int zz.2.1.2.2.2.2.2])), ((ad 13), .inr (4, [.int zz.2.2.1.1, .int zz.2.2.1.2.1, .int zz.2.2.1.2.2.1, .int zz.2.2.1.2.2.2.1, .int zz.2.2.1.2.2.2.2.1, .int zz.2.2.1.2.2.2.2.2.1, .int zz.2.2.1.2.2.2.2.2.2])), ((ad 20), .inl (cI, 200, .inl zz.2.2.2))]) := by
  refine kx_enter_v (by decide) (Nat.le_of_ble_eq_true rfl) ?_
  intro p_ e_ s_ m_ below_ meth_ c_ ls A_ H I hl hw
  have S := I.1
  have hx := S.1
  have hb := S.2.1
  have hl : lv_has ls 2 [(0, .ref (ad 0))] := hl
  refine lv_aload_n hx hb d_RD_stepConsole_0 rfl (lv_at hl 0 rfl) ?_
  refine kx_get S hw fg_RD_32 0 rfl rfl d_RD_stepConsole_1 ?_
  refine kx_call_i (wc := [((ad 11), .inr (3, [.int co.1, .int co.2.1, .int co.2.2.1, .int co.2.2.2.1, .int co.2.2.2.2.1, .int co.2.2.2.2.2]))]) (wr := [((ad 0), .inr (0, [.int mm.1, .ref (ad 1), .ref (ad 6), .ref (ad 8), .ref (ad 10), .ref (ad 11), .ref (ad 12), .ref (ad 13), .ref (ad 14), .ref (ad 19), .ref (ad 20), .int mm.2.1, .int mm.2.2.1, .int mm.2.2.2])), ((ad 13), .inr (4, [.int tr.1, .int tr.2.1, .int tr.2.2.1, .int tr.2.2.2.1, .int tr.2.2.2.2.1, .int tr.2.2.2.2.2.1, .int tr.2.2.2.2.2.2])), ((ad 20), .inl (cI, 200, .inl po))]) (rest := []) hw [1] [0, 2, 3] rfl rfl (by decide) (by decide) (kx_runV S hw fc_RD_153 rfl 1 rfl [1] (by decide) rfl (c_Dr_takeStep l D cI cZ cO (ad 11) co H.size) rfl hl.1 rfl (Nat.le_of_ble_eq_true rfl) d_RD_stepConsole_4 (by decide) (by decide)) (fun r1 u1 H locs hp1 hw => ?_)
  obtain ⟨d1, rfl⟩ : ∃ z, z = u1 := ⟨_, rfl⟩
  have hw : kx_w D (kx_T cI cZ cO) A_ s_ [((ad 0), .inr (0, [.int mm.1, .ref (ad 1), .ref (ad 6), .ref (ad 8), .ref (ad 10), .ref (ad 11), .ref (ad 12), .ref (ad 13), .ref (ad 14), .ref (ad 19), .ref (ad 20), .int mm.2.1, .int mm.2.2.1, .int mm.2.2.2])), ((ad 13), .inr (4, [.int tr.1, .int tr.2.1, .int tr.2.2.1, .int tr.2.2.2.1, .int tr.2.2.2.2.1, .int tr.2.2.2.2.2.1, .int tr.2.2.2.2.2.2])), ((ad 20), .inl (cI, 200, .inl po)), ((ad 11), .inr (3, [.int d1.1, .int d1.2.1, .int d1.2.2.1, .int d1.2.2.2.1, .int d1.2.2.2.2.1, .int d1.2.2.2.2.2]))] H locs := hw
  refine lv_istore_n (lv' := [(1, .int r1), (0, .ref (ad 0))]) hx hb d_RD_stepConsole_7 rfl hl (by decide) rfl (fun ls hl => ?_)
  refine lv_iload_n hx hb d_RD_stepConsole_8 rfl (lv_at hl 0 rfl) ?_
  refine lv_iconst (v := 1) hx hb d_RD_stepConsole_9 (by decide) ?_
  refine lv_icmp_ne (tgt := 27) hx hb d_RD_stepConsole_10 (by decide) (fun h2 => ?_) (fun h2 => ?_)
  · refine lv_iload_n hx hb d_RD_stepConsole_27 rfl (lv_at hl 0 rfl) ?_
    refine lv_iconst (v := 2) hx hb d_RD_stepConsole_28 (by decide) ?_
    refine lv_icmp_ne (tgt := 40) hx hb d_RD_stepConsole_29 (by decide) (fun h3 => ?_) (fun h3 => ?_)
    · exact kx_ret_v I rfl hw (mm, d1, tr, po) (by simp only [f_RD_stepConsole, ← hp1, if_neg h2, if_neg h3]) [0, 3, 1, 2] (by decide) rfl d_RD_stepConsole_40
    · refine lv_aload_n hx hb d_RD_stepConsole_32 rfl (lv_at hl 1 rfl) ?_
      refine kx_get S hw fg_RD_42 0 rfl rfl d_RD_stepConsole_33 ?_
      refine lv_iconst (v := 1) hx hb d_RD_stepConsole_36 (by decide) ?_
      refine kx_put S hw fp_RD_159 1 rfl rfl rfl (Nat.le_of_ble_eq_true rfl) d_RD_stepConsole_37 (fun H locs hw => ?_)
      have hw : kx_w D (kx_T cI cZ cO) A_ s_ [((ad 0), .inr (0, [.int mm.1, .ref (ad 1), .ref (ad 6), .ref (ad 8), .ref (ad 10), .ref (ad 11), .ref (ad 12), .ref (ad 13), .ref (ad 14), .ref (ad 19), .ref (ad 20), .int mm.2.1, .int mm.2.2.1, .int mm.2.2.2])), ((ad 13), .inr (4, [.int tr.1, .int tr.2.1, .int tr.2.2.1, .int tr.2.2.2.1, .int tr.2.2.2.2.1, .int 1, .int tr.2.2.2.2.2.2])), ((ad 20), .inl (cI, 200, .inl po)), ((ad 11), .inr (3, [.int d1.1, .int d1.2.1, .int d1.2.2.1, .int d1.2.2.2.1, .int d1.2.2.2.2.1, .int d1.2.2.2.2.2]))] H locs := hw
      exact kx_ret_v I rfl hw (mm, d1, (tr.1, tr.2.1, tr.2.2.1, tr.2.2.2.1, tr.2.2.2.2.1, 1, tr.2.2.2.2.2.2), po) (by simp only [f_RD_stepConsole, ← hp1, if_neg h2, if_pos h3]) [0, 3, 1, 2] (by decide) rfl d_RD_stepConsole_40
  · refine lv_aload_n hx hb d_RD_stepConsole_13 rfl (lv_at hl 1 rfl) ?_
    refine lv_aload_n hx hb d_RD_stepConsole_14 rfl (lv_at hl 1 rfl) ?_
    refine kx_get S hw fg_RD_42 0 rfl rfl d_RD_stepConsole_15 ?_
    refine kx_get S hw fg_RD_174 1 rfl rfl d_RD_stepConsole_18 ?_
    refine kx_call_v (wc := [((ad 0), .inr (0, [.int mm.1, .ref (ad 1), .ref (ad 6), .ref (ad 8), .ref (ad 10), .ref (ad 11), .ref (ad 12), .ref (ad 13), .ref (ad 14), .ref (ad 19), .ref (ad 20), .int mm.2.1, .int mm.2.2.1, .int mm.2.2.2])), ((ad 20), .inl (cI, 200, .inl po))]) (wr := [((ad 13), .inr (4, [.int tr.1, .int tr.2.1, .int tr.2.2.1, .int tr.2.2.2.1, .int tr.2.2.2.2.1, .int tr.2.2.2.2.2.1, .int tr.2.2.2.2.2.2])), ((ad 11), .inr (3, [.int d1.1, .int d1.2.1, .int d1.2.2.1, .int d1.2.2.2.1, .int d1.2.2.2.2.1, .int d1.2.2.2.2.2]))]) (rest := []) hw [0, 2] [1, 3] rfl rfl (by decide) (by decide) (kx_runV S hw fc_RD_177 rfl 0 rfl [0, 2] (by decide) rfl (c_RD_putOutCharacter l D cI cZ cO ad mm po tr.2.2.2.1 (hol) H.size) rfl hl.1 rfl (Nat.le_of_ble_eq_true rfl) d_RD_stepConsole_21 (by decide) (by decide)) (fun u4 H locs hp4 hw => ?_)
    obtain ⟨mm4, po4⟩ := u4
    have hw : kx_w D (kx_T cI cZ cO) A_ s_ [((ad 13), .inr (4, [.int tr.1, .int tr.2.1, .int tr.2.2.1, .int tr.2.2.2.1, .int tr.2.2.2.2.1, .int tr.2.2.2.2.2.1, .int tr.2.2.2.2.2.2])), ((ad 11), .inr (3, [.int d1.1, .int d1.2.1, .int d1.2.2.1, .int d1.2.2.2.1, .int d1.2.2.2.2.1, .int d1.2.2.2.2.2])), ((ad 0), .inr (0, [.int mm4.1, .ref (ad 1), .ref (ad 6), .ref (ad 8), .ref (ad 10), .ref (ad 11), .ref (ad 12), .ref (ad 13), .ref (ad 14), .ref (ad 19), .ref (ad 20), .int mm4.2.1, .int mm4.2.2.1, .int mm4.2.2.2])), ((ad 20), .inl (cI, 200, .inl po4))] H locs := hw
    refine lv_goto (tgt := 40) hx hb d_RD_stepConsole_24 (by decide) ?_
    exact kx_ret_v I rfl hw (mm4, d1, tr, po4) (by simp only [f_RD_stepConsole, ← hp1, if_pos h2, ← hp4]) [2, 1, 0, 3] (by decide) rfl d_RD_stepConsole_40
def f_RD_takeDiskAnswer (mm : kt_M) (fr : kt_Rq) (ca : kt_Ca) : kt_Rq × kt_Ca :=
  if fr.1 = 1 then (match f_Ca_hold ca fr.2.2.1 fr.2.1 mm.2.2.1 0 with
    | c3 => match f_Rq_close fr with
      | q4 => (q4, c3))
  else match f_Rq_close fr with
  | q2 => (q2, (ca.1, ca.2.1, upd ca.2.2.1 fr.2.2.1.toNatClampNeg 0, ca.2.2.2))
set_option maxHeartbeats 4000000 in
set_option maxRecDepth 100000 in
theorem c_RD_takeDiskAnswer (l : Launch) (D : va_G) (cI cZ cO : ClassId) (ad : Nat → Nat) (mm : kt_M) (fr : kt_Rq) (ca : kt_Ca) (hs : vp_in fr.2.2.1 3) : kx_Cv (S := kt_Rq × kt_Ca) l y_RD_takeDiskAnswer b_RD_takeDiskAnswer 1 1 0 0 D (kx_T cI cZ cO) [.ref (ad 0)] [((ad 0), .inr (0, [.int mm.1, .ref (ad 1), .ref (ad 6), .ref (ad 8), .ref (ad 10), .ref (ad 11), .ref (ad 12), .ref (ad 13), .ref (ad 14), .ref (ad 19), .ref (ad 20), .int mm.2.1, .int mm.2.2.1, .int mm.2.2.2])), ((ad 12), .inr (4, [.int fr.1, .int fr.2.1, .int fr.2.2.1, .int fr.2.2.2.1, .int fr.2.2.2.2.1, .int fr.2.2.2.2.2.1, .int fr.2.2.2.2.2.2])), ((ad 14), .inr (5, [.ref (ad 15), .ref (ad 16), .ref (ad 17), .ref (ad 18)])), ((ad 15), .inl (cI, 3, .inl ca.1)), ((ad 16), .inl (cI, 3, .inl ca.2.1)), ((ad 17), .inl (cZ, 3, .inl ca.2.2.1)), ((ad 18), .inl (cI, 3, .inl ca.2.2.2))] (fun zz => zz = f_RD_takeDiskAnswer mm fr ca) (fun zz => [((ad 0), .inr (0, [.int mm.1, .ref (ad 1), .ref (ad 6), .ref (ad 8), .ref (ad 10), .ref (ad 11), .ref (ad 12), .ref (ad 13), .ref (ad 14), .ref (ad 19), .ref (ad 20), .int mm.2.1, .int mm.2.2.1, .int mm.2.2.2])), ((ad 12), .inr (4, [.int zz.1.1, .int zz.1.2.1, .int zz.1.2.2.1, .int zz.1.2.2.2.1, .int zz.1.2.2.2.2.1, .int zz.1.2.2.2.2.2.1, .int zz.1.2.2.2.2.2.2])), ((ad 14), .inr (5, [.ref (ad 15), .ref (ad 16), .ref (ad 17), .ref (ad 18)])), ((ad 15), .inl (cI, 3, .inl zz.2.1)), ((ad 16), .inl (cI, 3, .inl zz.2.2.1)), ((ad 17), .inl (cZ, 3, .inl zz.2.2.2.1)), ((ad 18), .inl (cI, 3, .inl zz.2.2.2.2))]) := by
  refine kx_enter_v (by decide) (Nat.le_of_ble_eq_true rfl) ?_
  intro p_ e_ s_ m_ below_ meth_ c_ ls A_ H I hl hw
  have S := I.1
  have hx := S.1
  have hb := S.2.1
  have hl : lv_has ls 1 [(0, .ref (ad 0))] := hl
  refine lv_aload_n hx hb d_RD_takeDiskAnswer_0 rfl (lv_at hl 0 rfl) ?_
  refine kx_get S hw fg_RD_38 0 rfl rfl d_RD_takeDiskAnswer_1 ?_
  refine kx_get S hw fg_RD_162 1 rfl rfl d_RD_takeDiskAnswer_4 ?_
  refine lv_iconst (v := 1) hx hb d_RD_takeDiskAnswer_7 (by decide) ?_
  refine lv_icmp_ne (tgt := 40) hx hb d_RD_takeDiskAnswer_8 (by decide) (fun h1 => ?_) (fun h1 => ?_)
  · refine lv_aload_n hx hb d_RD_takeDiskAnswer_40 rfl (lv_at hl 0 rfl) ?_
    refine kx_get S hw fg_RD_48 0 rfl rfl d_RD_takeDiskAnswer_41 ?_
    refine kx_get S hw fg_RD_127 2 rfl rfl d_RD_takeDiskAnswer_44 ?_
    refine lv_aload_n hx hb d_RD_takeDiskAnswer_47 rfl (lv_at hl 0 rfl) ?_
    refine kx_get S hw fg_RD_38 0 rfl rfl d_RD_takeDiskAnswer_48 ?_
    refine kx_get S hw fg_RD_171 1 rfl rfl d_RD_takeDiskAnswer_51 ?_
    refine lv_iconst (v := 0) hx hb d_RD_takeDiskAnswer_54 (by decide) ?_
    refine kx_zast S hw 5 1 rfl rfl (j := fr.2.2.1.toNatClampNeg) rfl (by decide) (hs) d_RD_takeDiskAnswer_55 (fun H locs hw => ?_)
    have hw : kx_w D (kx_T cI cZ cO) A_ s_ [((ad 0), .inr (0, [.int mm.1, .ref (ad 1), .ref (ad 6), .ref (ad 8), .ref (ad 10), .ref (ad 11), .ref (ad 12), .ref (ad 13), .ref (ad 14), .ref (ad 19), .ref (ad 20), .int mm.2.1, .int mm.2.2.1, .int mm.2.2.2])), ((ad 12), .inr (4, [.int fr.1, .int fr.2.1, .int fr.2.2.1, .int fr.2.2.2.1, .int fr.2.2.2.2.1, .int fr.2.2.2.2.2.1, .int fr.2.2.2.2.2.2])), ((ad 14), .inr (5, [.ref (ad 15), .ref (ad 16), .ref (ad 17), .ref (ad 18)])), ((ad 15), .inl (cI, 3, .inl ca.1)), ((ad 16), .inl (cI, 3, .inl ca.2.1)), ((ad 17), .inl (cZ, 3, .inl (upd ca.2.2.1 fr.2.2.1.toNatClampNeg 0))), ((ad 18), .inl (cI, 3, .inl ca.2.2.2))] H locs := hw
    refine lv_aload_n hx hb d_RD_takeDiskAnswer_56 rfl (lv_at hl 0 rfl) ?_
    refine kx_get S hw fg_RD_38 0 rfl rfl d_RD_takeDiskAnswer_57 ?_
    refine kx_call_v (wc := [((ad 12), .inr (4, [.int fr.1, .int fr.2.1, .int fr.2.2.1, .int fr.2.2.2.1, .int fr.2.2.2.2.1, .int fr.2.2.2.2.2.1, .int fr.2.2.2.2.2.2]))]) (wr := [((ad 0), .inr (0, [.int mm.1, .ref (ad 1), .ref (ad 6), .ref (ad 8), .ref (ad 10), .ref (ad 11), .ref (ad 12), .ref (ad 13), .ref (ad 14), .ref (ad 19), .ref (ad 20), .int mm.2.1, .int mm.2.2.1, .int mm.2.2.2])), ((ad 14), .inr (5, [.ref (ad 15), .ref (ad 16), .ref (ad 17), .ref (ad 18)])), ((ad 15), .inl (cI, 3, .inl ca.1)), ((ad 16), .inl (cI, 3, .inl ca.2.1)), ((ad 17), .inl (cZ, 3, .inl (upd ca.2.2.1 fr.2.2.1.toNatClampNeg 0))), ((ad 18), .inl (cI, 3, .inl ca.2.2.2))]) (rest := []) hw [1] [0, 2, 3, 4, 5, 6] rfl rfl (by decide) (by decide) (kx_runV S hw fc_RD_215 rfl 1 rfl [1] (by decide) rfl (c_Rq_close l D cI cZ cO (ad 12) fr H.size) rfl hl.1 rfl (Nat.le_of_ble_eq_true rfl) d_RD_takeDiskAnswer_60 (by decide) (by decide)) (fun u2 H locs hp2 hw => ?_)
    obtain ⟨q2, rfl⟩ : ∃ z, z = u2 := ⟨_, rfl⟩
    have hw : kx_w D (kx_T cI cZ cO) A_ s_ [((ad 0), .inr (0, [.int mm.1, .ref (ad 1), .ref (ad 6), .ref (ad 8), .ref (ad 10), .ref (ad 11), .ref (ad 12), .ref (ad 13), .ref (ad 14), .ref (ad 19), .ref (ad 20), .int mm.2.1, .int mm.2.2.1, .int mm.2.2.2])), ((ad 14), .inr (5, [.ref (ad 15), .ref (ad 16), .ref (ad 17), .ref (ad 18)])), ((ad 15), .inl (cI, 3, .inl ca.1)), ((ad 16), .inl (cI, 3, .inl ca.2.1)), ((ad 17), .inl (cZ, 3, .inl (upd ca.2.2.1 fr.2.2.1.toNatClampNeg 0))), ((ad 18), .inl (cI, 3, .inl ca.2.2.2)), ((ad 12), .inr (4, [.int q2.1, .int q2.2.1, .int q2.2.2.1, .int q2.2.2.2.1, .int q2.2.2.2.2.1, .int q2.2.2.2.2.2.1, .int q2.2.2.2.2.2.2]))] H locs := hw
    exact kx_ret_v I rfl hw (q2, (ca.1, ca.2.1, upd ca.2.2.1 fr.2.2.1.toNatClampNeg 0, ca.2.2.2)) (by simp only [f_RD_takeDiskAnswer, if_neg h1, ← hp2]) [0, 6, 1, 2, 3, 4, 5] (by decide) rfl d_RD_takeDiskAnswer_63
  · refine lv_aload_n hx hb d_RD_takeDiskAnswer_11 rfl (lv_at hl 0 rfl) ?_
    refine kx_get S hw fg_RD_48 0 rfl rfl d_RD_takeDiskAnswer_12 ?_
    refine lv_aload_n hx hb d_RD_takeDiskAnswer_15 rfl (lv_at hl 0 rfl) ?_
    refine kx_get S hw fg_RD_38 0 rfl rfl d_RD_takeDiskAnswer_16 ?_
    refine kx_get S hw fg_RD_171 1 rfl rfl d_RD_takeDiskAnswer_19 ?_
    refine lv_aload_n hx hb d_RD_takeDiskAnswer_22 rfl (lv_at hl 0 rfl) ?_
    refine kx_get S hw fg_RD_38 0 rfl rfl d_RD_takeDiskAnswer_23 ?_
    refine kx_get S hw fg_RD_165 1 rfl rfl d_RD_takeDiskAnswer_26 ?_
    refine lv_aload_n hx hb d_RD_takeDiskAnswer_29 rfl (lv_at hl 0 rfl) ?_
    refine kx_get S hw fg_RD_168 0 rfl rfl d_RD_takeDiskAnswer_30 ?_
    refine lv_iconst (v := 0) hx hb d_RD_takeDiskAnswer_33 (by decide) ?_
    refine kx_call_v (wc := [((ad 14), .inr (5, [.ref (ad 15), .ref (ad 16), .ref (ad 17), .ref (ad 18)])), ((ad 15), .inl (cI, 3, .inl ca.1)), ((ad 16), .inl (cI, 3, .inl ca.2.1)), ((ad 17), .inl (cZ, 3, .inl ca.2.2.1)), ((ad 18), .inl (cI, 3, .inl ca.2.2.2))]) (wr := [((ad 0), .inr (0, [.int mm.1, .ref (ad 1), .ref (ad 6), .ref (ad 8), .ref (ad 10), .ref (ad 11), .ref (ad 12), .ref (ad 13), .ref (ad 14), .ref (ad 19), .ref (ad 20), .int mm.2.1, .int mm.2.2.1, .int mm.2.2.2])), ((ad 12), .inr (4, [.int fr.1, .int fr.2.1, .int fr.2.2.1, .int fr.2.2.2.1, .int fr.2.2.2.2.1, .int fr.2.2.2.2.2.1, .int fr.2.2.2.2.2.2]))]) (rest := []) hw [2, 3, 4, 5, 6] [0, 1] rfl rfl (by decide) (by decide) (kx_runV S hw fc_RD_211 rfl 2 rfl [2, 3, 4, 5, 6] (by decide) rfl (c_Ca_hold l D cI cZ cO (ad 14) (ad 15) (ad 16) (ad 17) (ad 18) ca fr.2.2.1 fr.2.1 mm.2.2.1 0 (hs) (Or.inl rfl) H.size) rfl hl.1 rfl (Nat.le_of_ble_eq_true rfl) d_RD_takeDiskAnswer_34 (by decide) (by decide)) (fun u3 H locs hp3 hw => ?_)
    obtain ⟨c3, rfl⟩ : ∃ z, z = u3 := ⟨_, rfl⟩
    have hw : kx_w D (kx_T cI cZ cO) A_ s_ [((ad 0), .inr (0, [.int mm.1, .ref (ad 1), .ref (ad 6), .ref (ad 8), .ref (ad 10), .ref (ad 11), .ref (ad 12), .ref (ad 13), .ref (ad 14), .ref (ad 19), .ref (ad 20), .int mm.2.1, .int mm.2.2.1, .int mm.2.2.2])), ((ad 12), .inr (4, [.int fr.1, .int fr.2.1, .int fr.2.2.1, .int fr.2.2.2.1, .int fr.2.2.2.2.1, .int fr.2.2.2.2.2.1, .int fr.2.2.2.2.2.2])), ((ad 14), .inr (5, [.ref (ad 15), .ref (ad 16), .ref (ad 17), .ref (ad 18)])), ((ad 15), .inl (cI, 3, .inl c3.1)), ((ad 16), .inl (cI, 3, .inl c3.2.1)), ((ad 17), .inl (cZ, 3, .inl c3.2.2.1)), ((ad 18), .inl (cI, 3, .inl c3.2.2.2))] H locs := hw
    refine lv_goto (tgt := 56) hx hb d_RD_takeDiskAnswer_37 (by decide) ?_
    refine lv_aload_n hx hb d_RD_takeDiskAnswer_56 rfl (lv_at hl 0 rfl) ?_
    refine kx_get S hw fg_RD_38 0 rfl rfl d_RD_takeDiskAnswer_57 ?_
    refine kx_call_v (wc := [((ad 12), .inr (4, [.int fr.1, .int fr.2.1, .int fr.2.2.1, .int fr.2.2.2.1, .int fr.2.2.2.2.1, .int fr.2.2.2.2.2.1, .int fr.2.2.2.2.2.2]))]) (wr := [((ad 0), .inr (0, [.int mm.1, .ref (ad 1), .ref (ad 6), .ref (ad 8), .ref (ad 10), .ref (ad 11), .ref (ad 12), .ref (ad 13), .ref (ad 14), .ref (ad 19), .ref (ad 20), .int mm.2.1, .int mm.2.2.1, .int mm.2.2.2])), ((ad 14), .inr (5, [.ref (ad 15), .ref (ad 16), .ref (ad 17), .ref (ad 18)])), ((ad 15), .inl (cI, 3, .inl c3.1)), ((ad 16), .inl (cI, 3, .inl c3.2.1)), ((ad 17), .inl (cZ, 3, .inl c3.2.2.1)), ((ad 18), .inl (cI, 3, .inl c3.2.2.2))]) (rest := []) hw [1] [0, 2, 3, 4, 5, 6] rfl rfl (by decide) (by decide) (kx_runV S hw fc_RD_215 rfl 1 rfl [1] (by decide) rfl (c_Rq_close l D cI cZ cO (ad 12) fr H.size) rfl hl.1 rfl (Nat.le_of_ble_eq_true rfl) d_RD_takeDiskAnswer_60 (by decide) (by decide)) (fun u4 H locs hp4 hw => ?_)
    obtain ⟨q4, rfl⟩ : ∃ z, z = u4 := ⟨_, rfl⟩
    have hw : kx_w D (kx_T cI cZ cO) A_ s_ [((ad 0), .inr (0, [.int mm.1, .ref (ad 1), .ref (ad 6), .ref (ad 8), .ref (ad 10), .ref (ad 11), .ref (ad 12), .ref (ad 13), .ref (ad 14), .ref (ad 19), .ref (ad 20), .int mm.2.1, .int mm.2.2.1, .int mm.2.2.2])), ((ad 14), .inr (5, [.ref (ad 15), .ref (ad 16), .ref (ad 17), .ref (ad 18)])), ((ad 15), .inl (cI, 3, .inl c3.1)), ((ad 16), .inl (cI, 3, .inl c3.2.1)), ((ad 17), .inl (cZ, 3, .inl c3.2.2.1)), ((ad 18), .inl (cI, 3, .inl c3.2.2.2)), ((ad 12), .inr (4, [.int q4.1, .int q4.2.1, .int q4.2.2.1, .int q4.2.2.2.1, .int q4.2.2.2.2.1, .int q4.2.2.2.2.2.1, .int q4.2.2.2.2.2.2]))] H locs := hw
    exact kx_ret_v I rfl hw (q4, c3) (by simp only [f_RD_takeDiskAnswer, if_pos h1, ← hp3, ← hp4]) [0, 6, 1, 2, 3, 4, 5] (by decide) rfl d_RD_takeDiskAnswer_63
def f_RD_askToWriteOut (mm : kt_M) (dk : kt_Dr) (fr : kt_Rq) (ca : kt_Ca) (s : Int32) : kt_Dr × kt_Rq :=
  match f_Rq_open fr 2 with
  | q1 => match f_Rq_giveTo (q1.1, ca.1 s.toNatClampNeg, s, q1.2.2.2.1, q1.2.2.2.2.1, q1.2.2.2.2.2.1, q1.2.2.2.2.2.2) dk with
    | (q2, d2) => (d2, q2)
set_option maxHeartbeats 4000000 in
set_option maxRecDepth 100000 in
theorem c_RD_askToWriteOut (l : Launch) (D : va_G) (cI cZ cO : ClassId) (ad : Nat → Nat) (mm : kt_M) (dk : kt_Dr) (fr : kt_Rq) (ca : kt_Ca) (s : Int32) (hs : vp_in s 3) : kx_Cv (S := kt_Dr × kt_Rq) l y_RD_askToWriteOut b_RD_askToWriteOut 2 1 0 0 D (kx_T cI cZ cO) [.ref (ad 0), .int s] [((ad 0), .inr (0, [.int mm.1, .ref (ad 1), .ref (ad 6), .ref (ad 8), .ref (ad 10), .ref (ad 11), .ref (ad 12), .ref (ad 13), .ref (ad 14), .ref (ad 19), .ref (ad 20), .int mm.2.1, .int mm.2.2.1, .int mm.2.2.2])), ((ad 10), .inr (3, [.int dk.1, .int dk.2.1, .int dk.2.2.1, .int dk.2.2.2.1, .int dk.2.2.2.2.1, .int dk.2.2.2.2.2])), ((ad 12), .inr (4, [.int fr.1, .int fr.2.1, .int fr.2.2.1, .int fr.2.2.2.1, .int fr.2.2.2.2.1, .int fr.2.2.2.2.2.1, .int fr.2.2.2.2.2.2])), ((ad 14), .inr (5, [.ref (ad 15), .ref (ad 16), .ref (ad 17), .ref (ad 18)])), ((ad 15), .inl (cI, 3, .inl ca.1)), ((ad 16), .inl (cI, 3, .inl ca.2.1)), ((ad 17), .inl (cZ, 3, .inl ca.2.2.1)), ((ad 18), .inl (cI, 3, .inl ca.2.2.2))] (fun zz => zz = f_RD_askToWriteOut mm dk fr ca s) (fun zz => [((ad 0), .inr (0, [.int mm.1, .ref (ad 1), .ref (ad 6), .ref (ad 8), .ref (ad 10), .ref (ad 11), .ref (ad 12), .ref (ad 13), .ref (ad 14), .ref (ad 19), .ref (ad 20), .int mm.2.1, .int mm.2.2.1, .int mm.2.2.2])), ((ad 10), .inr (3, [.int zz.1.1, .int zz.1.2.1, .int zz.1.2.2.1, .int zz.1.2.2.2.1, .int zz.1.2.2.2.2.1, .int zz.1.2.2.2.2.2])), ((ad 12), .inr (4, [.int zz.2.1, .int zz.2.2.1, .int zz.2.2.2.1, .int zz.2.2.2.2.1, .int zz.2.2.2.2.2.1, .int zz.2.2.2.2.2.2.1, .int zz.2.2.2.2.2.2.2])), ((ad 14), .inr (5, [.ref (ad 15), .ref (ad 16), .ref (ad 17), .ref (ad 18)])), ((ad 15), .inl (cI, 3, .inl ca.1)), ((ad 16), .inl (cI, 3, .inl ca.2.1)), ((ad 17), .inl (cZ, 3, .inl ca.2.2.1)), ((ad 18), .inl (cI, 3, .inl ca.2.2.2))]) := by
  refine kx_enter_v (by decide) (Nat.le_of_ble_eq_true rfl) ?_
  intro p_ e_ s_ m_ below_ meth_ c_ ls A_ H I hl hw
  have S := I.1
  have hx := S.1
  have hb := S.2.1
  have hl : lv_has ls 2 [(0, .ref (ad 0)), (1, .int s)] := hl
  refine lv_aload_n hx hb d_RD_askToWriteOut_0 rfl (lv_at hl 0 rfl) ?_
  refine kx_get S hw fg_RD_38 0 rfl rfl d_RD_askToWriteOut_1 ?_
  refine lv_iconst (v := 2) hx hb d_RD_askToWriteOut_4 (by decide) ?_
  refine kx_call_v (wc := [((ad 12), .inr (4, [.int fr.1, .int fr.2.1, .int fr.2.2.1, .int fr.2.2.2.1, .int fr.2.2.2.2.1, .int fr.2.2.2.2.2.1, .int fr.2.2.2.2.2.2]))]) (wr := [((ad 0), .inr (0, [.int mm.1, .ref (ad 1), .ref (ad 6), .ref (ad 8), .ref (ad 10), .ref (ad 11), .ref (ad 12), .ref (ad 13), .ref (ad 14), .ref (ad 19), .ref (ad 20), .int mm.2.1, .int mm.2.2.1, .int mm.2.2.2])), ((ad 10), .inr (3, [.int dk.1, .int dk.2.1, .int dk.2.2.1, .int dk.2.2.2.1, .int dk.2.2.2.2.1, .int dk.2.2.2.2.2])), ((ad 14), .inr (5, [.ref (ad 15), .ref (ad 16), .ref (ad 17), .ref (ad 18)])), ((ad 15), .inl (cI, 3, .inl ca.1)), ((ad 16), .inl (cI, 3, .inl ca.2.1)), ((ad 17), .inl (cZ, 3, .inl ca.2.2.1)), ((ad 18), .inl (cI, 3, .inl ca.2.2.2))]) (rest := []) hw [2] [0, 1, 3, 4, 5, 6, 7] rfl rfl (by decide) (by decide) (kx_runV S hw fc_RD_258 rfl 2 rfl [2] (by decide) rfl (c_Rq_open l D cI cZ cO (ad 12) fr 2 H.size) rfl hl.1 rfl (Nat.le_of_ble_eq_true rfl) d_RD_askToWriteOut_5 (by decide) (by decide)) (fun u1 H locs hp1 hw => ?_)
  obtain ⟨q1, rfl⟩ : ∃ z, z = u1 := ⟨_, rfl⟩
  have hw : kx_w D (kx_T cI cZ cO) A_ s_ [((ad 0), .inr (0, [.int mm.1, .ref (ad 1), .ref (ad 6), .ref (ad 8), .ref (ad 10), .ref (ad 11), .ref (ad 12), .ref (ad 13), .ref (ad 14), .ref (ad 19), .ref (ad 20), .int mm.2.1, .int mm.2.2.1, .int mm.2.2.2])), ((ad 10), .inr (3, [.int dk.1, .int dk.2.1, .int dk.2.2.1, .int dk.2.2.2.1, .int dk.2.2.2.2.1, .int dk.2.2.2.2.2])), ((ad 14), .inr (5, [.ref (ad 15), .ref (ad 16), .ref (ad 17), .ref (ad 18)])), ((ad 15), .inl (cI, 3, .inl ca.1)), ((ad 16), .inl (cI, 3, .inl ca.2.1)), ((ad 17), .inl (cZ, 3, .inl ca.2.2.1)), ((ad 18), .inl (cI, 3, .inl ca.2.2.2)), ((ad 12), .inr (4, [.int q1.1, .int q1.2.1, .int q1.2.2.1, .int q1.2.2.2.1, .int q1.2.2.2.2.1, .int q1.2.2.2.2.2.1, .int q1.2.2.2.2.2.2]))] H locs := hw
  refine lv_aload_n hx hb d_RD_askToWriteOut_8 rfl (lv_at hl 0 rfl) ?_
  refine kx_get S hw fg_RD_38 0 rfl rfl d_RD_askToWriteOut_9 ?_
  refine lv_aload_n hx hb d_RD_askToWriteOut_12 rfl (lv_at hl 0 rfl) ?_
  refine kx_get S hw fg_RD_48 0 rfl rfl d_RD_askToWriteOut_13 ?_
  refine kx_get S hw fg_RD_121 2 rfl rfl d_RD_askToWriteOut_16 ?_
  refine lv_iload_n hx hb d_RD_askToWriteOut_19 rfl (lv_at hl 1 rfl) ?_
  refine kx_iald S hw 3 0 rfl rfl (j := s.toNatClampNeg) rfl (hs) d_RD_askToWriteOut_20 ?_
  refine kx_put S hw fp_RD_165 7 rfl rfl rfl (Nat.le_of_ble_eq_true rfl) d_RD_askToWriteOut_21 (fun H locs hw => ?_)
  have hw : kx_w D (kx_T cI cZ cO) A_ s_ [((ad 0), .inr (0, [.int mm.1, .ref (ad 1), .ref (ad 6), .ref (ad 8), .ref (ad 10), .ref (ad 11), .ref (ad 12), .ref (ad 13), .ref (ad 14), .ref (ad 19), .ref (ad 20), .int mm.2.1, .int mm.2.2.1, .int mm.2.2.2])), ((ad 10), .inr (3, [.int dk.1, .int dk.2.1, .int dk.2.2.1, .int dk.2.2.2.1, .int dk.2.2.2.2.1, .int dk.2.2.2.2.2])), ((ad 14), .inr (5, [.ref (ad 15), .ref (ad 16), .ref (ad 17), .ref (ad 18)])), ((ad 15), .inl (cI, 3, .inl ca.1)), ((ad 16), .inl (cI, 3, .inl ca.2.1)), ((ad 17), .inl (cZ, 3, .inl ca.2.2.1)), ((ad 18), .inl (cI, 3, .inl ca.2.2.2)), ((ad 12), .inr (4, [.int q1.1, .int (ca.1 s.toNatClampNeg), .int q1.2.2.1, .int q1.2.2.2.1, .int q1.2.2.2.2.1, .int q1.2.2.2.2.2.1, .int q1.2.2.2.2.2.2]))] H locs := hw
  refine lv_aload_n hx hb d_RD_askToWriteOut_24 rfl (lv_at hl 0 rfl) ?_
  refine kx_get S hw fg_RD_38 0 rfl rfl d_RD_askToWriteOut_25 ?_
  refine lv_iload_n hx hb d_RD_askToWriteOut_28 rfl (lv_at hl 1 rfl) ?_
  refine kx_put S hw fp_RD_171 7 rfl rfl rfl (Nat.le_of_ble_eq_true rfl) d_RD_askToWriteOut_29 (fun H locs hw => ?_)
  have hw : kx_w D (kx_T cI cZ cO) A_ s_ [((ad 0), .inr (0, [.int mm.1, .ref (ad 1), .ref (ad 6), .ref (ad 8), .ref (ad 10), .ref (ad 11), .ref (ad 12), .ref (ad 13), .ref (ad 14), .ref (ad 19), .ref (ad 20), .int mm.2.1, .int mm.2.2.1, .int mm.2.2.2])), ((ad 10), .inr (3, [.int dk.1, .int dk.2.1, .int dk.2.2.1, .int dk.2.2.2.1, .int dk.2.2.2.2.1, .int dk.2.2.2.2.2])), ((ad 14), .inr (5, [.ref (ad 15), .ref (ad 16), .ref (ad 17), .ref (ad 18)])), ((ad 15), .inl (cI, 3, .inl ca.1)), ((ad 16), .inl (cI, 3, .inl ca.2.1)), ((ad 17), .inl (cZ, 3, .inl ca.2.2.1)), ((ad 18), .inl (cI, 3, .inl ca.2.2.2)), ((ad 12), .inr (4, [.int q1.1, .int (ca.1 s.toNatClampNeg), .int s, .int q1.2.2.2.1, .int q1.2.2.2.2.1, .int q1.2.2.2.2.2.1, .int q1.2.2.2.2.2.2]))] H locs := hw
  refine lv_aload_n hx hb d_RD_askToWriteOut_32 rfl (lv_at hl 0 rfl) ?_
  refine kx_get S hw fg_RD_38 0 rfl rfl d_RD_askToWriteOut_33 ?_
  refine lv_aload_n hx hb d_RD_askToWriteOut_36 rfl (lv_at hl 0 rfl) ?_
  refine kx_get S hw fg_RD_28 0 rfl rfl d_RD_askToWriteOut_37 ?_
  refine kx_call_v (wc := [((ad 12), .inr (4, [.int q1.1, .int (ca.1 s.toNatClampNeg), .int s, .int q1.2.2.2.1, .int q1.2.2.2.2.1, .int q1.2.2.2.2.2.1, .int q1.2.2.2.2.2.2])), ((ad 10), .inr (3, [.int dk.1, .int dk.2.1, .int dk.2.2.1, .int dk.2.2.2.1, .int dk.2.2.2.2.1, .int dk.2.2.2.2.2]))]) (wr := [((ad 0), .inr (0, [.int mm.1, .ref (ad 1), .ref (ad 6), .ref (ad 8), .ref (ad 10), .ref (ad 11), .ref (ad 12), .ref (ad 13), .ref (ad 14), .ref (ad 19), .ref (ad 20), .int mm.2.1, .int mm.2.2.1, .int mm.2.2.2])), ((ad 14), .inr (5, [.ref (ad 15), .ref (ad 16), .ref (ad 17), .ref (ad 18)])), ((ad 15), .inl (cI, 3, .inl ca.1)), ((ad 16), .inl (cI, 3, .inl ca.2.1)), ((ad 17), .inl (cZ, 3, .inl ca.2.2.1)), ((ad 18), .inl (cI, 3, .inl ca.2.2.2))]) (rest := []) hw [7, 1] [0, 2, 3, 4, 5, 6] rfl rfl (by decide) (by decide) (kx_runV S hw fc_RD_191 rfl 7 rfl [7, 1] (by decide) rfl (c_Rq_giveTo l D cI cZ cO (ad 12) (ad 10) (q1.1, ca.1 s.toNatClampNeg, s, q1.2.2.2.1, q1.2.2.2.2.1, q1.2.2.2.2.2.1, q1.2.2.2.2.2.2) dk H.size) rfl hl.1 rfl (Nat.le_of_ble_eq_true rfl) d_RD_askToWriteOut_40 (by decide) (by decide)) (fun u2 H locs hp2 hw => ?_)
  obtain ⟨q2, d2⟩ := u2
  have hw : kx_w D (kx_T cI cZ cO) A_ s_ [((ad 0), .inr (0, [.int mm.1, .ref (ad 1), .ref (ad 6), .ref (ad 8), .ref (ad 10), .ref (ad 11), .ref (ad 12), .ref (ad 13), .ref (ad 14), .ref (ad 19), .ref (ad 20), .int mm.2.1, .int mm.2.2.1, .int mm.2.2.2])), ((ad 14), .inr (5, [.ref (ad 15), .ref (ad 16), .ref (ad 17), .ref (ad 18)])), ((ad 15), .inl (cI, 3, .inl ca.1)), ((ad 16), .inl (cI, 3, .inl ca.2.1)), ((ad 17), .inl (cZ, 3, .inl ca.2.2.1)), ((ad 18), .inl (cI, 3, .inl ca.2.2.2)), ((ad 12), .inr (4, [.int q2.1, .int q2.2.1, .int q2.2.2.1, .int q2.2.2.2.1, .int q2.2.2.2.2.1, .int q2.2.2.2.2.2.1, .int q2.2.2.2.2.2.2])), ((ad 10), .inr (3, [.int d2.1, .int d2.2.1, .int d2.2.2.1, .int d2.2.2.2.1, .int d2.2.2.2.2.1, .int d2.2.2.2.2.2]))] H locs := hw
  exact kx_ret_v I rfl hw (d2, q2) (by simp only [f_RD_askToWriteOut, ← hp1, ← hp2]) [0, 7, 6, 1, 2, 3, 4, 5] (by decide) rfl d_RD_askToWriteOut_43
def f_RD_askToReadIn (mm : kt_M) (dk : kt_Dr) (fr : kt_Rq) (b : Int32) (s : Int32) : kt_Dr × kt_Rq :=
  match f_Rq_open fr 1 with
  | q1 => match f_Rq_giveTo (q1.1, b, s, q1.2.2.2.1, q1.2.2.2.2.1, q1.2.2.2.2.2.1, q1.2.2.2.2.2.2) dk with
    | (q2, d2) => (d2, q2)
set_option maxHeartbeats 4000000 in
set_option maxRecDepth 100000 in
theorem c_RD_askToReadIn (l : Launch) (D : va_G) (cI cZ cO : ClassId) (ad : Nat → Nat) (mm : kt_M) (dk : kt_Dr) (fr : kt_Rq) (b : Int32) (s : Int32) : kx_Cv (S := kt_Dr × kt_Rq) l y_RD_askToReadIn b_RD_askToReadIn 3 1 0 0 D (kx_T cI cZ cO) [.ref (ad 0), .int b, .int s] [((ad 0), .inr (0, [.int mm.1, .ref (ad 1), .ref (ad 6), .ref (ad 8), .ref (ad 10), .ref (ad 11), .ref (ad 12), .ref (ad 13), .ref (ad 14), .ref (ad 19), .ref (ad 20), .int mm.2.1, .int mm.2.2.1, .int mm.2.2.2])), ((ad 10), .inr (3, [.int dk.1, .int dk.2.1, .int dk.2.2.1, .int dk.2.2.2.1, .int dk.2.2.2.2.1, .int dk.2.2.2.2.2])), ((ad 12), .inr (4, [.int fr.1, .int fr.2.1, .int fr.2.2.1, .int fr.2.2.2.1, .int fr.2.2.2.2.1, .int fr.2.2.2.2.2.1, .int fr.2.2.2.2.2.2]))] (fun zz => zz = f_RD_askToReadIn mm dk fr b s) (fun zz => [((ad 0), .inr (0, [.int mm.1, .ref (ad 1), .ref (ad 6), .ref (ad 8), .ref (ad 10), .ref (ad 11), .ref (ad 12), .ref (ad 13), .ref (ad 14), .ref (ad 19), .ref (ad 20), .int mm.2.1, .int mm.2.2.1, .int mm.2.2.2])), ((ad 10), .inr (3, [.int zz.1.1, .int zz.1.2.1, .int zz.1.2.2.1, .int zz.1.2.2.2.1, .int zz.1.2.2.2.2.1, .int zz.1.2.2.2.2.2])), ((ad 12), .inr (4, [.int zz.2.1, .int zz.2.2.1, .int zz.2.2.2.1, .int zz.2.2.2.2.1, .int zz.2.2.2.2.2.1, .int zz.2.2.2.2.2.2.1, .int zz.2.2.2.2.2.2.2]))]) := by
  refine kx_enter_v (by decide) (Nat.le_of_ble_eq_true rfl) ?_
  intro p_ e_ s_ m_ below_ meth_ c_ ls A_ H I hl hw
  have S := I.1
  have hx := S.1
  have hb := S.2.1
  have hl : lv_has ls 3 [(0, .ref (ad 0)), (1, .int b), (2, .int s)] := hl
  refine lv_aload_n hx hb d_RD_askToReadIn_0 rfl (lv_at hl 0 rfl) ?_
  refine kx_get S hw fg_RD_38 0 rfl rfl d_RD_askToReadIn_1 ?_
  refine lv_iconst (v := 1) hx hb d_RD_askToReadIn_4 (by decide) ?_
  refine kx_call_v (wc := [((ad 12), .inr (4, [.int fr.1, .int fr.2.1, .int fr.2.2.1, .int fr.2.2.2.1, .int fr.2.2.2.2.1, .int fr.2.2.2.2.2.1, .int fr.2.2.2.2.2.2]))]) (wr := [((ad 0), .inr (0, [.int mm.1, .ref (ad 1), .ref (ad 6), .ref (ad 8), .ref (ad 10), .ref (ad 11), .ref (ad 12), .ref (ad 13), .ref (ad 14), .ref (ad 19), .ref (ad 20), .int mm.2.1, .int mm.2.2.1, .int mm.2.2.2])), ((ad 10), .inr (3, [.int dk.1, .int dk.2.1, .int dk.2.2.1, .int dk.2.2.2.1, .int dk.2.2.2.2.1, .int dk.2.2.2.2.2]))]) (rest := []) hw [2] [0, 1] rfl rfl (by decide) (by decide) (kx_runV S hw fc_RD_258 rfl 2 rfl [2] (by decide) rfl (c_Rq_open l D cI cZ cO (ad 12) fr 1 H.size) rfl hl.1 rfl (Nat.le_of_ble_eq_true rfl) d_RD_askToReadIn_5 (by decide) (by decide)) (fun u1 H locs hp1 hw => ?_)
  obtain ⟨q1, rfl⟩ : ∃ z, z = u1 := ⟨_, rfl⟩
  have hw : kx_w D (kx_T cI cZ cO) A_ s_ [((ad 0), .inr (0, [.int mm.1, .ref (ad 1), .ref (ad 6), .ref (ad 8), .ref (ad 10), .ref (ad 11), .ref (ad 12), .ref (ad 13), .ref (ad 14), .ref (ad 19), .ref (ad 20), .int mm.2.1, .int mm.2.2.1, .int mm.2.2.2])), ((ad 10), .inr (3, [.int dk.1, .int dk.2.1, .int dk.2.2.1, .int dk.2.2.2.1, .int dk.2.2.2.2.1, .int dk.2.2.2.2.2])), ((ad 12), .inr (4, [.int q1.1, .int q1.2.1, .int q1.2.2.1, .int q1.2.2.2.1, .int q1.2.2.2.2.1, .int q1.2.2.2.2.2.1, .int q1.2.2.2.2.2.2]))] H locs := hw
  refine lv_aload_n hx hb d_RD_askToReadIn_8 rfl (lv_at hl 0 rfl) ?_
  refine kx_get S hw fg_RD_38 0 rfl rfl d_RD_askToReadIn_9 ?_
  refine lv_iload_n hx hb d_RD_askToReadIn_12 rfl (lv_at hl 1 rfl) ?_
  refine kx_put S hw fp_RD_165 2 rfl rfl rfl (Nat.le_of_ble_eq_true rfl) d_RD_askToReadIn_13 (fun H locs hw => ?_)
  have hw : kx_w D (kx_T cI cZ cO) A_ s_ [((ad 0), .inr (0, [.int mm.1, .ref (ad 1), .ref (ad 6), .ref (ad 8), .ref (ad 10), .ref (ad 11), .ref (ad 12), .ref (ad 13), .ref (ad 14), .ref (ad 19), .ref (ad 20), .int mm.2.1, .int mm.2.2.1, .int mm.2.2.2])), ((ad 10), .inr (3, [.int dk.1, .int dk.2.1, .int dk.2.2.1, .int dk.2.2.2.1, .int dk.2.2.2.2.1, .int dk.2.2.2.2.2])), ((ad 12), .inr (4, [.int q1.1, .int b, .int q1.2.2.1, .int q1.2.2.2.1, .int q1.2.2.2.2.1, .int q1.2.2.2.2.2.1, .int q1.2.2.2.2.2.2]))] H locs := hw
  refine lv_aload_n hx hb d_RD_askToReadIn_16 rfl (lv_at hl 0 rfl) ?_
  refine kx_get S hw fg_RD_38 0 rfl rfl d_RD_askToReadIn_17 ?_
  refine lv_iload_n hx hb d_RD_askToReadIn_20 rfl (lv_at hl 2 rfl) ?_
  refine kx_put S hw fp_RD_171 2 rfl rfl rfl (Nat.le_of_ble_eq_true rfl) d_RD_askToReadIn_21 (fun H locs hw => ?_)
  have hw : kx_w D (kx_T cI cZ cO) A_ s_ [((ad 0), .inr (0, [.int mm.1, .ref (ad 1), .ref (ad 6), .ref (ad 8), .ref (ad 10), .ref (ad 11), .ref (ad 12), .ref (ad 13), .ref (ad 14), .ref (ad 19), .ref (ad 20), .int mm.2.1, .int mm.2.2.1, .int mm.2.2.2])), ((ad 10), .inr (3, [.int dk.1, .int dk.2.1, .int dk.2.2.1, .int dk.2.2.2.1, .int dk.2.2.2.2.1, .int dk.2.2.2.2.2])), ((ad 12), .inr (4, [.int q1.1, .int b, .int s, .int q1.2.2.2.1, .int q1.2.2.2.2.1, .int q1.2.2.2.2.2.1, .int q1.2.2.2.2.2.2]))] H locs := hw
  refine lv_aload_n hx hb d_RD_askToReadIn_24 rfl (lv_at hl 0 rfl) ?_
  refine kx_get S hw fg_RD_38 0 rfl rfl d_RD_askToReadIn_25 ?_
  refine lv_aload_n hx hb d_RD_askToReadIn_28 rfl (lv_at hl 0 rfl) ?_
  refine kx_get S hw fg_RD_28 0 rfl rfl d_RD_askToReadIn_29 ?_
  refine kx_call_v (wc := [((ad 12), .inr (4, [.int q1.1, .int b, .int s, .int q1.2.2.2.1, .int q1.2.2.2.2.1, .int q1.2.2.2.2.2.1, .int q1.2.2.2.2.2.2])), ((ad 10), .inr (3, [.int dk.1, .int dk.2.1, .int dk.2.2.1, .int dk.2.2.2.1, .int dk.2.2.2.2.1, .int dk.2.2.2.2.2]))]) (wr := [((ad 0), .inr (0, [.int mm.1, .ref (ad 1), .ref (ad 6), .ref (ad 8), .ref (ad 10), .ref (ad 11), .ref (ad 12), .ref (ad 13), .ref (ad 14), .ref (ad 19), .ref (ad 20), .int mm.2.1, .int mm.2.2.1, .int mm.2.2.2]))]) (rest := []) hw [2, 1] [0] rfl rfl (by decide) (by decide) (kx_runV S hw fc_RD_191 rfl 2 rfl [2, 1] (by decide) rfl (c_Rq_giveTo l D cI cZ cO (ad 12) (ad 10) (q1.1, b, s, q1.2.2.2.1, q1.2.2.2.2.1, q1.2.2.2.2.2.1, q1.2.2.2.2.2.2) dk H.size) rfl hl.1 rfl (Nat.le_of_ble_eq_true rfl) d_RD_askToReadIn_32 (by decide) (by decide)) (fun u2 H locs hp2 hw => ?_)
  obtain ⟨q2, d2⟩ := u2
  have hw : kx_w D (kx_T cI cZ cO) A_ s_ [((ad 0), .inr (0, [.int mm.1, .ref (ad 1), .ref (ad 6), .ref (ad 8), .ref (ad 10), .ref (ad 11), .ref (ad 12), .ref (ad 13), .ref (ad 14), .ref (ad 19), .ref (ad 20), .int mm.2.1, .int mm.2.2.1, .int mm.2.2.2])), ((ad 12), .inr (4, [.int q2.1, .int q2.2.1, .int q2.2.2.1, .int q2.2.2.2.1, .int q2.2.2.2.2.1, .int q2.2.2.2.2.2.1, .int q2.2.2.2.2.2.2])), ((ad 10), .inr (3, [.int d2.1, .int d2.2.1, .int d2.2.2.1, .int d2.2.2.2.1, .int d2.2.2.2.2.1, .int d2.2.2.2.2.2]))] H locs := hw
  exact kx_ret_v I rfl hw (d2, q2) (by simp only [f_RD_askToReadIn, ← hp1, ← hp2]) [0, 2, 1] (by decide) rfl d_RD_askToReadIn_35
def f_RD_askToPutOut (mm : kt_M) (co : kt_Dr) (tr : kt_Rq) (c : Int32) : kt_Dr × kt_Rq :=
  match f_Rq_open tr 3 with
  | q1 => match f_Rq_giveTo (q1.1, q1.2.1, q1.2.2.1, c, q1.2.2.2.2.1, q1.2.2.2.2.2.1, q1.2.2.2.2.2.2) co with
    | (q2, d2) => (d2, q2)
set_option maxHeartbeats 4000000 in
set_option maxRecDepth 100000 in
theorem c_RD_askToPutOut (l : Launch) (D : va_G) (cI cZ cO : ClassId) (ad : Nat → Nat) (mm : kt_M) (co : kt_Dr) (tr : kt_Rq) (c : Int32) : kx_Cv (S := kt_Dr × kt_Rq) l y_RD_askToPutOut b_RD_askToPutOut 2 1 0 0 D (kx_T cI cZ cO) [.ref (ad 0), .int c] [((ad 0), .inr (0, [.int mm.1, .ref (ad 1), .ref (ad 6), .ref (ad 8), .ref (ad 10), .ref (ad 11), .ref (ad 12), .ref (ad 13), .ref (ad 14), .ref (ad 19), .ref (ad 20), .int mm.2.1, .int mm.2.2.1, .int mm.2.2.2])), ((ad 11), .inr (3, [.int co.1, .int co.2.1, .int co.2.2.1, .int co.2.2.2.1, .int co.2.2.2.2.1, .int co.2.2.2.2.2])), ((ad 13), .inr (4, [.int tr.1, .int tr.2.1, .int tr.2.2.1, .int tr.2.2.2.1, .int tr.2.2.2.2.1, .int tr.2.2.2.2.2.1, .int tr.2.2.2.2.2.2]))] (fun zz => zz = f_RD_askToPutOut mm co tr c) (fun zz => [((ad 0), .inr (0, [.int mm.1, .ref (ad 1), .ref (ad 6), .ref (ad 8), .ref (ad 10), .ref (ad 11), .ref (ad 12), .ref (ad 13), .ref (ad 14), .ref (ad 19), .ref (ad 20), .int mm.2.1, .int mm.2.2.1, .int mm.2.2.2])), ((ad 11), .inr (3, [.int zz.1.1, .int zz.1.2.1, .int zz.1.2.2.1, .int zz.1.2.2.2.1, .int zz.1.2.2.2.2.1, .int zz.1.2.2.2.2.2])), ((ad 13), .inr (4, [.int zz.2.1, .int zz.2.2.1, .int zz.2.2.2.1, .int zz.2.2.2.2.1, .int zz.2.2.2.2.2.1, .int zz.2.2.2.2.2.2.1, .int zz.2.2.2.2.2.2.2]))]) := by
  refine kx_enter_v (by decide) (Nat.le_of_ble_eq_true rfl) ?_
  intro p_ e_ s_ m_ below_ meth_ c_ ls A_ H I hl hw
  have S := I.1
  have hx := S.1
  have hb := S.2.1
  have hl : lv_has ls 2 [(0, .ref (ad 0)), (1, .int c)] := hl
  refine lv_aload_n hx hb d_RD_askToPutOut_0 rfl (lv_at hl 0 rfl) ?_
  refine kx_get S hw fg_RD_42 0 rfl rfl d_RD_askToPutOut_1 ?_
  refine lv_iconst (v := 3) hx hb d_RD_askToPutOut_4 (by decide) ?_
  refine kx_call_v (wc := [((ad 13), .inr (4, [.int tr.1, .int tr.2.1, .int tr.2.2.1, .int tr.2.2.2.1, .int tr.2.2.2.2.1, .int tr.2.2.2.2.2.1, .int tr.2.2.2.2.2.2]))]) (wr := [((ad 0), .inr (0, [.int mm.1, .ref (ad 1), .ref (ad 6), .ref (ad 8), .ref (ad 10), .ref (ad 11), .ref (ad 12), .ref (ad 13), .ref (ad 14), .ref (ad 19), .ref (ad 20), .int mm.2.1, .int mm.2.2.1, .int mm.2.2.2])), ((ad 11), .inr (3, [.int co.1, .int co.2.1, .int co.2.2.1, .int co.2.2.2.1, .int co.2.2.2.2.1, .int co.2.2.2.2.2]))]) (rest := []) hw [2] [0, 1] rfl rfl (by decide) (by decide) (kx_runV S hw fc_RD_258 rfl 2 rfl [2] (by decide) rfl (c_Rq_open l D cI cZ cO (ad 13) tr 3 H.size) rfl hl.1 rfl (Nat.le_of_ble_eq_true rfl) d_RD_askToPutOut_5 (by decide) (by decide)) (fun u1 H locs hp1 hw => ?_)
  obtain ⟨q1, rfl⟩ : ∃ z, z = u1 := ⟨_, rfl⟩
  have hw : kx_w D (kx_T cI cZ cO) A_ s_ [((ad 0), .inr (0, [.int mm.1, .ref (ad 1), .ref (ad 6), .ref (ad 8), .ref (ad 10), .ref (ad 11), .ref (ad 12), .ref (ad 13), .ref (ad 14), .ref (ad 19), .ref (ad 20), .int mm.2.1, .int mm.2.2.1, .int mm.2.2.2])), ((ad 11), .inr (3, [.int co.1, .int co.2.1, .int co.2.2.1, .int co.2.2.2.1, .int co.2.2.2.2.1, .int co.2.2.2.2.2])), ((ad 13), .inr (4, [.int q1.1, .int q1.2.1, .int q1.2.2.1, .int q1.2.2.2.1, .int q1.2.2.2.2.1, .int q1.2.2.2.2.2.1, .int q1.2.2.2.2.2.2]))] H locs := hw
  refine lv_aload_n hx hb d_RD_askToPutOut_8 rfl (lv_at hl 0 rfl) ?_
  refine kx_get S hw fg_RD_42 0 rfl rfl d_RD_askToPutOut_9 ?_
  refine lv_iload_n hx hb d_RD_askToPutOut_12 rfl (lv_at hl 1 rfl) ?_
  refine kx_put S hw fp_RD_174 2 rfl rfl rfl (Nat.le_of_ble_eq_true rfl) d_RD_askToPutOut_13 (fun H locs hw => ?_)
  have hw : kx_w D (kx_T cI cZ cO) A_ s_ [((ad 0), .inr (0, [.int mm.1, .ref (ad 1), .ref (ad 6), .ref (ad 8), .ref (ad 10), .ref (ad 11), .ref (ad 12), .ref (ad 13), .ref (ad 14), .ref (ad 19), .ref (ad 20), .int mm.2.1, .int mm.2.2.1, .int mm.2.2.2])), ((ad 11), .inr (3, [.int co.1, .int co.2.1, .int co.2.2.1, .int co.2.2.2.1, .int co.2.2.2.2.1, .int co.2.2.2.2.2])), ((ad 13), .inr (4, [.int q1.1, .int q1.2.1, .int q1.2.2.1, .int c, .int q1.2.2.2.2.1, .int q1.2.2.2.2.2.1, .int q1.2.2.2.2.2.2]))] H locs := hw
  refine lv_aload_n hx hb d_RD_askToPutOut_16 rfl (lv_at hl 0 rfl) ?_
  refine kx_get S hw fg_RD_42 0 rfl rfl d_RD_askToPutOut_17 ?_
  refine lv_aload_n hx hb d_RD_askToPutOut_20 rfl (lv_at hl 0 rfl) ?_
  refine kx_get S hw fg_RD_32 0 rfl rfl d_RD_askToPutOut_21 ?_
  refine kx_call_v (wc := [((ad 13), .inr (4, [.int q1.1, .int q1.2.1, .int q1.2.2.1, .int c, .int q1.2.2.2.2.1, .int q1.2.2.2.2.2.1, .int q1.2.2.2.2.2.2])), ((ad 11), .inr (3, [.int co.1, .int co.2.1, .int co.2.2.1, .int co.2.2.2.1, .int co.2.2.2.2.1, .int co.2.2.2.2.2]))]) (wr := [((ad 0), .inr (0, [.int mm.1, .ref (ad 1), .ref (ad 6), .ref (ad 8), .ref (ad 10), .ref (ad 11), .ref (ad 12), .ref (ad 13), .ref (ad 14), .ref (ad 19), .ref (ad 20), .int mm.2.1, .int mm.2.2.1, .int mm.2.2.2]))]) (rest := []) hw [2, 1] [0] rfl rfl (by decide) (by decide) (kx_runV S hw fc_RD_191 rfl 2 rfl [2, 1] (by decide) rfl (c_Rq_giveTo l D cI cZ cO (ad 13) (ad 11) (q1.1, q1.2.1, q1.2.2.1, c, q1.2.2.2.2.1, q1.2.2.2.2.2.1, q1.2.2.2.2.2.2) co H.size) rfl hl.1 rfl (Nat.le_of_ble_eq_true rfl) d_RD_askToPutOut_24 (by decide) (by decide)) (fun u2 H locs hp2 hw => ?_)
  obtain ⟨q2, d2⟩ := u2
  have hw : kx_w D (kx_T cI cZ cO) A_ s_ [((ad 0), .inr (0, [.int mm.1, .ref (ad 1), .ref (ad 6), .ref (ad 8), .ref (ad 10), .ref (ad 11), .ref (ad 12), .ref (ad 13), .ref (ad 14), .ref (ad 19), .ref (ad 20), .int mm.2.1, .int mm.2.2.1, .int mm.2.2.2])), ((ad 13), .inr (4, [.int q2.1, .int q2.2.1, .int q2.2.2.1, .int q2.2.2.2.1, .int q2.2.2.2.2.1, .int q2.2.2.2.2.2.1, .int q2.2.2.2.2.2.2])), ((ad 11), .inr (3, [.int d2.1, .int d2.2.1, .int d2.2.2.1, .int d2.2.2.2.1, .int d2.2.2.2.2.1, .int d2.2.2.2.2.2]))] H locs := hw
  exact kx_ret_v I rfl hw (d2, q2) (by simp only [f_RD_askToPutOut, ← hp1, ← hp2]) [0, 2, 1] (by decide) rfl d_RD_askToPutOut_27
end
section
theorem mm_344 : Cond.code ⟨"RebornDrivers$Cache", "slotToFill", "()I"⟩ prog_2_method_3_code 4 (some .int) ∈ kx_tbl := List.mem_filter.mpr ⟨List.mem_append_right _ (List.mem_of_getElem? (i := 344) (by decide +kernel)), by decide +kernel⟩
theorem mm_341 : Cond.methodLinkNest "RebornDrivers" 239 ⟨"RebornDrivers$Cache", "slotToFill", "()I"⟩ "RebornDrivers" ∈ kx_nl := List.mem_filter.mpr ⟨List.mem_append_right _ (List.mem_of_getElem? (i := 341) (by decide +kernel)), by decide +kernel⟩
theorem mm_343 : Cond.instanceMethod ⟨"RebornDrivers$Cache", "slotToFill", "()I"⟩ ∈ kx_tbl := List.mem_filter.mpr ⟨List.mem_append_right _ (List.mem_of_getElem? (i := 343) (by decide +kernel)), by decide +kernel⟩
theorem mm_132 : Cond.fieldLinkNest "RebornDrivers" 218 "RebornDrivers$Operation" "kind" "I" "RebornDrivers" ∈ kx_nl := List.mem_filter.mpr ⟨List.mem_append_right _ (List.mem_of_getElem? (i := 132) (by decide +kernel)), by decide +kernel⟩
theorem mm_134 : Cond.fieldLinkNest "RebornDrivers" 222 "RebornDrivers$Operation" "block" "I" "RebornDrivers" ∈ kx_nl := List.mem_filter.mpr ⟨List.mem_append_right _ (List.mem_of_getElem? (i := 134) (by decide +kernel)), by decide +kernel⟩
theorem mm_136 : Cond.fieldLinkNest "RebornDrivers" 236 "RebornDrivers$Operation" "value" "I" "RebornDrivers" ∈ kx_nl := List.mem_filter.mpr ⟨List.mem_append_right _ (List.mem_of_getElem? (i := 136) (by decide +kernel)), by decide +kernel⟩
theorem mm_115 : Cond.fieldLinkNest "RebornDrivers" 230 "RebornDrivers$Cache" "usedAt" "[I" "RebornDrivers" ∈ kx_nl := List.mem_filter.mpr ⟨List.mem_append_right _ (List.mem_of_getElem? (i := 115) (by decide +kernel)), by decide +kernel⟩
theorem mm_324 : Cond.code ⟨"RebornDrivers$Operation", "finish", "(I)V"⟩ prog_5_method_3_code 2 none ∈ kx_tbl := List.mem_filter.mpr ⟨List.mem_append_right _ (List.mem_of_getElem? (i := 324) (by decide +kernel)), by decide +kernel⟩
theorem mm_321 : Cond.methodLinkNest "RebornDrivers" 233 ⟨"RebornDrivers$Operation", "finish", "(I)V"⟩ "RebornDrivers" ∈ kx_nl := List.mem_filter.mpr ⟨List.mem_append_right _ (List.mem_of_getElem? (i := 321) (by decide +kernel)), by decide +kernel⟩
theorem mm_323 : Cond.instanceMethod ⟨"RebornDrivers$Operation", "finish", "(I)V"⟩ ∈ kx_tbl := List.mem_filter.mpr ⟨List.mem_append_right _ (List.mem_of_getElem? (i := 323) (by decide +kernel)), by decide +kernel⟩
theorem mm_349 : Cond.code ⟨"RebornDrivers$Cache", "empty", "(I)V"⟩ prog_2_method_6_code 2 none ∈ kx_tbl := List.mem_filter.mpr ⟨List.mem_append_right _ (List.mem_of_getElem? (i := 349) (by decide +kernel)), by decide +kernel⟩
theorem mm_346 : Cond.methodLinkNest "RebornDrivers" 245 ⟨"RebornDrivers$Cache", "empty", "(I)V"⟩ "RebornDrivers" ∈ kx_nl := List.mem_filter.mpr ⟨List.mem_append_right _ (List.mem_of_getElem? (i := 346) (by decide +kernel)), by decide +kernel⟩
theorem mm_348 : Cond.instanceMethod ⟨"RebornDrivers$Cache", "empty", "(I)V"⟩ ∈ kx_tbl := List.mem_filter.mpr ⟨List.mem_append_right _ (List.mem_of_getElem? (i := 348) (by decide +kernel)), by decide +kernel⟩
theorem mm_354 : Cond.code ⟨"RebornDrivers", "askToReadIn", "(II)V"⟩ prog_1_method_32_code 3 none ∈ kx_tbl := List.mem_filter.mpr ⟨List.mem_append_right _ (List.mem_of_getElem? (i := 354) (by decide +kernel)), by decide +kernel⟩
theorem mm_351 : Cond.methodLink "RebornDrivers" 248 ⟨"RebornDrivers", "askToReadIn", "(II)V"⟩ ∈ kx_tbl := List.mem_filter.mpr ⟨List.mem_append_right _ (List.mem_of_getElem? (i := 351) (by decide +kernel)), by decide +kernel⟩
theorem mm_353 : Cond.instanceMethod ⟨"RebornDrivers", "askToReadIn", "(II)V"⟩ ∈ kx_tbl := List.mem_filter.mpr ⟨List.mem_append_right _ (List.mem_of_getElem? (i := 353) (by decide +kernel)), by decide +kernel⟩
theorem mm_328 : Cond.code ⟨"RebornDrivers", "askToWriteOut", "(I)V"⟩ prog_1_method_31_code 2 none ∈ kx_tbl := List.mem_filter.mpr ⟨List.mem_append_right _ (List.mem_of_getElem? (i := 328) (by decide +kernel)), by decide +kernel⟩
theorem mm_325 : Cond.methodLink "RebornDrivers" 242 ⟨"RebornDrivers", "askToWriteOut", "(I)V"⟩ ∈ kx_tbl := List.mem_filter.mpr ⟨List.mem_append_right _ (List.mem_of_getElem? (i := 325) (by decide +kernel)), by decide +kernel⟩
theorem mm_327 : Cond.instanceMethod ⟨"RebornDrivers", "askToWriteOut", "(I)V"⟩ ∈ kx_tbl := List.mem_filter.mpr ⟨List.mem_append_right _ (List.mem_of_getElem? (i := 327) (by decide +kernel)), by decide +kernel⟩
theorem sel_Ca_slotToFill : Cond.selects "RebornDrivers$Cache" y_Ca_slotToFill y_Ca_slotToFill ∈ kx_tbl := List.mem_filter.mpr ⟨List.mem_append_left _ (by decide +kernel), by decide +kernel⟩
theorem fc_RD_239 : kx_m "RebornDrivers" 239 y_Ca_slotToFill b_Ca_slotToFill 4 (some .int) 0 ∧ Cond.instanceMethod y_Ca_slotToFill ∈ kx_tbl ∧ Cond.selects "RebornDrivers$Cache" y_Ca_slotToFill y_Ca_slotToFill ∈ kx_tbl := ⟨⟨mm_344, mm_5, by decide +kernel, Or.inr ⟨_, mm_341⟩⟩, mm_343, sel_Ca_slotToFill⟩
theorem fg_RD_218 : kx_f "RebornDrivers" 218 1 0 := ⟨R_Op, F_Op, 6, rfl, by decide, in_Op, Or.inr ⟨_, mm_132⟩⟩
theorem fg_RD_222 : kx_f "RebornDrivers" 222 1 1 := ⟨R_Op, F_Op, 6, rfl, by decide, in_Op, Or.inr ⟨_, mm_134⟩⟩
theorem fg_RD_236 : kx_f "RebornDrivers" 236 1 2 := ⟨R_Op, F_Op, 6, rfl, by decide, in_Op, Or.inr ⟨_, mm_136⟩⟩
theorem fg_RD_230 : kx_f "RebornDrivers" 230 5 3 := ⟨R_Ca, F_Ca, 4, rfl, by decide, in_Ca, Or.inr ⟨_, mm_115⟩⟩
theorem sel_Op_finish : Cond.selects "RebornDrivers$Operation" y_Op_finish y_Op_finish ∈ kx_tbl := List.mem_filter.mpr ⟨List.mem_append_left _ (by decide +kernel), by decide +kernel⟩
theorem fc_RD_233 : kx_m "RebornDrivers" 233 y_Op_finish b_Op_finish 2 none 1 ∧ Cond.instanceMethod y_Op_finish ∈ kx_tbl ∧ Cond.selects "RebornDrivers$Operation" y_Op_finish y_Op_finish ∈ kx_tbl := ⟨⟨mm_324, mm_7, by decide +kernel, Or.inr ⟨_, mm_321⟩⟩, mm_323, sel_Op_finish⟩
theorem sel_Ca_empty : Cond.selects "RebornDrivers$Cache" y_Ca_empty y_Ca_empty ∈ kx_tbl := List.mem_filter.mpr ⟨List.mem_append_left _ (by decide +kernel), by decide +kernel⟩
theorem fc_RD_245 : kx_m "RebornDrivers" 245 y_Ca_empty b_Ca_empty 2 none 1 ∧ Cond.instanceMethod y_Ca_empty ∈ kx_tbl ∧ Cond.selects "RebornDrivers$Cache" y_Ca_empty y_Ca_empty ∈ kx_tbl := ⟨⟨mm_349, mm_5, by decide +kernel, Or.inr ⟨_, mm_346⟩⟩, mm_348, sel_Ca_empty⟩
theorem sel_RD_askToReadIn : Cond.selects "RebornDrivers" y_RD_askToReadIn y_RD_askToReadIn ∈ kx_tbl := List.mem_filter.mpr ⟨List.mem_append_left _ (by decide +kernel), by decide +kernel⟩
theorem fc_RD_248 : kx_m "RebornDrivers" 248 y_RD_askToReadIn b_RD_askToReadIn 3 none 2 ∧ Cond.instanceMethod y_RD_askToReadIn ∈ kx_tbl ∧ Cond.selects "RebornDrivers" y_RD_askToReadIn y_RD_askToReadIn ∈ kx_tbl := ⟨⟨mm_354, mm_1, by decide +kernel, Or.inl mm_351⟩, mm_353, sel_RD_askToReadIn⟩
theorem sel_RD_askToWriteOut : Cond.selects "RebornDrivers" y_RD_askToWriteOut y_RD_askToWriteOut ∈ kx_tbl := List.mem_filter.mpr ⟨List.mem_append_left _ (by decide +kernel), by decide +kernel⟩
theorem fc_RD_242 : kx_m "RebornDrivers" 242 y_RD_askToWriteOut b_RD_askToWriteOut 2 none 1 ∧ Cond.instanceMethod y_RD_askToWriteOut ∈ kx_tbl ∧ Cond.selects "RebornDrivers" y_RD_askToWriteOut y_RD_askToWriteOut ∈ kx_tbl := ⟨⟨mm_328, mm_1, by decide +kernel, Or.inl mm_325⟩, mm_327, sel_RD_askToWriteOut⟩

def f_RD_makeRoomFor (mm : kt_M) (dk : kt_Dr) (fr : kt_Rq) (ca : kt_Ca) (o : kt_Op) : Int32 × kt_Dr × kt_Rq × kt_Ca × kt_Op :=
  match f_Ca_slotToFill ca with
  | r1 => if (ca.2.2.1 r1.toNatClampNeg) = 0 then (if o.1 = 0 then (match f_Ca_empty ca r1 with
        | c6 => match f_RD_askToReadIn mm dk fr o.2.1 r1 with
          | (dk7, fr7) => (0, dk7, fr7, c6, o))
      else match f_Ca_hold ca r1 o.2.1 o.2.2.1 1 with
      | c4 => match f_Op_finish o 0 with
        | o5 => (1, dk, fr, (c4.1, c4.2.1, c4.2.2.1, upd c4.2.2.2 r1.toNatClampNeg mm.2.2.2), o5))
    else match f_RD_askToWriteOut mm dk fr ca r1 with
    | (dk8, fr8) => (0, dk8, fr8, ca, o)
set_option maxHeartbeats 4000000 in
set_option maxRecDepth 100000 in
theorem c_RD_makeRoomFor (l : Launch) (D : va_G) (cI cZ cO : ClassId) (ad : Nat → Nat) (g : Nat) (mm : kt_M) (dk : kt_Dr) (fr : kt_Rq) (ca : kt_Ca) (o : kt_Op) : kx_Ci (S := kt_Dr × kt_Rq × kt_Ca × kt_Op) l y_RD_makeRoomFor b_RD_makeRoomFor 3 (some .boolean) 2 0 0 D (kx_T cI cZ cO) [.ref (ad 0), .ref g] [((ad 0), .inr (0, [.int mm.1, .ref (ad 1), .ref (ad 6), .ref (ad 8), .ref (ad 10), .ref (ad 11), .ref (ad 12), .ref (ad 13), .ref (ad 14), .ref (ad 19), .ref (ad 20), .int mm.2.1, .int mm.2.2.1, .int mm.2.2.2])), ((ad 10), .inr (3, [.int dk.1, .int dk.2.1, .int dk.2.2.1, .int dk.2.2.2.1, .int dk.2.2.2.2.1, .int dk.2.2.2.2.2])), ((ad 12), .inr (4, [.int fr.1, .int fr.2.1, .int fr.2.2.1, .int fr.2.2.2.1, .int fr.2.2.2.2.1, .int fr.2.2.2.2.2.1, .int fr.2.2.2.2.2.2])), ((ad 14), .inr (5, [.ref (ad 15), .ref (ad 16), .ref (ad 17), .ref (ad 18)])), ((ad 15), .inl (cI, 3, .inl ca.1)), ((ad 16), .inl (cI, 3, .inl ca.2.1)), ((ad 17), .inl (cZ, 3, .inl ca.2.2.1)), ((ad 18), .inl (cI, 3, .inl ca.2.2.2)), (g, .inr (1, [.int o.1, .int o.2.1, .int o.2.2.1, .int o.2.2.2.1, .int o.2.2.2.2.1, .int o.2.2.2.2.2]))] (fun rr zz => (rr, zz) = f_RD_makeRoomFor mm dk fr ca o ∧ kx_b rr) (fun zz => [((ad 0), .inr (0, [.int mm.1, .ref (ad 1), .ref (ad 6), .ref (ad 8), .ref (ad 10), .ref (ad 11), .ref (ad 12), .ref (ad 13), .ref (ad 14), .ref (ad 19), .ref (ad 20), .int mm.2.1, .int mm.2.2.1, .int mm.2.2.2])), ((ad 10), .inr (3, [.int zz.1.1, .int zz.1.2.1, .int zz.1.2.2.1, .int zz.1.2.2.2.1, .int zz.1.2.2.2.2.1, .int zz.1.2.2.2.2.2])), ((ad 12), .inr (4, [.int zz.2.1.1, .int zz.2.1.2.1, .int zz.2.1.2.2.1, .int zz.2.1.2.2.2.1, .int zz.2.1.2.2.2.2.1, .int zz.2.1.2.2.2.2.2.1, .int zz.2.1.2.2.2.2.2.2])), ((ad 14), .inr (5, [.ref (ad 15), .ref (ad 16), .ref (ad 17), .ref (ad 18)])), ((ad 15), .inl (cI, 3, .inl zz.2.2.1.1)), ((ad 16), .inl (cI, 3, .inl zz.2.2.1.2.1)), ((ad 17), .inl (cZ, 3, .inl zz.2.2.1.2.2.1)), ((ad 18), .inl (cI, 3, .inl zz.2.2.1.2.2.2)), (g, .inr (1, [.int zz.2.2.2.1, .int zz.2.2.2.2.1, .int zz.2.2.2.2.2.1, .int zz.2.2.2.2.2.2.1, .int zz.2.2.2.2.2.2.2.1, .int zz.2.2.2.2.2.2.2.2]))]) := by
  refine kx_enter_i (by decide) (Nat.le_of_ble_eq_true rfl) ?_
  intro p_ e_ s_ m_ below_ meth_ c_ ls A_ H I hl hw
  have S := I.1
  have hx := S.1
  have hb := S.2.1
  have hl : lv_has ls 3 [(0, .ref (ad 0)), (1, .ref g)] := hl
  refine lv_aload_n hx hb d_RD_makeRoomFor_0 rfl (lv_at hl 0 rfl) ?_
  refine kx_get S hw fg_RD_48 0 rfl rfl d_RD_makeRoomFor_1 ?_
  refine kx_call_i (wc := [((ad 14), .inr (5, [.ref (ad 15), .ref (ad 16), .ref (ad 17), .ref (ad 18)])), ((ad 15), .inl (cI, 3, .inl ca.1)), ((ad 16), .inl (cI, 3, .inl ca.2.1)), ((ad 17), .inl (cZ, 3, .inl ca.2.2.1)), ((ad 18), .inl (cI, 3, .inl ca.2.2.2))]) (wr := [((ad 0), .inr (0, [.int mm.1, .ref (ad 1), .ref (ad 6), .ref (ad 8), .ref (ad 10), .ref (ad 11), .ref (ad 12), .ref (ad 13), .ref (ad 14), .ref (ad 19), .ref (ad 20), .int mm.2.1, .int mm.2.2.1, .int mm.2.2.2])), ((ad 10), .inr (3, [.int dk.1, .int dk.2.1, .int dk.2.2.1, .int dk.2.2.2.1, .int dk.2.2.2.2.1, .int dk.2.2.2.2.2])), ((ad 12), .inr (4, [.int fr.1, .int fr.2.1, .int fr.2.2.1, .int fr.2.2.2.1, .int fr.2.2.2.2.1, .int fr.2.2.2.2.2.1, .int fr.2.2.2.2.2.2])), (g, .inr (1, [.int o.1, .int o.2.1, .int o.2.2.1, .int o.2.2.2.1, .int o.2.2.2.2.1, .int o.2.2.2.2.2]))]) (rest := []) hw [3, 4, 5, 6, 7] [0, 1, 2, 8] rfl rfl (by decide) (by decide) (kx_runV S hw fc_RD_239 rfl 3 rfl [3, 4, 5, 6, 7] (by decide) rfl (c_Ca_slotToFill l D cI cZ cO (ad 14) (ad 15) (ad 16) (ad 17) (ad 18) ca H.size) rfl hl.1 rfl (Nat.le_of_ble_eq_true rfl) d_RD_makeRoomFor_4 (by decide) (by decide)) (fun r1 u1 H locs hp1 hw => ?_)
  have hw : kx_w D (kx_T cI cZ cO) A_ s_ [((ad 0), .inr (0, [.int mm.1, .ref (ad 1), .ref (ad 6), .ref (ad 8), .ref (ad 10), .ref (ad 11), .ref (ad 12), .ref (ad 13), .ref (ad 14), .ref (ad 19), .ref (ad 20), .int mm.2.1, .int mm.2.2.1, .int mm.2.2.2])), ((ad 10), .inr (3, [.int dk.1, .int dk.2.1, .int dk.2.2.1, .int dk.2.2.2.1, .int dk.2.2.2.2.1, .int dk.2.2.2.2.2])), ((ad 12), .inr (4, [.int fr.1, .int fr.2.1, .int fr.2.2.1, .int fr.2.2.2.1, .int fr.2.2.2.2.1, .int fr.2.2.2.2.2.1, .int fr.2.2.2.2.2.2])), (g, .inr (1, [.int o.1, .int o.2.1, .int o.2.2.1, .int o.2.2.2.1, .int o.2.2.2.2.1, .int o.2.2.2.2.2])), ((ad 14), .inr (5, [.ref (ad 15), .ref (ad 16), .ref (ad 17), .ref (ad 18)])), ((ad 15), .inl (cI, 3, .inl ca.1)), ((ad 16), .inl (cI, 3, .inl ca.2.1)), ((ad 17), .inl (cZ, 3, .inl ca.2.2.1)), ((ad 18), .inl (cI, 3, .inl ca.2.2.2))] H locs := hw
  have hs : vp_in r1 3 := by rw [hp1]; exact l_stf _
  refine lv_istore_n (lv' := [(2, .int r1), (0, .ref (ad 0)), (1, .ref g)]) hx hb d_RD_makeRoomFor_7 rfl hl (by decide) rfl (fun ls hl => ?_)
  refine lv_aload_n hx hb d_RD_makeRoomFor_8 rfl (lv_at hl 1 rfl) ?_
  refine kx_get S hw fg_RD_48 0 rfl rfl d_RD_makeRoomFor_9 ?_
  refine kx_get S hw fg_RD_127 4 rfl rfl d_RD_makeRoomFor_12 ?_
  refine lv_iload_n hx hb d_RD_makeRoomFor_15 rfl (lv_at hl 0 rfl) ?_
  refine kx_zald S hw 7 1 rfl rfl (j := r1.toNatClampNeg) rfl (hs) d_RD_makeRoomFor_16 ?_
  refine lv_if_eq (tgt := 27) hx hb d_RD_makeRoomFor_17 (by decide) (fun h2 => ?_) (fun h2 => ?_)
  · refine lv_aload_n hx hb d_RD_makeRoomFor_27 rfl (lv_at hl 2 rfl) ?_
    refine kx_get S hw fg_RD_218 3 rfl rfl d_RD_makeRoomFor_28 ?_
    refine lv_if_ne (tgt := 53) hx hb d_RD_makeRoomFor_31 (by decide) (fun h3 => ?_) (fun h3 => ?_)
    · refine lv_aload_n hx hb d_RD_makeRoomFor_53 rfl (lv_at hl 1 rfl) ?_
      refine kx_get S hw fg_RD_48 0 rfl rfl d_RD_makeRoomFor_54 ?_
      refine lv_iload_n hx hb d_RD_makeRoomFor_57 rfl (lv_at hl 0 rfl) ?_
      refine lv_aload_n hx hb d_RD_makeRoomFor_58 rfl (lv_at hl 2 rfl) ?_
      refine kx_get S hw fg_RD_222 3 rfl rfl d_RD_makeRoomFor_59 ?_
      refine lv_aload_n hx hb d_RD_makeRoomFor_62 rfl (lv_at hl 2 rfl) ?_
      refine kx_get S hw fg_RD_236 3 rfl rfl d_RD_makeRoomFor_63 ?_
      refine lv_iconst (v := 1) hx hb d_RD_makeRoomFor_66 (by decide) ?_
      refine kx_call_v (wc := [((ad 14), .inr (5, [.ref (ad 15), .ref (ad 16), .ref (ad 17), .ref (ad 18)])), ((ad 15), .inl (cI, 3, .inl ca.1)), ((ad 16), .inl (cI, 3, .inl ca.2.1)), ((ad 17), .inl (cZ, 3, .inl ca.2.2.1)), ((ad 18), .inl (cI, 3, .inl ca.2.2.2))]) (wr := [((ad 0), .inr (0, [.int mm.1, .ref (ad 1), .ref (ad 6), .ref (ad 8), .ref (ad 10), .ref (ad 11), .ref (ad 12), .ref (ad 13), .ref (ad 14), .ref (ad 19), .ref (ad 20), .int mm.2.1, .int mm.2.2.1, .int mm.2.2.2])), ((ad 10), .inr (3, [.int dk.1, .int dk.2.1, .int dk.2.2.1, .int dk.2.2.2.1, .int dk.2.2.2.2.1, .int dk.2.2.2.2.2])), ((ad 12), .inr (4, [.int fr.1, .int fr.2.1, .int fr.2.2.1, .int fr.2.2.2.1, .int fr.2.2.2.2.1, .int fr.2.2.2.2.2.1, .int fr.2.2.2.2.2.2])), (g, .inr (1, [.int o.1, .int o.2.1, .int o.2.2.1, .int o.2.2.2.1, .int o.2.2.2.2.1, .int o.2.2.2.2.2]))]) (rest := []) hw [4, 5, 6, 7, 8] [0, 1, 2, 3] rfl rfl (by decide) (by decide) (kx_runV S hw fc_RD_211 rfl 4 rfl [4, 5, 6, 7, 8] (by decide) rfl (c_Ca_hold l D cI cZ cO (ad 14) (ad 15) (ad 16) (ad 17) (ad 18) ca r1 o.2.1 o.2.2.1 1 (hs) (Or.inr rfl) H.size) rfl hl.1 rfl (Nat.le_of_ble_eq_true rfl) d_RD_makeRoomFor_67 (by decide) (by decide)) (fun u4 H locs hp4 hw => ?_)
      obtain ⟨c4, rfl⟩ : ∃ z, z = u4 := ⟨_, rfl⟩
      have hw : kx_w D (kx_T cI cZ cO) A_ s_ [((ad 0), .inr (0, [.int mm.1, .ref (ad 1), .ref (ad 6), .ref (ad 8), .ref (ad 10), .ref (ad 11), .ref (ad 12), .ref (ad 13), .ref (ad 14), .ref (ad 19), .ref (ad 20), .int mm.2.1, .int mm.2.2.1, .int mm.2.2.2])), ((ad 10), .inr (3, [.int dk.1, .int dk.2.1, .int dk.2.2.1, .int dk.2.2.2.1, .int dk.2.2.2.2.1, .int dk.2.2.2.2.2])), ((ad 12), .inr (4, [.int fr.1, .int fr.2.1, .int fr.2.2.1, .int fr.2.2.2.1, .int fr.2.2.2.2.1, .int fr.2.2.2.2.2.1, .int fr.2.2.2.2.2.2])), (g, .inr (1, [.int o.1, .int o.2.1, .int o.2.2.1, .int o.2.2.2.1, .int o.2.2.2.2.1, .int o.2.2.2.2.2])), ((ad 14), .inr (5, [.ref (ad 15), .ref (ad 16), .ref (ad 17), .ref (ad 18)])), ((ad 15), .inl (cI, 3, .inl c4.1)), ((ad 16), .inl (cI, 3, .inl c4.2.1)), ((ad 17), .inl (cZ, 3, .inl c4.2.2.1)), ((ad 18), .inl (cI, 3, .inl c4.2.2.2))] H locs := hw
      refine lv_aload_n hx hb d_RD_makeRoomFor_70 rfl (lv_at hl 1 rfl) ?_
      refine kx_get S hw fg_RD_48 0 rfl rfl d_RD_makeRoomFor_71 ?_
      refine kx_get S hw fg_RD_230 4 rfl rfl d_RD_makeRoomFor_74 ?_
      refine lv_iload_n hx hb d_RD_makeRoomFor_77 rfl (lv_at hl 0 rfl) ?_
      refine lv_aload_n hx hb d_RD_makeRoomFor_78 rfl (lv_at hl 1 rfl) ?_
      refine kx_get S hw fg_RD_79 0 rfl rfl d_RD_makeRoomFor_79 ?_
      refine kx_iast S hw 8 0 rfl rfl (j := r1.toNatClampNeg) rfl (hs) d_RD_makeRoomFor_82 (fun H locs hw => ?_)
      have hw : kx_w D (kx_T cI cZ cO) A_ s_ [((ad 0), .inr (0, [.int mm.1, .ref (ad 1), .ref (ad 6), .ref (ad 8), .ref (ad 10), .ref (ad 11), .ref (ad 12), .ref (ad 13), .ref (ad 14), .ref (ad 19), .ref (ad 20), .int mm.2.1, .int mm.2.2.1, .int mm.2.2.2])), ((ad 10), .inr (3, [.int dk.1, .int dk.2.1, .int dk.2.2.1, .int dk.2.2.2.1, .int dk.2.2.2.2.1, .int dk.2.2.2.2.2])), ((ad 12), .inr (4, [.int fr.1, .int fr.2.1, .int fr.2.2.1, .int fr.2.2.2.1, .int fr.2.2.2.2.1, .int fr.2.2.2.2.2.1, .int fr.2.2.2.2.2.2])), (g, .inr (1, [.int o.1, .int o.2.1, .int o.2.2.1, .int o.2.2.2.1, .int o.2.2.2.2.1, .int o.2.2.2.2.2])), ((ad 14), .inr (5, [.ref (ad 15), .ref (ad 16), .ref (ad 17), .ref (ad 18)])), ((ad 15), .inl (cI, 3, .inl c4.1)), ((ad 16), .inl (cI, 3, .inl c4.2.1)), ((ad 17), .inl (cZ, 3, .inl c4.2.2.1)), ((ad 18), .inl (cI, 3, .inl (upd c4.2.2.2 r1.toNatClampNeg mm.2.2.2)))] H locs := hw
      refine lv_aload_n hx hb d_RD_makeRoomFor_83 rfl (lv_at hl 2 rfl) ?_
      refine lv_iconst (v := 0) hx hb d_RD_makeRoomFor_84 (by decide) ?_
      refine kx_call_v (wc := [(g, .inr (1, [.int o.1, .int o.2.1, .int o.2.2.1, .int o.2.2.2.1, .int o.2.2.2.2.1, .int o.2.2.2.2.2]))]) (wr := [((ad 0), .inr (0, [.int mm.1, .ref (ad 1), .ref (ad 6), .ref (ad 8), .ref (ad 10), .ref (ad 11), .ref (ad 12), .ref (ad 13), .ref (ad 14), .ref (ad 19), .ref (ad 20), .int mm.2.1, .int mm.2.2.1, .int mm.2.2.2])), ((ad 10), .inr (3, [.int dk.1, .int dk.2.1, .int dk.2.2.1, .int dk.2.2.2.1, .int dk.2.2.2.2.1, .int dk.2.2.2.2.2])), ((ad 12), .inr (4, [.int fr.1, .int fr.2.1, .int fr.2.2.1, .int fr.2.2.2.1, .int fr.2.2.2.2.1, .int fr.2.2.2.2.2.1, .int fr.2.2.2.2.2.2])), ((ad 14), .inr (5, [.ref (ad 15), .ref (ad 16), .ref (ad 17), .ref (ad 18)])), ((ad 15), .inl (cI, 3, .inl c4.1)), ((ad 16), .inl (cI, 3, .inl c4.2.1)), ((ad 17), .inl (cZ, 3, .inl c4.2.2.1)), ((ad 18), .inl (cI, 3, .inl (upd c4.2.2.2 r1.toNatClampNeg mm.2.2.2)))]) (rest := []) hw [3] [0, 1, 2, 4, 5, 6, 7, 8] rfl rfl (by decide) (by decide) (kx_runV S hw fc_RD_233 rfl 3 rfl [3] (by decide) rfl (c_Op_finish l D cI cZ cO g o 0 H.size) rfl hl.1 rfl (Nat.le_of_ble_eq_true rfl) d_RD_makeRoomFor_85 (by decide) (by decide)) (fun u5 H locs hp5 hw => ?_)
      obtain ⟨o5, rfl⟩ : ∃ z, z = u5 := ⟨_, rfl⟩
      have hw : kx_w D (kx_T cI cZ cO) A_ s_ [((ad 0), .inr (0, [.int mm.1, .ref (ad 1), .ref (ad 6), .ref (ad 8), .ref (ad 10), .ref (ad 11), .ref (ad 12), .ref (ad 13), .ref (ad 14), .ref (ad 19), .ref (ad 20), .int mm.2.1, .int mm.2.2.1, .int mm.2.2.2])), ((ad 10), .inr (3, [.int dk.1, .int dk.2.1, .int dk.2.2.1, .int dk.2.2.2.1, .int dk.2.2.2.2.1, .int dk.2.2.2.2.2])), ((ad 12), .inr (4, [.int fr.1, .int fr.2.1, .int fr.2.2.1, .int fr.2.2.2.1, .int fr.2.2.2.2.1, .int fr.2.2.2.2.2.1, .int fr.2.2.2.2.2.2])), ((ad 14), .inr (5, [.ref (ad 15), .ref (ad 16), .ref (ad 17), .ref (ad 18)])), ((ad 15), .inl (cI, 3, .inl c4.1)), ((ad 16), .inl (cI, 3, .inl c4.2.1)), ((ad 17), .inl (cZ, 3, .inl c4.2.2.1)), ((ad 18), .inl (cI, 3, .inl (upd c4.2.2.2 r1.toNatClampNeg mm.2.2.2))), (g, .inr (1, [.int o5.1, .int o5.2.1, .int o5.2.2.1, .int o5.2.2.2.1, .int o5.2.2.2.2.1, .int o5.2.2.2.2.2]))] H locs := hw
      refine lv_iconst (v := 1) hx hb d_RD_makeRoomFor_88 (by decide) ?_
      exact kx_ret_z I rfl hw (Or.inr rfl) (dk, fr, (c4.1, c4.2.1, c4.2.2.1, upd c4.2.2.2 r1.toNatClampNeg mm.2.2.2), o5) ⟨(by simp only [f_RD_makeRoomFor, ← hp1, if_pos h2, if_neg h3, ← hp4, ← hp5]), (Or.inr rfl)⟩ [0, 1, 2, 3, 4, 5, 6, 7, 8] (by decide) rfl d_RD_makeRoomFor_89
    · refine lv_aload_n hx hb d_RD_makeRoomFor_34 rfl (lv_at hl 1 rfl) ?_
      refine kx_get S hw fg_RD_48 0 rfl rfl d_RD_makeRoomFor_35 ?_
      refine lv_iload_n hx hb d_RD_makeRoomFor_38 rfl (lv_at hl 0 rfl) ?_
      refine kx_call_v (wc := [((ad 14), .inr (5, [.ref (ad 15), .ref (ad 16), .ref (ad 17), .ref (ad 18)])), ((ad 15), .inl (cI, 3, .inl ca.1)), ((ad 16), .inl (cI, 3, .inl ca.2.1)), ((ad 17), .inl (cZ, 3, .inl ca.2.2.1)), ((ad 18), .inl (cI, 3, .inl ca.2.2.2))]) (wr := [((ad 0), .inr (0, [.int mm.1, .ref (ad 1), .ref (ad 6), .ref (ad 8), .ref (ad 10), .ref (ad 11), .ref (ad 12), .ref (ad 13), .ref (ad 14), .ref (ad 19), .ref (ad 20), .int mm.2.1, .int mm.2.2.1, .int mm.2.2.2])), ((ad 10), .inr (3, [.int dk.1, .int dk.2.1, .int dk.2.2.1, .int dk.2.2.2.1, .int dk.2.2.2.2.1, .int dk.2.2.2.2.2])), ((ad 12), .inr (4, [.int fr.1, .int fr.2.1, .int fr.2.2.1, .int fr.2.2.2.1, .int fr.2.2.2.2.1, .int fr.2.2.2.2.2.1, .int fr.2.2.2.2.2.2])), (g, .inr (1, [.int o.1, .int o.2.1, .int o.2.2.1, .int o.2.2.2.1, .int o.2.2.2.2.1, .int o.2.2.2.2.2]))]) (rest := []) hw [4, 5, 6, 7, 8] [0, 1, 2, 3] rfl rfl (by decide) (by decide) (kx_runV S hw fc_RD_245 rfl 4 rfl [4, 5, 6, 7, 8] (by decide) rfl (c_Ca_empty l D cI cZ cO (ad 14) (ad 15) (ad 16) (ad 17) (ad 18) ca r1 (hs) H.size) rfl hl.1 rfl (Nat.le_of_ble_eq_true rfl) d_RD_makeRoomFor_39 (by decide) (by decide)) (fun u6 H locs hp6 hw => ?_)
      obtain ⟨c6, rfl⟩ : ∃ z, z = u6 := ⟨_, rfl⟩
      have hw : kx_w D (kx_T cI cZ cO) A_ s_ [((ad 0), .inr (0, [.int mm.1, .ref (ad 1), .ref (ad 6), .ref (ad 8), .ref (ad 10), .ref (ad 11), .ref (ad 12), .ref (ad 13), .ref (ad 14), .ref (ad 19), .ref (ad 20), .int mm.2.1, .int mm.2.2.1, .int mm.2.2.2])), ((ad 10), .inr (3, [.int dk.1, .int dk.2.1, .int dk.2.2.1, .int dk.2.2.2.1, .int dk.2.2.2.2.1, .int dk.2.2.2.2.2])), ((ad 12), .inr (4, [.int fr.1, .int fr.2.1, .int fr.2.2.1, .int fr.2.2.2.1, .int fr.2.2.2.2.1, .int fr.2.2.2.2.2.1, .int fr.2.2.2.2.2.2])), (g, .inr (1, [.int o.1, .int o.2.1, .int o.2.2.1, .int o.2.2.2.1, .int o.2.2.2.2.1, .int o.2.2.2.2.2])), ((ad 14), .inr (5, [.ref (ad 15), .ref (ad 16), .ref (ad 17), .ref (ad 18)])), ((ad 15), .inl (cI, 3, .inl c6.1)), ((ad 16), .inl (cI, 3, .inl c6.2.1)), ((ad 17), .inl (cZ, 3, .inl c6.2.2.1)), ((ad 18), .inl (cI, 3, .inl c6.2.2.2))] H locs := hw
      refine lv_aload_n hx hb d_RD_makeRoomFor_42 rfl (lv_at hl 1 rfl) ?_
      refine lv_aload_n hx hb d_RD_makeRoomFor_43 rfl (lv_at hl 2 rfl) ?_
      refine kx_get S hw fg_RD_222 3 rfl rfl d_RD_makeRoomFor_44 ?_
      refine lv_iload_n hx hb d_RD_makeRoomFor_47 rfl (lv_at hl 0 rfl) ?_
      refine kx_call_v (wc := [((ad 0), .inr (0, [.int mm.1, .ref (ad 1), .ref (ad 6), .ref (ad 8), .ref (ad 10), .ref (ad 11), .ref (ad 12), .ref (ad 13), .ref (ad 14), .ref (ad 19), .ref (ad 20), .int mm.2.1, .int mm.2.2.1, .int mm.2.2.2])), ((ad 10), .inr (3, [.int dk.1, .int dk.2.1, .int dk.2.2.1, .int dk.2.2.2.1, .int dk.2.2.2.2.1, .int dk.2.2.2.2.2])), ((ad 12), .inr (4, [.int fr.1, .int fr.2.1, .int fr.2.2.1, .int fr.2.2.2.1, .int fr.2.2.2.2.1, .int fr.2.2.2.2.2.1, .int fr.2.2.2.2.2.2]))]) (wr := [(g, .inr (1, [.int o.1, .int o.2.1, .int o.2.2.1, .int o.2.2.2.1, .int o.2.2.2.2.1, .int o.2.2.2.2.2])), ((ad 14), .inr (5, [.ref (ad 15), .ref (ad 16), .ref (ad 17), .ref (ad 18)])), ((ad 15), .inl (cI, 3, .inl c6.1)), ((ad 16), .inl (cI, 3, .inl c6.2.1)), ((ad 17), .inl (cZ, 3, .inl c6.2.2.1)), ((ad 18), .inl (cI, 3, .inl c6.2.2.2))]) (rest := []) hw [0, 1, 2] [3, 4, 5, 6, 7, 8] rfl rfl (by decide) (by decide) (kx_runV S hw fc_RD_248 rfl 0 rfl [0, 1, 2] (by decide) rfl (c_RD_askToReadIn l D cI cZ cO ad mm dk fr o.2.1 r1 H.size) rfl hl.1 rfl (Nat.le_of_ble_eq_true rfl) d_RD_makeRoomFor_48 (by decide) (by decide)) (fun u7 H locs hp7 hw => ?_)
      obtain ⟨dk7, fr7⟩ := u7
      have hw : kx_w D (kx_T cI cZ cO) A_ s_ [(g, .inr (1, [.int o.1, .int o.2.1, .int o.2.2.1, .int o.2.2.2.1, .int o.2.2.2.2.1, .int o.2.2.2.2.2])), ((ad 14), .inr (5, [.ref (ad 15), .ref (ad 16), .ref (ad 17), .ref (ad 18)])), ((ad 15), .inl (cI, 3, .inl c6.1)), ((ad 16), .inl (cI, 3, .inl c6.2.1)), ((ad 17), .inl (cZ, 3, .inl c6.2.2.1)), ((ad 18), .inl (cI, 3, .inl c6.2.2.2)), ((ad 0), .inr (0, [.int mm.1, .ref (ad 1), .ref (ad 6), .ref (ad 8), .ref (ad 10), .ref (ad 11), .ref (ad 12), .ref (ad 13), .ref (ad 14), .ref (ad 19), .ref (ad 20), .int mm.2.1, .int mm.2.2.1, .int mm.2.2.2])), ((ad 10), .inr (3, [.int dk7.1, .int dk7.2.1, .int dk7.2.2.1, .int dk7.2.2.2.1, .int dk7.2.2.2.2.1, .int dk7.2.2.2.2.2])), ((ad 12), .inr (4, [.int fr7.1, .int fr7.2.1, .int fr7.2.2.1, .int fr7.2.2.2.1, .int fr7.2.2.2.2.1, .int fr7.2.2.2.2.2.1, .int fr7.2.2.2.2.2.2]))] H locs := hw
      refine lv_iconst (v := 0) hx hb d_RD_makeRoomFor_51 (by decide) ?_
      exact kx_ret_z I rfl hw (Or.inl rfl) (dk7, fr7, c6, o) ⟨(by simp only [f_RD_makeRoomFor, ← hp1, if_pos h2, if_pos h3, ← hp6, ← hp7]), (Or.inl rfl)⟩ [6, 7, 8, 1, 2, 3, 4, 5, 0] (by decide) rfl d_RD_makeRoomFor_52
  · refine lv_aload_n hx hb d_RD_makeRoomFor_20 rfl (lv_at hl 1 rfl) ?_
    refine lv_iload_n hx hb d_RD_makeRoomFor_21 rfl (lv_at hl 0 rfl) ?_
    refine kx_call_v (wc := [((ad 0), .inr (0, [.int mm.1, .ref (ad 1), .ref (ad 6), .ref (ad 8), .ref (ad 10), .ref (ad 11), .ref (ad 12), .ref (ad 13), .ref (ad 14), .ref (ad 19), .ref (ad 20), .int mm.2.1, .int mm.2.2.1, .int mm.2.2.2])), ((ad 10), .inr (3, [.int dk.1, .int dk.2.1, .int dk.2.2.1, .int dk.2.2.2.1, .int dk.2.2.2.2.1, .int dk.2.2.2.2.2])), ((ad 12), .inr (4, [.int fr.1, .int fr.2.1, .int fr.2.2.1, .int fr.2.2.2.1, .int fr.2.2.2.2.1, .int fr.2.2.2.2.2.1, .int fr.2.2.2.2.2.2])), ((ad 14), .inr (5, [.ref (ad 15), .ref (ad 16), .ref (ad 17), .ref (ad 18)])), ((ad 15), .inl (cI, 3, .inl ca.1)), ((ad 16), .inl (cI, 3, .inl ca.2.1)), ((ad 17), .inl (cZ, 3, .inl ca.2.2.1)), ((ad 18), .inl (cI, 3, .inl ca.2.2.2))]) (wr := [(g, .inr (1, [.int o.1, .int o.2.1, .int o.2.2.1, .int o.2.2.2.1, .int o.2.2.2.2.1, .int o.2.2.2.2.2]))]) (rest := []) hw [0, 1, 2, 4, 5, 6, 7, 8] [3] rfl rfl (by decide) (by decide) (kx_runV S hw fc_RD_242 rfl 0 rfl [0, 1, 2, 4, 5, 6, 7, 8] (by decide) rfl (c_RD_askToWriteOut l D cI cZ cO ad mm dk fr ca r1 (hs) H.size) rfl hl.1 rfl (Nat.le_of_ble_eq_true rfl) d_RD_makeRoomFor_22 (by decide) (by decide)) (fun u8 H locs hp8 hw => ?_)
    obtain ⟨dk8, fr8⟩ := u8
    have hw : kx_w D (kx_T cI cZ cO) A_ s_ [(g, .inr (1, [.int o.1, .int o.2.1, .int o.2.2.1, .int o.2.2.2.1, .int o.2.2.2.2.1, .int o.2.2.2.2.2])), ((ad 0), .inr (0, [.int mm.1, .ref (ad 1), .ref (ad 6), .ref (ad 8), .ref (ad 10), .ref (ad 11), .ref (ad 12), .ref (ad 13), .ref (ad 14), .ref (ad 19), .ref (ad 20), .int mm.2.1, .int mm.2.2.1, .int mm.2.2.2])), ((ad 10), .inr (3, [.int dk8.1, .int dk8.2.1, .int dk8.2.2.1, .int dk8.2.2.2.1, .int dk8.2.2.2.2.1, .int dk8.2.2.2.2.2])), ((ad 12), .inr (4, [.int fr8.1, .int fr8.2.1, .int fr8.2.2.1, .int fr8.2.2.2.1, .int fr8.2.2.2.2.1, .int fr8.2.2.2.2.2.1, .int fr8.2.2.2.2.2.2])), ((ad 14), .inr (5, [.ref (ad 15), .ref (ad 16), .ref (ad 17), .ref (ad 18)])), ((ad 15), .inl (cI, 3, .inl ca.1)), ((ad 16), .inl (cI, 3, .inl ca.2.1)), ((ad 17), .inl (cZ, 3, .inl ca.2.2.1)), ((ad 18), .inl (cI, 3, .inl ca.2.2.2))] H locs := hw
    refine lv_iconst (v := 0) hx hb d_RD_makeRoomFor_25 (by decide) ?_
    exact kx_ret_z I rfl hw (Or.inl rfl) (dk8, fr8, ca, o) ⟨(by simp only [f_RD_makeRoomFor, ← hp1, if_neg h2, ← hp8]), (Or.inl rfl)⟩ [1, 2, 3, 4, 5, 6, 7, 8, 0] (by decide) rfl d_RD_makeRoomFor_26
end
section
theorem mm_320 : Cond.code ⟨"RebornDrivers$Cache", "dirtySlotOfLowestBlock", "()I"⟩ prog_2_method_4_code 3 (some .int) ∈ kx_tbl := List.mem_filter.mpr ⟨List.mem_append_right _ (List.mem_of_getElem? (i := 320) (by decide +kernel)), by decide +kernel⟩
theorem mm_317 : Cond.methodLinkNest "RebornDrivers" 252 ⟨"RebornDrivers$Cache", "dirtySlotOfLowestBlock", "()I"⟩ "RebornDrivers" ∈ kx_nl := List.mem_filter.mpr ⟨List.mem_append_right _ (List.mem_of_getElem? (i := 317) (by decide +kernel)), by decide +kernel⟩
theorem mm_319 : Cond.instanceMethod ⟨"RebornDrivers$Cache", "dirtySlotOfLowestBlock", "()I"⟩ ∈ kx_tbl := List.mem_filter.mpr ⟨List.mem_append_right _ (List.mem_of_getElem? (i := 319) (by decide +kernel)), by decide +kernel⟩
theorem mm_138 : Cond.fieldLinkNest "RebornDrivers" 255 "RebornDrivers$Operation" "writesAsked" "I" "RebornDrivers" ∈ kx_nl := List.mem_filter.mpr ⟨List.mem_append_right _ (List.mem_of_getElem? (i := 138) (by decide +kernel)), by decide +kernel⟩
theorem mm_333 : Cond.methodLinkNest "RebornDrivers" 223 ⟨"RebornDrivers$Cache", "find", "(I)I"⟩ "RebornDrivers" ∈ kx_nl := List.mem_filter.mpr ⟨List.mem_append_right _ (List.mem_of_getElem? (i := 333) (by decide +kernel)), by decide +kernel⟩
theorem mm_340 : Cond.code ⟨"RebornDrivers", "makeRoomFor", "(LRebornDrivers$Operation;)Z"⟩ prog_1_method_29_code 3 (some .boolean) ∈ kx_tbl := List.mem_filter.mpr ⟨List.mem_append_right _ (List.mem_of_getElem? (i := 340) (by decide +kernel)), by decide +kernel⟩
theorem mm_337 : Cond.methodLink "RebornDrivers" 227 ⟨"RebornDrivers", "makeRoomFor", "(LRebornDrivers$Operation;)Z"⟩ ∈ kx_tbl := List.mem_filter.mpr ⟨List.mem_append_right _ (List.mem_of_getElem? (i := 337) (by decide +kernel)), by decide +kernel⟩
theorem mm_339 : Cond.instanceMethod ⟨"RebornDrivers", "makeRoomFor", "(LRebornDrivers$Operation;)Z"⟩ ∈ kx_tbl := List.mem_filter.mpr ⟨List.mem_append_right _ (List.mem_of_getElem? (i := 339) (by decide +kernel)), by decide +kernel⟩
theorem mm_316 : Cond.code ⟨"RebornDrivers", "goOnWithSync", "(LRebornDrivers$Operation;)Z"⟩ prog_1_method_30_code 3 (some .boolean) ∈ kx_tbl := List.mem_filter.mpr ⟨List.mem_append_right _ (List.mem_of_getElem? (i := 316) (by decide +kernel)), by decide +kernel⟩
theorem mm_313 : Cond.methodLink "RebornDrivers" 219 ⟨"RebornDrivers", "goOnWithSync", "(LRebornDrivers$Operation;)Z"⟩ ∈ kx_tbl := List.mem_filter.mpr ⟨List.mem_append_right _ (List.mem_of_getElem? (i := 313) (by decide +kernel)), by decide +kernel⟩
theorem mm_315 : Cond.instanceMethod ⟨"RebornDrivers", "goOnWithSync", "(LRebornDrivers$Operation;)Z"⟩ ∈ kx_tbl := List.mem_filter.mpr ⟨List.mem_append_right _ (List.mem_of_getElem? (i := 315) (by decide +kernel)), by decide +kernel⟩
theorem sel_Ca_dirtySlotOfLowestBlock : Cond.selects "RebornDrivers$Cache" y_Ca_dirtySlotOfLowestBlock y_Ca_dirtySlotOfLowestBlock ∈ kx_tbl := List.mem_filter.mpr ⟨List.mem_append_left _ (by decide +kernel), by decide +kernel⟩
theorem fc_RD_252 : kx_m "RebornDrivers" 252 y_Ca_dirtySlotOfLowestBlock b_Ca_dirtySlotOfLowestBlock 3 (some .int) 0 ∧ Cond.instanceMethod y_Ca_dirtySlotOfLowestBlock ∈ kx_tbl ∧ Cond.selects "RebornDrivers$Cache" y_Ca_dirtySlotOfLowestBlock y_Ca_dirtySlotOfLowestBlock ∈ kx_tbl := ⟨⟨mm_320, mm_5, by decide +kernel, Or.inr ⟨_, mm_317⟩⟩, mm_319, sel_Ca_dirtySlotOfLowestBlock⟩
theorem fg_RD_255 : kx_f "RebornDrivers" 255 1 3 := ⟨R_Op, F_Op, 6, rfl, by decide, in_Op, Or.inr ⟨_, mm_138⟩⟩
theorem fp_RD_255 : kx_q "RebornDrivers" 255 1 3 (.int) := ⟨R_Op, F_Op, 6, t_Op, rfl, by decide, in_Op, Or.inr ⟨_, mm_138⟩, t_Op_ok, n_Op, rfl, by decide +kernel⟩
theorem fc_RD_223 : kx_m "RebornDrivers" 223 y_Ca_find b_Ca_find 3 (some .int) 1 ∧ Cond.instanceMethod y_Ca_find ∈ kx_tbl ∧ Cond.selects "RebornDrivers$Cache" y_Ca_find y_Ca_find ∈ kx_tbl := ⟨⟨mm_336, mm_5, by decide +kernel, Or.inr ⟨_, mm_333⟩⟩, mm_335, sel_Ca_find⟩
theorem sel_RD_makeRoomFor : Cond.selects "RebornDrivers" y_RD_makeRoomFor y_RD_makeRoomFor ∈ kx_tbl := List.mem_filter.mpr ⟨List.mem_append_left _ (by decide +kernel), by decide +kernel⟩
theorem fc_RD_227 : kx_m "RebornDrivers" 227 y_RD_makeRoomFor b_RD_makeRoomFor 3 (some .boolean) 1 ∧ Cond.instanceMethod y_RD_makeRoomFor ∈ kx_tbl ∧ Cond.selects "RebornDrivers" y_RD_makeRoomFor y_RD_makeRoomFor ∈ kx_tbl := ⟨⟨mm_340, mm_1, by decide +kernel, Or.inl mm_337⟩, mm_339, sel_RD_makeRoomFor⟩
theorem sel_RD_goOnWithSync : Cond.selects "RebornDrivers" y_RD_goOnWithSync y_RD_goOnWithSync ∈ kx_tbl := List.mem_filter.mpr ⟨List.mem_append_left _ (by decide +kernel), by decide +kernel⟩
theorem fc_RD_219 : kx_m "RebornDrivers" 219 y_RD_goOnWithSync b_RD_goOnWithSync 3 (some .boolean) 1 ∧ Cond.instanceMethod y_RD_goOnWithSync ∈ kx_tbl ∧ Cond.selects "RebornDrivers" y_RD_goOnWithSync y_RD_goOnWithSync ∈ kx_tbl := ⟨⟨mm_316, mm_1, by decide +kernel, Or.inl mm_313⟩, mm_315, sel_RD_goOnWithSync⟩

def f_RD_goOnWithSync (mm : kt_M) (dk : kt_Dr) (fr : kt_Rq) (ca : kt_Ca) (o : kt_Op) : Int32 × kt_Dr × kt_Rq × kt_Op :=
  match f_Ca_dirtySlotOfLowestBlock ca with
  | r1 => if r1 = (-1) then (match f_Op_finish o o.2.2.2.1 with
      | o4 => (1, dk, fr, o4))
    else match f_RD_askToWriteOut mm dk fr ca r1 with
    | (dk3, fr3) => (0, dk3, fr3, (o.1, o.2.1, o.2.2.1, o.2.2.2.1 + 1, o.2.2.2.2.1, o.2.2.2.2.2))
set_option maxHeartbeats 4000000 in
set_option maxRecDepth 100000 in
theorem c_RD_goOnWithSync (l : Launch) (D : va_G) (cI cZ cO : ClassId) (ad : Nat → Nat) (g : Nat) (mm : kt_M) (dk : kt_Dr) (fr : kt_Rq) (ca : kt_Ca) (o : kt_Op) : kx_Ci (S := kt_Dr × kt_Rq × kt_Op) l y_RD_goOnWithSync b_RD_goOnWithSync 3 (some .boolean) 2 0 0 D (kx_T cI cZ cO) [.ref (ad 0), .ref g] [((ad 0), .inr (0, [.int mm.1, .ref (ad 1), .ref (ad 6), .ref (ad 8), .ref (ad 10), .ref (ad 11), .ref (ad 12), .ref (ad 13), .ref (ad 14), .ref (ad 19), .ref (ad 20), .int mm.2.1, .int mm.2.2.1, .int mm.2.2.2])), ((ad 10), .inr (3, [.int dk.1, .int dk.2.1, .int dk.2.2.1, .int dk.2.2.2.1, .int dk.2.2.2.2.1, .int dk.2.2.2.2.2])), ((ad 12), .inr (4, [.int fr.1, .int fr.2.1, .int fr.2.2.1, .int fr.2.2.2.1, .int fr.2.2.2.2.1, .int fr.2.2.2.2.2.1, .int fr.2.2.2.2.2.2])), ((ad 14), .inr (5, [.ref (ad 15), .ref (ad 16), .ref (ad 17), .ref (ad 18)])), ((ad 15), .inl (cI, 3, .inl ca.1)), ((ad 16), .inl (cI, 3, .inl ca.2.1)), ((ad 17), .inl (cZ, 3, .inl ca.2.2.1)), ((ad 18), .inl (cI, 3, .inl ca.2.2.2)), (g, .inr (1, [.int o.1, .int o.2.1, .int o.2.2.1, .int o.2.2.2.1, .int o.2.2.2.2.1, .int o.2.2.2.2.2]))] (fun rr zz => (rr, zz) = f_RD_goOnWithSync mm dk fr ca o ∧ kx_b rr) (fun zz => [((ad 0), .inr (0, [.int mm.1, .ref (ad 1), .ref (ad 6), .ref (ad 8), .ref (ad 10), .ref (ad 11), .ref (ad 12), .ref (ad 13), .ref (ad 14), .ref (ad 19), .ref (ad 20), .int mm.2.1, .int mm.2.2.1, .int mm.2.2.2])), ((ad 10), .inr (3, [.int zz.1.1, .int zz.1.2.1, .int zz.1.2.2.1, .int zz.1.2.2.2.1, .int zz.1.2.2.2.2.1, .int zz.1.2.2.2.2.2])), ((ad 12), .inr (4, [.int zz.2.1.1, .int zz.2.1.2.1, .int zz.2.1.2.2.1, .int zz.2.1.2.2.2.1, .int zz.2.1.2.2.2.2.1, .int zz.2.1.2.2.2.2.2.1, .int zz.2.1.2.2.2.2.2.2])), ((ad 14), .inr (5, [.ref (ad 15), .ref (ad 16), .ref (ad 17), .ref (ad 18)])), ((ad 15), .inl (cI, 3, .inl ca.1)), ((ad 16), .inl (cI, 3, .inl ca.2.1)), ((ad 17), .inl (cZ, 3, .inl ca.2.2.1)), ((ad 18), .inl (cI, 3, .inl ca.2.2.2)), (g, .inr (1, [.int zz.2.2.1, .int zz.2.2.2.1, .int zz.2.2.2.2.1, .int zz.2.2.2.2.2.1, .int zz.2.2.2.2.2.2.1, .int zz.2.2.2.2.2.2.2]))]) := by
  refine kx_enter_i (by decide) (Nat.le_of_ble_eq_true rfl) ?_
  intro p_ e_ s_ m_ below_ meth_ c_ ls A_ H I hl hw
  have S := I.1
  have hx := S.1
  have hb := S.2.1
  have hl : lv_has ls 3 [(0, .ref (ad 0)), (1, .ref g)] := hl
  refine lv_aload_n hx hb d_RD_goOnWithSync_0 rfl (lv_at hl 0 rfl) ?_
  refine kx_get S hw fg_RD_48 0 rfl rfl d_RD_goOnWithSync_1 ?_
  refine kx_call_i (wc := [((ad 14), .inr (5, [.ref (ad 15), .ref (ad 16), .ref (ad 17), .ref (ad 18)])), ((ad 15), .inl (cI, 3, .inl ca.1)), ((ad 16), .inl (cI, 3, .inl ca.2.1)), ((ad 17), .inl (cZ, 3, .inl ca.2.2.1)), ((ad 18), .inl (cI, 3, .inl ca.2.2.2))]) (wr := [((ad 0), .inr (0, [.int mm.1, .ref (ad 1), .ref (ad 6), .ref (ad 8), .ref (ad 10), .ref (ad 11), .ref (ad 12), .ref (ad 13), .ref (ad 14), .ref (ad 19), .ref (ad 20), .int mm.2.1, .int mm.2.2.1, .int mm.2.2.2])), ((ad 10), .inr (3, [.int dk.1, .int dk.2.1, .int dk.2.2.1, .int dk.2.2.2.1, .int dk.2.2.2.2.1, .int dk.2.2.2.2.2])), ((ad 12), .inr (4, [.int fr.1, .int fr.2.1, .int fr.2.2.1, .int fr.2.2.2.1, .int fr.2.2.2.2.1, .int fr.2.2.2.2.2.1, .int fr.2.2.2.2.2.2])), (g, .inr (1, [.int o.1, .int o.2.1, .int o.2.2.1, .int o.2.2.2.1, .int o.2.2.2.2.1, .int o.2.2.2.2.2]))]) (rest := []) hw [3, 4, 5, 6, 7] [0, 1, 2, 8] rfl rfl (by decide) (by decide) (kx_runV S hw fc_RD_252 rfl 3 rfl [3, 4, 5, 6, 7] (by decide) rfl (c_Ca_dirtySlotOfLowestBlock l D cI cZ cO (ad 14) (ad 15) (ad 16) (ad 17) (ad 18) ca H.size) rfl hl.1 rfl (Nat.le_of_ble_eq_true rfl) d_RD_goOnWithSync_4 (by decide) (by decide)) (fun r1 u1 H locs hp1 hw => ?_)
  have hw : kx_w D (kx_T cI cZ cO) A_ s_ [((ad 0), .inr (0, [.int mm.1, .ref (ad 1), .ref (ad 6), .ref (ad 8), .ref (ad 10), .ref (ad 11), .ref (ad 12), .ref (ad 13), .ref (ad 14), .ref (ad 19), .ref (ad 20), .int mm.2.1, .int mm.2.2.1, .int mm.2.2.2])), ((ad 10), .inr (3, [.int dk.1, .int dk.2.1, .int dk.2.2.1, .int dk.2.2.2.1, .int dk.2.2.2.2.1, .int dk.2.2.2.2.2])), ((ad 12), .inr (4, [.int fr.1, .int fr.2.1, .int fr.2.2.1, .int fr.2.2.2.1, .int fr.2.2.2.2.1, .int fr.2.2.2.2.2.1, .int fr.2.2.2.2.2.2])), (g, .inr (1, [.int o.1, .int o.2.1, .int o.2.2.1, .int o.2.2.2.1, .int o.2.2.2.2.1, .int o.2.2.2.2.2])), ((ad 14), .inr (5, [.ref (ad 15), .ref (ad 16), .ref (ad 17), .ref (ad 18)])), ((ad 15), .inl (cI, 3, .inl ca.1)), ((ad 16), .inl (cI, 3, .inl ca.2.1)), ((ad 17), .inl (cZ, 3, .inl ca.2.2.1)), ((ad 18), .inl (cI, 3, .inl ca.2.2.2))] H locs := hw
  refine lv_istore_n (lv' := [(2, .int r1), (0, .ref (ad 0)), (1, .ref g)]) hx hb d_RD_goOnWithSync_7 rfl hl (by decide) rfl (fun ls hl => ?_)
  refine lv_iload_n hx hb d_RD_goOnWithSync_8 rfl (lv_at hl 0 rfl) ?_
  refine lv_iconst (v := (-1)) hx hb d_RD_goOnWithSync_9 (by decide) ?_
  refine lv_icmp_ne (tgt := 23) hx hb d_RD_goOnWithSync_10 (by decide) (fun h2 => ?_) (fun h2 => ?_)
  · refine lv_aload_n hx hb d_RD_goOnWithSync_23 rfl (lv_at hl 2 rfl) ?_
    refine lv_dup hx hb d_RD_goOnWithSync_24 rfl ?_
    refine kx_get S hw fg_RD_255 3 rfl rfl d_RD_goOnWithSync_25 ?_
    refine lv_iconst (v := 1) hx hb d_RD_goOnWithSync_28 (by decide) ?_
    refine lv_iadd hx hb d_RD_goOnWithSync_29 ?_
    refine kx_put S hw fp_RD_255 3 rfl rfl rfl (Nat.le_of_ble_eq_true rfl) d_RD_goOnWithSync_30 (fun H locs hw => ?_)
    have hw : kx_w D (kx_T cI cZ cO) A_ s_ [((ad 0), .inr (0, [.int mm.1, .ref (ad 1), .ref (ad 6), .ref (ad 8), .ref (ad 10), .ref (ad 11), .ref (ad 12), .ref (ad 13), .ref (ad 14), .ref (ad 19), .ref (ad 20), .int mm.2.1, .int mm.2.2.1, .int mm.2.2.2])), ((ad 10), .inr (3, [.int dk.1, .int dk.2.1, .int dk.2.2.1, .int dk.2.2.2.1, .int dk.2.2.2.2.1, .int dk.2.2.2.2.2])), ((ad 12), .inr (4, [.int fr.1, .int fr.2.1, .int fr.2.2.1, .int fr.2.2.2.1, .int fr.2.2.2.2.1, .int fr.2.2.2.2.2.1, .int fr.2.2.2.2.2.2])), (g, .inr (1, [.int o.1, .int o.2.1, .int o.2.2.1, .int (o.2.2.2.1 + 1), .int o.2.2.2.2.1, .int o.2.2.2.2.2])), ((ad 14), .inr (5, [.ref (ad 15), .ref (ad 16), .ref (ad 17), .ref (ad 18)])), ((ad 15), .inl (cI, 3, .inl ca.1)), ((ad 16), .inl (cI, 3, .inl ca.2.1)), ((ad 17), .inl (cZ, 3, .inl ca.2.2.1)), ((ad 18), .inl (cI, 3, .inl ca.2.2.2))] H locs := hw
    refine lv_aload_n hx hb d_RD_goOnWithSync_33 rfl (lv_at hl 1 rfl) ?_
    refine lv_iload_n hx hb d_RD_goOnWithSync_34 rfl (lv_at hl 0 rfl) ?_
    refine kx_call_v (wc := [((ad 0), .inr (0, [.int mm.1, .ref (ad 1), .ref (ad 6), .ref (ad 8), .ref (ad 10), .ref (ad 11), .ref (ad 12), .ref (ad 13), .ref (ad 14), .ref (ad 19), .ref (ad 20), .int mm.2.1, .int mm.2.2.1, .int mm.2.2.2])), ((ad 10), .inr (3, [.int dk.1, .int dk.2.1, .int dk.2.2.1, .int dk.2.2.2.1, .int dk.2.2.2.2.1, .int dk.2.2.2.2.2])), ((ad 12), .inr (4, [.int fr.1, .int fr.2.1, .int fr.2.2.1, .int fr.2.2.2.1, .int fr.2.2.2.2.1, .int fr.2.2.2.2.2.1, .int fr.2.2.2.2.2.2])), ((ad 14), .inr (5, [.ref (ad 15), .ref (ad 16), .ref (ad 17), .ref (ad 18)])), ((ad 15), .inl (cI, 3, .inl ca.1)), ((ad 16), .inl (cI, 3, .inl ca.2.1)), ((ad 17), .inl (cZ, 3, .inl ca.2.2.1)), ((ad 18), .inl (cI, 3, .inl ca.2.2.2))]) (wr := [(g, .inr (1, [.int o.1, .int o.2.1, .int o.2.2.1, .int (o.2.2.2.1 + 1), .int o.2.2.2.2.1, .int o.2.2.2.2.2]))]) (rest := []) hw [0, 1, 2, 4, 5, 6, 7, 8] [3] rfl rfl (by decide) (by decide) (kx_runV S hw fc_RD_242 rfl 0 rfl [0, 1, 2, 4, 5, 6, 7, 8] (by decide) rfl (c_RD_askToWriteOut l D cI cZ cO ad mm dk fr ca r1 (by rw [hp1]; exact l_dsl (hp1 ▸ h2)) H.size) rfl hl.1 rfl (Nat.le_of_ble_eq_true rfl) d_RD_goOnWithSync_35 (by decide) (by decide)) (fun u3 H locs hp3 hw => ?_)
    obtain ⟨dk3, fr3⟩ := u3
    have hw : kx_w D (kx_T cI cZ cO) A_ s_ [(g, .inr (1, [.int o.1, .int o.2.1, .int o.2.2.1, .int (o.2.2.2.1 + 1), .int o.2.2.2.2.1, .int o.2.2.2.2.2])), ((ad 0), .inr (0, [.int mm.1, .ref (ad 1), .ref (ad 6), .ref (ad 8), .ref (ad 10), .ref (ad 11), .ref (ad 12), .ref (ad 13), .ref (ad 14), .ref (ad 19), .ref (ad 20), .int mm.2.1, .int mm.2.2.1, .int mm.2.2.2])), ((ad 10), .inr (3, [.int dk3.1, .int dk3.2.1, .int dk3.2.2.1, .int dk3.2.2.2.1, .int dk3.2.2.2.2.1, .int dk3.2.2.2.2.2])), ((ad 12), .inr (4, [.int fr3.1, .int fr3.2.1, .int fr3.2.2.1, .int fr3.2.2.2.1, .int fr3.2.2.2.2.1, .int fr3.2.2.2.2.2.1, .int fr3.2.2.2.2.2.2])), ((ad 14), .inr (5, [.ref (ad 15), .ref (ad 16), .ref (ad 17), .ref (ad 18)])), ((ad 15), .inl (cI, 3, .inl ca.1)), ((ad 16), .inl (cI, 3, .inl ca.2.1)), ((ad 17), .inl (cZ, 3, .inl ca.2.2.1)), ((ad 18), .inl (cI, 3, .inl ca.2.2.2))] H locs := hw
    refine lv_iconst (v := 0) hx hb d_RD_goOnWithSync_38 (by decide) ?_
    exact kx_ret_z I rfl hw (Or.inl rfl) (dk3, fr3, (o.1, o.2.1, o.2.2.1, o.2.2.2.1 + 1, o.2.2.2.2.1, o.2.2.2.2.2)) ⟨(by simp only [f_RD_goOnWithSync, ← hp1, if_neg h2, ← hp3]), (Or.inl rfl)⟩ [1, 2, 3, 4, 5, 6, 7, 8, 0] (by decide) rfl d_RD_goOnWithSync_39
  · refine lv_aload_n hx hb d_RD_goOnWithSync_13 rfl (lv_at hl 2 rfl) ?_
    refine lv_aload_n hx hb d_RD_goOnWithSync_14 rfl (lv_at hl 2 rfl) ?_
    refine kx_get S hw fg_RD_255 3 rfl rfl d_RD_goOnWithSync_15 ?_
    refine kx_call_v (wc := [(g, .inr (1, [.int o.1, .int o.2.1, .int o.2.2.1, .int o.2.2.2.1, .int o.2.2.2.2.1, .int o.2.2.2.2.2]))]) (wr := [((ad 0), .inr (0, [.int mm.1, .ref (ad 1), .ref (ad 6), .ref (ad 8), .ref (ad 10), .ref (ad 11), .ref (ad 12), .ref (ad 13), .ref (ad 14), .ref (ad 19), .ref (ad 20), .int mm.2.1, .int mm.2.2.1, .int mm.2.2.2])), ((ad 10), .inr (3, [.int dk.1, .int dk.2.1, .int dk.2.2.1, .int dk.2.2.2.1, .int dk.2.2.2.2.1, .int dk.2.2.2.2.2])), ((ad 12), .inr (4, [.int fr.1, .int fr.2.1, .int fr.2.2.1, .int fr.2.2.2.1, .int fr.2.2.2.2.1, .int fr.2.2.2.2.2.1, .int fr.2.2.2.2.2.2])), ((ad 14), .inr (5, [.ref (ad 15), .ref (ad 16), .ref (ad 17), .ref (ad 18)])), ((ad 15), .inl (cI, 3, .inl ca.1)), ((ad 16), .inl (cI, 3, .inl ca.2.1)), ((ad 17), .inl (cZ, 3, .inl ca.2.2.1)), ((ad 18), .inl (cI, 3, .inl ca.2.2.2))]) (rest := []) hw [3] [0, 1, 2, 4, 5, 6, 7, 8] rfl rfl (by decide) (by decide) (kx_runV S hw fc_RD_233 rfl 3 rfl [3] (by decide) rfl (c_Op_finish l D cI cZ cO g o o.2.2.2.1 H.size) rfl hl.1 rfl (Nat.le_of_ble_eq_true rfl) d_RD_goOnWithSync_18 (by decide) (by decide)) (fun u4 H locs hp4 hw => ?_)
    obtain ⟨o4, rfl⟩ : ∃ z, z = u4 := ⟨_, rfl⟩
    have hw : kx_w D (kx_T cI cZ cO) A_ s_ [((ad 0), .inr (0, [.int mm.1, .ref (ad 1), .ref (ad 6), .ref (ad 8), .ref (ad 10), .ref (ad 11), .ref (ad 12), .ref (ad 13), .ref (ad 14), .ref (ad 19), .ref (ad 20), .int mm.2.1, .int mm.2.2.1, .int mm.2.2.2])), ((ad 10), .inr (3, [.int dk.1, .int dk.2.1, .int dk.2.2.1, .int dk.2.2.2.1, .int dk.2.2.2.2.1, .int dk.2.2.2.2.2])), ((ad 12), .inr (4, [.int fr.1, .int fr.2.1, .int fr.2.2.1, .int fr.2.2.2.1, .int fr.2.2.2.2.1, .int fr.2.2.2.2.2.1, .int fr.2.2.2.2.2.2])), ((ad 14), .inr (5, [.ref (ad 15), .ref (ad 16), .ref (ad 17), .ref (ad 18)])), ((ad 15), .inl (cI, 3, .inl ca.1)), ((ad 16), .inl (cI, 3, .inl ca.2.1)), ((ad 17), .inl (cZ, 3, .inl ca.2.2.1)), ((ad 18), .inl (cI, 3, .inl ca.2.2.2)), (g, .inr (1, [.int o4.1, .int o4.2.1, .int o4.2.2.1, .int o4.2.2.2.1, .int o4.2.2.2.2.1, .int o4.2.2.2.2.2]))] H locs := hw
    refine lv_iconst (v := 1) hx hb d_RD_goOnWithSync_21 (by decide) ?_
    exact kx_ret_z I rfl hw (Or.inr rfl) (dk, fr, o4) ⟨(by simp only [f_RD_goOnWithSync, ← hp1, if_pos h2, ← hp4]), (Or.inr rfl)⟩ [0, 1, 2, 3, 4, 5, 6, 7, 8] (by decide) rfl d_RD_goOnWithSync_22
def f_RD_goOnWith (mm : kt_M) (dk : kt_Dr) (fr : kt_Rq) (ca : kt_Ca) (o : kt_Op) : Int32 × kt_Dr × kt_Rq × kt_Ca × kt_Op :=
  if o.1 = 2 then (match f_RD_goOnWithSync mm dk fr ca o with
    | (r9, dk9, fr9, o9) => (r9, dk9, fr9, ca, o9))
  else match f_Ca_find ca o.2.1 with
  | r2 => if r2 = (-1) then (match f_RD_makeRoomFor mm dk fr ca o with
      | (r8, dk8, fr8, ca8, o8) => (r8, dk8, fr8, ca8, o8))
    else if o.1 = 0 then (match f_Op_finish o (ca.2.1 r2.toNatClampNeg) with
      | o7 => (1, dk, fr, (ca.1, ca.2.1, ca.2.2.1, upd ca.2.2.2 r2.toNatClampNeg mm.2.2.2), o7))
    else match f_Ca_hold (ca.1, ca.2.1, ca.2.2.1, upd ca.2.2.2 r2.toNatClampNeg mm.2.2.2) r2 o.2.1 o.2.2.1 1 with
    | c5 => match f_Op_finish o 0 with
      | o6 => (1, dk, fr, c5, o6)
set_option maxHeartbeats 4000000 in
set_option maxRecDepth 100000 in
theorem c_RD_goOnWith (l : Launch) (D : va_G) (cI cZ cO : ClassId) (ad : Nat → Nat) (g : Nat) (mm : kt_M) (dk : kt_Dr) (fr : kt_Rq) (ca : kt_Ca) (o : kt_Op) : kx_Ci (S := kt_Dr × kt_Rq × kt_Ca × kt_Op) l y_RD_goOnWith b_RD_goOnWith 3 (some .boolean) 3 0 0 D (kx_T cI cZ cO) [.ref (ad 0), .ref g] [((ad 0), .inr (0, [.int mm.1, .ref (ad 1), .ref (ad 6), .ref (ad 8), .ref (ad 10), .ref (ad 11), .ref (ad 12), .ref (ad 13), .ref (ad 14), .ref (ad 19), .ref (ad 20), .int mm.2.1, .int mm.2.2.1, .int mm.2.2.2])), ((ad 10), .inr (3, [.int dk.1, .int dk.2.1, .int dk.2.2.1, .int dk.2.2.2.1, .int dk.2.2.2.2.1, .int dk.2.2.2.2.2])), ((ad 12), .inr (4, [.int fr.1, .int fr.2.1, .int fr.2.2.1, .int fr.2.2.2.1, .int fr.2.2.2.2.1, .int fr.2.2.2.2.2.1, .int fr.2.2.2.2.2.2])), ((ad 14), .inr (5, [.ref (ad 15), .ref (ad 16), .ref (ad 17), .ref (ad 18)])), ((ad 15), .inl (cI, 3, .inl ca.1)), ((ad 16), .inl (cI, 3, .inl ca.2.1)), ((ad 17), .inl (cZ, 3, .inl ca.2.2.1)), ((ad 18), .inl (cI, 3, .inl ca.2.2.2)), (g, .inr (1, [.int o.1, .int o.2.1, .int o.2.2.1, .int o.2.2.2.1, .int o.2.2.2.2.1, .int o.2.2.2.2.2]))] (fun rr zz => (rr, zz) = f_RD_goOnWith mm dk fr ca o ∧ kx_b rr) (fun zz => [((ad 0), .inr (0, [.int mm.1, .ref (ad 1), .ref (ad 6), .ref (ad 8), .ref (ad 10), .ref (ad 11), .ref (ad 12), .ref (ad 13), .ref (ad 14), .ref (ad 19), .ref (ad 20), .int mm.2.1, .int mm.2.2.1, .int mm.2.2.2])), ((ad 10), .inr (3, [.int zz.1.1, .int zz.1.2.1, .int zz.1.2.2.1, .int zz.1.2.2.2.1, .int zz.1.2.2.2.2.1, .int zz.1.2.2.2.2.2])), ((ad 12), .inr (4, [.int zz.2.1.1, .int zz.2.1.2.1, .int zz.2.1.2.2.1, .int zz.2.1.2.2.2.1, .int zz.2.1.2.2.2.2.1, .int zz.2.1.2.2.2.2.2.1, .int zz.2.1.2.2.2.2.2.2])), ((ad 14), .inr (5, [.ref (ad 15), .ref (ad 16), .ref (ad 17), .ref (ad 18)])), ((ad 15), .inl (cI, 3, .inl zz.2.2.1.1)), ((ad 16), .inl (cI, 3, .inl zz.2.2.1.2.1)), ((ad 17), .inl (cZ, 3, .inl zz.2.2.1.2.2.1)), ((ad 18), .inl (cI, 3, .inl zz.2.2.1.2.2.2)), (g, .inr (1, [.int zz.2.2.2.1, .int zz.2.2.2.2.1, .int zz.2.2.2.2.2.1, .int zz.2.2.2.2.2.2.1, .int zz.2.2.2.2.2.2.2.1, .int zz.2.2.2.2.2.2.2.2]))]) := by
  refine kx_enter_i (by decide) (Nat.le_of_ble_eq_true rfl) ?_
  intro p_ e_ s_ m_ below_ meth_ c_ ls A_ H I hl hw
  have S := I.1
  have hx := S.1
  have hb := S.2.1
  have hl : lv_has ls 3 [(0, .ref (ad 0)), (1, .ref g)] := hl
  refine lv_aload_n hx hb d_RD_goOnWith_0 rfl (lv_at hl 1 rfl) ?_
  refine kx_get S hw fg_RD_218 8 rfl rfl d_RD_goOnWith_1 ?_
  refine lv_iconst (v := 2) hx hb d_RD_goOnWith_4 (by decide) ?_
  refine lv_icmp_ne (tgt := 14) hx hb d_RD_goOnWith_5 (by decide) (fun h1 => ?_) (fun h1 => ?_)
  · refine lv_aload_n hx hb d_RD_goOnWith_14 rfl (lv_at hl 0 rfl) ?_
    refine kx_get S hw fg_RD_48 0 rfl rfl d_RD_goOnWith_15 ?_
    refine lv_aload_n hx hb d_RD_goOnWith_18 rfl (lv_at hl 1 rfl) ?_
    refine kx_get S hw fg_RD_222 8 rfl rfl d_RD_goOnWith_19 ?_
    refine kx_call_i (wc := [((ad 14), .inr (5, [.ref (ad 15), .ref (ad 16), .ref (ad 17), .ref (ad 18)])), ((ad 15), .inl (cI, 3, .inl ca.1)), ((ad 16), .inl (cI, 3, .inl ca.2.1)), ((ad 17), .inl (cZ, 3, .inl ca.2.2.1)), ((ad 18), .inl (cI, 3, .inl ca.2.2.2))]) (wr := [((ad 0), .inr (0, [.int mm.1, .ref (ad 1), .ref (ad 6), .ref (ad 8), .ref (ad 10), .ref (ad 11), .ref (ad 12), .ref (ad 13), .ref (ad 14), .ref (ad 19), .ref (ad 20), .int mm.2.1, .int mm.2.2.1, .int mm.2.2.2])), ((ad 10), .inr (3, [.int dk.1, .int dk.2.1, .int dk.2.2.1, .int dk.2.2.2.1, .int dk.2.2.2.2.1, .int dk.2.2.2.2.2])), ((ad 12), .inr (4, [.int fr.1, .int fr.2.1, .int fr.2.2.1, .int fr.2.2.2.1, .int fr.2.2.2.2.1, .int fr.2.2.2.2.2.1, .int fr.2.2.2.2.2.2])), (g, .inr (1, [.int o.1, .int o.2.1, .int o.2.2.1, .int o.2.2.2.1, .int o.2.2.2.2.1, .int o.2.2.2.2.2]))]) (rest := []) hw [3, 4, 5, 6, 7] [0, 1, 2, 8] rfl rfl (by decide) (by decide) (kx_runV S hw fc_RD_223 rfl 3 rfl [3, 4, 5, 6, 7] (by decide) rfl (c_Ca_find l D cI cZ cO (ad 14) (ad 15) (ad 16) (ad 17) (ad 18) ca o.2.1 H.size) rfl hl.1 rfl (Nat.le_of_ble_eq_true rfl) d_RD_goOnWith_22 (by decide) (by decide)) (fun r2 u2 H locs hp2 hw => ?_)
    have hw : kx_w D (kx_T cI cZ cO) A_ s_ [((ad 0), .inr (0, [.int mm.1, .ref (ad 1), .ref (ad 6), .ref (ad 8), .ref (ad 10), .ref (ad 11), .ref (ad 12), .ref (ad 13), .ref (ad 14), .ref (ad 19), .ref (ad 20), .int mm.2.1, .int mm.2.2.1, .int mm.2.2.2])), ((ad 10), .inr (3, [.int dk.1, .int dk.2.1, .int dk.2.2.1, .int dk.2.2.2.1, .int dk.2.2.2.2.1, .int dk.2.2.2.2.2])), ((ad 12), .inr (4, [.int fr.1, .int fr.2.1, .int fr.2.2.1, .int fr.2.2.2.1, .int fr.2.2.2.2.1, .int fr.2.2.2.2.2.1, .int fr.2.2.2.2.2.2])), (g, .inr (1, [.int o.1, .int o.2.1, .int o.2.2.1, .int o.2.2.2.1, .int o.2.2.2.2.1, .int o.2.2.2.2.2])), ((ad 14), .inr (5, [.ref (ad 15), .ref (ad 16), .ref (ad 17), .ref (ad 18)])), ((ad 15), .inl (cI, 3, .inl ca.1)), ((ad 16), .inl (cI, 3, .inl ca.2.1)), ((ad 17), .inl (cZ, 3, .inl ca.2.2.1)), ((ad 18), .inl (cI, 3, .inl ca.2.2.2))] H locs := hw
    refine lv_istore_n (lv' := [(2, .int r2), (0, .ref (ad 0)), (1, .ref g)]) hx hb d_RD_goOnWith_25 rfl hl (by decide) rfl (fun ls hl => ?_)
    refine lv_iload_n hx hb d_RD_goOnWith_26 rfl (lv_at hl 0 rfl) ?_
    refine lv_iconst (v := (-1)) hx hb d_RD_goOnWith_27 (by decide) ?_
    refine lv_icmp_ne (tgt := 37) hx hb d_RD_goOnWith_28 (by decide) (fun h3 => ?_) (fun h3 => ?_)
    · refine lv_aload_n hx hb d_RD_goOnWith_37 rfl (lv_at hl 1 rfl) ?_
      refine kx_get S hw fg_RD_48 0 rfl rfl d_RD_goOnWith_38 ?_
      refine kx_get S hw fg_RD_230 4 rfl rfl d_RD_goOnWith_41 ?_
      refine lv_iload_n hx hb d_RD_goOnWith_44 rfl (lv_at hl 0 rfl) ?_
      refine lv_aload_n hx hb d_RD_goOnWith_45 rfl (lv_at hl 1 rfl) ?_
      refine kx_get S hw fg_RD_79 0 rfl rfl d_RD_goOnWith_46 ?_
      refine kx_iast S hw 8 0 rfl rfl (j := r2.toNatClampNeg) rfl (by rw [hp2]; exact l_find (hp2 ▸ h3)) d_RD_goOnWith_49 (fun H locs hw => ?_)
      have hw : kx_w D (kx_T cI cZ cO) A_ s_ [((ad 0), .inr (0, [.int mm.1, .ref (ad 1), .ref (ad 6), .ref (ad 8), .ref (ad 10), .ref (ad 11), .ref (ad 12), .ref (ad 13), .ref (ad 14), .ref (ad 19), .ref (ad 20), .int mm.2.1, .int mm.2.2.1, .int mm.2.2.2])), ((ad 10), .inr (3, [.int dk.1, .int dk.2.1, .int dk.2.2.1, .int dk.2.2.2.1, .int dk.2.2.2.2.1, .int dk.2.2.2.2.2])), ((ad 12), .inr (4, [.int fr.1, .int fr.2.1, .int fr.2.2.1, .int fr.2.2.2.1, .int fr.2.2.2.2.1, .int fr.2.2.2.2.2.1, .int fr.2.2.2.2.2.2])), (g, .inr (1, [.int o.1, .int o.2.1, .int o.2.2.1, .int o.2.2.2.1, .int o.2.2.2.2.1, .int o.2.2.2.2.2])), ((ad 14), .inr (5, [.ref (ad 15), .ref (ad 16), .ref (ad 17), .ref (ad 18)])), ((ad 15), .inl (cI, 3, .inl ca.1)), ((ad 16), .inl (cI, 3, .inl ca.2.1)), ((ad 17), .inl (cZ, 3, .inl ca.2.2.1)), ((ad 18), .inl (cI, 3, .inl (upd ca.2.2.2 r2.toNatClampNeg mm.2.2.2)))] H locs := hw
      refine lv_aload_n hx hb d_RD_goOnWith_50 rfl (lv_at hl 2 rfl) ?_
      refine kx_get S hw fg_RD_218 3 rfl rfl d_RD_goOnWith_51 ?_
      refine lv_if_ne (tgt := 73) hx hb d_RD_goOnWith_54 (by decide) (fun h4 => ?_) (fun h4 => ?_)
      · refine lv_aload_n hx hb d_RD_goOnWith_73 rfl (lv_at hl 1 rfl) ?_
        refine kx_get S hw fg_RD_48 0 rfl rfl d_RD_goOnWith_74 ?_
        refine lv_iload_n hx hb d_RD_goOnWith_77 rfl (lv_at hl 0 rfl) ?_
        refine lv_aload_n hx hb d_RD_goOnWith_78 rfl (lv_at hl 2 rfl) ?_
        refine kx_get S hw fg_RD_222 3 rfl rfl d_RD_goOnWith_79 ?_
        refine lv_aload_n hx hb d_RD_goOnWith_82 rfl (lv_at hl 2 rfl) ?_
        refine kx_get S hw fg_RD_236 3 rfl rfl d_RD_goOnWith_83 ?_
        refine lv_iconst (v := 1) hx hb d_RD_goOnWith_86 (by decide) ?_
        refine kx_call_v (wc := [((ad 14), .inr (5, [.ref (ad 15), .ref (ad 16), .ref (ad 17), .ref (ad 18)])), ((ad 15), .inl (cI, 3, .inl ca.1)), ((ad 16), .inl (cI, 3, .inl ca.2.1)), ((ad 17), .inl (cZ, 3, .inl ca.2.2.1)), ((ad 18), .inl (cI, 3, .inl (upd ca.2.2.2 r2.toNatClampNeg mm.2.2.2)))]) (wr := [((ad 0), .inr (0, [.int mm.1, .ref (ad 1), .ref (ad 6), .ref (ad 8), .ref (ad 10), .ref (ad 11), .ref (ad 12), .ref (ad 13), .ref (ad 14), .ref (ad 19), .ref (ad 20), .int mm.2.1, .int mm.2.2.1, .int mm.2.2.2])), ((ad 10), .inr (3, [.int dk.1, .int dk.2.1, .int dk.2.2.1, .int dk.2.2.2.1, .int dk.2.2.2.2.1, .int dk.2.2.2.2.2])), ((ad 12), .inr (4, [.int fr.1, .int fr.2.1, .int fr.2.2.1, .int fr.2.2.2.1, .int fr.2.2.2.2.1, .int fr.2.2.2.2.2.1, .int fr.2.2.2.2.2.2])), (g, .inr (1, [.int o.1, .int o.2.1, .int o.2.2.1, .int o.2.2.2.1, .int o.2.2.2.2.1, .int o.2.2.2.2.2]))]) (rest := []) hw [4, 5, 6, 7, 8] [0, 1, 2, 3] rfl rfl (by decide) (by decide) (kx_runV S hw fc_RD_211 rfl 4 rfl [4, 5, 6, 7, 8] (by decide) rfl (c_Ca_hold l D cI cZ cO (ad 14) (ad 15) (ad 16) (ad 17) (ad 18) (ca.1, ca.2.1, ca.2.2.1, upd ca.2.2.2 r2.toNatClampNeg mm.2.2.2) r2 o.2.1 o.2.2.1 1 (by rw [hp2]; exact l_find (hp2 ▸ h3)) (Or.inr rfl) H.size) rfl hl.1 rfl (Nat.le_of_ble_eq_true rfl) d_RD_goOnWith_87 (by decide) (by decide)) (fun u5 H locs hp5 hw => ?_)
        obtain ⟨c5, rfl⟩ : ∃ z, z = u5 := ⟨_, rfl⟩
        have hw : kx_w D (kx_T cI cZ cO) A_ s_ [((ad 0), .inr (0, [.int mm.1, .ref (ad 1), .ref (ad 6), .ref (ad 8), .ref (ad 10), .ref (ad 11), .ref (ad 12), .ref (ad 13), .ref (ad 14), .ref (ad 19), .ref (ad 20), .int mm.2.1, .int mm.2.2.1, .int mm.2.2.2])), ((ad 10), .inr (3, [.int dk.1, .int dk.2.1, .int dk.2.2.1, .int dk.2.2.2.1, .int dk.2.2.2.2.1, .int dk.2.2.2.2.2])), ((ad 12), .inr (4, [.int fr.1, .int fr.2.1, .int fr.2.2.1, .int fr.2.2.2.1, .int fr.2.2.2.2.1, .int fr.2.2.2.2.2.1, .int fr.2.2.2.2.2.2])), (g, .inr (1, [.int o.1, .int o.2.1, .int o.2.2.1, .int o.2.2.2.1, .int o.2.2.2.2.1, .int o.2.2.2.2.2])), ((ad 14), .inr (5, [.ref (ad 15), .ref (ad 16), .ref (ad 17), .ref (ad 18)])), ((ad 15), .inl (cI, 3, .inl c5.1)), ((ad 16), .inl (cI, 3, .inl c5.2.1)), ((ad 17), .inl (cZ, 3, .inl c5.2.2.1)), ((ad 18), .inl (cI, 3, .inl c5.2.2.2))] H locs := hw
        refine lv_aload_n hx hb d_RD_goOnWith_90 rfl (lv_at hl 2 rfl) ?_
        refine lv_iconst (v := 0) hx hb d_RD_goOnWith_91 (by decide) ?_
        refine kx_call_v (wc := [(g, .inr (1, [.int o.1, .int o.2.1, .int o.2.2.1, .int o.2.2.2.1, .int o.2.2.2.2.1, .int o.2.2.2.2.2]))]) (wr := [((ad 0), .inr (0, [.int mm.1, .ref (ad 1), .ref (ad 6), .ref (ad 8), .ref (ad 10), .ref (ad 11), .ref (ad 12), .ref (ad 13), .ref (ad 14), .ref (ad 19), .ref (ad 20), .int mm.2.1, .int mm.2.2.1, .int mm.2.2.2])), ((ad 10), .inr (3, [.int dk.1, .int dk.2.1, .int dk.2.2.1, .int dk.2.2.2.1, .int dk.2.2.2.2.1, .int dk.2.2.2.2.2])), ((ad 12), .inr (4, [.int fr.1, .int fr.2.1, .int fr.2.2.1, .int fr.2.2.2.1, .int fr.2.2.2.2.1, .int fr.2.2.2.2.2.1, .int fr.2.2.2.2.2.2])), ((ad 14), .inr (5, [.ref (ad 15), .ref (ad 16), .ref (ad 17), .ref (ad 18)])), ((ad 15), .inl (cI, 3, .inl c5.1)), ((ad 16), .inl (cI, 3, .inl c5.2.1)), ((ad 17), .inl (cZ, 3, .inl c5.2.2.1)), ((ad 18), .inl (cI, 3, .inl c5.2.2.2))]) (rest := []) hw [3] [0, 1, 2, 4, 5, 6, 7, 8] rfl rfl (by decide) (by decide) (kx_runV S hw fc_RD_233 rfl 3 rfl [3] (by decide) rfl (c_Op_finish l D cI cZ cO g o 0 H.size) rfl hl.1 rfl (Nat.le_of_ble_eq_true rfl) d_RD_goOnWith_92 (by decide) (by decide)) (fun u6 H locs hp6 hw => ?_)
        obtain ⟨o6, rfl⟩ : ∃ z, z = u6 := ⟨_, rfl⟩
        have hw : kx_w D (kx_T cI cZ cO) A_ s_ [((ad 0), .inr (0, [.int mm.1, .ref (ad 1), .ref (ad 6), .ref (ad 8), .ref (ad 10), .ref (ad 11), .ref (ad 12), .ref (ad 13), .ref (ad 14), .ref (ad 19), .ref (ad 20), .int mm.2.1, .int mm.2.2.1, .int mm.2.2.2])), ((ad 10), .inr (3, [.int dk.1, .int dk.2.1, .int dk.2.2.1, .int dk.2.2.2.1, .int dk.2.2.2.2.1, .int dk.2.2.2.2.2])), ((ad 12), .inr (4, [.int fr.1, .int fr.2.1, .int fr.2.2.1, .int fr.2.2.2.1, .int fr.2.2.2.2.1, .int fr.2.2.2.2.2.1, .int fr.2.2.2.2.2.2])), ((ad 14), .inr (5, [.ref (ad 15), .ref (ad 16), .ref (ad 17), .ref (ad 18)])), ((ad 15), .inl (cI, 3, .inl c5.1)), ((ad 16), .inl (cI, 3, .inl c5.2.1)), ((ad 17), .inl (cZ, 3, .inl c5.2.2.1)), ((ad 18), .inl (cI, 3, .inl c5.2.2.2)), (g, .inr (1, [.int o6.1, .int o6.2.1, .int o6.2.2.1, .int o6.2.2.2.1, .int o6.2.2.2.2.1, .int o6.2.2.2.2.2]))] H locs := hw
        refine lv_iconst (v := 1) hx hb d_RD_goOnWith_95 (by decide) ?_
        exact kx_ret_z I rfl hw (Or.inr rfl) (dk, fr, c5, o6) ⟨(by simp only [f_RD_goOnWith, if_neg h1, ← hp2, if_neg h3, if_neg h4, ← hp5, ← hp6]), (Or.inr rfl)⟩ [0, 1, 2, 3, 4, 5, 6, 7, 8] (by decide) rfl d_RD_goOnWith_96
      · refine lv_aload_n hx hb d_RD_goOnWith_57 rfl (lv_at hl 2 rfl) ?_
        refine lv_aload_n hx hb d_RD_goOnWith_58 rfl (lv_at hl 1 rfl) ?_
        refine kx_get S hw fg_RD_48 0 rfl rfl d_RD_goOnWith_59 ?_
        refine kx_get S hw fg_RD_124 4 rfl rfl d_RD_goOnWith_62 ?_
        refine lv_iload_n hx hb d_RD_goOnWith_65 rfl (lv_at hl 0 rfl) ?_
        refine kx_iald S hw 6 0 rfl rfl (j := r2.toNatClampNeg) rfl (by rw [hp2]; exact l_find (hp2 ▸ h3)) d_RD_goOnWith_66 ?_
        refine kx_call_v (wc := [(g, .inr (1, [.int o.1, .int o.2.1, .int o.2.2.1, .int o.2.2.2.1, .int o.2.2.2.2.1, .int o.2.2.2.2.2]))]) (wr := [((ad 0), .inr (0, [.int mm.1, .ref (ad 1), .ref (ad 6), .ref (ad 8), .ref (ad 10), .ref (ad 11), .ref (ad 12), .ref (ad 13), .ref (ad 14), .ref (ad 19), .ref (ad 20), .int mm.2.1, .int mm.2.2.1, .int mm.2.2.2])), ((ad 10), .inr (3, [.int dk.1, .int dk.2.1, .int dk.2.2.1, .int dk.2.2.2.1, .int dk.2.2.2.2.1, .int dk.2.2.2.2.2])), ((ad 12), .inr (4, [.int fr.1, .int fr.2.1, .int fr.2.2.1, .int fr.2.2.2.1, .int fr.2.2.2.2.1, .int fr.2.2.2.2.2.1, .int fr.2.2.2.2.2.2])), ((ad 14), .inr (5, [.ref (ad 15), .ref (ad 16), .ref (ad 17), .ref (ad 18)])), ((ad 15), .inl (cI, 3, .inl ca.1)), ((ad 16), .inl (cI, 3, .inl ca.2.1)), ((ad 17), .inl (cZ, 3, .inl ca.2.2.1)), ((ad 18), .inl (cI, 3, .inl (upd ca.2.2.2 r2.toNatClampNeg mm.2.2.2)))]) (rest := []) hw [3] [0, 1, 2, 4, 5, 6, 7, 8] rfl rfl (by decide) (by decide) (kx_runV S hw fc_RD_233 rfl 3 rfl [3] (by decide) rfl (c_Op_finish l D cI cZ cO g o (ca.2.1 r2.toNatClampNeg) H.size) rfl hl.1 rfl (Nat.le_of_ble_eq_true rfl) d_RD_goOnWith_67 (by decide) (by decide)) (fun u7 H locs hp7 hw => ?_)
        obtain ⟨o7, rfl⟩ : ∃ z, z = u7 := ⟨_, rfl⟩
        have hw : kx_w D (kx_T cI cZ cO) A_ s_ [((ad 0), .inr (0, [.int mm.1, .ref (ad 1), .ref (ad 6), .ref (ad 8), .ref (ad 10), .ref (ad 11), .ref (ad 12), .ref (ad 13), .ref (ad 14), .ref (ad 19), .ref (ad 20), .int mm.2.1, .int mm.2.2.1, .int mm.2.2.2])), ((ad 10), .inr (3, [.int dk.1, .int dk.2.1, .int dk.2.2.1, .int dk.2.2.2.1, .int dk.2.2.2.2.1, .int dk.2.2.2.2.2])), ((ad 12), .inr (4, [.int fr.1, .int fr.2.1, .int fr.2.2.1, .int fr.2.2.2.1, .int fr.2.2.2.2.1, .int fr.2.2.2.2.2.1, .int fr.2.2.2.2.2.2])), ((ad 14), .inr (5, [.ref (ad 15), .ref (ad 16), .ref (ad 17), .ref (ad 18)])), ((ad 15), .inl (cI, 3, .inl ca.1)), ((ad 16), .inl (cI, 3, .inl ca.2.1)), ((ad 17), .inl (cZ, 3, .inl ca.2.2.1)), ((ad 18), .inl (cI, 3, .inl (upd ca.2.2.2 r2.toNatClampNeg mm.2.2.2))), (g, .inr (1, [.int o7.1, .int o7.2.1, .int o7.2.2.1, .int o7.2.2.2.1, .int o7.2.2.2.2.1, .int o7.2.2.2.2.2]))] H locs := hw
        refine lv_goto (tgt := 95) hx hb d_RD_goOnWith_70 (by decide) ?_
        refine lv_iconst (v := 1) hx hb d_RD_goOnWith_95 (by decide) ?_
        exact kx_ret_z I rfl hw (Or.inr rfl) (dk, fr, (ca.1, ca.2.1, ca.2.2.1, upd ca.2.2.2 r2.toNatClampNeg mm.2.2.2), o7) ⟨(by simp only [f_RD_goOnWith, if_neg h1, ← hp2, if_neg h3, if_pos h4, ← hp7]), (Or.inr rfl)⟩ [0, 1, 2, 3, 4, 5, 6, 7, 8] (by decide) rfl d_RD_goOnWith_96
    · refine lv_aload_n hx hb d_RD_goOnWith_31 rfl (lv_at hl 1 rfl) ?_
      refine lv_aload_n hx hb d_RD_goOnWith_32 rfl (lv_at hl 2 rfl) ?_
      refine kx_call_i (wc := [((ad 0), .inr (0, [.int mm.1, .ref (ad 1), .ref (ad 6), .ref (ad 8), .ref (ad 10), .ref (ad 11), .ref (ad 12), .ref (ad 13), .ref (ad 14), .ref (ad 19), .ref (ad 20), .int mm.2.1, .int mm.2.2.1, .int mm.2.2.2])), ((ad 10), .inr (3, [.int dk.1, .int dk.2.1, .int dk.2.2.1, .int dk.2.2.2.1, .int dk.2.2.2.2.1, .int dk.2.2.2.2.2])), ((ad 12), .inr (4, [.int fr.1, .int fr.2.1, .int fr.2.2.1, .int fr.2.2.2.1, .int fr.2.2.2.2.1, .int fr.2.2.2.2.2.1, .int fr.2.2.2.2.2.2])), ((ad 14), .inr (5, [.ref (ad 15), .ref (ad 16), .ref (ad 17), .ref (ad 18)])), ((ad 15), .inl (cI, 3, .inl ca.1)), ((ad 16), .inl (cI, 3, .inl ca.2.1)), ((ad 17), .inl (cZ, 3, .inl ca.2.2.1)), ((ad 18), .inl (cI, 3, .inl ca.2.2.2)), (g, .inr (1, [.int o.1, .int o.2.1, .int o.2.2.1, .int o.2.2.2.1, .int o.2.2.2.2.1, .int o.2.2.2.2.2]))]) (wr := []) (rest := []) hw [0, 1, 2, 4, 5, 6, 7, 8, 3] [] rfl rfl (by decide) (by decide) (kx_runV S hw fc_RD_227 rfl 0 rfl [0, 1, 2, 4, 5, 6, 7, 8, 3] (by decide) rfl (c_RD_makeRoomFor l D cI cZ cO ad g mm dk fr ca o H.size) rfl hl.1 rfl (Nat.le_of_ble_eq_true rfl) d_RD_goOnWith_33 (by decide) (by decide)) (fun r8 u8 H locs hp8 hw => ?_)
      obtain ⟨dk8, fr8, ca8, o8⟩ := u8
      obtain ⟨hp8, hb8⟩ := hp8
      have hw : kx_w D (kx_T cI cZ cO) A_ s_ [((ad 0), .inr (0, [.int mm.1, .ref (ad 1), .ref (ad 6), .ref (ad 8), .ref (ad 10), .ref (ad 11), .ref (ad 12), .ref (ad 13), .ref (ad 14), .ref (ad 19), .ref (ad 20), .int mm.2.1, .int mm.2.2.1, .int mm.2.2.2])), ((ad 10), .inr (3, [.int dk8.1, .int dk8.2.1, .int dk8.2.2.1, .int dk8.2.2.2.1, .int dk8.2.2.2.2.1, .int dk8.2.2.2.2.2])), ((ad 12), .inr (4, [.int fr8.1, .int fr8.2.1, .int fr8.2.2.1, .int fr8.2.2.2.1, .int fr8.2.2.2.2.1, .int fr8.2.2.2.2.2.1, .int fr8.2.2.2.2.2.2])), ((ad 14), .inr (5, [.ref (ad 15), .ref (ad 16), .ref (ad 17), .ref (ad 18)])), ((ad 15), .inl (cI, 3, .inl ca8.1)), ((ad 16), .inl (cI, 3, .inl ca8.2.1)), ((ad 17), .inl (cZ, 3, .inl ca8.2.2.1)), ((ad 18), .inl (cI, 3, .inl ca8.2.2.2)), (g, .inr (1, [.int o8.1, .int o8.2.1, .int o8.2.2.1, .int o8.2.2.2.1, .int o8.2.2.2.2.1, .int o8.2.2.2.2.2]))] H locs := hw
      exact kx_ret_z I rfl hw hb8 (dk8, fr8, ca8, o8) ⟨(by simp only [f_RD_goOnWith, if_neg h1, ← hp2, if_pos h3, ← hp8]), hb8⟩ [0, 1, 2, 3, 4, 5, 6, 7, 8] (by decide) rfl d_RD_goOnWith_36
  · refine lv_aload_n hx hb d_RD_goOnWith_8 rfl (lv_at hl 0 rfl) ?_
    refine lv_aload_n hx hb d_RD_goOnWith_9 rfl (lv_at hl 1 rfl) ?_
    refine kx_call_i (wc := [((ad 0), .inr (0, [.int mm.1, .ref (ad 1), .ref (ad 6), .ref (ad 8), .ref (ad 10), .ref (ad 11), .ref (ad 12), .ref (ad 13), .ref (ad 14), .ref (ad 19), .ref (ad 20), .int mm.2.1, .int mm.2.2.1, .int mm.2.2.2])), ((ad 10), .inr (3, [.int dk.1, .int dk.2.1, .int dk.2.2.1, .int dk.2.2.2.1, .int dk.2.2.2.2.1, .int dk.2.2.2.2.2])), ((ad 12), .inr (4, [.int fr.1, .int fr.2.1, .int fr.2.2.1, .int fr.2.2.2.1, .int fr.2.2.2.2.1, .int fr.2.2.2.2.2.1, .int fr.2.2.2.2.2.2])), ((ad 14), .inr (5, [.ref (ad 15), .ref (ad 16), .ref (ad 17), .ref (ad 18)])), ((ad 15), .inl (cI, 3, .inl ca.1)), ((ad 16), .inl (cI, 3, .inl ca.2.1)), ((ad 17), .inl (cZ, 3, .inl ca.2.2.1)), ((ad 18), .inl (cI, 3, .inl ca.2.2.2)), (g, .inr (1, [.int o.1, .int o.2.1, .int o.2.2.1, .int o.2.2.2.1, .int o.2.2.2.2.1, .int o.2.2.2.2.2]))]) (wr := []) (rest := []) hw [0, 1, 2, 3, 4, 5, 6, 7, 8] [] rfl rfl (by decide) (by decide) (kx_runV S hw fc_RD_219 rfl 0 rfl [0, 1, 2, 3, 4, 5, 6, 7, 8] (by decide) rfl (c_RD_goOnWithSync l D cI cZ cO ad g mm dk fr ca o H.size) rfl hl.1 rfl (Nat.le_of_ble_eq_true rfl) d_RD_goOnWith_10 (by decide) (by decide)) (fun r9 u9 H locs hp9 hw => ?_)
    obtain ⟨dk9, fr9, o9⟩ := u9
    obtain ⟨hp9, hb9⟩ := hp9
    have hw : kx_w D (kx_T cI cZ cO) A_ s_ [((ad 0), .inr (0, [.int mm.1, .ref (ad 1), .ref (ad 6), .ref (ad 8), .ref (ad 10), .ref (ad 11), .ref (ad 12), .ref (ad 13), .ref (ad 14), .ref (ad 19), .ref (ad 20), .int mm.2.1, .int mm.2.2.1, .int mm.2.2.2])), ((ad 10), .inr (3, [.int dk9.1, .int dk9.2.1, .int dk9.2.2.1, .int dk9.2.2.2.1, .int dk9.2.2.2.2.1, .int dk9.2.2.2.2.2])), ((ad 12), .inr (4, [.int fr9.1, .int fr9.2.1, .int fr9.2.2.1, .int fr9.2.2.2.1, .int fr9.2.2.2.2.1, .int fr9.2.2.2.2.2.1, .int fr9.2.2.2.2.2.2])), ((ad 14), .inr (5, [.ref (ad 15), .ref (ad 16), .ref (ad 17), .ref (ad 18)])), ((ad 15), .inl (cI, 3, .inl ca.1)), ((ad 16), .inl (cI, 3, .inl ca.2.1)), ((ad 17), .inl (cZ, 3, .inl ca.2.2.1)), ((ad 18), .inl (cI, 3, .inl ca.2.2.2)), (g, .inr (1, [.int o9.1, .int o9.2.1, .int o9.2.2.1, .int o9.2.2.2.1, .int o9.2.2.2.2.1, .int o9.2.2.2.2.2]))] H locs := hw
    exact kx_ret_z I rfl hw hb9 (dk9, fr9, ca, o9) ⟨(by simp only [f_RD_goOnWith, if_pos h1, ← hp9]), hb9⟩ [0, 1, 2, 3, 4, 5, 6, 7, 8] (by decide) rfl d_RD_goOnWith_13
end
