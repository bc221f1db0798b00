section
-- ===== PART A: goes FIRST, ahead of the names: the tables' words, and 'selects' of the private methods out of them =====
/-- a private method of a class that the tables say can be made, by its rows of tables_1 -/
def lw_okq (q : MethodName × Nat) : Prop := (q.1.cls ≠ "java/lang/invoke/MethodHandle" ∧ q.1.cls ≠ "java/lang/invoke/VarHandle") ∧ Cond.instantiable q.1.cls q.2 ∈ tables_1 ∧ Cond.privateMethod q.1 ∈ tables_1 ∧ Cond.instanceMethod q.1 ∈ tables_1
theorem lw_p0 : lw_okq (⟨"RebornDrivers", "isFree", "(I)Z"⟩, 14) := ⟨⟨by decide +kernel, by decide +kernel⟩, List.mem_of_getElem? (i := 11) (by decide +kernel), List.mem_of_getElem? (i := 204) (by decide +kernel), List.mem_of_getElem? (i := 205) (by decide +kernel)⟩
theorem lw_p1 : lw_okq (⟨"RebornDrivers$Operation", "begin", "(III)V"⟩, 6) := ⟨⟨by decide +kernel, by decide +kernel⟩, List.mem_of_getElem? (i := 126) (by decide +kernel), List.mem_of_getElem? (i := 214) (by decide +kernel), List.mem_of_getElem? (i := 215) (by decide +kernel)⟩
theorem lw_p2 : lw_okq (⟨"RebornDrivers$Line", "join", "(I)V"⟩, 2) := ⟨⟨by decide +kernel, by decide +kernel⟩, List.mem_of_getElem? (i := 21) (by decide +kernel), List.mem_of_getElem? (i := 218) (by decide +kernel), List.mem_of_getElem? (i := 219) (by decide +kernel)⟩
theorem lw_p3 : lw_okq (⟨"RebornDrivers$Driver", "beWatched", "(Z)V"⟩, 6) := ⟨⟨by decide +kernel, by decide +kernel⟩, List.mem_of_getElem? (i := 36) (by decide +kernel), List.mem_of_getElem? (i := 238) (by decide +kernel), List.mem_of_getElem? (i := 239) (by decide +kernel)⟩
theorem lw_p4 : lw_okq (⟨"RebornDrivers$Driver", "restart", "()V"⟩, 6) := ⟨⟨by decide +kernel, by decide +kernel⟩, List.mem_of_getElem? (i := 36) (by decide +kernel), List.mem_of_getElem? (i := 242) (by decide +kernel), List.mem_of_getElem? (i := 243) (by decide +kernel)⟩
theorem lw_p5 : lw_okq (⟨"RebornDrivers", "stepDisk", "()V"⟩, 14) := ⟨⟨by decide +kernel, by decide +kernel⟩, List.mem_of_getElem? (i := 11) (by decide +kernel), List.mem_of_getElem? (i := 246) (by decide +kernel), List.mem_of_getElem? (i := 247) (by decide +kernel)⟩
theorem lw_p6 : lw_okq (⟨"RebornDrivers$Driver", "takeStep", "()I"⟩, 6) := ⟨⟨by decide +kernel, by decide +kernel⟩, List.mem_of_getElem? (i := 36) (by decide +kernel), List.mem_of_getElem? (i := 250) (by decide +kernel), List.mem_of_getElem? (i := 251) (by decide +kernel)⟩
theorem lw_p7 : lw_okq (⟨"RebornDrivers$Driver", "beRefused", "()V"⟩, 6) := ⟨⟨by decide +kernel, by decide +kernel⟩, List.mem_of_getElem? (i := 36) (by decide +kernel), List.mem_of_getElem? (i := 254) (by decide +kernel), List.mem_of_getElem? (i := 255) (by decide +kernel)⟩
theorem lw_p8 : lw_okq (⟨"RebornDrivers$Driver", "die", "()V"⟩, 6) := ⟨⟨by decide +kernel, by decide +kernel⟩, List.mem_of_getElem? (i := 36) (by decide +kernel), List.mem_of_getElem? (i := 258) (by decide +kernel), List.mem_of_getElem? (i := 259) (by decide +kernel)⟩
theorem lw_p9 : lw_okq (⟨"RebornDrivers", "moveBlock", "()V"⟩, 14) := ⟨⟨by decide +kernel, by decide +kernel⟩, List.mem_of_getElem? (i := 11) (by decide +kernel), List.mem_of_getElem? (i := 262) (by decide +kernel), List.mem_of_getElem? (i := 263) (by decide +kernel)⟩
theorem lw_p10 : lw_okq (⟨"RebornDrivers", "stepConsole", "()V"⟩, 14) := ⟨⟨by decide +kernel, by decide +kernel⟩, List.mem_of_getElem? (i := 11) (by decide +kernel), List.mem_of_getElem? (i := 266) (by decide +kernel), List.mem_of_getElem? (i := 267) (by decide +kernel)⟩
theorem lw_p11 : lw_okq (⟨"RebornDrivers", "putOutCharacter", "(I)V"⟩, 14) := ⟨⟨by decide +kernel, by decide +kernel⟩, List.mem_of_getElem? (i := 11) (by decide +kernel), List.mem_of_getElem? (i := 270) (by decide +kernel), List.mem_of_getElem? (i := 271) (by decide +kernel)⟩
theorem lw_p12 : lw_okq (⟨"RebornDrivers", "serveFiles", "()I"⟩, 14) := ⟨⟨by decide +kernel, by decide +kernel⟩, List.mem_of_getElem? (i := 11) (by decide +kernel), List.mem_of_getElem? (i := 274) (by decide +kernel), List.mem_of_getElem? (i := 275) (by decide +kernel)⟩
theorem lw_p13 : lw_okq (⟨"RebornDrivers$Request", "isOpen", "()Z"⟩, 7) := ⟨⟨by decide +kernel, by decide +kernel⟩, List.mem_of_getElem? (i := 69) (by decide +kernel), List.mem_of_getElem? (i := 278) (by decide +kernel), List.mem_of_getElem? (i := 279) (by decide +kernel)⟩
theorem lw_p14 : lw_okq (⟨"RebornDrivers$Request", "wasGivenElsewhere", "(LRebornDrivers$Driver;)Z"⟩, 7) := ⟨⟨by decide +kernel, by decide +kernel⟩, List.mem_of_getElem? (i := 69) (by decide +kernel), List.mem_of_getElem? (i := 282) (by decide +kernel), List.mem_of_getElem? (i := 283) (by decide +kernel)⟩
theorem lw_p15 : lw_okq (⟨"RebornDrivers$Request", "giveTo", "(LRebornDrivers$Driver;)V"⟩, 7) := ⟨⟨by decide +kernel, by decide +kernel⟩, List.mem_of_getElem? (i := 69) (by decide +kernel), List.mem_of_getElem? (i := 286) (by decide +kernel), List.mem_of_getElem? (i := 287) (by decide +kernel)⟩
def lw_privs_1 : List (MethodName × Nat) := [(⟨"RebornDrivers", "isFree", "(I)Z"⟩, 14), (⟨"RebornDrivers$Operation", "begin", "(III)V"⟩, 6), (⟨"RebornDrivers$Line", "join", "(I)V"⟩, 2), (⟨"RebornDrivers$Driver", "beWatched", "(Z)V"⟩, 6), (⟨"RebornDrivers$Driver", "restart", "()V"⟩, 6), (⟨"RebornDrivers", "stepDisk", "()V"⟩, 14), (⟨"RebornDrivers$Driver", "takeStep", "()I"⟩, 6), (⟨"RebornDrivers$Driver", "beRefused", "()V"⟩, 6), (⟨"RebornDrivers$Driver", "die", "()V"⟩, 6), (⟨"RebornDrivers", "moveBlock", "()V"⟩, 14), (⟨"RebornDrivers", "stepConsole", "()V"⟩, 14), (⟨"RebornDrivers", "putOutCharacter", "(I)V"⟩, 14), (⟨"RebornDrivers", "serveFiles", "()I"⟩, 14), (⟨"RebornDrivers$Request", "isOpen", "()Z"⟩, 7), (⟨"RebornDrivers$Request", "wasGivenElsewhere", "(LRebornDrivers$Driver;)Z"⟩, 7), (⟨"RebornDrivers$Request", "giveTo", "(LRebornDrivers$Driver;)V"⟩, 7)]
theorem lw_r1 : ∀ q ∈ lw_privs_1, lw_okq q := List.forall_mem_cons.mpr ⟨lw_p0, List.forall_mem_cons.mpr ⟨lw_p1, List.forall_mem_cons.mpr ⟨lw_p2, List.forall_mem_cons.mpr ⟨lw_p3, List.forall_mem_cons.mpr ⟨lw_p4, List.forall_mem_cons.mpr ⟨lw_p5, List.forall_mem_cons.mpr ⟨lw_p6, List.forall_mem_cons.mpr ⟨lw_p7, List.forall_mem_cons.mpr ⟨lw_p8, List.forall_mem_cons.mpr ⟨lw_p9, List.forall_mem_cons.mpr ⟨lw_p10, List.forall_mem_cons.mpr ⟨lw_p11, List.forall_mem_cons.mpr ⟨lw_p12, List.forall_mem_cons.mpr ⟨lw_p13, List.forall_mem_cons.mpr ⟨lw_p14, List.forall_mem_cons.mpr ⟨lw_p15, fun _ h => absurd h List.not_mem_nil⟩⟩⟩⟩⟩⟩⟩⟩⟩⟩⟩⟩⟩⟩⟩⟩
theorem lw_p16 : lw_okq (⟨"RebornDrivers", "takeDiskAnswer", "()V"⟩, 14) := ⟨⟨by decide +kernel, by decide +kernel⟩, List.mem_of_getElem? (i := 11) (by decide +kernel), List.mem_of_getElem? (i := 290) (by decide +kernel), List.mem_of_getElem? (i := 291) (by decide +kernel)⟩
theorem lw_p17 : lw_okq (⟨"RebornDrivers$Cache", "hold", "(IIIZ)V"⟩, 4) := ⟨⟨by decide +kernel, by decide +kernel⟩, List.mem_of_getElem? (i := 100) (by decide +kernel), List.mem_of_getElem? (i := 294) (by decide +kernel), List.mem_of_getElem? (i := 295) (by decide +kernel)⟩
theorem lw_p18 : lw_okq (⟨"RebornDrivers$Request", "close", "()V"⟩, 7) := ⟨⟨by decide +kernel, by decide +kernel⟩, List.mem_of_getElem? (i := 69) (by decide +kernel), List.mem_of_getElem? (i := 298) (by decide +kernel), List.mem_of_getElem? (i := 299) (by decide +kernel)⟩
theorem lw_p19 : lw_okq (⟨"RebornDrivers$Line", "isEmpty", "()Z"⟩, 2) := ⟨⟨by decide +kernel, by decide +kernel⟩, List.mem_of_getElem? (i := 21) (by decide +kernel), List.mem_of_getElem? (i := 302) (by decide +kernel), List.mem_of_getElem? (i := 303) (by decide +kernel)⟩
theorem lw_p20 : lw_okq (⟨"RebornDrivers$Line", "head", "()I"⟩, 2) := ⟨⟨by decide +kernel, by decide +kernel⟩, List.mem_of_getElem? (i := 21) (by decide +kernel), List.mem_of_getElem? (i := 306) (by decide +kernel), List.mem_of_getElem? (i := 307) (by decide +kernel)⟩
theorem lw_p21 : lw_okq (⟨"RebornDrivers", "goOnWith", "(LRebornDrivers$Operation;)Z"⟩, 14) := ⟨⟨by decide +kernel, by decide +kernel⟩, List.mem_of_getElem? (i := 11) (by decide +kernel), List.mem_of_getElem? (i := 310) (by decide +kernel), List.mem_of_getElem? (i := 311) (by decide +kernel)⟩
theorem lw_p22 : lw_okq (⟨"RebornDrivers", "goOnWithSync", "(LRebornDrivers$Operation;)Z"⟩, 14) := ⟨⟨by decide +kernel, by decide +kernel⟩, List.mem_of_getElem? (i := 11) (by decide +kernel), List.mem_of_getElem? (i := 314) (by decide +kernel), List.mem_of_getElem? (i := 315) (by decide +kernel)⟩
theorem lw_p23 : lw_okq (⟨"RebornDrivers$Cache", "dirtySlotOfLowestBlock", "()I"⟩, 4) := ⟨⟨by decide +kernel, by decide +kernel⟩, List.mem_of_getElem? (i := 100) (by decide +kernel), List.mem_of_getElem? (i := 318) (by decide +kernel), List.mem_of_getElem? (i := 319) (by decide +kernel)⟩
theorem lw_p24 : lw_okq (⟨"RebornDrivers$Operation", "finish", "(I)V"⟩, 6) := ⟨⟨by decide +kernel, by decide +kernel⟩, List.mem_of_getElem? (i := 126) (by decide +kernel), List.mem_of_getElem? (i := 322) (by decide +kernel), List.mem_of_getElem? (i := 323) (by decide +kernel)⟩
theorem lw_p25 : lw_okq (⟨"RebornDrivers", "askToWriteOut", "(I)V"⟩, 14) := ⟨⟨by decide +kernel, by decide +kernel⟩, List.mem_of_getElem? (i := 11) (by decide +kernel), List.mem_of_getElem? (i := 326) (by decide +kernel), List.mem_of_getElem? (i := 327) (by decide +kernel)⟩
theorem lw_p26 : lw_okq (⟨"RebornDrivers$Request", "open", "(I)V"⟩, 7) := ⟨⟨by decide +kernel, by decide +kernel⟩, List.mem_of_getElem? (i := 69) (by decide +kernel), List.mem_of_getElem? (i := 330) (by decide +kernel), List.mem_of_getElem? (i := 331) (by decide +kernel)⟩
theorem lw_p27 : lw_okq (⟨"RebornDrivers$Cache", "find", "(I)I"⟩, 4) := ⟨⟨by decide +kernel, by decide +kernel⟩, List.mem_of_getElem? (i := 100) (by decide +kernel), List.mem_of_getElem? (i := 334) (by decide +kernel), List.mem_of_getElem? (i := 335) (by decide +kernel)⟩
theorem lw_p28 : lw_okq (⟨"RebornDrivers", "makeRoomFor", "(LRebornDrivers$Operation;)Z"⟩, 14) := ⟨⟨by decide +kernel, by decide +kernel⟩, List.mem_of_getElem? (i := 11) (by decide +kernel), List.mem_of_getElem? (i := 338) (by decide +kernel), List.mem_of_getElem? (i := 339) (by decide +kernel)⟩
theorem lw_p29 : lw_okq (⟨"RebornDrivers$Cache", "slotToFill", "()I"⟩, 4) := ⟨⟨by decide +kernel, by decide +kernel⟩, List.mem_of_getElem? (i := 100) (by decide +kernel), List.mem_of_getElem? (i := 342) (by decide +kernel), List.mem_of_getElem? (i := 343) (by decide +kernel)⟩
theorem lw_p30 : lw_okq (⟨"RebornDrivers$Cache", "empty", "(I)V"⟩, 4) := ⟨⟨by decide +kernel, by decide +kernel⟩, List.mem_of_getElem? (i := 100) (by decide +kernel), List.mem_of_getElem? (i := 347) (by decide +kernel), List.mem_of_getElem? (i := 348) (by decide +kernel)⟩
theorem lw_p31 : lw_okq (⟨"RebornDrivers", "askToReadIn", "(II)V"⟩, 14) := ⟨⟨by decide +kernel, by decide +kernel⟩, List.mem_of_getElem? (i := 11) (by decide +kernel), List.mem_of_getElem? (i := 352) (by decide +kernel), List.mem_of_getElem? (i := 353) (by decide +kernel)⟩
def lw_privs_2 : List (MethodName × Nat) := [(⟨"RebornDrivers", "takeDiskAnswer", "()V"⟩, 14), (⟨"RebornDrivers$Cache", "hold", "(IIIZ)V"⟩, 4), (⟨"RebornDrivers$Request", "close", "()V"⟩, 7), (⟨"RebornDrivers$Line", "isEmpty", "()Z"⟩, 2), (⟨"RebornDrivers$Line", "head", "()I"⟩, 2), (⟨"RebornDrivers", "goOnWith", "(LRebornDrivers$Operation;)Z"⟩, 14), (⟨"RebornDrivers", "goOnWithSync", "(LRebornDrivers$Operation;)Z"⟩, 14), (⟨"RebornDrivers$Cache", "dirtySlotOfLowestBlock", "()I"⟩, 4), (⟨"RebornDrivers$Operation", "finish", "(I)V"⟩, 6), (⟨"RebornDrivers", "askToWriteOut", "(I)V"⟩, 14), (⟨"RebornDrivers$Request", "open", "(I)V"⟩, 7), (⟨"RebornDrivers$Cache", "find", "(I)I"⟩, 4), (⟨"RebornDrivers", "makeRoomFor", "(LRebornDrivers$Operation;)Z"⟩, 14), (⟨"RebornDrivers$Cache", "slotToFill", "()I"⟩, 4), (⟨"RebornDrivers$Cache", "empty", "(I)V"⟩, 4), (⟨"RebornDrivers", "askToReadIn", "(II)V"⟩, 14)]
theorem lw_r2 : ∀ q ∈ lw_privs_2, lw_okq q := List.forall_mem_cons.mpr ⟨lw_p16, List.forall_mem_cons.mpr ⟨lw_p17, List.forall_mem_cons.mpr ⟨lw_p18, List.forall_mem_cons.mpr ⟨lw_p19, List.forall_mem_cons.mpr ⟨lw_p20, List.forall_mem_cons.mpr ⟨lw_p21, List.forall_mem_cons.mpr ⟨lw_p22, List.forall_mem_cons.mpr ⟨lw_p23, List.forall_mem_cons.mpr ⟨lw_p24, List.forall_mem_cons.mpr ⟨lw_p25, List.forall_mem_cons.mpr ⟨lw_p26, List.forall_mem_cons.mpr ⟨lw_p27, List.forall_mem_cons.mpr ⟨lw_p28, List.forall_mem_cons.mpr ⟨lw_p29, List.forall_mem_cons.mpr ⟨lw_p30, List.forall_mem_cons.mpr ⟨lw_p31, fun _ h => absurd h List.not_mem_nil⟩⟩⟩⟩⟩⟩⟩⟩⟩⟩⟩⟩⟩⟩⟩⟩
theorem lw_p32 : lw_okq (⟨"RebornDrivers$Line", "dropHead", "()V"⟩, 2) := ⟨⟨by decide +kernel, by decide +kernel⟩, List.mem_of_getElem? (i := 21) (by decide +kernel), List.mem_of_getElem? (i := 356) (by decide +kernel), List.mem_of_getElem? (i := 357) (by decide +kernel)⟩
theorem lw_p33 : lw_okq (⟨"RebornDrivers", "serveTerminal", "()I"⟩, 14) := ⟨⟨by decide +kernel, by decide +kernel⟩, List.mem_of_getElem? (i := 11) (by decide +kernel), List.mem_of_getElem? (i := 363) (by decide +kernel), List.mem_of_getElem? (i := 364) (by decide +kernel)⟩
theorem lw_p34 : lw_okq (⟨"RebornDrivers$Operation", "fail", "()V"⟩, 6) := ⟨⟨by decide +kernel, by decide +kernel⟩, List.mem_of_getElem? (i := 126) (by decide +kernel), List.mem_of_getElem? (i := 367) (by decide +kernel), List.mem_of_getElem? (i := 368) (by decide +kernel)⟩
theorem lw_p35 : lw_okq (⟨"RebornDrivers", "askToPutOut", "(I)V"⟩, 14) := ⟨⟨by decide +kernel, by decide +kernel⟩, List.mem_of_getElem? (i := 11) (by decide +kernel), List.mem_of_getElem? (i := 371) (by decide +kernel), List.mem_of_getElem? (i := 372) (by decide +kernel)⟩
theorem lw_p36 : lw_okq (⟨"RebornDrivers", "driverOf", "(I)LRebornDrivers$Driver;"⟩, 14) := ⟨⟨by decide +kernel, by decide +kernel⟩, List.mem_of_getElem? (i := 11) (by decide +kernel), List.mem_of_getElem? (i := 382) (by decide +kernel), List.mem_of_getElem? (i := 383) (by decide +kernel)⟩
theorem lw_p37 : lw_okq (⟨"RebornDrivers$Driver", "suffer", "(I)Z"⟩, 6) := ⟨⟨by decide +kernel, by decide +kernel⟩, List.mem_of_getElem? (i := 36) (by decide +kernel), List.mem_of_getElem? (i := 386) (by decide +kernel), List.mem_of_getElem? (i := 387) (by decide +kernel)⟩
theorem lw_p38 : lw_okq (⟨"RebornDrivers$Request", "progress", "()I"⟩, 7) := ⟨⟨by decide +kernel, by decide +kernel⟩, List.mem_of_getElem? (i := 69) (by decide +kernel), List.mem_of_getElem? (i := 422) (by decide +kernel), List.mem_of_getElem? (i := 423) (by decide +kernel)⟩
theorem lw_p39 : lw_okq (⟨"RebornDriversModel", "begin", "(IIII)Z"⟩, 30) := ⟨⟨by decide +kernel, by decide +kernel⟩, List.mem_of_getElem? (i := 434) (by decide +kernel), List.mem_of_getElem? (i := 535) (by decide +kernel), List.mem_of_getElem? (i := 536) (by decide +kernel)⟩
theorem lw_p40 : lw_okq (⟨"RebornDriversModel", "pending", "()I"⟩, 30) := ⟨⟨by decide +kernel, by decide +kernel⟩, List.mem_of_getElem? (i := 434) (by decide +kernel), List.mem_of_getElem? (i := 555) (by decide +kernel), List.mem_of_getElem? (i := 556) (by decide +kernel)⟩
theorem lw_p41 : lw_okq (⟨"RebornDriversModel", "reincarnate", "(I)V"⟩, 30) := ⟨⟨by decide +kernel, by decide +kernel⟩, List.mem_of_getElem? (i := 434) (by decide +kernel), List.mem_of_getElem? (i := 559) (by decide +kernel), List.mem_of_getElem? (i := 560) (by decide +kernel)⟩
theorem lw_p42 : lw_okq (⟨"RebornDriversModel", "step", "(I)V"⟩, 30) := ⟨⟨by decide +kernel, by decide +kernel⟩, List.mem_of_getElem? (i := 434) (by decide +kernel), List.mem_of_getElem? (i := 563) (by decide +kernel), List.mem_of_getElem? (i := 564) (by decide +kernel)⟩
theorem lw_p43 : lw_okq (⟨"RebornDriversModel", "move", "()V"⟩, 30) := ⟨⟨by decide +kernel, by decide +kernel⟩, List.mem_of_getElem? (i := 434) (by decide +kernel), List.mem_of_getElem? (i := 567) (by decide +kernel), List.mem_of_getElem? (i := 568) (by decide +kernel)⟩
theorem lw_p44 : lw_okq (⟨"RebornDriversModel", "show", "()V"⟩, 30) := ⟨⟨by decide +kernel, by decide +kernel⟩, List.mem_of_getElem? (i := 434) (by decide +kernel), List.mem_of_getElem? (i := 571) (by decide +kernel), List.mem_of_getElem? (i := 572) (by decide +kernel)⟩
theorem lw_p45 : lw_okq (⟨"RebornDriversModel", "head", "(I)I"⟩, 30) := ⟨⟨by decide +kernel, by decide +kernel⟩, List.mem_of_getElem? (i := 434) (by decide +kernel), List.mem_of_getElem? (i := 575) (by decide +kernel), List.mem_of_getElem? (i := 576) (by decide +kernel)⟩
theorem lw_p46 : lw_okq (⟨"RebornDriversModel", "stands", "(II)Z"⟩, 30) := ⟨⟨by decide +kernel, by decide +kernel⟩, List.mem_of_getElem? (i := 434) (by decide +kernel), List.mem_of_getElem? (i := 579) (by decide +kernel), List.mem_of_getElem? (i := 580) (by decide +kernel)⟩
theorem lw_p47 : lw_okq (⟨"RebornDriversModel", "serveFiles", "()V"⟩, 30) := ⟨⟨by decide +kernel, by decide +kernel⟩, List.mem_of_getElem? (i := 434) (by decide +kernel), List.mem_of_getElem? (i := 583) (by decide +kernel), List.mem_of_getElem? (i := 584) (by decide +kernel)⟩
def lw_privs_3 : List (MethodName × Nat) := [(⟨"RebornDrivers$Line", "dropHead", "()V"⟩, 2), (⟨"RebornDrivers", "serveTerminal", "()I"⟩, 14), (⟨"RebornDrivers$Operation", "fail", "()V"⟩, 6), (⟨"RebornDrivers", "askToPutOut", "(I)V"⟩, 14), (⟨"RebornDrivers", "driverOf", "(I)LRebornDrivers$Driver;"⟩, 14), (⟨"RebornDrivers$Driver", "suffer", "(I)Z"⟩, 6), (⟨"RebornDrivers$Request", "progress", "()I"⟩, 7), (⟨"RebornDriversModel", "begin", "(IIII)Z"⟩, 30), (⟨"RebornDriversModel", "pending", "()I"⟩, 30), (⟨"RebornDriversModel", "reincarnate", "(I)V"⟩, 30), (⟨"RebornDriversModel", "step", "(I)V"⟩, 30), (⟨"RebornDriversModel", "move", "()V"⟩, 30), (⟨"RebornDriversModel", "show", "()V"⟩, 30), (⟨"RebornDriversModel", "head", "(I)I"⟩, 30), (⟨"RebornDriversModel", "stands", "(II)Z"⟩, 30), (⟨"RebornDriversModel", "serveFiles", "()V"⟩, 30)]
theorem lw_r3 : ∀ q ∈ lw_privs_3, lw_okq q := List.forall_mem_cons.mpr ⟨lw_p32, List.forall_mem_cons.mpr ⟨lw_p33, List.forall_mem_cons.mpr ⟨lw_p34, List.forall_mem_cons.mpr ⟨lw_p35, List.forall_mem_cons.mpr ⟨lw_p36, List.forall_mem_cons.mpr ⟨lw_p37, List.forall_mem_cons.mpr ⟨lw_p38, List.forall_mem_cons.mpr ⟨lw_p39, List.forall_mem_cons.mpr ⟨lw_p40, List.forall_mem_cons.mpr ⟨lw_p41, List.forall_mem_cons.mpr ⟨lw_p42, List.forall_mem_cons.mpr ⟨lw_p43, List.forall_mem_cons.mpr ⟨lw_p44, List.forall_mem_cons.mpr ⟨lw_p45, List.forall_mem_cons.mpr ⟨lw_p46, List.forall_mem_cons.mpr ⟨lw_p47, fun _ h => absurd h List.not_mem_nil⟩⟩⟩⟩⟩⟩⟩⟩⟩⟩⟩⟩⟩⟩⟩⟩
theorem lw_p48 : lw_okq (⟨"RebornDriversModel", "give", "(I)V"⟩, 30) := ⟨⟨by decide +kernel, by decide +kernel⟩, List.mem_of_getElem? (i := 434) (by decide +kernel), List.mem_of_getElem? (i := 587) (by decide +kernel), List.mem_of_getElem? (i := 588) (by decide +kernel)⟩
theorem lw_p49 : lw_okq (⟨"RebornDriversModel", "flush", "(I)V"⟩, 30) := ⟨⟨by decide +kernel, by decide +kernel⟩, List.mem_of_getElem? (i := 434) (by decide +kernel), List.mem_of_getElem? (i := 591) (by decide +kernel), List.mem_of_getElem? (i := 592) (by decide +kernel)⟩
theorem lw_p50 : lw_okq (⟨"RebornDriversModel", "end", "(III)V"⟩, 30) := ⟨⟨by decide +kernel, by decide +kernel⟩, List.mem_of_getElem? (i := 434) (by decide +kernel), List.mem_of_getElem? (i := 595) (by decide +kernel), List.mem_of_getElem? (i := 596) (by decide +kernel)⟩
theorem lw_p51 : lw_okq (⟨"RebornDriversModel", "demand", "(IZI)V"⟩, 30) := ⟨⟨by decide +kernel, by decide +kernel⟩, List.mem_of_getElem? (i := 434) (by decide +kernel), List.mem_of_getElem? (i := 599) (by decide +kernel), List.mem_of_getElem? (i := 600) (by decide +kernel)⟩
theorem lw_p52 : lw_okq (⟨"RebornDriversModel", "access", "(I)V"⟩, 30) := ⟨⟨by decide +kernel, by decide +kernel⟩, List.mem_of_getElem? (i := 434) (by decide +kernel), List.mem_of_getElem? (i := 603) (by decide +kernel), List.mem_of_getElem? (i := 604) (by decide +kernel)⟩
theorem lw_p53 : lw_okq (⟨"RebornDriversModel", "slotWith", "(I)I"⟩, 30) := ⟨⟨by decide +kernel, by decide +kernel⟩, List.mem_of_getElem? (i := 434) (by decide +kernel), List.mem_of_getElem? (i := 607) (by decide +kernel), List.mem_of_getElem? (i := 608) (by decide +kernel)⟩
theorem lw_p54 : lw_okq (⟨"RebornDriversModel", "use", "(I)V"⟩, 30) := ⟨⟨by decide +kernel, by decide +kernel⟩, List.mem_of_getElem? (i := 434) (by decide +kernel), List.mem_of_getElem? (i := 611) (by decide +kernel), List.mem_of_getElem? (i := 612) (by decide +kernel)⟩
theorem lw_p55 : lw_okq (⟨"RebornDriversModel", "fill", "(II)V"⟩, 30) := ⟨⟨by decide +kernel, by decide +kernel⟩, List.mem_of_getElem? (i := 434) (by decide +kernel), List.mem_of_getElem? (i := 615) (by decide +kernel), List.mem_of_getElem? (i := 616) (by decide +kernel)⟩
theorem lw_p56 : lw_okq (⟨"RebornDriversModel", "slotToTake", "()I"⟩, 30) := ⟨⟨by decide +kernel, by decide +kernel⟩, List.mem_of_getElem? (i := 434) (by decide +kernel), List.mem_of_getElem? (i := 619) (by decide +kernel), List.mem_of_getElem? (i := 620) (by decide +kernel)⟩
theorem lw_p57 : lw_okq (⟨"RebornDriversModel", "serveTerminal", "()V"⟩, 30) := ⟨⟨by decide +kernel, by decide +kernel⟩, List.mem_of_getElem? (i := 434) (by decide +kernel), List.mem_of_getElem? (i := 623) (by decide +kernel), List.mem_of_getElem? (i := 624) (by decide +kernel)⟩
def lw_privs_4 : List (MethodName × Nat) := [(⟨"RebornDriversModel", "give", "(I)V"⟩, 30), (⟨"RebornDriversModel", "flush", "(I)V"⟩, 30), (⟨"RebornDriversModel", "end", "(III)V"⟩, 30), (⟨"RebornDriversModel", "demand", "(IZI)V"⟩, 30), (⟨"RebornDriversModel", "access", "(I)V"⟩, 30), (⟨"RebornDriversModel", "slotWith", "(I)I"⟩, 30), (⟨"RebornDriversModel", "use", "(I)V"⟩, 30), (⟨"RebornDriversModel", "fill", "(II)V"⟩, 30), (⟨"RebornDriversModel", "slotToTake", "()I"⟩, 30), (⟨"RebornDriversModel", "serveTerminal", "()V"⟩, 30)]
theorem lw_r4 : ∀ q ∈ lw_privs_4, lw_okq q := List.forall_mem_cons.mpr ⟨lw_p48, List.forall_mem_cons.mpr ⟨lw_p49, List.forall_mem_cons.mpr ⟨lw_p50, List.forall_mem_cons.mpr ⟨lw_p51, List.forall_mem_cons.mpr ⟨lw_p52, List.forall_mem_cons.mpr ⟨lw_p53, List.forall_mem_cons.mpr ⟨lw_p54, List.forall_mem_cons.mpr ⟨lw_p55, List.forall_mem_cons.mpr ⟨lw_p56, List.forall_mem_cons.mpr ⟨lw_p57, fun _ h => absurd h List.not_mem_nil⟩⟩⟩⟩⟩⟩⟩⟩⟩⟩
def lw_privs : List (MethodName × Nat) := lw_privs_1 ++ (lw_privs_2 ++ (lw_privs_3 ++ (lw_privs_4)))
def lw_tbl : List Cond := k2_sels lw_privs ++ tables_1
theorem lw_privs_ok : ∀ q ∈ lw_privs, lw_okq q := by
  show ∀ q ∈ lw_privs_1 ++ (lw_privs_2 ++ (lw_privs_3 ++ (lw_privs_4))), lw_okq q
  exact List.forall_mem_append.mpr ⟨lw_r1, List.forall_mem_append.mpr ⟨lw_r2, List.forall_mem_append.mpr ⟨lw_r3, lw_r4⟩⟩⟩
end
section
/-! names: classes, fields, methods (by my own program) -/
/-- the words of the tables that every call keeps; beside them the links between nest mates -/
def kx_isN : Cond → Bool
  | .fieldLinkNest .. => true
  | .methodLinkNest .. => true
  | _ => false
def kx_tbl : List Cond := lw_tbl.filter goodWord
def kx_nl : List Cond := lw_tbl.filter kx_isN
def R_RD : String := "RebornDrivers"
def F_RD : u_T := fun k => match k with
  | 0 => ("RebornDrivers", "pingPeriod", "I", true)
  | 1 => ("RebornDrivers", "operations", "[LRebornDrivers$Operation;", true)
  | 2 => ("RebornDrivers", "fileLine", "LRebornDrivers$Line;", true)
  | 3 => ("RebornDrivers", "terminalLine", "LRebornDrivers$Line;", true)
  | 4 => ("RebornDrivers", "disk", "LRebornDrivers$Driver;", true)
  | 5 => ("RebornDrivers", "console", "LRebornDrivers$Driver;", true)
  | 6 => ("RebornDrivers", "fileRequest", "LRebornDrivers$Request;", true)
  | 7 => ("RebornDrivers", "terminalRequest", "LRebornDrivers$Request;", true)
  | 8 => ("RebornDrivers", "cache", "LRebornDrivers$Cache;", true)
  | 9 => ("RebornDrivers", "deviceBlocks", "[I", true)
  | 10 => ("RebornDrivers", "putOut", "[I", true)
  | 11 => ("RebornDrivers", "putOutLength", "I", false)
  | 12 => ("RebornDrivers", "buffer", "I", false)
  | _ => ("RebornDrivers", "time", "I", false)
def t_RD : Nat → FieldType := fun k => match k with
  | 0 => .int
  | 1 => .array (.object "RebornDrivers$Operation")
  | 2 => .object "RebornDrivers$Line"
  | 3 => .object "RebornDrivers$Line"
  | 4 => .object "RebornDrivers$Driver"
  | 5 => .object "RebornDrivers$Driver"
  | 6 => .object "RebornDrivers$Request"
  | 7 => .object "RebornDrivers$Request"
  | 8 => .object "RebornDrivers$Cache"
  | 9 => .array .int
  | 10 => .array .int
  | 11 => .int
  | 12 => .int
  | _ => .int
def R_Op : String := "RebornDrivers$Operation"
def F_Op : u_T := fun k => match k with
  | 0 => ("RebornDrivers$Operation", "kind", "I", false)
  | 1 => ("RebornDrivers$Operation", "block", "I", false)
  | 2 => ("RebornDrivers$Operation", "value", "I", false)
  | 3 => ("RebornDrivers$Operation", "writesAsked", "I", false)
  | 4 => ("RebornDrivers$Operation", "state", "I", false)
  | _ => ("RebornDrivers$Operation", "result", "I", false)
def t_Op : Nat → FieldType := fun k => match k with
  | 0 => .int
  | 1 => .int
  | 2 => .int
  | 3 => .int
  | 4 => .int
  | _ => .int
def R_Ln : String := "RebornDrivers$Line"
def F_Ln : u_T := fun k => match k with
  | 0 => ("RebornDrivers$Line", "users", "[I", true)
  | _ => ("RebornDrivers$Line", "length", "I", false)
def t_Ln : Nat → FieldType := fun k => match k with
  | 0 => .array .int
  | _ => .int
def R_Dr : String := "RebornDrivers$Driver"
def F_Dr : u_T := fun k => match k with
  | 0 => ("RebornDrivers$Driver", "endpoint", "I", false)
  | 1 => ("RebornDrivers$Driver", "condition", "I", false)
  | 2 => ("RebornDrivers$Driver", "stage", "I", false)
  | 3 => ("RebornDrivers$Driver", "hasAnswered", "Z", false)
  | 4 => ("RebornDrivers$Driver", "badness", "I", false)
  | _ => ("RebornDrivers$Driver", "refusals", "I", false)
def t_Dr : Nat → FieldType := fun k => match k with
  | 0 => .int
  | 1 => .int
  | 2 => .int
  | 3 => .boolean
  | 4 => .int
  | _ => .int
def R_Rq : String := "RebornDrivers$Request"
def F_Rq : u_T := fun k => match k with
  | 0 => ("RebornDrivers$Request", "kind", "I", false)
  | 1 => ("RebornDrivers$Request", "block", "I", false)
  | 2 => ("RebornDrivers$Request", "slot", "I", false)
  | 3 => ("RebornDrivers$Request", "character", "I", false)
  | 4 => ("RebornDrivers$Request", "given", "Z", false)
  | 5 => ("RebornDrivers$Request", "answered", "Z", false)
  | _ => ("RebornDrivers$Request", "givenTo", "I", false)
def t_Rq : Nat → FieldType := fun k => match k with
  | 0 => .int
  | 1 => .int
  | 2 => .int
  | 3 => .int
  | 4 => .boolean
  | 5 => .boolean
  | _ => .int
def R_Ca : String := "RebornDrivers$Cache"
def F_Ca : u_T := fun k => match k with
  | 0 => ("RebornDrivers$Cache", "blocks", "[I", true)
  | 1 => ("RebornDrivers$Cache", "values", "[I", true)
  | 2 => ("RebornDrivers$Cache", "dirty", "[Z", true)
  | _ => ("RebornDrivers$Cache", "usedAt", "[I", true)
def t_Ca : Nat → FieldType := fun k => match k with
  | 0 => .array .int
  | 1 => .array .int
  | 2 => .array .boolean
  | _ => .array .int
def R_Md : String := "RebornDriversModel"
def F_Md : u_T := fun k => match k with
  | 0 => ("RebornDriversModel", "period", "I", true)
  | 1 => ("RebornDriversModel", "now", "I", false)
  | 2 => ("RebornDriversModel", "begun", "I", false)
  | 3 => ("RebornDriversModel", "kind", "[I", true)
  | 4 => ("RebornDriversModel", "block", "[I", true)
  | 5 => ("RebornDriversModel", "number", "[I", true)
  | 6 => ("RebornDriversModel", "order", "[I", true)
  | 7 => ("RebornDriversModel", "state", "[I", true)
  | 8 => ("RebornDriversModel", "result", "[I", true)
  | 9 => ("RebornDriversModel", "flushes", "[I", true)
  | 10 => ("RebornDriversModel", "device", "[I", true)
  | 11 => ("RebornDriversModel", "output", "[I", true)
  | 12 => ("RebornDriversModel", "put", "I", false)
  | 13 => ("RebornDriversModel", "endpoint", "[I", true)
  | 14 => ("RebornDriversModel", "health", "[I", true)
  | 15 => ("RebornDriversModel", "bad", "[I", true)
  | 16 => ("RebornDriversModel", "stage", "[I", true)
  | 17 => ("RebornDriversModel", "refusals", "[I", true)
  | 18 => ("RebornDriversModel", "silent", "[Z", true)
  | 19 => ("RebornDriversModel", "request", "[I", true)
  | 20 => ("RebornDriversModel", "given", "[I", true)
  | 21 => ("RebornDriversModel", "slotOf", "I", false)
  | 22 => ("RebornDriversModel", "bringing", "Z", false)
  | 23 => ("RebornDriversModel", "wanted", "I", false)
  | 24 => ("RebornDriversModel", "buffer", "I", false)
  | 25 => ("RebornDriversModel", "held", "[I", true)
  | 26 => ("RebornDriversModel", "value", "[I", true)
  | 27 => ("RebornDriversModel", "dirty", "[Z", true)
  | 28 => ("RebornDriversModel", "used", "[I", true)
  | _ => ("RebornDriversModel", "uses", "I", false)
def t_Md : Nat → FieldType := fun k => match k with
  | 0 => .int
  | 1 => .int
  | 2 => .int
  | 3 => .array .int
  | 4 => .array .int
  | 5 => .array .int
  | 6 => .array .int
  | 7 => .array .int
  | 8 => .array .int
  | 9 => .array .int
  | 10 => .array .int
  | 11 => .array .int
  | 12 => .int
  | 13 => .array .int
  | 14 => .array .int
  | 15 => .array .int
  | 16 => .array .int
  | 17 => .array .int
  | 18 => .array .boolean
  | 19 => .array .int
  | 20 => .array .int
  | 21 => .int
  | 22 => .boolean
  | 23 => .int
  | 24 => .int
  | 25 => .array .int
  | 26 => .array .int
  | 27 => .array .boolean
  | 28 => .array .int
  | _ => .int
abbrev classes : List vw_C := [(R_RD, F_RD, 14), (R_Op, F_Op, 6), (R_Ln, F_Ln, 2), (R_Dr, F_Dr, 6), (R_Rq, F_Rq, 7), (R_Ca, F_Ca, 4), (R_Md, F_Md, 30)]
abbrev b_RD_init : ByteArray := prog_1_method_1_code
def y_RD_init : MethodName := ⟨"RebornDrivers", "<init>", "(I)V"⟩
abbrev b_Ln_init : ByteArray := prog_4_method_1_code
def y_Ln_init : MethodName := ⟨"RebornDrivers$Line", "<init>", "()V"⟩
abbrev b_Dr_init : ByteArray := prog_3_method_1_code
def y_Dr_init : MethodName := ⟨"RebornDrivers$Driver", "<init>", "()V"⟩
abbrev b_Rq_init : ByteArray := prog_6_method_1_code
def y_Rq_init : MethodName := ⟨"RebornDrivers$Request", "<init>", "()V"⟩
abbrev b_Ca_init : ByteArray := prog_2_method_1_code
def y_Ca_init : MethodName := ⟨"RebornDrivers$Cache", "<init>", "()V"⟩
abbrev b_Ar_fill : ByteArray := prog_10_method_103_code
def y_Ar_fill : MethodName := ⟨"java/util/Arrays", "fill", "([II)V"⟩
abbrev b_Op_init : ByteArray := prog_5_method_1_code
def y_Op_init : MethodName := ⟨"RebornDrivers$Operation", "<init>", "()V"⟩
abbrev b_RD_read : ByteArray := prog_1_method_2_code
def y_RD_read : MethodName := ⟨"RebornDrivers", "read", "(II)Z"⟩
abbrev b_RD_isFree : ByteArray := prog_1_method_20_code
def y_RD_isFree : MethodName := ⟨"RebornDrivers", "isFree", "(I)Z"⟩
abbrev b_RD_isUser : ByteArray := prog_1_method_17_code
def y_RD_isUser : MethodName := ⟨"RebornDrivers", "isUser", "(I)Z"⟩
abbrev b_RD_isBlock : ByteArray := prog_1_method_18_code
def y_RD_isBlock : MethodName := ⟨"RebornDrivers", "isBlock", "(I)Z"⟩
abbrev b_Op_begin : ByteArray := prog_5_method_2_code
def y_Op_begin : MethodName := ⟨"RebornDrivers$Operation", "begin", "(III)V"⟩
abbrev b_Ln_join : ByteArray := prog_4_method_4_code
def y_Ln_join : MethodName := ⟨"RebornDrivers$Line", "join", "(I)V"⟩
abbrev b_RD_write : ByteArray := prog_1_method_3_code
def y_RD_write : MethodName := ⟨"RebornDrivers", "write", "(III)Z"⟩
abbrev b_RD_sync : ByteArray := prog_1_method_4_code
def y_RD_sync : MethodName := ⟨"RebornDrivers", "sync", "(I)Z"⟩
abbrev b_RD_print : ByteArray := prog_1_method_5_code
def y_RD_print : MethodName := ⟨"RebornDrivers", "print", "(II)Z"⟩
abbrev b_RD_tick : ByteArray := prog_1_method_6_code
def y_RD_tick : MethodName := ⟨"RebornDrivers", "tick", "()I"⟩
abbrev b_Dr_beWatched : ByteArray := prog_3_method_4_code
def y_Dr_beWatched : MethodName := ⟨"RebornDrivers$Driver", "beWatched", "(Z)V"⟩
abbrev b_Dr_restart : ByteArray := prog_3_method_5_code
def y_Dr_restart : MethodName := ⟨"RebornDrivers$Driver", "restart", "()V"⟩
abbrev b_RD_stepDisk : ByteArray := prog_1_method_22_code
def y_RD_stepDisk : MethodName := ⟨"RebornDrivers", "stepDisk", "()V"⟩
abbrev b_Dr_takeStep : ByteArray := prog_3_method_6_code
def y_Dr_takeStep : MethodName := ⟨"RebornDrivers$Driver", "takeStep", "()I"⟩
abbrev b_Dr_beRefused : ByteArray := prog_3_method_7_code
def y_Dr_beRefused : MethodName := ⟨"RebornDrivers$Driver", "beRefused", "()V"⟩
abbrev b_Dr_die : ByteArray := prog_3_method_3_code
def y_Dr_die : MethodName := ⟨"RebornDrivers$Driver", "die", "()V"⟩
abbrev b_RD_moveBlock : ByteArray := prog_1_method_23_code
def y_RD_moveBlock : MethodName := ⟨"RebornDrivers", "moveBlock", "()V"⟩
abbrev b_RD_stepConsole : ByteArray := prog_1_method_24_code
def y_RD_stepConsole : MethodName := ⟨"RebornDrivers", "stepConsole", "()V"⟩
abbrev b_RD_putOutCharacter : ByteArray := prog_1_method_25_code
def y_RD_putOutCharacter : MethodName := ⟨"RebornDrivers", "putOutCharacter", "(I)V"⟩
abbrev b_RD_serveFiles : ByteArray := prog_1_method_26_code
def y_RD_serveFiles : MethodName := ⟨"RebornDrivers", "serveFiles", "()I"⟩
abbrev b_Rq_isOpen : ByteArray := prog_6_method_2_code
def y_Rq_isOpen : MethodName := ⟨"RebornDrivers$Request", "isOpen", "()Z"⟩
abbrev b_Rq_wasGivenElsewhere : ByteArray := prog_6_method_5_code
def y_Rq_wasGivenElsewhere : MethodName := ⟨"RebornDrivers$Request", "wasGivenElsewhere", "(LRebornDrivers$Driver;)Z"⟩
abbrev b_Rq_giveTo : ByteArray := prog_6_method_6_code
def y_Rq_giveTo : MethodName := ⟨"RebornDrivers$Request", "giveTo", "(LRebornDrivers$Driver;)V"⟩
abbrev b_RD_takeDiskAnswer : ByteArray := prog_1_method_27_code
def y_RD_takeDiskAnswer : MethodName := ⟨"RebornDrivers", "takeDiskAnswer", "()V"⟩
abbrev b_Ca_hold : ByteArray := prog_2_method_5_code
def y_Ca_hold : MethodName := ⟨"RebornDrivers$Cache", "hold", "(IIIZ)V"⟩
abbrev b_Rq_close : ByteArray := prog_6_method_4_code
def y_Rq_close : MethodName := ⟨"RebornDrivers$Request", "close", "()V"⟩
abbrev b_Ln_isEmpty : ByteArray := prog_4_method_2_code
def y_Ln_isEmpty : MethodName := ⟨"RebornDrivers$Line", "isEmpty", "()Z"⟩
abbrev b_Ln_head : ByteArray := prog_4_method_3_code
def y_Ln_head : MethodName := ⟨"RebornDrivers$Line", "head", "()I"⟩
abbrev b_RD_goOnWith : ByteArray := prog_1_method_28_code
def y_RD_goOnWith : MethodName := ⟨"RebornDrivers", "goOnWith", "(LRebornDrivers$Operation;)Z"⟩
abbrev b_RD_goOnWithSync : ByteArray := prog_1_method_30_code
def y_RD_goOnWithSync : MethodName := ⟨"RebornDrivers", "goOnWithSync", "(LRebornDrivers$Operation;)Z"⟩
abbrev b_Ca_dirtySlotOfLowestBlock : ByteArray := prog_2_method_4_code
def y_Ca_dirtySlotOfLowestBlock : MethodName := ⟨"RebornDrivers$Cache", "dirtySlotOfLowestBlock", "()I"⟩
abbrev b_Op_finish : ByteArray := prog_5_method_3_code
def y_Op_finish : MethodName := ⟨"RebornDrivers$Operation", "finish", "(I)V"⟩
abbrev b_RD_askToWriteOut : ByteArray := prog_1_method_31_code
def y_RD_askToWriteOut : MethodName := ⟨"RebornDrivers", "askToWriteOut", "(I)V"⟩
abbrev b_Rq_open : ByteArray := prog_6_method_3_code
def y_Rq_open : MethodName := ⟨"RebornDrivers$Request", "open", "(I)V"⟩
abbrev b_Ca_find : ByteArray := prog_2_method_2_code
def y_Ca_find : MethodName := ⟨"RebornDrivers$Cache", "find", "(I)I"⟩
abbrev b_RD_makeRoomFor : ByteArray := prog_1_method_29_code
def y_RD_makeRoomFor : MethodName := ⟨"RebornDrivers", "makeRoomFor", "(LRebornDrivers$Operation;)Z"⟩
abbrev b_Ca_slotToFill : ByteArray := prog_2_method_3_code
def y_Ca_slotToFill : MethodName := ⟨"RebornDrivers$Cache", "slotToFill", "()I"⟩
abbrev b_Ca_empty : ByteArray := prog_2_method_6_code
def y_Ca_empty : MethodName := ⟨"RebornDrivers$Cache", "empty", "(I)V"⟩
abbrev b_RD_askToReadIn : ByteArray := prog_1_method_32_code
def y_RD_askToReadIn : MethodName := ⟨"RebornDrivers", "askToReadIn", "(II)V"⟩
abbrev b_Ln_dropHead : ByteArray := prog_4_method_5_code
def y_Ln_dropHead : MethodName := ⟨"RebornDrivers$Line", "dropHead", "()V"⟩
abbrev b_RD_serveTerminal : ByteArray := prog_1_method_33_code
def y_RD_serveTerminal : MethodName := ⟨"RebornDrivers", "serveTerminal", "()I"⟩
abbrev b_Op_fail : ByteArray := prog_5_method_4_code
def y_Op_fail : MethodName := ⟨"RebornDrivers$Operation", "fail", "()V"⟩
abbrev b_RD_askToPutOut : ByteArray := prog_1_method_34_code
def y_RD_askToPutOut : MethodName := ⟨"RebornDrivers", "askToPutOut", "(I)V"⟩
abbrev b_RD_fault : ByteArray := prog_1_method_7_code
def y_RD_fault : MethodName := ⟨"RebornDrivers", "fault", "(II)Z"⟩
abbrev b_RD_isDriver : ByteArray := prog_1_method_19_code
def y_RD_isDriver : MethodName := ⟨"RebornDrivers", "isDriver", "(I)Z"⟩
abbrev b_RD_driverOf : ByteArray := prog_1_method_21_code
def y_RD_driverOf : MethodName := ⟨"RebornDrivers", "driverOf", "(I)LRebornDrivers$Driver;"⟩
abbrev b_Dr_suffer : ByteArray := prog_3_method_2_code
def y_Dr_suffer : MethodName := ⟨"RebornDrivers$Driver", "suffer", "(I)Z"⟩
abbrev b_RD_state : ByteArray := prog_1_method_8_code
def y_RD_state : MethodName := ⟨"RebornDrivers", "state", "(I)I"⟩
abbrev b_RD_result : ByteArray := prog_1_method_9_code
def y_RD_result : MethodName := ⟨"RebornDrivers", "result", "(I)I"⟩
abbrev b_RD_line : ByteArray := prog_1_method_10_code
def y_RD_line : MethodName := ⟨"RebornDrivers", "line", "(I)I"⟩
abbrev b_RD_device : ByteArray := prog_1_method_11_code
def y_RD_device : MethodName := ⟨"RebornDrivers", "device", "(I)I"⟩
abbrev b_RD_slot : ByteArray := prog_1_method_12_code
def y_RD_slot : MethodName := ⟨"RebornDrivers", "slot", "(II)I"⟩
abbrev b_RD_output : ByteArray := prog_1_method_13_code
def y_RD_output : MethodName := ⟨"RebornDrivers", "output", "(I)I"⟩
abbrev b_RD_driver : ByteArray := prog_1_method_14_code
def y_RD_driver : MethodName := ⟨"RebornDrivers", "driver", "(II)I"⟩
abbrev b_RD_request : ByteArray := prog_1_method_15_code
def y_RD_request : MethodName := ⟨"RebornDrivers", "request", "(I)I"⟩
abbrev b_Rq_progress : ByteArray := prog_6_method_7_code
def y_Rq_progress : MethodName := ⟨"RebornDrivers$Request", "progress", "()I"⟩
abbrev b_RD_now : ByteArray := prog_1_method_16_code
def y_RD_now : MethodName := ⟨"RebornDrivers", "now", "()I"⟩
abbrev b_Lw_cell : ByteArray := method_2_code
def y_Lw_cell : MethodName := ⟨"RebornDriversLaw", "cell", "([II)I"⟩
abbrev b_Md_init : ByteArray := prog_8_method_1_code
def y_Md_init : MethodName := ⟨"RebornDriversModel", "<init>", "(I)V"⟩
abbrev b_Md_read : ByteArray := prog_8_method_3_code
def y_Md_read : MethodName := ⟨"RebornDriversModel", "read", "(II)Z"⟩
abbrev b_Md_begin : ByteArray := prog_8_method_2_code
def y_Md_begin : MethodName := ⟨"RebornDriversModel", "begin", "(IIII)Z"⟩
abbrev b_Md_write : ByteArray := prog_8_method_4_code
def y_Md_write : MethodName := ⟨"RebornDriversModel", "write", "(III)Z"⟩
abbrev b_Md_sync : ByteArray := prog_8_method_5_code
def y_Md_sync : MethodName := ⟨"RebornDriversModel", "sync", "(I)Z"⟩
abbrev b_Md_print : ByteArray := prog_8_method_6_code
def y_Md_print : MethodName := ⟨"RebornDriversModel", "print", "(II)Z"⟩
abbrev b_Md_tick : ByteArray := prog_8_method_25_code
def y_Md_tick : MethodName := ⟨"RebornDriversModel", "tick", "()I"⟩
abbrev b_Md_pending : ByteArray := prog_8_method_10_code
def y_Md_pending : MethodName := ⟨"RebornDriversModel", "pending", "()I"⟩
abbrev b_Md_reincarnate : ByteArray := prog_8_method_11_code
def y_Md_reincarnate : MethodName := ⟨"RebornDriversModel", "reincarnate", "(I)V"⟩
abbrev b_Md_step : ByteArray := prog_8_method_12_code
def y_Md_step : MethodName := ⟨"RebornDriversModel", "step", "(I)V"⟩
abbrev b_Md_move : ByteArray := prog_8_method_13_code
def y_Md_move : MethodName := ⟨"RebornDriversModel", "move", "()V"⟩
abbrev b_Md_show : ByteArray := prog_8_method_14_code
def y_Md_show : MethodName := ⟨"RebornDriversModel", "show", "()V"⟩
abbrev b_Md_head : ByteArray := prog_8_method_8_code
def y_Md_head : MethodName := ⟨"RebornDriversModel", "head", "(I)I"⟩
abbrev b_Md_stands : ByteArray := prog_8_method_7_code
def y_Md_stands : MethodName := ⟨"RebornDriversModel", "stands", "(II)Z"⟩
abbrev b_Md_serveFiles : ByteArray := prog_8_method_23_code
def y_Md_serveFiles : MethodName := ⟨"RebornDriversModel", "serveFiles", "()V"⟩
abbrev b_Md_give : ByteArray := prog_8_method_15_code
def y_Md_give : MethodName := ⟨"RebornDriversModel", "give", "(I)V"⟩
abbrev b_Md_flush : ByteArray := prog_8_method_22_code
def y_Md_flush : MethodName := ⟨"RebornDriversModel", "flush", "(I)V"⟩
abbrev b_Md_end : ByteArray := prog_8_method_9_code
def y_Md_end : MethodName := ⟨"RebornDriversModel", "end", "(III)V"⟩
abbrev b_Md_demand : ByteArray := prog_8_method_16_code
def y_Md_demand : MethodName := ⟨"RebornDriversModel", "demand", "(IZI)V"⟩
abbrev b_Md_access : ByteArray := prog_8_method_21_code
def y_Md_access : MethodName := ⟨"RebornDriversModel", "access", "(I)V"⟩
abbrev b_Md_slotWith : ByteArray := prog_8_method_17_code
def y_Md_slotWith : MethodName := ⟨"RebornDriversModel", "slotWith", "(I)I"⟩
abbrev b_Md_use : ByteArray := prog_8_method_19_code
def y_Md_use : MethodName := ⟨"RebornDriversModel", "use", "(I)V"⟩
abbrev b_Md_fill : ByteArray := prog_8_method_20_code
def y_Md_fill : MethodName := ⟨"RebornDriversModel", "fill", "(II)V"⟩
abbrev b_Md_slotToTake : ByteArray := prog_8_method_18_code
def y_Md_slotToTake : MethodName := ⟨"RebornDriversModel", "slotToTake", "()I"⟩
abbrev b_Md_serveTerminal : ByteArray := prog_8_method_24_code
def y_Md_serveTerminal : MethodName := ⟨"RebornDriversModel", "serveTerminal", "()V"⟩
abbrev b_Md_fault : ByteArray := prog_8_method_26_code
def y_Md_fault : MethodName := ⟨"RebornDriversModel", "fault", "(II)Z"⟩
abbrev b_Md_state : ByteArray := prog_8_method_27_code
def y_Md_state : MethodName := ⟨"RebornDriversModel", "state", "(I)I"⟩
abbrev b_Md_result : ByteArray := prog_8_method_28_code
def y_Md_result : MethodName := ⟨"RebornDriversModel", "result", "(I)I"⟩
abbrev b_Md_line : ByteArray := prog_8_method_29_code
def y_Md_line : MethodName := ⟨"RebornDriversModel", "line", "(I)I"⟩
abbrev b_Md_device : ByteArray := prog_8_method_30_code
def y_Md_device : MethodName := ⟨"RebornDriversModel", "device", "(I)I"⟩
abbrev b_Md_slot : ByteArray := prog_8_method_31_code
def y_Md_slot : MethodName := ⟨"RebornDriversModel", "slot", "(II)I"⟩
abbrev b_Md_output : ByteArray := prog_8_method_32_code
def y_Md_output : MethodName := ⟨"RebornDriversModel", "output", "(I)I"⟩
abbrev b_Md_driver : ByteArray := prog_8_method_33_code
def y_Md_driver : MethodName := ⟨"RebornDriversModel", "driver", "(II)I"⟩
abbrev b_Md_request : ByteArray := prog_8_method_34_code
def y_Md_request : MethodName := ⟨"RebornDriversModel", "request", "(I)I"⟩
abbrev b_Md_now : ByteArray := prog_8_method_35_code
def y_Md_now : MethodName := ⟨"RebornDriversModel", "now", "()I"⟩
theorem n_RD : ∀ a, a < 14 → ∀ b, b < 14 → a ≠ b → (F_RD a).2.1 ≠ (F_RD b).2.1 := by decide +kernel
theorem t_RD_ok : ∀ k, k < 14 → parseFieldDescriptor (F_RD k).2.2.1 = some (t_RD k) := by decide +kernel
set_option maxRecDepth 20000 in
theorem in_RD : ∀ w ∈ u_ws R_RD F_RD 14, w ∈ kx_tbl := by decide +kernel
theorem n_Op : ∀ a, a < 6 → ∀ b, b < 6 → a ≠ b → (F_Op a).2.1 ≠ (F_Op b).2.1 := by decide +kernel
theorem t_Op_ok : ∀ k, k < 6 → parseFieldDescriptor (F_Op k).2.2.1 = some (t_Op k) := by decide +kernel
set_option maxRecDepth 20000 in
theorem in_Op : ∀ w ∈ u_ws R_Op F_Op 6, w ∈ kx_tbl := by decide +kernel
theorem n_Ln : ∀ a, a < 2 → ∀ b, b < 2 → a ≠ b → (F_Ln a).2.1 ≠ (F_Ln b).2.1 := by decide +kernel
theorem t_Ln_ok : ∀ k, k < 2 → parseFieldDescriptor (F_Ln k).2.2.1 = some (t_Ln k) := by decide +kernel
set_option maxRecDepth 20000 in
theorem in_Ln : ∀ w ∈ u_ws R_Ln F_Ln 2, w ∈ kx_tbl := by decide +kernel
theorem n_Dr : ∀ a, a < 6 → ∀ b, b < 6 → a ≠ b → (F_Dr a).2.1 ≠ (F_Dr b).2.1 := by decide +kernel
theorem t_Dr_ok : ∀ k, k < 6 → parseFieldDescriptor (F_Dr k).2.2.1 = some (t_Dr k) := by decide +kernel
set_option maxRecDepth 20000 in
theorem in_Dr : ∀ w ∈ u_ws R_Dr F_Dr 6, w ∈ kx_tbl := by decide +kernel
theorem n_Rq : ∀ a, a < 7 → ∀ b, b < 7 → a ≠ b → (F_Rq a).2.1 ≠ (F_Rq b).2.1 := by decide +kernel
theorem t_Rq_ok : ∀ k, k < 7 → parseFieldDescriptor (F_Rq k).2.2.1 = some (t_Rq k) := by decide +kernel
set_option maxRecDepth 20000 in
theorem in_Rq : ∀ w ∈ u_ws R_Rq F_Rq 7, w ∈ kx_tbl := by decide +kernel
theorem n_Ca : ∀ a, a < 4 → ∀ b, b < 4 → a ≠ b → (F_Ca a).2.1 ≠ (F_Ca b).2.1 := by decide +kernel
theorem t_Ca_ok : ∀ k, k < 4 → parseFieldDescriptor (F_Ca k).2.2.1 = some (t_Ca k) := by decide +kernel
set_option maxRecDepth 20000 in
theorem in_Ca : ∀ w ∈ u_ws R_Ca F_Ca 4, w ∈ kx_tbl := by decide +kernel
theorem n_Md : ∀ a, a < 30 → ∀ b, b < 30 → a ≠ b → (F_Md a).2.1 ≠ (F_Md b).2.1 := by decide +kernel
theorem t_Md_ok : ∀ k, k < 30 → parseFieldDescriptor (F_Md k).2.2.1 = some (t_Md k) := by decide +kernel
set_option maxRecDepth 20000 in
theorem in_Md : ∀ w ∈ u_ws R_Md F_Md 30, w ∈ kx_tbl := by decide +kernel
theorem kx_tbl_good : ∀ w ∈ kx_tbl, (w.onTables && w.keeps) = true ∨ ∃ ty, w = .arrayClass ty := fun w h => good_of_word (List.mem_filter.mp h).2
end
section
theorem d_Ln_init_0 : decode b_Ln_init 0 = .ok (.aload_n 0, 1) := by decide +kernel
theorem d_Ln_init_1 : decode b_Ln_init 1 = .ok (.invokespecial 3, 3) := by decide +kernel
theorem d_Ln_init_4 : decode b_Ln_init 4 = .ok (.aload_n 0, 1) := by decide +kernel
theorem d_Ln_init_5 : decode b_Ln_init 5 = .ok (.iconst 4, 1) := by decide +kernel
theorem d_Ln_init_6 : decode b_Ln_init 6 = .ok (.newarray .int, 2) := by decide +kernel
theorem d_Ln_init_8 : decode b_Ln_init 8 = .ok (.putfield 9, 3) := by decide +kernel
theorem d_Ln_init_11 : decode b_Ln_init 11 = .ok (.return_, 1) := by decide +kernel
theorem d_Dr_init_0 : decode b_Dr_init 0 = .ok (.aload_n 0, 1) := by decide +kernel
theorem d_Dr_init_1 : decode b_Dr_init 1 = .ok (.invokespecial 3, 3) := by decide +kernel
theorem d_Dr_init_4 : decode b_Dr_init 4 = .ok (.aload_n 0, 1) := by decide +kernel
theorem d_Dr_init_5 : decode b_Dr_init 5 = .ok (.iconst 0, 1) := by decide +kernel
theorem d_Dr_init_6 : decode b_Dr_init 6 = .ok (.putfield 11, 3) := by decide +kernel
theorem d_Dr_init_9 : decode b_Dr_init 9 = .ok (.aload_n 0, 1) := by decide +kernel
theorem d_Dr_init_10 : decode b_Dr_init 10 = .ok (.iconst (-1), 1) := by decide +kernel
theorem d_Dr_init_11 : decode b_Dr_init 11 = .ok (.putfield 15, 3) := by decide +kernel
theorem d_Dr_init_14 : decode b_Dr_init 14 = .ok (.aload_n 0, 1) := by decide +kernel
theorem d_Dr_init_15 : decode b_Dr_init 15 = .ok (.iconst 1, 1) := by decide +kernel
theorem d_Dr_init_16 : decode b_Dr_init 16 = .ok (.putfield 18, 3) := by decide +kernel
theorem d_Dr_init_19 : decode b_Dr_init 19 = .ok (.aload_n 0, 1) := by decide +kernel
theorem d_Dr_init_20 : decode b_Dr_init 20 = .ok (.iconst 0, 1) := by decide +kernel
theorem d_Dr_init_21 : decode b_Dr_init 21 = .ok (.putfield 22, 3) := by decide +kernel
theorem d_Dr_init_24 : decode b_Dr_init 24 = .ok (.return_, 1) := by decide +kernel
theorem d_Rq_init_0 : decode b_Rq_init 0 = .ok (.aload_n 0, 1) := by decide +kernel
theorem d_Rq_init_1 : decode b_Rq_init 1 = .ok (.invokespecial 1, 3) := by decide +kernel
theorem d_Rq_init_4 : decode b_Rq_init 4 = .ok (.aload_n 0, 1) := by decide +kernel
theorem d_Rq_init_5 : decode b_Rq_init 5 = .ok (.iconst 0, 1) := by decide +kernel
theorem d_Rq_init_6 : decode b_Rq_init 6 = .ok (.putfield 9, 3) := by decide +kernel
theorem d_Rq_init_9 : decode b_Rq_init 9 = .ok (.return_, 1) := by decide +kernel
theorem d_Ca_init_0 : decode b_Ca_init 0 = .ok (.aload_n 0, 1) := by decide +kernel
theorem d_Ca_init_1 : decode b_Ca_init 1 = .ok (.invokespecial 3, 3) := by decide +kernel
theorem d_Ca_init_4 : decode b_Ca_init 4 = .ok (.aload_n 0, 1) := by decide +kernel
theorem d_Ca_init_5 : decode b_Ca_init 5 = .ok (.iconst 3, 1) := by decide +kernel
theorem d_Ca_init_6 : decode b_Ca_init 6 = .ok (.newarray .int, 2) := by decide +kernel
theorem d_Ca_init_8 : decode b_Ca_init 8 = .ok (.putfield 9, 3) := by decide +kernel
theorem d_Ca_init_11 : decode b_Ca_init 11 = .ok (.aload_n 0, 1) := by decide +kernel
theorem d_Ca_init_12 : decode b_Ca_init 12 = .ok (.iconst 3, 1) := by decide +kernel
theorem d_Ca_init_13 : decode b_Ca_init 13 = .ok (.newarray .int, 2) := by decide +kernel
theorem d_Ca_init_15 : decode b_Ca_init 15 = .ok (.putfield 15, 3) := by decide +kernel
theorem d_Ca_init_18 : decode b_Ca_init 18 = .ok (.aload_n 0, 1) := by decide +kernel
theorem d_Ca_init_19 : decode b_Ca_init 19 = .ok (.iconst 3, 1) := by decide +kernel
theorem d_Ca_init_20 : decode b_Ca_init 20 = .ok (.newarray .boolean, 2) := by decide +kernel
theorem d_Ca_init_22 : decode b_Ca_init 22 = .ok (.putfield 18, 3) := by decide +kernel
theorem d_Ca_init_25 : decode b_Ca_init 25 = .ok (.aload_n 0, 1) := by decide +kernel
theorem d_Ca_init_26 : decode b_Ca_init 26 = .ok (.iconst 3, 1) := by decide +kernel
theorem d_Ca_init_27 : decode b_Ca_init 27 = .ok (.newarray .int, 2) := by decide +kernel
theorem d_Ca_init_29 : decode b_Ca_init 29 = .ok (.putfield 22, 3) := by decide +kernel
theorem d_Ca_init_32 : decode b_Ca_init 32 = .ok (.aload_n 0, 1) := by decide +kernel
theorem d_Ca_init_33 : decode b_Ca_init 33 = .ok (.getfield 9, 3) := by decide +kernel
theorem d_Ca_init_36 : decode b_Ca_init 36 = .ok (.iconst (-1), 1) := by decide +kernel
theorem d_Ca_init_37 : decode b_Ca_init 37 = .ok (.invokestatic 25, 3) := by decide +kernel
theorem d_Ca_init_40 : decode b_Ca_init 40 = .ok (.return_, 1) := by decide +kernel
theorem d_Ar_fill_0 : decode b_Ar_fill 0 = .ok (.iconst 0, 1) := by decide +kernel
theorem d_Ar_fill_1 : decode b_Ar_fill 1 = .ok (.istore_n 2, 1) := by decide +kernel
theorem d_Ar_fill_2 : decode b_Ar_fill 2 = .ok (.aload_n 0, 1) := by decide +kernel
theorem d_Ar_fill_3 : decode b_Ar_fill 3 = .ok (.arraylength, 1) := by decide +kernel
theorem d_Ar_fill_4 : decode b_Ar_fill 4 = .ok (.istore_n 3, 1) := by decide +kernel
theorem d_Ar_fill_5 : decode b_Ar_fill 5 = .ok (.iload_n 2, 1) := by decide +kernel
theorem d_Ar_fill_6 : decode b_Ar_fill 6 = .ok (.iload_n 3, 1) := by decide +kernel
theorem d_Ar_fill_7 : decode b_Ar_fill 7 = .ok (.if_icmp .ge 13, 3) := by decide +kernel
theorem d_Ar_fill_10 : decode b_Ar_fill 10 = .ok (.aload_n 0, 1) := by decide +kernel
theorem d_Ar_fill_11 : decode b_Ar_fill 11 = .ok (.iload_n 2, 1) := by decide +kernel
theorem d_Ar_fill_12 : decode b_Ar_fill 12 = .ok (.iload_n 1, 1) := by decide +kernel
theorem d_Ar_fill_13 : decode b_Ar_fill 13 = .ok (.iastore, 1) := by decide +kernel
theorem d_Ar_fill_14 : decode b_Ar_fill 14 = .ok (.iinc 2 1, 3) := by decide +kernel
theorem d_Ar_fill_17 : decode b_Ar_fill 17 = .ok (.goto (-12), 3) := by decide +kernel
theorem d_Ar_fill_20 : decode b_Ar_fill 20 = .ok (.return_, 1) := by decide +kernel
theorem d_Op_init_0 : decode b_Op_init 0 = .ok (.aload_n 0, 1) := by decide +kernel
theorem d_Op_init_1 : decode b_Op_init 1 = .ok (.invokespecial 1, 3) := by decide +kernel
theorem d_Op_init_4 : decode b_Op_init 4 = .ok (.return_, 1) := by decide +kernel
theorem d_Op_begin_0 : decode b_Op_begin 0 = .ok (.aload_n 0, 1) := by decide +kernel
theorem d_Op_begin_1 : decode b_Op_begin 1 = .ok (.iload_n 1, 1) := by decide +kernel
theorem d_Op_begin_2 : decode b_Op_begin 2 = .ok (.putfield 7, 3) := by decide +kernel
theorem d_Op_begin_5 : decode b_Op_begin 5 = .ok (.aload_n 0, 1) := by decide +kernel
theorem d_Op_begin_6 : decode b_Op_begin 6 = .ok (.iload_n 2, 1) := by decide +kernel
theorem d_Op_begin_7 : decode b_Op_begin 7 = .ok (.putfield 13, 3) := by decide +kernel
theorem d_Op_begin_10 : decode b_Op_begin 10 = .ok (.aload_n 0, 1) := by decide +kernel
theorem d_Op_begin_11 : decode b_Op_begin 11 = .ok (.iload_n 3, 1) := by decide +kernel
theorem d_Op_begin_12 : decode b_Op_begin 12 = .ok (.putfield 16, 3) := by decide +kernel
theorem d_Op_begin_15 : decode b_Op_begin 15 = .ok (.aload_n 0, 1) := by decide +kernel
theorem d_Op_begin_16 : decode b_Op_begin 16 = .ok (.iconst 0, 1) := by decide +kernel
theorem d_Op_begin_17 : decode b_Op_begin 17 = .ok (.putfield 19, 3) := by decide +kernel
theorem d_Op_begin_20 : decode b_Op_begin 20 = .ok (.aload_n 0, 1) := by decide +kernel
theorem d_Op_begin_21 : decode b_Op_begin 21 = .ok (.iconst 1, 1) := by decide +kernel
theorem d_Op_begin_22 : decode b_Op_begin 22 = .ok (.putfield 22, 3) := by decide +kernel
theorem d_Op_begin_25 : decode b_Op_begin 25 = .ok (.aload_n 0, 1) := by decide +kernel
theorem d_Op_begin_26 : decode b_Op_begin 26 = .ok (.iconst 0, 1) := by decide +kernel
theorem d_Op_begin_27 : decode b_Op_begin 27 = .ok (.putfield 25, 3) := by decide +kernel
theorem d_Op_begin_30 : decode b_Op_begin 30 = .ok (.return_, 1) := by decide +kernel
theorem d_Ln_join_0 : decode b_Ln_join 0 = .ok (.aload_n 0, 1) := by decide +kernel
theorem d_Ln_join_1 : decode b_Ln_join 1 = .ok (.getfield 15, 3) := by decide +kernel
theorem d_Ln_join_4 : decode b_Ln_join 4 = .ok (.iconst 4, 1) := by decide +kernel
theorem d_Ln_join_5 : decode b_Ln_join 5 = .ok (.if_icmp .ge 23, 3) := by decide +kernel
theorem d_Ln_join_8 : decode b_Ln_join 8 = .ok (.aload_n 0, 1) := by decide +kernel
theorem d_Ln_join_9 : decode b_Ln_join 9 = .ok (.getfield 9, 3) := by decide +kernel
theorem d_Ln_join_12 : decode b_Ln_join 12 = .ok (.aload_n 0, 1) := by decide +kernel
theorem d_Ln_join_13 : decode b_Ln_join 13 = .ok (.getfield 15, 3) := by decide +kernel
theorem d_Ln_join_16 : decode b_Ln_join 16 = .ok (.iload_n 1, 1) := by decide +kernel
theorem d_Ln_join_17 : decode b_Ln_join 17 = .ok (.iastore, 1) := by decide +kernel
theorem d_Ln_join_18 : decode b_Ln_join 18 = .ok (.aload_n 0, 1) := by decide +kernel
theorem d_Ln_join_19 : decode b_Ln_join 19 = .ok (.dup, 1) := by decide +kernel
theorem d_Ln_join_20 : decode b_Ln_join 20 = .ok (.getfield 15, 3) := by decide +kernel
theorem d_Ln_join_23 : decode b_Ln_join 23 = .ok (.iconst 1, 1) := by decide +kernel
theorem d_Ln_join_24 : decode b_Ln_join 24 = .ok (.iadd, 1) := by decide +kernel
theorem d_Ln_join_25 : decode b_Ln_join 25 = .ok (.putfield 15, 3) := by decide +kernel
theorem d_Ln_join_28 : decode b_Ln_join 28 = .ok (.return_, 1) := by decide +kernel
theorem d_Dr_beWatched_0 : decode b_Dr_beWatched 0 = .ok (.aload_n 0, 1) := by decide +kernel
theorem d_Dr_beWatched_1 : decode b_Dr_beWatched 1 = .ok (.getfield 11, 3) := by decide +kernel
theorem d_Dr_beWatched_4 : decode b_Dr_beWatched 4 = .ok (.iconst 2, 1) := by decide +kernel
theorem d_Dr_beWatched_5 : decode b_Dr_beWatched 5 = .ok (.if_icmp .eq 14, 3) := by decide +kernel
theorem d_Dr_beWatched_8 : decode b_Dr_beWatched 8 = .ok (.iload_n 1, 1) := by decide +kernel
theorem d_Dr_beWatched_9 : decode b_Dr_beWatched 9 = .ok (.ifCond .eq 17, 3) := by decide +kernel
theorem d_Dr_beWatched_12 : decode b_Dr_beWatched 12 = .ok (.aload_n 0, 1) := by decide +kernel
theorem d_Dr_beWatched_13 : decode b_Dr_beWatched 13 = .ok (.getfield 18, 3) := by decide +kernel
theorem d_Dr_beWatched_16 : decode b_Dr_beWatched 16 = .ok (.ifCond .ne 10, 3) := by decide +kernel
theorem d_Dr_beWatched_19 : decode b_Dr_beWatched 19 = .ok (.aload_n 0, 1) := by decide +kernel
theorem d_Dr_beWatched_20 : decode b_Dr_beWatched 20 = .ok (.invokevirtual 28, 3) := by decide +kernel
theorem d_Dr_beWatched_23 : decode b_Dr_beWatched 23 = .ok (.goto 12, 3) := by decide +kernel
theorem d_Dr_beWatched_26 : decode b_Dr_beWatched 26 = .ok (.iload_n 1, 1) := by decide +kernel
theorem d_Dr_beWatched_27 : decode b_Dr_beWatched 27 = .ok (.ifCond .eq 8, 3) := by decide +kernel
theorem d_Dr_beWatched_30 : decode b_Dr_beWatched 30 = .ok (.aload_n 0, 1) := by decide +kernel
theorem d_Dr_beWatched_31 : decode b_Dr_beWatched 31 = .ok (.iconst 0, 1) := by decide +kernel
theorem d_Dr_beWatched_32 : decode b_Dr_beWatched 32 = .ok (.putfield 18, 3) := by decide +kernel
theorem d_Dr_beWatched_35 : decode b_Dr_beWatched 35 = .ok (.return_, 1) := by decide +kernel
theorem d_Dr_restart_0 : decode b_Dr_restart 0 = .ok (.aload_n 0, 1) := by decide +kernel
theorem d_Dr_restart_1 : decode b_Dr_restart 1 = .ok (.dup, 1) := by decide +kernel
theorem d_Dr_restart_2 : decode b_Dr_restart 2 = .ok (.getfield 31, 3) := by decide +kernel
theorem d_Dr_restart_5 : decode b_Dr_restart 5 = .ok (.iconst 1, 1) := by decide +kernel
theorem d_Dr_restart_6 : decode b_Dr_restart 6 = .ok (.iadd, 1) := by decide +kernel
theorem d_Dr_restart_7 : decode b_Dr_restart 7 = .ok (.putfield 31, 3) := by decide +kernel
theorem d_Dr_restart_10 : decode b_Dr_restart 10 = .ok (.aload_n 0, 1) := by decide +kernel
theorem d_Dr_restart_11 : decode b_Dr_restart 11 = .ok (.iconst 0, 1) := by decide +kernel
theorem d_Dr_restart_12 : decode b_Dr_restart 12 = .ok (.putfield 11, 3) := by decide +kernel
theorem d_Dr_restart_15 : decode b_Dr_restart 15 = .ok (.aload_n 0, 1) := by decide +kernel
theorem d_Dr_restart_16 : decode b_Dr_restart 16 = .ok (.iconst (-1), 1) := by decide +kernel
theorem d_Dr_restart_17 : decode b_Dr_restart 17 = .ok (.putfield 15, 3) := by decide +kernel
theorem d_Dr_restart_20 : decode b_Dr_restart 20 = .ok (.aload_n 0, 1) := by decide +kernel
theorem d_Dr_restart_21 : decode b_Dr_restart 21 = .ok (.iconst 1, 1) := by decide +kernel
theorem d_Dr_restart_22 : decode b_Dr_restart 22 = .ok (.putfield 18, 3) := by decide +kernel
theorem d_Dr_restart_25 : decode b_Dr_restart 25 = .ok (.aload_n 0, 1) := by decide +kernel
theorem d_Dr_restart_26 : decode b_Dr_restart 26 = .ok (.iconst 0, 1) := by decide +kernel
theorem d_Dr_restart_27 : decode b_Dr_restart 27 = .ok (.putfield 22, 3) := by decide +kernel
theorem d_Dr_restart_30 : decode b_Dr_restart 30 = .ok (.return_, 1) := by decide +kernel
theorem d_Dr_takeStep_0 : decode b_Dr_takeStep 0 = .ok (.aload_n 0, 1) := by decide +kernel
theorem d_Dr_takeStep_1 : decode b_Dr_takeStep 1 = .ok (.getfield 11, 3) := by decide +kernel
theorem d_Dr_takeStep_4 : decode b_Dr_takeStep 4 = .ok (.ifCond .eq 5, 3) := by decide +kernel
theorem d_Dr_takeStep_7 : decode b_Dr_takeStep 7 = .ok (.iconst (-1), 1) := by decide +kernel
theorem d_Dr_takeStep_8 : decode b_Dr_takeStep 8 = .ok (.ireturn, 1) := by decide +kernel
theorem d_Dr_takeStep_9 : decode b_Dr_takeStep 9 = .ok (.aload_n 0, 1) := by decide +kernel
theorem d_Dr_takeStep_10 : decode b_Dr_takeStep 10 = .ok (.iconst 1, 1) := by decide +kernel
theorem d_Dr_takeStep_11 : decode b_Dr_takeStep 11 = .ok (.putfield 18, 3) := by decide +kernel
theorem d_Dr_takeStep_14 : decode b_Dr_takeStep 14 = .ok (.aload_n 0, 1) := by decide +kernel
theorem d_Dr_takeStep_15 : decode b_Dr_takeStep 15 = .ok (.getfield 22, 3) := by decide +kernel
theorem d_Dr_takeStep_18 : decode b_Dr_takeStep 18 = .ok (.ifCond .eq 9, 3) := by decide +kernel
theorem d_Dr_takeStep_21 : decode b_Dr_takeStep 21 = .ok (.aload_n 0, 1) := by decide +kernel
theorem d_Dr_takeStep_22 : decode b_Dr_takeStep 22 = .ok (.invokevirtual 34, 3) := by decide +kernel
theorem d_Dr_takeStep_25 : decode b_Dr_takeStep 25 = .ok (.iconst (-1), 1) := by decide +kernel
theorem d_Dr_takeStep_26 : decode b_Dr_takeStep 26 = .ok (.ireturn, 1) := by decide +kernel
theorem d_Dr_takeStep_27 : decode b_Dr_takeStep 27 = .ok (.aload_n 0, 1) := by decide +kernel
theorem d_Dr_takeStep_28 : decode b_Dr_takeStep 28 = .ok (.getfield 15, 3) := by decide +kernel
theorem d_Dr_takeStep_31 : decode b_Dr_takeStep 31 = .ok (.istore_n 1, 1) := by decide +kernel
theorem d_Dr_takeStep_32 : decode b_Dr_takeStep 32 = .ok (.iload_n 1, 1) := by decide +kernel
theorem d_Dr_takeStep_33 : decode b_Dr_takeStep 33 = .ok (.iconst 2, 1) := by decide +kernel
theorem d_Dr_takeStep_34 : decode b_Dr_takeStep 34 = .ok (.if_icmp .ne 11, 3) := by decide +kernel
theorem d_Dr_takeStep_37 : decode b_Dr_takeStep 37 = .ok (.aload_n 0, 1) := by decide +kernel
theorem d_Dr_takeStep_38 : decode b_Dr_takeStep 38 = .ok (.iconst (-1), 1) := by decide +kernel
theorem d_Dr_takeStep_39 : decode b_Dr_takeStep 39 = .ok (.putfield 15, 3) := by decide +kernel
theorem d_Dr_takeStep_42 : decode b_Dr_takeStep 42 = .ok (.goto 18, 3) := by decide +kernel
theorem d_Dr_takeStep_45 : decode b_Dr_takeStep 45 = .ok (.iload_n 1, 1) := by decide +kernel
theorem d_Dr_takeStep_46 : decode b_Dr_takeStep 46 = .ok (.iconst (-1), 1) := by decide +kernel
theorem d_Dr_takeStep_47 : decode b_Dr_takeStep 47 = .ok (.if_icmp .eq 13, 3) := by decide +kernel
theorem d_Dr_takeStep_50 : decode b_Dr_takeStep 50 = .ok (.aload_n 0, 1) := by decide +kernel
theorem d_Dr_takeStep_51 : decode b_Dr_takeStep 51 = .ok (.dup, 1) := by decide +kernel
theorem d_Dr_takeStep_52 : decode b_Dr_takeStep 52 = .ok (.getfield 15, 3) := by decide +kernel
theorem d_Dr_takeStep_55 : decode b_Dr_takeStep 55 = .ok (.iconst 1, 1) := by decide +kernel
theorem d_Dr_takeStep_56 : decode b_Dr_takeStep 56 = .ok (.iadd, 1) := by decide +kernel
theorem d_Dr_takeStep_57 : decode b_Dr_takeStep 57 = .ok (.putfield 15, 3) := by decide +kernel
theorem d_Dr_takeStep_60 : decode b_Dr_takeStep 60 = .ok (.iload_n 1, 1) := by decide +kernel
theorem d_Dr_takeStep_61 : decode b_Dr_takeStep 61 = .ok (.ireturn, 1) := by decide +kernel
theorem d_Dr_beRefused_0 : decode b_Dr_beRefused 0 = .ok (.aload_n 0, 1) := by decide +kernel
theorem d_Dr_beRefused_1 : decode b_Dr_beRefused 1 = .ok (.dup, 1) := by decide +kernel
theorem d_Dr_beRefused_2 : decode b_Dr_beRefused 2 = .ok (.getfield 37, 3) := by decide +kernel
theorem d_Dr_beRefused_5 : decode b_Dr_beRefused 5 = .ok (.iconst 1, 1) := by decide +kernel
theorem d_Dr_beRefused_6 : decode b_Dr_beRefused 6 = .ok (.iadd, 1) := by decide +kernel
theorem d_Dr_beRefused_7 : decode b_Dr_beRefused 7 = .ok (.putfield 37, 3) := by decide +kernel
theorem d_Dr_beRefused_10 : decode b_Dr_beRefused 10 = .ok (.aload_n 0, 1) := by decide +kernel
theorem d_Dr_beRefused_11 : decode b_Dr_beRefused 11 = .ok (.getfield 22, 3) := by decide +kernel
theorem d_Dr_beRefused_14 : decode b_Dr_beRefused 14 = .ok (.iconst 3, 1) := by decide +kernel
theorem d_Dr_beRefused_15 : decode b_Dr_beRefused 15 = .ok (.if_icmp .ne 7, 3) := by decide +kernel
theorem d_Dr_beRefused_18 : decode b_Dr_beRefused 18 = .ok (.aload_n 0, 1) := by decide +kernel
theorem d_Dr_beRefused_19 : decode b_Dr_beRefused 19 = .ok (.invokevirtual 25, 3) := by decide +kernel
theorem d_Dr_beRefused_22 : decode b_Dr_beRefused 22 = .ok (.aload_n 0, 1) := by decide +kernel
theorem d_Dr_beRefused_23 : decode b_Dr_beRefused 23 = .ok (.iconst 0, 1) := by decide +kernel
theorem d_Dr_beRefused_24 : decode b_Dr_beRefused 24 = .ok (.putfield 22, 3) := by decide +kernel
theorem d_Dr_beRefused_27 : decode b_Dr_beRefused 27 = .ok (.return_, 1) := by decide +kernel
theorem d_Dr_die_0 : decode b_Dr_die 0 = .ok (.aload_n 0, 1) := by decide +kernel
theorem d_Dr_die_1 : decode b_Dr_die 1 = .ok (.iconst 2, 1) := by decide +kernel
theorem d_Dr_die_2 : decode b_Dr_die 2 = .ok (.putfield 11, 3) := by decide +kernel
theorem d_Dr_die_5 : decode b_Dr_die 5 = .ok (.aload_n 0, 1) := by decide +kernel
theorem d_Dr_die_6 : decode b_Dr_die 6 = .ok (.iconst (-1), 1) := by decide +kernel
theorem d_Dr_die_7 : decode b_Dr_die 7 = .ok (.putfield 15, 3) := by decide +kernel
theorem d_Dr_die_10 : decode b_Dr_die 10 = .ok (.aload_n 0, 1) := by decide +kernel
theorem d_Dr_die_11 : decode b_Dr_die 11 = .ok (.iconst 0, 1) := by decide +kernel
theorem d_Dr_die_12 : decode b_Dr_die 12 = .ok (.putfield 22, 3) := by decide +kernel
theorem d_Dr_die_15 : decode b_Dr_die 15 = .ok (.return_, 1) := by decide +kernel
theorem d_Rq_isOpen_0 : decode b_Rq_isOpen 0 = .ok (.aload_n 0, 1) := by decide +kernel
theorem d_Rq_isOpen_1 : decode b_Rq_isOpen 1 = .ok (.getfield 9, 3) := by decide +kernel
theorem d_Rq_isOpen_4 : decode b_Rq_isOpen 4 = .ok (.ifCond .eq 7, 3) := by decide +kernel
theorem d_Rq_isOpen_7 : decode b_Rq_isOpen 7 = .ok (.iconst 1, 1) := by decide +kernel
theorem d_Rq_isOpen_8 : decode b_Rq_isOpen 8 = .ok (.goto 4, 3) := by decide +kernel
theorem d_Rq_isOpen_11 : decode b_Rq_isOpen 11 = .ok (.iconst 0, 1) := by decide +kernel
theorem d_Rq_isOpen_12 : decode b_Rq_isOpen 12 = .ok (.ireturn, 1) := by decide +kernel
theorem d_Rq_wasGivenElsewhere_0 : decode b_Rq_wasGivenElsewhere 0 = .ok (.aload_n 0, 1) := by decide +kernel
theorem d_Rq_wasGivenElsewhere_1 : decode b_Rq_wasGivenElsewhere 1 = .ok (.getfield 13, 3) := by decide +kernel
theorem d_Rq_wasGivenElsewhere_4 : decode b_Rq_wasGivenElsewhere 4 = .ok (.ifCond .eq 18, 3) := by decide +kernel
theorem d_Rq_wasGivenElsewhere_7 : decode b_Rq_wasGivenElsewhere 7 = .ok (.aload_n 0, 1) := by decide +kernel
theorem d_Rq_wasGivenElsewhere_8 : decode b_Rq_wasGivenElsewhere 8 = .ok (.getfield 20, 3) := by decide +kernel
theorem d_Rq_wasGivenElsewhere_11 : decode b_Rq_wasGivenElsewhere 11 = .ok (.aload_n 1, 1) := by decide +kernel
theorem d_Rq_wasGivenElsewhere_12 : decode b_Rq_wasGivenElsewhere 12 = .ok (.getfield 23, 3) := by decide +kernel
theorem d_Rq_wasGivenElsewhere_15 : decode b_Rq_wasGivenElsewhere 15 = .ok (.if_icmp .eq 7, 3) := by decide +kernel
theorem d_Rq_wasGivenElsewhere_18 : decode b_Rq_wasGivenElsewhere 18 = .ok (.iconst 1, 1) := by decide +kernel
theorem d_Rq_wasGivenElsewhere_19 : decode b_Rq_wasGivenElsewhere 19 = .ok (.goto 4, 3) := by decide +kernel
theorem d_Rq_wasGivenElsewhere_22 : decode b_Rq_wasGivenElsewhere 22 = .ok (.iconst 0, 1) := by decide +kernel
theorem d_Rq_wasGivenElsewhere_23 : decode b_Rq_wasGivenElsewhere 23 = .ok (.ireturn, 1) := by decide +kernel
theorem d_Rq_giveTo_0 : decode b_Rq_giveTo 0 = .ok (.aload_n 1, 1) := by decide +kernel
theorem d_Rq_giveTo_1 : decode b_Rq_giveTo 1 = .ok (.getfield 28, 3) := by decide +kernel
theorem d_Rq_giveTo_4 : decode b_Rq_giveTo 4 = .ok (.iconst 2, 1) := by decide +kernel
theorem d_Rq_giveTo_5 : decode b_Rq_giveTo 5 = .ok (.if_icmp .ne 9, 3) := by decide +kernel
theorem d_Rq_giveTo_8 : decode b_Rq_giveTo 8 = .ok (.aload_n 0, 1) := by decide +kernel
theorem d_Rq_giveTo_9 : decode b_Rq_giveTo 9 = .ok (.iconst 0, 1) := by decide +kernel
theorem d_Rq_giveTo_10 : decode b_Rq_giveTo 10 = .ok (.putfield 13, 3) := by decide +kernel
theorem d_Rq_giveTo_13 : decode b_Rq_giveTo 13 = .ok (.return_, 1) := by decide +kernel
theorem d_Rq_giveTo_14 : decode b_Rq_giveTo 14 = .ok (.aload_n 1, 1) := by decide +kernel
theorem d_Rq_giveTo_15 : decode b_Rq_giveTo 15 = .ok (.iconst 0, 1) := by decide +kernel
theorem d_Rq_giveTo_16 : decode b_Rq_giveTo 16 = .ok (.putfield 31, 3) := by decide +kernel
theorem d_Rq_giveTo_19 : decode b_Rq_giveTo 19 = .ok (.aload_n 0, 1) := by decide +kernel
theorem d_Rq_giveTo_20 : decode b_Rq_giveTo 20 = .ok (.iconst 1, 1) := by decide +kernel
theorem d_Rq_giveTo_21 : decode b_Rq_giveTo 21 = .ok (.putfield 13, 3) := by decide +kernel
theorem d_Rq_giveTo_24 : decode b_Rq_giveTo 24 = .ok (.aload_n 0, 1) := by decide +kernel
theorem d_Rq_giveTo_25 : decode b_Rq_giveTo 25 = .ok (.iconst 0, 1) := by decide +kernel
theorem d_Rq_giveTo_26 : decode b_Rq_giveTo 26 = .ok (.putfield 17, 3) := by decide +kernel
theorem d_Rq_giveTo_29 : decode b_Rq_giveTo 29 = .ok (.aload_n 0, 1) := by decide +kernel
theorem d_Rq_giveTo_30 : decode b_Rq_giveTo 30 = .ok (.aload_n 1, 1) := by decide +kernel
theorem d_Rq_giveTo_31 : decode b_Rq_giveTo 31 = .ok (.getfield 23, 3) := by decide +kernel
theorem d_Rq_giveTo_34 : decode b_Rq_giveTo 34 = .ok (.putfield 20, 3) := by decide +kernel
theorem d_Rq_giveTo_37 : decode b_Rq_giveTo 37 = .ok (.return_, 1) := by decide +kernel
theorem d_Ca_hold_0 : decode b_Ca_hold 0 = .ok (.aload_n 0, 1) := by decide +kernel
theorem d_Ca_hold_1 : decode b_Ca_hold 1 = .ok (.getfield 9, 3) := by decide +kernel
theorem d_Ca_hold_4 : decode b_Ca_hold 4 = .ok (.iload_n 1, 1) := by decide +kernel
theorem d_Ca_hold_5 : decode b_Ca_hold 5 = .ok (.iload_n 2, 1) := by decide +kernel
theorem d_Ca_hold_6 : decode b_Ca_hold 6 = .ok (.iastore, 1) := by decide +kernel
theorem d_Ca_hold_7 : decode b_Ca_hold 7 = .ok (.aload_n 0, 1) := by decide +kernel
theorem d_Ca_hold_8 : decode b_Ca_hold 8 = .ok (.getfield 15, 3) := by decide +kernel
theorem d_Ca_hold_11 : decode b_Ca_hold 11 = .ok (.iload_n 1, 1) := by decide +kernel
theorem d_Ca_hold_12 : decode b_Ca_hold 12 = .ok (.iload_n 3, 1) := by decide +kernel
theorem d_Ca_hold_13 : decode b_Ca_hold 13 = .ok (.iastore, 1) := by decide +kernel
theorem d_Ca_hold_14 : decode b_Ca_hold 14 = .ok (.aload_n 0, 1) := by decide +kernel
theorem d_Ca_hold_15 : decode b_Ca_hold 15 = .ok (.getfield 18, 3) := by decide +kernel
theorem d_Ca_hold_18 : decode b_Ca_hold 18 = .ok (.iload_n 1, 1) := by decide +kernel
theorem d_Ca_hold_19 : decode b_Ca_hold 19 = .ok (.iload 4, 2) := by decide +kernel
theorem d_Ca_hold_21 : decode b_Ca_hold 21 = .ok (.bastore, 1) := by decide +kernel
theorem d_Ca_hold_22 : decode b_Ca_hold 22 = .ok (.return_, 1) := by decide +kernel
theorem d_Rq_close_0 : decode b_Rq_close 0 = .ok (.aload_n 0, 1) := by decide +kernel
theorem d_Rq_close_1 : decode b_Rq_close 1 = .ok (.iconst 0, 1) := by decide +kernel
theorem d_Rq_close_2 : decode b_Rq_close 2 = .ok (.putfield 9, 3) := by decide +kernel
theorem d_Rq_close_5 : decode b_Rq_close 5 = .ok (.return_, 1) := by decide +kernel
theorem d_Ln_isEmpty_0 : decode b_Ln_isEmpty 0 = .ok (.aload_n 0, 1) := by decide +kernel
theorem d_Ln_isEmpty_1 : decode b_Ln_isEmpty 1 = .ok (.getfield 15, 3) := by decide +kernel
theorem d_Ln_isEmpty_4 : decode b_Ln_isEmpty 4 = .ok (.ifCond .ne 7, 3) := by decide +kernel
theorem d_Ln_isEmpty_7 : decode b_Ln_isEmpty 7 = .ok (.iconst 1, 1) := by decide +kernel
theorem d_Ln_isEmpty_8 : decode b_Ln_isEmpty 8 = .ok (.goto 4, 3) := by decide +kernel
theorem d_Ln_isEmpty_11 : decode b_Ln_isEmpty 11 = .ok (.iconst 0, 1) := by decide +kernel
theorem d_Ln_isEmpty_12 : decode b_Ln_isEmpty 12 = .ok (.ireturn, 1) := by decide +kernel
theorem d_Ln_head_0 : decode b_Ln_head 0 = .ok (.aload_n 0, 1) := by decide +kernel
theorem d_Ln_head_1 : decode b_Ln_head 1 = .ok (.getfield 9, 3) := by decide +kernel
theorem d_Ln_head_4 : decode b_Ln_head 4 = .ok (.iconst 0, 1) := by decide +kernel
theorem d_Ln_head_5 : decode b_Ln_head 5 = .ok (.iaload, 1) := by decide +kernel
theorem d_Ln_head_6 : decode b_Ln_head 6 = .ok (.ireturn, 1) := by decide +kernel
theorem d_Ca_dirtySlotOfLowestBlock_0 : decode b_Ca_dirtySlotOfLowestBlock 0 = .ok (.iconst (-1), 1) := by decide +kernel
theorem d_Ca_dirtySlotOfLowestBlock_1 : decode b_Ca_dirtySlotOfLowestBlock 1 = .ok (.istore_n 1, 1) := by decide +kernel
theorem d_Ca_dirtySlotOfLowestBlock_2 : decode b_Ca_dirtySlotOfLowestBlock 2 = .ok (.iconst 0, 1) := by decide +kernel
theorem d_Ca_dirtySlotOfLowestBlock_3 : decode b_Ca_dirtySlotOfLowestBlock 3 = .ok (.istore_n 2, 1) := by decide +kernel
theorem d_Ca_dirtySlotOfLowestBlock_4 : decode b_Ca_dirtySlotOfLowestBlock 4 = .ok (.iload_n 2, 1) := by decide +kernel
theorem d_Ca_dirtySlotOfLowestBlock_5 : decode b_Ca_dirtySlotOfLowestBlock 5 = .ok (.iconst 3, 1) := by decide +kernel
theorem d_Ca_dirtySlotOfLowestBlock_6 : decode b_Ca_dirtySlotOfLowestBlock 6 = .ok (.if_icmp .ge 40, 3) := by decide +kernel
theorem d_Ca_dirtySlotOfLowestBlock_9 : decode b_Ca_dirtySlotOfLowestBlock 9 = .ok (.aload_n 0, 1) := by decide +kernel
theorem d_Ca_dirtySlotOfLowestBlock_10 : decode b_Ca_dirtySlotOfLowestBlock 10 = .ok (.getfield 18, 3) := by decide +kernel
theorem d_Ca_dirtySlotOfLowestBlock_13 : decode b_Ca_dirtySlotOfLowestBlock 13 = .ok (.iload_n 2, 1) := by decide +kernel
theorem d_Ca_dirtySlotOfLowestBlock_14 : decode b_Ca_dirtySlotOfLowestBlock 14 = .ok (.baload, 1) := by decide +kernel
theorem d_Ca_dirtySlotOfLowestBlock_15 : decode b_Ca_dirtySlotOfLowestBlock 15 = .ok (.ifCond .eq 25, 3) := by decide +kernel
theorem d_Ca_dirtySlotOfLowestBlock_18 : decode b_Ca_dirtySlotOfLowestBlock 18 = .ok (.iload_n 1, 1) := by decide +kernel
theorem d_Ca_dirtySlotOfLowestBlock_19 : decode b_Ca_dirtySlotOfLowestBlock 19 = .ok (.iconst (-1), 1) := by decide +kernel
theorem d_Ca_dirtySlotOfLowestBlock_20 : decode b_Ca_dirtySlotOfLowestBlock 20 = .ok (.if_icmp .eq 18, 3) := by decide +kernel
theorem d_Ca_dirtySlotOfLowestBlock_23 : decode b_Ca_dirtySlotOfLowestBlock 23 = .ok (.aload_n 0, 1) := by decide +kernel
theorem d_Ca_dirtySlotOfLowestBlock_24 : decode b_Ca_dirtySlotOfLowestBlock 24 = .ok (.getfield 9, 3) := by decide +kernel
theorem d_Ca_dirtySlotOfLowestBlock_27 : decode b_Ca_dirtySlotOfLowestBlock 27 = .ok (.iload_n 2, 1) := by decide +kernel
theorem d_Ca_dirtySlotOfLowestBlock_28 : decode b_Ca_dirtySlotOfLowestBlock 28 = .ok (.iaload, 1) := by decide +kernel
theorem d_Ca_dirtySlotOfLowestBlock_29 : decode b_Ca_dirtySlotOfLowestBlock 29 = .ok (.aload_n 0, 1) := by decide +kernel
theorem d_Ca_dirtySlotOfLowestBlock_30 : decode b_Ca_dirtySlotOfLowestBlock 30 = .ok (.getfield 9, 3) := by decide +kernel
theorem d_Ca_dirtySlotOfLowestBlock_33 : decode b_Ca_dirtySlotOfLowestBlock 33 = .ok (.iload_n 1, 1) := by decide +kernel
theorem d_Ca_dirtySlotOfLowestBlock_34 : decode b_Ca_dirtySlotOfLowestBlock 34 = .ok (.iaload, 1) := by decide +kernel
theorem d_Ca_dirtySlotOfLowestBlock_35 : decode b_Ca_dirtySlotOfLowestBlock 35 = .ok (.if_icmp .ge 5, 3) := by decide +kernel
theorem d_Ca_dirtySlotOfLowestBlock_38 : decode b_Ca_dirtySlotOfLowestBlock 38 = .ok (.iload_n 2, 1) := by decide +kernel
theorem d_Ca_dirtySlotOfLowestBlock_39 : decode b_Ca_dirtySlotOfLowestBlock 39 = .ok (.istore_n 1, 1) := by decide +kernel
theorem d_Ca_dirtySlotOfLowestBlock_40 : decode b_Ca_dirtySlotOfLowestBlock 40 = .ok (.iinc 2 1, 3) := by decide +kernel
theorem d_Ca_dirtySlotOfLowestBlock_43 : decode b_Ca_dirtySlotOfLowestBlock 43 = .ok (.goto (-39), 3) := by decide +kernel
theorem d_Ca_dirtySlotOfLowestBlock_46 : decode b_Ca_dirtySlotOfLowestBlock 46 = .ok (.iload_n 1, 1) := by decide +kernel
theorem d_Ca_dirtySlotOfLowestBlock_47 : decode b_Ca_dirtySlotOfLowestBlock 47 = .ok (.ireturn, 1) := by decide +kernel
theorem d_Op_finish_0 : decode b_Op_finish 0 = .ok (.aload_n 0, 1) := by decide +kernel
theorem d_Op_finish_1 : decode b_Op_finish 1 = .ok (.iconst 2, 1) := by decide +kernel
theorem d_Op_finish_2 : decode b_Op_finish 2 = .ok (.putfield 22, 3) := by decide +kernel
theorem d_Op_finish_5 : decode b_Op_finish 5 = .ok (.aload_n 0, 1) := by decide +kernel
theorem d_Op_finish_6 : decode b_Op_finish 6 = .ok (.iload_n 1, 1) := by decide +kernel
theorem d_Op_finish_7 : decode b_Op_finish 7 = .ok (.putfield 25, 3) := by decide +kernel
theorem d_Op_finish_10 : decode b_Op_finish 10 = .ok (.return_, 1) := by decide +kernel
theorem d_Rq_open_0 : decode b_Rq_open 0 = .ok (.aload_n 0, 1) := by decide +kernel
theorem d_Rq_open_1 : decode b_Rq_open 1 = .ok (.iload_n 1, 1) := by decide +kernel
theorem d_Rq_open_2 : decode b_Rq_open 2 = .ok (.putfield 9, 3) := by decide +kernel
theorem d_Rq_open_5 : decode b_Rq_open 5 = .ok (.aload_n 0, 1) := by decide +kernel
theorem d_Rq_open_6 : decode b_Rq_open 6 = .ok (.iconst 0, 1) := by decide +kernel
theorem d_Rq_open_7 : decode b_Rq_open 7 = .ok (.putfield 13, 3) := by decide +kernel
theorem d_Rq_open_10 : decode b_Rq_open 10 = .ok (.aload_n 0, 1) := by decide +kernel
theorem d_Rq_open_11 : decode b_Rq_open 11 = .ok (.iconst 0, 1) := by decide +kernel
theorem d_Rq_open_12 : decode b_Rq_open 12 = .ok (.putfield 17, 3) := by decide +kernel
theorem d_Rq_open_15 : decode b_Rq_open 15 = .ok (.return_, 1) := by decide +kernel
theorem d_Ca_find_0 : decode b_Ca_find 0 = .ok (.iconst 0, 1) := by decide +kernel
theorem d_Ca_find_1 : decode b_Ca_find 1 = .ok (.istore_n 2, 1) := by decide +kernel
theorem d_Ca_find_2 : decode b_Ca_find 2 = .ok (.iload_n 2, 1) := by decide +kernel
theorem d_Ca_find_3 : decode b_Ca_find 3 = .ok (.iconst 3, 1) := by decide +kernel
theorem d_Ca_find_4 : decode b_Ca_find 4 = .ok (.if_icmp .ge 21, 3) := by decide +kernel
theorem d_Ca_find_7 : decode b_Ca_find 7 = .ok (.aload_n 0, 1) := by decide +kernel
theorem d_Ca_find_8 : decode b_Ca_find 8 = .ok (.getfield 9, 3) := by decide +kernel
theorem d_Ca_find_11 : decode b_Ca_find 11 = .ok (.iload_n 2, 1) := by decide +kernel
theorem d_Ca_find_12 : decode b_Ca_find 12 = .ok (.iaload, 1) := by decide +kernel
theorem d_Ca_find_13 : decode b_Ca_find 13 = .ok (.iload_n 1, 1) := by decide +kernel
theorem d_Ca_find_14 : decode b_Ca_find 14 = .ok (.if_icmp .ne 5, 3) := by decide +kernel
theorem d_Ca_find_17 : decode b_Ca_find 17 = .ok (.iload_n 2, 1) := by decide +kernel
theorem d_Ca_find_18 : decode b_Ca_find 18 = .ok (.ireturn, 1) := by decide +kernel
theorem d_Ca_find_19 : decode b_Ca_find 19 = .ok (.iinc 2 1, 3) := by decide +kernel
theorem d_Ca_find_22 : decode b_Ca_find 22 = .ok (.goto (-20), 3) := by decide +kernel
theorem d_Ca_find_25 : decode b_Ca_find 25 = .ok (.iconst (-1), 1) := by decide +kernel
theorem d_Ca_find_26 : decode b_Ca_find 26 = .ok (.ireturn, 1) := by decide +kernel
theorem d_Ca_slotToFill_0 : decode b_Ca_slotToFill 0 = .ok (.aload_n 0, 1) := by decide +kernel
theorem d_Ca_slotToFill_1 : decode b_Ca_slotToFill 1 = .ok (.iconst (-1), 1) := by decide +kernel
theorem d_Ca_slotToFill_2 : decode b_Ca_slotToFill 2 = .ok (.invokevirtual 31, 3) := by decide +kernel
theorem d_Ca_slotToFill_5 : decode b_Ca_slotToFill 5 = .ok (.istore_n 1, 1) := by decide +kernel
theorem d_Ca_slotToFill_6 : decode b_Ca_slotToFill 6 = .ok (.iload_n 1, 1) := by decide +kernel
theorem d_Ca_slotToFill_7 : decode b_Ca_slotToFill 7 = .ok (.iconst (-1), 1) := by decide +kernel
theorem d_Ca_slotToFill_8 : decode b_Ca_slotToFill 8 = .ok (.if_icmp .eq 5, 3) := by decide +kernel
theorem d_Ca_slotToFill_11 : decode b_Ca_slotToFill 11 = .ok (.iload_n 1, 1) := by decide +kernel
theorem d_Ca_slotToFill_12 : decode b_Ca_slotToFill 12 = .ok (.ireturn, 1) := by decide +kernel
theorem d_Ca_slotToFill_13 : decode b_Ca_slotToFill 13 = .ok (.iconst 0, 1) := by decide +kernel
theorem d_Ca_slotToFill_14 : decode b_Ca_slotToFill 14 = .ok (.istore_n 2, 1) := by decide +kernel
theorem d_Ca_slotToFill_15 : decode b_Ca_slotToFill 15 = .ok (.iconst 1, 1) := by decide +kernel
theorem d_Ca_slotToFill_16 : decode b_Ca_slotToFill 16 = .ok (.istore_n 3, 1) := by decide +kernel
theorem d_Ca_slotToFill_17 : decode b_Ca_slotToFill 17 = .ok (.iload_n 3, 1) := by decide +kernel
theorem d_Ca_slotToFill_18 : decode b_Ca_slotToFill 18 = .ok (.iconst 3, 1) := by decide +kernel
theorem d_Ca_slotToFill_19 : decode b_Ca_slotToFill 19 = .ok (.if_icmp .ge 26, 3) := by decide +kernel
theorem d_Ca_slotToFill_22 : decode b_Ca_slotToFill 22 = .ok (.aload_n 0, 1) := by decide +kernel
theorem d_Ca_slotToFill_23 : decode b_Ca_slotToFill 23 = .ok (.getfield 22, 3) := by decide +kernel
theorem d_Ca_slotToFill_26 : decode b_Ca_slotToFill 26 = .ok (.iload_n 3, 1) := by decide +kernel
theorem d_Ca_slotToFill_27 : decode b_Ca_slotToFill 27 = .ok (.iaload, 1) := by decide +kernel
theorem d_Ca_slotToFill_28 : decode b_Ca_slotToFill 28 = .ok (.aload_n 0, 1) := by decide +kernel
theorem d_Ca_slotToFill_29 : decode b_Ca_slotToFill 29 = .ok (.getfield 22, 3) := by decide +kernel
theorem d_Ca_slotToFill_32 : decode b_Ca_slotToFill 32 = .ok (.iload_n 2, 1) := by decide +kernel
theorem d_Ca_slotToFill_33 : decode b_Ca_slotToFill 33 = .ok (.iaload, 1) := by decide +kernel
theorem d_Ca_slotToFill_34 : decode b_Ca_slotToFill 34 = .ok (.if_icmp .ge 5, 3) := by decide +kernel
theorem d_Ca_slotToFill_37 : decode b_Ca_slotToFill 37 = .ok (.iload_n 3, 1) := by decide +kernel
theorem d_Ca_slotToFill_38 : decode b_Ca_slotToFill 38 = .ok (.istore_n 2, 1) := by decide +kernel
theorem d_Ca_slotToFill_39 : decode b_Ca_slotToFill 39 = .ok (.iinc 3 1, 3) := by decide +kernel
theorem d_Ca_slotToFill_42 : decode b_Ca_slotToFill 42 = .ok (.goto (-25), 3) := by decide +kernel
theorem d_Ca_slotToFill_45 : decode b_Ca_slotToFill 45 = .ok (.iload_n 2, 1) := by decide +kernel
theorem d_Ca_slotToFill_46 : decode b_Ca_slotToFill 46 = .ok (.ireturn, 1) := by decide +kernel
theorem d_Ca_empty_0 : decode b_Ca_empty 0 = .ok (.aload_n 0, 1) := by decide +kernel
theorem d_Ca_empty_1 : decode b_Ca_empty 1 = .ok (.iload_n 1, 1) := by decide +kernel
theorem d_Ca_empty_2 : decode b_Ca_empty 2 = .ok (.iconst (-1), 1) := by decide +kernel
theorem d_Ca_empty_3 : decode b_Ca_empty 3 = .ok (.iconst 0, 1) := by decide +kernel
theorem d_Ca_empty_4 : decode b_Ca_empty 4 = .ok (.iconst 0, 1) := by decide +kernel
theorem d_Ca_empty_5 : decode b_Ca_empty 5 = .ok (.invokevirtual 35, 3) := by decide +kernel
theorem d_Ca_empty_8 : decode b_Ca_empty 8 = .ok (.return_, 1) := by decide +kernel
theorem d_Ln_dropHead_0 : decode b_Ln_dropHead 0 = .ok (.iconst 1, 1) := by decide +kernel
theorem d_Ln_dropHead_1 : decode b_Ln_dropHead 1 = .ok (.istore_n 1, 1) := by decide +kernel
theorem d_Ln_dropHead_2 : decode b_Ln_dropHead 2 = .ok (.iload_n 1, 1) := by decide +kernel
theorem d_Ln_dropHead_3 : decode b_Ln_dropHead 3 = .ok (.aload_n 0, 1) := by decide +kernel
theorem d_Ln_dropHead_4 : decode b_Ln_dropHead 4 = .ok (.getfield 15, 3) := by decide +kernel
theorem d_Ln_dropHead_7 : decode b_Ln_dropHead 7 = .ok (.if_icmp .ge 23, 3) := by decide +kernel
theorem d_Ln_dropHead_10 : decode b_Ln_dropHead 10 = .ok (.aload_n 0, 1) := by decide +kernel
theorem d_Ln_dropHead_11 : decode b_Ln_dropHead 11 = .ok (.getfield 9, 3) := by decide +kernel
theorem d_Ln_dropHead_14 : decode b_Ln_dropHead 14 = .ok (.iload_n 1, 1) := by decide +kernel
theorem d_Ln_dropHead_15 : decode b_Ln_dropHead 15 = .ok (.iconst 1, 1) := by decide +kernel
theorem d_Ln_dropHead_16 : decode b_Ln_dropHead 16 = .ok (.isub, 1) := by decide +kernel
theorem d_Ln_dropHead_17 : decode b_Ln_dropHead 17 = .ok (.aload_n 0, 1) := by decide +kernel
theorem d_Ln_dropHead_18 : decode b_Ln_dropHead 18 = .ok (.getfield 9, 3) := by decide +kernel
theorem d_Ln_dropHead_21 : decode b_Ln_dropHead 21 = .ok (.iload_n 1, 1) := by decide +kernel
theorem d_Ln_dropHead_22 : decode b_Ln_dropHead 22 = .ok (.iaload, 1) := by decide +kernel
theorem d_Ln_dropHead_23 : decode b_Ln_dropHead 23 = .ok (.iastore, 1) := by decide +kernel
theorem d_Ln_dropHead_24 : decode b_Ln_dropHead 24 = .ok (.iinc 1 1, 3) := by decide +kernel
theorem d_Ln_dropHead_27 : decode b_Ln_dropHead 27 = .ok (.goto (-25), 3) := by decide +kernel
theorem d_Ln_dropHead_30 : decode b_Ln_dropHead 30 = .ok (.aload_n 0, 1) := by decide +kernel
theorem d_Ln_dropHead_31 : decode b_Ln_dropHead 31 = .ok (.aload_n 0, 1) := by decide +kernel
theorem d_Ln_dropHead_32 : decode b_Ln_dropHead 32 = .ok (.getfield 15, 3) := by decide +kernel
theorem d_Ln_dropHead_35 : decode b_Ln_dropHead 35 = .ok (.iconst 1, 1) := by decide +kernel
theorem d_Ln_dropHead_36 : decode b_Ln_dropHead 36 = .ok (.isub, 1) := by decide +kernel
theorem d_Ln_dropHead_37 : decode b_Ln_dropHead 37 = .ok (.iconst 0, 1) := by decide +kernel
theorem d_Ln_dropHead_38 : decode b_Ln_dropHead 38 = .ok (.invokestatic 19, 3) := by decide +kernel
theorem d_Ln_dropHead_41 : decode b_Ln_dropHead 41 = .ok (.putfield 15, 3) := by decide +kernel
theorem d_Ln_dropHead_44 : decode b_Ln_dropHead 44 = .ok (.return_, 1) := by decide +kernel
theorem d_Op_fail_0 : decode b_Op_fail 0 = .ok (.aload_n 0, 1) := by decide +kernel
theorem d_Op_fail_1 : decode b_Op_fail 1 = .ok (.iconst 3, 1) := by decide +kernel
theorem d_Op_fail_2 : decode b_Op_fail 2 = .ok (.putfield 22, 3) := by decide +kernel
theorem d_Op_fail_5 : decode b_Op_fail 5 = .ok (.aload_n 0, 1) := by decide +kernel
theorem d_Op_fail_6 : decode b_Op_fail 6 = .ok (.bipush (-5), 2) := by decide +kernel
theorem d_Op_fail_8 : decode b_Op_fail 8 = .ok (.putfield 25, 3) := by decide +kernel
theorem d_Op_fail_11 : decode b_Op_fail 11 = .ok (.return_, 1) := by decide +kernel
theorem d_Dr_suffer_0 : decode b_Dr_suffer 0 = .ok (.aload_n 0, 1) := by decide +kernel
theorem d_Dr_suffer_1 : decode b_Dr_suffer 1 = .ok (.getfield 11, 3) := by decide +kernel
theorem d_Dr_suffer_4 : decode b_Dr_suffer 4 = .ok (.iconst 2, 1) := by decide +kernel
theorem d_Dr_suffer_5 : decode b_Dr_suffer 5 = .ok (.if_icmp .eq 15, 3) := by decide +kernel
theorem d_Dr_suffer_8 : decode b_Dr_suffer 8 = .ok (.aload_n 0, 1) := by decide +kernel
theorem d_Dr_suffer_9 : decode b_Dr_suffer 9 = .ok (.getfield 11, 3) := by decide +kernel
theorem d_Dr_suffer_12 : decode b_Dr_suffer 12 = .ok (.iconst 1, 1) := by decide +kernel
theorem d_Dr_suffer_13 : decode b_Dr_suffer 13 = .ok (.if_icmp .ne 9, 3) := by decide +kernel
theorem d_Dr_suffer_16 : decode b_Dr_suffer 16 = .ok (.iload_n 1, 1) := by decide +kernel
theorem d_Dr_suffer_17 : decode b_Dr_suffer 17 = .ok (.ifCond .eq 5, 3) := by decide +kernel
theorem d_Dr_suffer_20 : decode b_Dr_suffer 20 = .ok (.iconst 0, 1) := by decide +kernel
theorem d_Dr_suffer_21 : decode b_Dr_suffer 21 = .ok (.ireturn, 1) := by decide +kernel
theorem d_Dr_suffer_22 : decode b_Dr_suffer 22 = .ok (.iload_n 1, 1) := by decide +kernel
theorem d_Dr_suffer_23 : decode b_Dr_suffer 23 = .ok (.ifCond .ne 10, 3) := by decide +kernel
theorem d_Dr_suffer_26 : decode b_Dr_suffer 26 = .ok (.aload_n 0, 1) := by decide +kernel
theorem d_Dr_suffer_27 : decode b_Dr_suffer 27 = .ok (.invokevirtual 25, 3) := by decide +kernel
theorem d_Dr_suffer_30 : decode b_Dr_suffer 30 = .ok (.goto 21, 3) := by decide +kernel
theorem d_Dr_suffer_33 : decode b_Dr_suffer 33 = .ok (.iload_n 1, 1) := by decide +kernel
theorem d_Dr_suffer_34 : decode b_Dr_suffer 34 = .ok (.iconst 1, 1) := by decide +kernel
theorem d_Dr_suffer_35 : decode b_Dr_suffer 35 = .ok (.if_icmp .ne 11, 3) := by decide +kernel
theorem d_Dr_suffer_38 : decode b_Dr_suffer 38 = .ok (.aload_n 0, 1) := by decide +kernel
theorem d_Dr_suffer_39 : decode b_Dr_suffer 39 = .ok (.iconst 1, 1) := by decide +kernel
theorem d_Dr_suffer_40 : decode b_Dr_suffer 40 = .ok (.putfield 11, 3) := by decide +kernel
theorem d_Dr_suffer_43 : decode b_Dr_suffer 43 = .ok (.goto 8, 3) := by decide +kernel
theorem d_Dr_suffer_46 : decode b_Dr_suffer 46 = .ok (.aload_n 0, 1) := by decide +kernel
theorem d_Dr_suffer_47 : decode b_Dr_suffer 47 = .ok (.iload_n 1, 1) := by decide +kernel
theorem d_Dr_suffer_48 : decode b_Dr_suffer 48 = .ok (.putfield 22, 3) := by decide +kernel
theorem d_Dr_suffer_51 : decode b_Dr_suffer 51 = .ok (.iconst 1, 1) := by decide +kernel
theorem d_Dr_suffer_52 : decode b_Dr_suffer 52 = .ok (.ireturn, 1) := by decide +kernel
theorem d_Rq_progress_0 : decode b_Rq_progress 0 = .ok (.aload_n 0, 1) := by decide +kernel
theorem d_Rq_progress_1 : decode b_Rq_progress 1 = .ok (.invokevirtual 34, 3) := by decide +kernel
theorem d_Rq_progress_4 : decode b_Rq_progress 4 = .ok (.ifCond .ne 5, 3) := by decide +kernel
theorem d_Rq_progress_7 : decode b_Rq_progress 7 = .ok (.iconst 0, 1) := by decide +kernel
theorem d_Rq_progress_8 : decode b_Rq_progress 8 = .ok (.ireturn, 1) := by decide +kernel
theorem d_Rq_progress_9 : decode b_Rq_progress 9 = .ok (.aload_n 0, 1) := by decide +kernel
theorem d_Rq_progress_10 : decode b_Rq_progress 10 = .ok (.getfield 13, 3) := by decide +kernel
theorem d_Rq_progress_13 : decode b_Rq_progress 13 = .ok (.ifCond .eq 7, 3) := by decide +kernel
theorem d_Rq_progress_16 : decode b_Rq_progress 16 = .ok (.iconst 2, 1) := by decide +kernel
theorem d_Rq_progress_17 : decode b_Rq_progress 17 = .ok (.goto 4, 3) := by decide +kernel
theorem d_Rq_progress_20 : decode b_Rq_progress 20 = .ok (.iconst 1, 1) := by decide +kernel
theorem d_Rq_progress_21 : decode b_Rq_progress 21 = .ok (.ireturn, 1) := by decide +kernel
end
section
/-! kx: my own rows over the kit's: one table of words for all contracts, one world hypothesis, contracts of one form -/
def kx_N (U : State) : Prop := (∀ w ∈ kx_nl, va_Nw w U) ∧ va_AO "RebornDrivers$Operation" U
theorem kx_N.same {u U : State} (h : u.vm = U.vm) (hN : kx_N u) : kx_N U := by
  refine ⟨fun w hw => ?_, va_AO.moved (by rw [h]; exact Vm.Alike.refl U.vm) hN.2⟩
  have h1 := hN.1 w hw
  have h2 : kx_isN w = true := (List.mem_filter.mp hw).2
  cases w <;> first | (simp [kx_isN] at h2; done) | exact va_tabs rfl h h1
theorem kx_N.warm {s U : State} (hN : kx_N s) (hW : s.WarmedH U.vm) : kx_N U := by
  refine ⟨fun w hw => ?_, va_AO.moved hW.alike hN.2⟩
  have h1 := hN.1 w hw
  have h2 : kx_isN w = true := (List.mem_filter.mp hw).2
  cases w <;> first | (simp [kx_isN] at h2; done) | exact va_Nw.warmF hW h1 | exact va_Nw.warmM hW h1
def kx_w (D : va_G) (tys : List (ClassId × FieldType)) (A : Nat → Prop) (s : State) (ws : va_W) (H : Heap) (locs : List Loc) : Prop :=
  va_K D classes tys s ∧ va_P D classes ws H ∧ va_D A ws ∧ va_S A s.heap H locs ∧ (∀ q, s.heap.size ≤ q → A q) ∧ kx_N s
/-- a field that code of class 'own' reads under 'index': field k of class ci -/
def kx_f (own : String) (index ci k : Nat) : Prop := ∃ (C : String) (T : u_T) (N : Nat), classes[ci]? = some (C, T, N) ∧ k < N ∧ (∀ w ∈ u_ws C T N, w ∈ kx_tbl) ∧ (Cond.fieldLink own index (T k).1 (T k).2.1 (T k).2.2.1 ∈ kx_tbl ∨ ∃ host, Cond.fieldLinkNest own index (T k).1 (T k).2.1 (T k).2.2.1 host ∈ kx_nl)
/-- and writes -/
def kx_q (own : String) (index ci k : Nat) (ty : FieldType) : Prop := ∃ (C : String) (T : u_T) (N : Nat) (ty0 : Nat → FieldType), classes[ci]? = some (C, T, N) ∧ k < N ∧ (∀ w ∈ u_ws C T N, w ∈ kx_tbl) ∧ (Cond.fieldLink own index (T k).1 (T k).2.1 (T k).2.2.1 ∈ kx_tbl ∨ ∃ host, Cond.fieldLinkNest own index (T k).1 (T k).2.1 (T k).2.2.1 host ∈ kx_nl) ∧ (∀ k, k < N → parseFieldDescriptor (T k).2.2.1 = some (ty0 k)) ∧ (∀ a, a < N → ∀ b, b < N → a ≠ b → (T a).2.1 ≠ (T b).2.1) ∧ (T k).2.2.2 = false ∧ parseFieldDescriptor (T k).2.2.1 = some ty
/-- a final field that a constructor of class 'own' writes -/
def kx_qF (own : String) (index ci k : Nat) (ty : FieldType) : Prop := ∃ (C : String) (T : u_T) (N : Nat) (ty0 : Nat → FieldType), classes[ci]? = some (C, T, N) ∧ k < N ∧ (∀ w ∈ u_ws C T N, w ∈ kx_tbl) ∧ Cond.fieldLink own index (T k).1 (T k).2.1 (T k).2.2.1 ∈ kx_tbl ∧ (∀ k, k < N → parseFieldDescriptor (T k).2.2.1 = some (ty0 k)) ∧ (∀ a, a < N → ∀ b, b < N → a ≠ b → (T a).2.1 ≠ (T b).2.1) ∧ (T k).2.2.2 = true ∧ parseFieldDescriptor (T k).2.2.1 = some ty ∧ (T k).1 = own
/-- an object that code of class 'own' makes under 'index' -/
def kx_n (own : String) (index ci : Nat) (fs : List Value) : Prop := ∃ (C : String) (T : u_T) (ty0 : Nat → FieldType), classes[ci]? = some (C, T, fs.length) ∧ (∀ w ∈ u_ws C T fs.length, w ∈ kx_tbl) ∧ (∀ k, k < fs.length → parseFieldDescriptor (T k).2.2.1 = some (ty0 k)) ∧ Cond.classLink own index C ∈ kx_tbl ∧ Cond.instantiable C fs.length ∈ kx_tbl ∧ Cond.initialized C ∈ kx_tbl ∧ ∀ j, j < fs.length → defaultValue (ty0 j) = vp_V fs j
/-- a method that code of class 'own' calls under 'index' -/
def kx_m (own : String) (index : Nat) (y : MethodName) (bytes : ByteArray) (maxL : Nat) (ret : Option FieldType) (n : Nat) : Prop :=
  Cond.code y bytes maxL ret ∈ kx_tbl ∧ Cond.initialized y.cls ∈ kx_tbl ∧ (y.cls ≠ "java/lang/invoke/MethodHandle" ∧ y.cls ≠ "java/lang/invoke/VarHandle" ∧ (parseMethodDescriptor y.desc).map (fun d => d.parameters.length) = some n) ∧ (Cond.methodLink own index y ∈ kx_tbl ∨ ∃ host, Cond.methodLinkNest own index y host ∈ kx_nl)
theorem kx_good {y : MethodName} {bytes : ByteArray} {maxL : Nat} {ret : Option FieldType} (h : Cond.code y bytes maxL ret ∈ kx_tbl) : GoodIn kx_tbl (Cond.code y bytes maxL ret :: kx_tbl) := by
  intro w hw
  rcases List.mem_cons.mp hw with rfl | hw
  · exact ⟨h, kx_tbl_good _ h⟩
  · exact ⟨hw, kx_tbl_good _ hw⟩
theorem kx_w.sub {D : va_G} {tys : List (ClassId × FieldType)} {A : Nat → Prop} {s : State} {ws ws' : va_W} {H : Heap} {locs : List Loc} (h : kx_w D tys A s ws H locs) (is : List Nat) (hn : va_nd is = true) (hs : is.map (fun i => ws[i]?) = ws'.map some) : kx_w D tys A s ws' H locs := by
  refine ⟨h.1, h.2.1.sub is ?_, h.2.2.1.sub is hn hs, h.2.2.2⟩
  have : ∀ (l : List Nat) (w : va_W), l.map (fun i => ws[i]?) = w.map some → l.filterMap (fun i => ws[i]?) = w := by
    intro l
    induction l with
    | nil => intro w h; cases w with
      | nil => rfl
      | cons x w => cases h
    | cons i l ih => intro w h; cases w with
      | nil => cases h
      | cons x w =>
        simp only [List.map_cons, List.cons.injEq] at h
        rw [List.filterMap_cons, h.1, ih w h.2]
  exact this is ws' hs
/-- contracts -/
def kx_Pre (D : va_G) (tys : List (ClassId × FieldType)) (av : List Value) (ws : va_W) (sz : Nat) : Array Value → State → Prop := va_Pc av (fun U => U.heap.size = sz ∧ va_P D classes ws U.heap ∧ va_K D classes tys U ∧ va_D (fun _ => True) ws ∧ kx_N U)
def kx_B (D : va_G) (tys : List (ClassId × FieldType)) (A : Nat → Prop) (w : va_W) (t : State) : Prop := va_P D classes w t.heap ∧ va_K D classes tys t ∧ va_D A w
def kx_R (k mc ms : Nat) : Room := { frames := k, cells := mc, slots := ms, locals := 24 * k }
def kx_Ci {S : Type} (l : Launch) (y : MethodName) (bytes : ByteArray) (maxL : Nat) (ret : Option FieldType) (k mc ms : Nat) (D : va_G) (tys : List (ClassId × FieldType)) (av : List Value) (ws : va_W) (post : Int32 → S → Prop) (w1 : S → va_W) : Prop :=
  ∀ sz, Met l y (Cond.code y bytes maxL ret :: kx_tbl) (kx_R k mc ms) (kx_Pre D tys av ws sz) (va_Qi post (fun u t => kx_B D tys (va_A ws sz) (w1 u) t) (va_A ws sz)) mc ms (va_A ws sz)
def kx_Cv {S : Type} (l : Launch) (y : MethodName) (bytes : ByteArray) (maxL : Nat) (k mc ms : Nat) (D : va_G) (tys : List (ClassId × FieldType)) (av : List Value) (ws : va_W) (post : S → Prop) (w1 : S → va_W) : Prop :=
  ∀ sz, Met l y (Cond.code y bytes maxL none :: kx_tbl) (kx_R k mc ms) (kx_Pre D tys av ws sz) (va_Qv post (fun u t => kx_B D tys (va_A ws sz) (w1 u) t) (va_A ws sz)) mc ms (va_A ws sz)
def kx_Cr {S : Type} (l : Launch) (y : MethodName) (bytes : ByteArray) (maxL : Nat) (ret : Option FieldType) (k mc ms : Nat) (D : va_G) (tys : List (ClassId × FieldType)) (av : List Value) (ws : va_W) (post : S → Prop) (ra : S → Nat) (w1 : S → va_W) : Prop :=
  ∀ sz, Met l y (Cond.code y bytes maxL ret :: kx_tbl) (kx_R k mc ms) (kx_Pre D tys av ws sz) (va_Qr post (fun u a t => a = ra u ∧ kx_B D tys (va_A ws sz) (w1 u) t) (va_A ws sz)) mc ms (va_A ws sz)
/-- what a walk starts with -/
def kx_In (p : Program) (s : State) (m : MethodId) (args : Array Value) (meth : Method) (c : Code) (y : MethodName) (bytes : ByteArray) (maxL : Nat) (ret : Option FieldType) : Prop :=
  CallFix p m c bytes maxL s args kx_tbl y.cls ∧ meth.sig.returnType = ret ∧ meth.locks = false ∧ meth.name = y.name
theorem kx_enter {l : Launch} {y : MethodName} {bytes : ByteArray} {maxL : Nat} {ret : Option FieldType} {rm : Room} {mc ms : Nat} {D : va_G} {tys : List (ClassId × FieldType)} {av : List Value} {ws : va_W} {Qf : (Nat → Prop) → Array Value → State → Outcome → State → Prop} (hy : plainName y.cls = true) (hlen : (lg_sl av).length ≤ maxL)
    (body : ∀ p e s m below meth c ls A H, kx_In p s m av.toArray meth c y bytes maxL ret → lv_has ls maxL (lv_args 0 av) → kx_w D tys A s ws H [] →
      W p l e rm s m av.toArray below meth c H [] 0 0 (MQ below (Qf A) av.toArray s mc ms A) (F0 m 0 ls [])) (sz : Nat) :
    Met l y (Cond.code y bytes maxL ret :: kx_tbl) rm (kx_Pre D tys av ws sz) (Qf (va_A ws sz)) mc ms (va_A ws sz) := by
  refine Met.ofW (cc := bytes) (maxL := maxL) (ret := ret) hy rfl ?_
  intro p e s m args below meth c s₁ B hml hv
  obtain ⟨rfl, hsz, hP, hK, hD0, hN0⟩ := hv
  have hts := atoms_spec (ws := Cond.code y bytes maxL ret :: kx_tbl) B.pre
  subst hsz
  have hl := lv_entry av (n := maxL) hlen
  rw [lg_entry_eq]
  exact body p e s m below meth c _ _ s.heap ⟨⟨B.exec, B.bytes, hml, findClass_of_methodNamed B.named, fun w hw => hts w (List.mem_cons_of_mem _ hw)⟩, B.returns, B.notSynchronized, (name_of_methodNamed B.named B.method).1⟩ hl ⟨hK, hP, hD0.self, va_S.rf, fun q h => Or.inr h, hN0⟩
theorem kx_enter_i {S : Type} {l : Launch} {y : MethodName} {bytes : ByteArray} {maxL : Nat} {ret : Option FieldType} {k mc ms : Nat} {D : va_G} {tys : List (ClassId × FieldType)} {av : List Value} {ws : va_W} {post : Int32 → S → Prop} {w1 : S → va_W} (hy : plainName y.cls = true) (hlen : (lg_sl av).length ≤ maxL)
    (body : ∀ p e s m below meth c ls A H, kx_In p s m av.toArray meth c y bytes maxL ret → lv_has ls maxL (lv_args 0 av) → kx_w D tys A s ws H [] →
      W p l e (kx_R k mc ms) s m av.toArray below meth c H [] 0 0 (MQ below (va_Qi post (fun u t => kx_B D tys A (w1 u) t) A) av.toArray s mc ms A) (F0 m 0 ls [])) : kx_Ci l y bytes maxL ret k mc ms D tys av ws post w1 :=
  fun sz => kx_enter (Qf := fun A => va_Qi post (fun u t => kx_B D tys A (w1 u) t) A) hy hlen body sz
theorem kx_enter_v {S : Type} {l : Launch} {y : MethodName} {bytes : ByteArray} {maxL : Nat} {k mc ms : Nat} {D : va_G} {tys : List (ClassId × FieldType)} {av : List Value} {ws : va_W} {post : S → Prop} {w1 : S → va_W} (hy : plainName y.cls = true) (hlen : (lg_sl av).length ≤ maxL)
    (body : ∀ p e s m below meth c ls A H, kx_In p s m av.toArray meth c y bytes maxL none → lv_has ls maxL (lv_args 0 av) → kx_w D tys A s ws H [] →
      W p l e (kx_R k mc ms) s m av.toArray below meth c H [] 0 0 (MQ below (va_Qv post (fun u t => kx_B D tys A (w1 u) t) A) av.toArray s mc ms A) (F0 m 0 ls [])) : kx_Cv l y bytes maxL k mc ms D tys av ws post w1 :=
  fun sz => kx_enter (Qf := fun A => va_Qv post (fun u t => kx_B D tys A (w1 u) t) A) hy hlen body sz
theorem kx_enter_r {S : Type} {l : Launch} {y : MethodName} {bytes : ByteArray} {maxL : Nat} {ret : Option FieldType} {k mc ms : Nat} {D : va_G} {tys : List (ClassId × FieldType)} {av : List Value} {ws : va_W} {post : S → Prop} {ra : S → Nat} {w1 : S → va_W} (hy : plainName y.cls = true) (hlen : (lg_sl av).length ≤ maxL)
    (body : ∀ p e s m below meth c ls A H, kx_In p s m av.toArray meth c y bytes maxL ret → lv_has ls maxL (lv_args 0 av) → kx_w D tys A s ws H [] →
      W p l e (kx_R k mc ms) s m av.toArray below meth c H [] 0 0 (MQ below (va_Qr post (fun u a t => a = ra u ∧ kx_B D tys A (w1 u) t) A) av.toArray s mc ms A) (F0 m 0 ls [])) : kx_Cr l y bytes maxL ret k mc ms D tys av ws post ra w1 :=
  fun sz => kx_enter (Qf := fun A => va_Qr post (fun u a t => a = ra u ∧ kx_B D tys A (w1 u) t) A) hy hlen body sz
/-- small numbers -/
theorem kx_lt {i : Int32} {n : Nat} (h : vp_in i n) : i.toNatClampNeg < n := Nat.not_le.mp fun q => h (Or.inr q)
theorem kx_c3 {i : Int32} (h : vp_in i 3) : i.toNatClampNeg = 0 ∨ i.toNatClampNeg = 1 ∨ i.toNatClampNeg = 2 := by
  have := kx_lt h
  omega
theorem kx_c4 {i : Int32} (h : vp_in i 4) : i.toNatClampNeg = 0 ∨ i.toNatClampNeg = 1 ∨ i.toNatClampNeg = 2 ∨ i.toNatClampNeg = 3 := by
  have := kx_lt h
  omega
theorem kx_i2 {x N : Int32} {n : Nat} (hN : N.toInt = n) (h0 : ¬ x < 0) (h1 : ¬ N ≤ x) : vp_in x n := by
  rw [Int32.lt_iff_toInt_lt, show (0 : Int32).toInt = 0 from rfl] at h0
  rw [Int32.le_iff_toInt_le, hN] at h1
  exact vp_in_iff.mpr ⟨by omega, by omega⟩
theorem kx_i3 {x N : Int32} {n : Nat} (hN : N.toInt = n) (h0 : 0 ≤ x) (h1 : ¬ N ≤ x) : vp_in x n := by
  rw [Int32.le_iff_toInt_le, show (0 : Int32).toInt = 0 from rfl] at h0
  rw [Int32.le_iff_toInt_le, hN] at h1
  exact vp_in_iff.mpr ⟨by omega, by omega⟩
theorem kx_ne {x k : Int32} (h : ¬ x = k) : ¬ x.toInt = k.toInt := fun e => h (Int32.toInt_inj.mp e)
theorem kx_sw2 {x : Int32} (h0 : ¬ x = 0) (h1 : ¬ x = 1) : x.toInt < 0 ∨ 1 < x.toInt := by
  have a := kx_ne h0; have b := kx_ne h1
  rw [show (0 : Int32).toInt = 0 from rfl] at a; rw [show (1 : Int32).toInt = 1 from rfl] at b
  omega
theorem kx_sw3 {x : Int32} (h0 : ¬ x = 0) (h1 : ¬ x = 1) (h2 : ¬ x = 2) : x.toInt < 0 ∨ 2 < x.toInt := by
  have a := kx_ne h0; have b := kx_ne h1; have c := kx_ne h2
  rw [show (0 : Int32).toInt = 0 from rfl] at a; rw [show (1 : Int32).toInt = 1 from rfl] at b; rw [show (2 : Int32).toInt = 2 from rfl] at c
  omega
theorem kx_sw5 {x : Int32} (h0 : ¬ x = 0) (h1 : ¬ x = 1) (h2 : ¬ x = 2) (h3 : ¬ x = 3) (h4 : ¬ x = 4) : x.toInt < 0 ∨ 4 < x.toInt := by
  have a := kx_ne h0; have b := kx_ne h1; have c := kx_ne h2; have d := kx_ne h3; have f := kx_ne h4
  rw [show (0 : Int32).toInt = 0 from rfl] at a; rw [show (1 : Int32).toInt = 1 from rfl] at b; rw [show (2 : Int32).toInt = 2 from rfl] at c; rw [show (3 : Int32).toInt = 3 from rfl] at d; rw [show (4 : Int32).toInt = 4 from rfl] at f
  omega
section KX
variable {p : Program} {l : Launch} {e : Env} {R : Room} {s : State} {m : MethodId} {args : Array Value} {below : List Frame} {meth : Method} {c : Code} {H : Heap} {locs : List Loc} {cells slots : Nat} {Q : State → Prop}
variable {cc : ByteArray} {pc nL : Nat} {ls : Array Slot} {rest : List Value} {D : va_G} {A : Nat → Prop} {a : Nat} {tys : List (ClassId × FieldType)} {ws : va_W} {own : String}
theorem kx_top {x v : Int32} (h : x = v) (k : W p l e R s m args below meth c H locs cells slots Q (F0 m pc ls (.int v :: rest))) : W p l e R s m args below meth c H locs cells slots Q (F0 m pc ls (.int x :: rest)) := by rw [h]; exact k
theorem kx_get (S : CallFix p m c cc nL s args kx_tbl own) (hw : kx_w D tys A s ws H locs) {ci k index : Nat} (F : kx_f own index ci k) (q0 : Nat) {fs : List Value} (he : ws[q0]? = some (a, .inr (ci, fs))) {v : Value} (hv : fs[k]? = some v) (hdg : decode cc pc = .ok (.getfield index, 3))
    (kk : W p l e R s m args below meth c H locs cells slots Q (F0 m (pc + 3) ls (v :: rest))) : W p l e R s m args below meth c H locs cells slots Q (F0 m pc ls (.ref a :: rest)) := by
  obtain ⟨C, T, N, hc, hk, hin, hl⟩ := F
  obtain ⟨hx, hb, -, hown, hts⟩ := S
  rcases hl with hl | ⟨host, hl⟩
  · exact va_get hx hb hts hin hown hw.1 hw.2.1 q0 he hc k hk (hts _ hl) (fun _ h => h) hv hdg kk
  · exact va_getN hx hb hts hin hown hw.1 hw.2.1 q0 he hc k hk (va_Nw.use rfl (hw.2.2.2.2.2.1 _ hl)) (fun _ h => h) hv hdg kk
theorem kx_put (S : CallFix p m c cc nL s args kx_tbl own) (hw : kx_w D tys A s ws H locs) {ci k index : Nat} {ty : FieldType} (F : kx_q own index ci k ty) (q0 : Nat) {fs : List Value} (he : ws[q0]? = some (a, .inr (ci, fs))) {v : Value} (hn : narrow ty v = v) (hfit : fits ty v = true) (hl : k < fs.length) (hdg : decode cc pc = .ok (.putfield index, 3))
    (kk : ∀ (H1 : Heap) (locs1 : List Loc), kx_w D tys A s (ws.set q0 (a, .inr (ci, fs.set k v))) H1 locs1 → W p l e R s m args below meth c H1 locs1 cells slots Q (F0 m (pc + 3) ls rest)) : W p l e R s m args below meth c H locs cells slots Q (F0 m pc ls (v :: .ref a :: rest)) := by
  obtain ⟨C, T, N, ty0, hc, hk, hin, hlk, hty, hnm, hfin, hd⟩ := F
  obtain ⟨hx, hb, -, hown, hts⟩ := S
  rcases hlk with hlk | ⟨host, hlk⟩
  · exact va_put hx hb hts hin ty0 hty hnm hown hw.1 hw.2.1 hw.2.2.1 hw.2.2.2.1 q0 he hc k hk (hts _ hlk) (fun _ h => h) hfin hd hn hfit hl hdg (fun H1 locs1 h1 h2 h3 => kk H1 locs1 ⟨hw.1, h1, h2, h3, hw.2.2.2.2⟩)
  · exact va_putN hx hb hts hin ty0 hty hnm hown hw.1 hw.2.1 hw.2.2.1 hw.2.2.2.1 q0 he hc k hk (va_Nw.use rfl (hw.2.2.2.2.2.1 _ hlk)) (fun _ h => h) hfin hd hn hfit hl hdg (fun H1 locs1 h1 h2 h3 => kk H1 locs1 ⟨hw.1, h1, h2, h3, hw.2.2.2.2⟩)
theorem kx_putF (S : CallFix p m c cc nL s args kx_tbl own) (hin2 : meth.name = "<init>") (hw : kx_w D tys A s ws H locs) {ci k index : Nat} {ty : FieldType} (F : kx_qF own index ci k ty) (q0 : Nat) {fs : List Value} (he : ws[q0]? = some (a, .inr (ci, fs))) {v : Value} (hn : narrow ty v = v) (hfit : fits ty v = true) (hl : k < fs.length) (hdg : decode cc pc = .ok (.putfield index, 3))
    (kk : ∀ (H1 : Heap) (locs1 : List Loc), kx_w D tys A s (ws.set q0 (a, .inr (ci, fs.set k v))) H1 locs1 → W p l e R s m args below meth c H1 locs1 cells slots Q (F0 m (pc + 3) ls rest)) : W p l e R s m args below meth c H locs cells slots Q (F0 m pc ls (v :: .ref a :: rest)) := by
  obtain ⟨C, T, N, ty0, hc, hk, hin, hlk, hty, hnm, hfin, hd, hde⟩ := F
  obtain ⟨hx, hb, -, hown, hts⟩ := S
  exact va_putF hx hb hts hin ty0 hty hnm hown hw.1 hw.2.1 hw.2.2.1 hw.2.2.2.1 q0 he hc k hk (hts _ hlk) (fun _ h => h) hfin hin2 hde hd hn hfit hl hdg (fun H1 locs1 h1 h2 h3 => kk H1 locs1 ⟨hw.1, h1, h2, h3, hw.2.2.2.2⟩)
theorem kx_new (S : CallFix p m c cc nL s args kx_tbl own) (hw : kx_w D tys A s ws H locs) {ci index : Nat} {fs : List Value} (F : kx_n own index ci fs) (hcells : cells + 1 ≤ R.cells) (hslots : slots + fs.length ≤ R.slots) (hdg : decode cc pc = .ok (.new index, 3))
    (kk : ∀ (q : Nat) (H1 : Heap), kx_w D tys A s (ws ++ [(q, .inr (ci, fs))]) H1 locs → W p l e R s m args below meth c H1 locs (cells + 1) (slots + fs.length) Q (F0 m (pc + 3) ls (.ref q :: rest))) : W p l e R s m args below meth c H locs cells slots Q (F0 m pc ls rest) := by
  obtain ⟨C, T, ty0, hc, hin, hty, h1, h2, h3, h4⟩ := F
  obtain ⟨hx, hb, -, hown, hts⟩ := S
  exact va_new hx hb hts hin ty0 hty hown (hts _ h1) (hts _ h2) (hts _ h3) hw.1 hw.2.1 hw.2.2.1 hw.2.2.2.1 hw.2.2.2.2.1 hc h4 hcells hslots hdg (fun q H1 g1 g2 g3 => kk q H1 ⟨hw.1, g1, g2, g3, hw.2.2.2.2⟩)
theorem kx_init (S : CallFix p m c cc nL s args kx_tbl own) {idx : Nat} (F : Cond.methodLink own idx Lib.objectInit ∈ kx_tbl ∧ Cond.instanceMethod Lib.objectInit ∈ kx_tbl ∧ Cond.code Lib.objectInit ⟨#[0xb1]⟩ 1 none ∈ kx_tbl) (hsz : ls.size = nL) (hd : decode cc pc = .ok (.invokespecial idx, 3)) (hframes : 1 ≤ R.frames) (hlocals : (rest.map fun v => v.category).sum + 12 ≤ R.locals)
    (kk : W p l e R s m args below meth c H locs cells slots Q (F0 m (pc + 3) ls rest)) : W p l e R s m args below meth c H locs cells slots Q (F0 m pc ls (.ref a :: rest)) := by
  obtain ⟨hx, hb, hml, hown, hts⟩ := S
  refine W.objInit hx hb hown (hts _ F.1) (hts _ F.2.1) (hts _ F.2.2) rfl (by rw [hml]; exact hsz) rfl hd hframes ?_ kk
  show 2 * 0 + _ + 12 ≤ _
  omega
theorem kx_iald (S : CallFix p m c cc nL s args kx_tbl own) (hw : kx_w D tys A s ws H locs) (q0 t0 : Nat) {cA : ClassId} {n : Nat} {f : Nat → Int32} (ha : ws[q0]? = some (a, .inl (cA, n, .inl f))) (ht : tys[t0]? = some (cA, .int)) {i : Int32} {j : Nat} (hj : i.toNatClampNeg = j) (hin : vp_in i n) (hdg : decode cc pc = .ok (.iaload, 1))
    (kk : W p l e R s m args below meth c H locs cells slots Q (F0 m (pc + 1) ls (.int (f j) :: rest))) : W p l e R s m args below meth c H locs cells slots Q (F0 m pc ls (.int i :: .ref a :: rest)) := by
  subst hj
  exact va_iald S.1 S.2.1 hw.1 hw.2.1 q0 t0 ha ht hin hdg kk
theorem kx_zald (S : CallFix p m c cc nL s args kx_tbl own) (hw : kx_w D tys A s ws H locs) (q0 t0 : Nat) {cA : ClassId} {n : Nat} {f : Nat → Int32} (ha : ws[q0]? = some (a, .inl (cA, n, .inl f))) (ht : tys[t0]? = some (cA, .boolean)) {i : Int32} {j : Nat} (hj : i.toNatClampNeg = j) (hin : vp_in i n) (hdg : decode cc pc = .ok (.baload, 1))
    (kk : W p l e R s m args below meth c H locs cells slots Q (F0 m (pc + 1) ls (.int (f j) :: rest))) : W p l e R s m args below meth c H locs cells slots Q (F0 m pc ls (.int i :: .ref a :: rest)) := by
  subst hj
  exact va_zald S.1 S.2.1 hw.1 hw.2.1 q0 t0 ha ht hin hdg kk
theorem kx_aald (S : CallFix p m c cc nL s args kx_tbl own) (hw : kx_w D tys A s ws H locs) (q0 t0 : Nat) {cA : ClassId} {C : String} {n : Nat} {f : Nat → Option Nat} (ha : ws[q0]? = some (a, .inl (cA, n, .inr (.inr (.inr (.inr f)))))) (ht : tys[t0]? = some (cA, .object C)) {i : Int32} {b : Nat} (hj : f i.toNatClampNeg = some b) (hin : vp_in i n) (hdg : decode cc pc = .ok (.aaload, 1))
    (kk : W p l e R s m args below meth c H locs cells slots Q (F0 m (pc + 1) ls (.ref b :: rest))) : W p l e R s m args below meth c H locs cells slots Q (F0 m pc ls (.int i :: .ref a :: rest)) := by
  refine va_aldq S.1 S.2.1 hw.1 hw.2.1 q0 t0 ha ht hin hdg ?_
  rw [hj]
  exact kk
theorem kx_iast (S : CallFix p m c cc nL s args kx_tbl own) (hw : kx_w D tys A s ws H locs) (q0 t0 : Nat) {cA : ClassId} {n : Nat} {f : Nat → Int32} (ha : ws[q0]? = some (a, .inl (cA, n, .inl f))) (ht : tys[t0]? = some (cA, .int)) {i x : Int32} {j : Nat} (hj : i.toNatClampNeg = j) (hin : vp_in i n) (hdg : decode cc pc = .ok (.iastore, 1))
    (kk : ∀ (H1 : Heap) (locs1 : List Loc), kx_w D tys A s (ws.set q0 (a, .inl (cA, n, .inl (upd f j x)))) H1 locs1 → W p l e R s m args below meth c H1 locs1 cells slots Q (F0 m (pc + 1) ls rest)) : W p l e R s m args below meth c H locs cells slots Q (F0 m pc ls (.int x :: .int i :: .ref a :: rest)) := by
  subst hj
  exact va_iast S.1 S.2.1 hw.1 hw.2.1 hw.2.2.1 hw.2.2.2.1 q0 t0 ha ht hin hdg (fun H1 locs1 h1 h2 h3 => kk H1 locs1 ⟨hw.1, h1, h2, h3, hw.2.2.2.2⟩)
theorem kx_zast (S : CallFix p m c cc nL s args kx_tbl own) (hw : kx_w D tys A s ws H locs) (q0 t0 : Nat) {cA : ClassId} {n : Nat} {f : Nat → Int32} (ha : ws[q0]? = some (a, .inl (cA, n, .inl f))) (ht : tys[t0]? = some (cA, .boolean)) {i x : Int32} {j : Nat} (hj : i.toNatClampNeg = j) (hxn : vp_nar .boolean x = x) (hin : vp_in i n) (hdg : decode cc pc = .ok (.bastore, 1))
    (kk : ∀ (H1 : Heap) (locs1 : List Loc), kx_w D tys A s (ws.set q0 (a, .inl (cA, n, .inl (upd f j x)))) H1 locs1 → W p l e R s m args below meth c H1 locs1 cells slots Q (F0 m (pc + 1) ls rest)) : W p l e R s m args below meth c H locs cells slots Q (F0 m pc ls (.int x :: .int i :: .ref a :: rest)) := by
  subst hj
  refine va_zast S.1 S.2.1 hw.1 hw.2.1 hw.2.2.1 hw.2.2.2.1 q0 t0 ha ht hin hdg (fun H1 locs1 h1 h2 h3 => ?_)
  rw [hxn] at h1 h2
  exact kk H1 locs1 ⟨hw.1, h1, h2, h3, hw.2.2.2.2⟩
theorem kx_aast (S : CallFix p m c cc nL s args kx_tbl own) (hw : kx_w D tys A s ws H locs) (q0 t0 qk ci : Nat) {cA : ClassId} {r : vw_C} {n v : Nat} {vs : List Value} {f : Nat → Option Nat} (ha : ws[q0]? = some (a, .inl (cA, n, .inr (.inr (.inr (.inr f)))))) (ht : tys[t0]? = some (cA, .object r.1)) (hv : ws[qk]? = some (v, .inr (ci, vs))) (hc : classes[ci]? = some r) {i : Int32} {j : Nat} (hj : i.toNatClampNeg = j) (hin : vp_in i n) (hdg : decode cc pc = .ok (.aastore, 1))
    (kk : ∀ (H1 : Heap) (locs1 : List Loc), kx_w D tys A s (ws.set q0 (a, .inl (cA, n, .inr (.inr (.inr (.inr (va_up f j (some v)))))))) H1 locs1 → W p l e R s m args below meth c H1 locs1 cells slots Q (F0 m (pc + 1) ls rest)) : W p l e R s m args below meth c H locs cells slots Q (F0 m pc ls (.ref v :: .int i :: .ref a :: rest)) := by
  subst hj
  exact va_astq S.1 S.2.1 hw.1 hw.2.1 hw.2.2.1 hw.2.2.2.1 q0 t0 qk ci ha ht hv hc hin hdg (fun H1 locs1 h1 h2 h3 => kk H1 locs1 ⟨hw.1, h1, h2, h3, hw.2.2.2.2⟩)
theorem kx_alen (S : CallFix p m c cc nL s args kx_tbl own) (hw : kx_w D tys A s ws H locs) (q0 t0 : Nat) {cA : ClassId} {x : vp_A} (ha : ws[q0]? = some (a, .inl (cA, x))) {ty : FieldType} (ht : tys[t0]? = some (cA, ty)) {v : Int32} (hv : Int32.ofNat x.1 = v) (hdg : decode cc pc = .ok (.arraylength, 1))
    (kk : W p l e R s m args below meth c H locs cells slots Q (F0 m (pc + 1) ls (.int v :: rest))) : W p l e R s m args below meth c H locs cells slots Q (F0 m pc ls (.ref a :: rest)) :=
  va_alen S.1 S.2.1 hw.1 hw.2.1 q0 t0 ha ht hv hdg kk
/-- the class of an array type is one -/
theorem kx_RA {cA cB : ClassId} {ty : FieldType} (h1 : va_RA s cA ty) (h2 : va_RA s cB ty) : cA = cB := by
  cases ty with
  | object C =>
    obtain ⟨_, _, _, _, _, h4⟩ := h1
    obtain ⟨_, _, _, _, _, g4⟩ := h2
    exact Option.some.inj (h4.symm.trans g4)
  | _ => exact Option.some.inj (Eq.trans (Eq.symm h1) h2)
theorem kx_newa (S : CallFix p m c cc nL s args kx_tbl own) (hw : kx_w D tys A s ws H locs) {atype : ArrayType} (harr : Cond.arrayClass (newarray.typeOf atype) ∈ kx_tbl) {ty : FieldType} (hty : newarray.typeOf atype = ty) (t0 : Nat) {cA : ClassId} (ht : tys[t0]? = some (cA, ty))
    {n : Int32} {N' : Nat} {a0 : vp_A} (ha : ∀ cA : ClassId, vp_cell cA a0 = arrV cA N' (fun _ => defaultValue ty)) (hn : ¬ n < 0) (hN : n.toNatClampNeg = N') (hbytes : N' * componentBytes ty ≤ 536870912) (hcells : cells + 1 ≤ R.cells) (hslots : slots + N' ≤ R.slots) (hdg : decode cc pc = .ok (.newarray atype, 2))
    (kk : ∀ (q : Nat) (H1 : Heap), kx_w D tys A s (ws ++ [(q, .inl (cA, a0))]) H1 locs → W p l e R s m args below meth c H1 locs (cells + 1) (slots + N') Q (F0 m (pc + 2) ls (.ref q :: rest))) : W p l e R s m args below meth c H locs cells slots Q (F0 m pc ls (.int n :: rest)) := by
  refine va_newa S.1 S.2.1 (S.2.2.2.2 _ harr) hty hw.1 hw.2.1 hw.2.2.1 hw.2.2.2.1 hw.2.2.2.2.1 ha hn hN hbytes hcells hslots hdg (fun q cB H1 g0 g1 g2 g3 => ?_)
  have e : cB = cA := kx_RA (g0.2 tys.length (cB, ty) (by rw [List.getElem?_append_right (Nat.le_refl _), Nat.sub_self]; rfl)).2 (hw.1.2 t0 _ ht).2
  subst e
  exact kk q H1 ⟨hw.1, g1, g2, g3, hw.2.2.2.2⟩
theorem kx_newq (S : CallFix p m c cc nL s args kx_tbl own) (hw : kx_w D tys A s ws H locs) {C : String} {index : Nat} (F : Cond.classLink own index C ∈ kx_tbl ∧ C = "RebornDrivers$Operation") (t0 : Nat) {cA : ClassId} (ht : tys[t0]? = some (cA, .object C))
    {n : Int32} {N' : Nat} (hn : ¬ n < 0) (hN : n.toNatClampNeg = N') (hbytes : N' * 4 ≤ 536870912) (hcells : cells + 1 ≤ R.cells) (hslots : slots + N' ≤ R.slots) (hdg : decode cc pc = .ok (.anewarray index, 3))
    (kk : ∀ (q : Nat) (H1 : Heap), kx_w D tys A s (ws ++ [(q, .inl (cA, N', .inr (.inr (.inr (.inr (fun _ => none))))))]) H1 locs → W p l e R s m args below meth c H1 locs (cells + 1) (slots + N') Q (F0 m (pc + 3) ls (.ref q :: rest))) : W p l e R s m args below meth c H locs cells slots Q (F0 m pc ls (.int n :: rest)) := by
  refine va_newq S.1 S.2.1 S.2.2.2.1 (S.2.2.2.2 _ F.1) (F.2 ▸ hw.2.2.2.2.2.2) hw.1 hw.2.1 hw.2.2.1 hw.2.2.2.1 hw.2.2.2.2.1 hn hN hbytes hcells hslots hdg (fun q cB H1 g0 g1 g2 g3 => ?_)
  have e : cB = cA := kx_RA (g0.2 tys.length (cB, .object C) (by rw [List.getElem?_append_right (Nat.le_refl _), Nat.sub_self]; rfl)).2 (hw.1.2 t0 _ ht).2
  subst e
  exact kk q H1 ⟨hw.1, g1, g2, g3, hw.2.2.2.2⟩
theorem kx_max (S : CallFix p m c cc nL s args kx_tbl own) {index : Nat} (F : Cond.methodLink own index Lib.Math.max.name ∈ kx_tbl ∧ Cond.static Lib.Math.max.name ∈ kx_tbl ∧ Cond.initialized "java/lang/Math" ∈ kx_tbl ∧ Cond.code Lib.Math.max.name Lib.Math.max.code 2 (some .int) ∈ kx_tbl) (hsz : ls.size = nL)
    (hframes : 1 ≤ R.frames) (hlocals : (rest.map fun v => v.category).sum + 13 ≤ R.locals) (hc : cells ≤ R.cells) (hs : slots ≤ R.slots) {x y : Int32} (hdg : decode cc pc = .ok (.invokestatic index, 3))
    (kk : W p l e R s m args below meth c H locs cells slots Q (F0 m (pc + 3) ls (.int (if x < y then y else x) :: rest))) : W p l e R s m args below meth c H locs cells slots Q (F0 m pc ls (.int y :: .int x :: rest)) := by
  obtain ⟨hx, hb, hml, hown, hts⟩ := S
  exact va_mmax hx hb (hml.trans hsz.symm) hown (hts _ F.1) (hts _ F.2.1) (hts _ F.2.2.1) (hts _ F.2.2.2) hframes hlocals hc hs hdg kk
/-- ends -/
theorem kx_ret_i {S : Type} {post : Int32 → S → Prop} {w1 : S → va_W} {y : MethodName} {ret : Option FieldType} (I : kx_In p s m args meth c y cc nL ret) (hret : ret = some .int) (hw : kx_w D tys A s ws H locs) {v : Int32} (u : S) (hp : post v u) (is : List Nat) (hn : va_nd is = true) (hs : is.map (fun i => ws[i]?) = (w1 u).map some) (hdg : decode cc pc = .ok (.ireturn, 1)) :
    W p l e R s m args below meth c H locs cells slots (MQ below (va_Qi post (fun u t => kx_B D tys A (w1 u) t) A) args s cells slots A) (F0 m pc ls [.int v]) := by
  have h9 := hw.sub is hn hs
  exact W.iret I.1.1 I.1.2.1 (I.2.1.trans hret) (fun t ht hW => ⟨⟨v, u, rfl, hp, by rw [ht]; exact h9.2.1, va_K.moved hW.alike h9.1, h9.2.2.1⟩, hw.2.2.2.1.F ht⟩) hw.2.2.2.1.2.2 hdg I.2.2.1
def kx_b (v : Int32) : Prop := v = 0 ∨ v = 1
theorem kx_b.nar {v : Int32} (h : kx_b v) : narrow .boolean (.int v) = .int v := by
  rcases h with rfl | rfl <;> rfl
theorem kx_b.vnar {v : Int32} (h : kx_b v) : vp_nar .boolean v = v := by
  rcases h with rfl | rfl <;> rfl
theorem kx_b.fit {v : Int32} (h : kx_b v) : fits .boolean (.int v) = true := by
  rcases h with rfl | rfl <;> rfl
theorem kx_ret_z {S : Type} {post : Int32 → S → Prop} {w1 : S → va_W} {y : MethodName} {ret : Option FieldType} (I : kx_In p s m args meth c y cc nL ret) (hret : ret = some .boolean) (hw : kx_w D tys A s ws H locs) {v : Int32} (hv : kx_b v) (u : S) (hp : post v u) (is : List Nat) (hn : va_nd is = true) (hs : is.map (fun i => ws[i]?) = (w1 u).map some) (hdg : decode cc pc = .ok (.ireturn, 1)) :
    W p l e R s m args below meth c H locs cells slots (MQ below (va_Qi post (fun u t => kx_B D tys A (w1 u) t) A) args s cells slots A) (F0 m pc ls [.int v]) := by
  have h9 := hw.sub is hn hs
  exact W.zret I.1.1 I.1.2.1 (I.2.1.trans hret) hv.nar (fun t ht hW => ⟨⟨v, u, rfl, hp, by rw [ht]; exact h9.2.1, va_K.moved hW.alike h9.1, h9.2.2.1⟩, hw.2.2.2.1.F ht⟩) hw.2.2.2.1.2.2 hdg I.2.2.1
theorem kx_ret_v {S : Type} {post : S → Prop} {w1 : S → va_W} {y : MethodName} {ret : Option FieldType} (I : kx_In p s m args meth c y cc nL ret) (hret : ret = none) (hw : kx_w D tys A s ws H locs) (u : S) (hp : post u) (is : List Nat) (hn : va_nd is = true) (hs : is.map (fun i => ws[i]?) = (w1 u).map some) (hdg : decode cc pc = .ok (.return_, 1)) :
    W p l e R s m args below meth c H locs cells slots (MQ below (va_Qv post (fun u t => kx_B D tys A (w1 u) t) A) args s cells slots A) (F0 m pc ls []) := by
  have h9 := hw.sub is hn hs
  exact W.vret I.1.1 I.1.2.1 (I.2.1.trans hret) (fun t ht hW => ⟨⟨u, rfl, hp, by rw [ht]; exact h9.2.1, va_K.moved hW.alike h9.1, h9.2.2.1⟩, hw.2.2.2.1.F ht⟩) hw.2.2.2.1.2.2 hdg I.2.2.1
theorem kx_ret_r {S : Type} {post : S → Prop} {ra : S → Nat} {w1 : S → va_W} {y : MethodName} {ret : Option FieldType} {C : String} (I : kx_In p s m args meth c y cc nL ret) (hret : ret = some (.object C)) (hw : kx_w D tys A s ws H locs) {b : Nat} (u : S) (hb : b = ra u) (hp : post u) (is : List Nat) (hn : va_nd is = true) (hs : is.map (fun i => ws[i]?) = (w1 u).map some) (hdg : decode cc pc = .ok (.areturn, 1)) :
    W p l e R s m args below meth c H locs cells slots (MQ below (va_Qr post (fun u a t => a = ra u ∧ kx_B D tys A (w1 u) t) A) args s cells slots A) (F0 m pc ls [.ref b]) := by
  have h9 := hw.sub is hn hs
  exact W.aret I.1.1 I.1.2.1 (I.2.1.trans hret) (Or.inl ⟨_, rfl⟩) (Or.inr ⟨_, rfl⟩) (fun t ht hW => ⟨⟨u, b, rfl, hp, hb, by rw [ht]; exact h9.2.1, va_K.moved hW.alike h9.1, h9.2.2.1⟩, hw.2.2.2.1.F ht⟩) hw.2.2.2.1.2.2 hdg I.2.2.1
/-- calls -/
theorem kx_blind {av : List Value} {wc : va_W} {sz : Nat} : FrameBlind (kx_Pre D tys av wc sz) := fun a U g mk q => by
  obtain ⟨q0, q1, qP, qK, qD, qN⟩ := q
  exact ⟨q0, q1, qP, va_K.moved (u := U) (U := U.calling g mk a) (Vm.Alike.refl U.vm) qK, qD, kx_N.same (u := U) rfl qN⟩
theorem kx_pre {av : List Value} {wc : va_W} (hw : kx_w D tys A s ws H locs) (isC : List Nat) (h0 : va_nd isC = true) (h1 : isC.map (fun i => ws[i]?) = wc.map some) (U : State) (hU : U.heap = H) (hW : s.WarmedH U.vm) : kx_Pre D tys av wc H.size av.toArray U := by
  have h9 := hw.sub isC h0 h1
  exact ⟨rfl, by rw [hU], by rw [hU]; exact h9.2.1, va_K.moved hW.alike h9.1, h9.2.2.1.weaken (fun _ _ _ _ => trivial), hw.2.2.2.2.2.warm hW⟩
theorem kx_runV {y : MethodName} {bytes : ByteArray} {maxL n index k mc ms : Nat} {ret : Option FieldType} {Qc : Array Value → State → Outcome → State → Prop} {free : Addr → Prop} {C : String} {T : u_T} {N ci b : Nat} {As st : List Value} {wc : va_W} {fs : List Value} (S : CallFix p m c cc nL s args kx_tbl own) (hw : kx_w D tys A s ws H locs) (F : kx_m own index y bytes maxL ret n ∧ Cond.instanceMethod y ∈ kx_tbl ∧ Cond.selects C y y ∈ kx_tbl) (hc : classes[ci]? = some (C, T, N)) (q0 : Nat) (he : ws[q0]? = some (b, .inr (ci, fs))) (isC : List Nat) (h0 : va_nd isC = true) (h1 : isC.map (fun i => ws[i]?) = wc.map some)
    (hM : Met l y (Cond.code y bytes maxL ret :: kx_tbl) (kx_R k mc ms) (kx_Pre D tys (.ref b :: As) wc H.size) Qc mc ms free) (hn : As.length = n) (hsize : ls.size = nL) (hst : st = As.reverse ++ .ref b :: rest) (hsum : (rest.map fun v => v.category).sum ≤ 8) (hdg : decode cc pc = .ok (.invokevirtual index, 3)) (hR : k + 1 ≤ R.frames ∧ 8 + (maxL + 11) + 24 * k ≤ R.locals) (hf : cells + mc ≤ R.cells ∧ slots + ms ≤ R.slots) :
    va_Run p l e R s m args below meth c H locs cells slots mc ms (F0 m pc ls st) rest (Qc (Value.ref b :: As).toArray) free := by
  obtain ⟨⟨f1, f2, f3, f4⟩, f5, f6⟩ := F
  have hts := S.2.2.2.2
  have hpre : PreV s H C b (kx_Pre D tys (.ref b :: As) wc H.size) As := ⟨kx_blind, va_recv hw.1 hw.2.1 hc he, fun U hU hW => kx_pre hw isC h0 h1 U hU hW⟩
  rcases f4 with f4 | ⟨host, f4⟩
  · exact va_runV S hM ⟨callB_of n hts (kx_good f1) rfl rfl rfl (hts _ f2) (hts _ f4) f3 hR, hts _ f5, hts _ f6⟩ hpre rfl hn hsize hst (lv_room hsum) hdg hf
  · exact va_runVN S hM ⟨va_cnB n hts (kx_good f1) rfl rfl rfl (hw.2.2.2.2.2.1 _ f4) (hts _ f2) f3 hR, hts _ f5, hts _ f6⟩ hpre rfl hn hsize hst (lv_room hsum) hdg hf
theorem kx_runS {y : MethodName} {bytes : ByteArray} {maxL n index k mc ms : Nat} {ret : Option FieldType} {Qc : Array Value → State → Outcome → State → Prop} {free : Addr → Prop} {As st : List Value} {wc : va_W} (S : CallFix p m c cc nL s args kx_tbl own) (hw : kx_w D tys A s ws H locs) (F : kx_m own index y bytes maxL ret n ∧ Cond.static y ∈ kx_tbl) (isC : List Nat) (h0 : va_nd isC = true) (h1 : isC.map (fun i => ws[i]?) = wc.map some)
    (hM : Met l y (Cond.code y bytes maxL ret :: kx_tbl) (kx_R k mc ms) (kx_Pre D tys As wc H.size) Qc mc ms free) (hn : As.length = n) (hsize : ls.size = nL) (hst : st = As.reverse ++ rest) (hsum : (rest.map fun v => v.category).sum ≤ 8) (hdg : decode cc pc = .ok (.invokestatic index, 3)) (hR : k + 1 ≤ R.frames ∧ 8 + (maxL + 11) + 24 * k ≤ R.locals) (hf : cells + mc ≤ R.cells ∧ slots + ms ≤ R.slots) :
    va_Run p l e R s m args below meth c H locs cells slots mc ms (F0 m pc ls st) rest (Qc As.toArray) free := by
  obtain ⟨⟨f1, f2, f3, f4⟩, f5⟩ := F
  have hts := S.2.2.2.2
  have hpre : PreS s H (kx_Pre D tys As wc H.size) As := ⟨kx_blind, fun U hU hW => kx_pre hw isC h0 h1 U hU hW⟩
  rcases f4 with f4 | ⟨host, f4⟩
  · exact va_runS S hM ⟨callB_of n hts (kx_good f1) rfl rfl rfl (hts _ f2) (hts _ f4) f3 hR, hts _ f5⟩ hpre rfl hn hsize hst (lv_room hsum) hdg hf
  · exact va_runSN S hM ⟨va_cnB n hts (kx_good f1) rfl rfl rfl (hw.2.2.2.2.2.1 _ f4) (hts _ f2) f3 hR, hts _ f5, trivial⟩ hpre rfl hn hsize hst (lv_room hsum) hdg hf
theorem kx_runI {y : MethodName} {bytes : ByteArray} {maxL n index k mc ms : Nat} {Qc : Array Value → State → Outcome → State → Prop} {free : Addr → Prop} {b : Nat} {As st : List Value} {wc : va_W} (S : CallFix p m c cc nL s args kx_tbl own) (hw : kx_w D tys A s ws H locs) (F : kx_m own index y bytes maxL none n ∧ y.name = "<init>" ∧ Cond.instanceMethod y ∈ kx_tbl) (isC : List Nat) (h0 : va_nd isC = true) (h1 : isC.map (fun i => ws[i]?) = wc.map some)
    (hM : Met l y (Cond.code y bytes maxL none :: kx_tbl) (kx_R k mc ms) (kx_Pre D tys (.ref b :: As) wc H.size) Qc mc ms free) (hn : As.length = n) (hsize : ls.size = nL) (hst : st = As.reverse ++ .ref b :: rest) (hsum : (rest.map fun v => v.category).sum ≤ 8) (hdg : decode cc pc = .ok (.invokespecial index, 3)) (hR : k + 1 ≤ R.frames ∧ 8 + (maxL + 11) + 24 * k ≤ R.locals) (hf : cells + mc ≤ R.cells ∧ slots + ms ≤ R.slots) :
    va_Run p l e R s m args below meth c H locs cells slots mc ms (F0 m pc ls st) rest (Qc (Value.ref b :: As).toArray) free := by
  obtain ⟨⟨f1, f2, f3, f4⟩, f5, f6⟩ := F
  have hts := S.2.2.2.2
  have hpre : PreS s H (kx_Pre D tys (.ref b :: As) wc H.size) (.ref b :: As) := ⟨kx_blind, fun U hU hW => kx_pre hw isC h0 h1 U hU hW⟩
  rcases f4 with f4 | ⟨host, f4⟩
  · exact va_runI S hM ⟨callB_of n hts (kx_good f1) rfl rfl rfl (hts _ f2) (hts _ f4) f3 hR, f5, hts _ f6⟩ hpre rfl hn hsize hst (lv_room hsum) hdg hf
  · exact va_runIN S hM ⟨va_cnB n hts (kx_good f1) rfl rfl rfl (hw.2.2.2.2.2.1 _ f4) (hts _ f2) f3 hR, f5, hts _ f6⟩ hpre rfl hn hsize hst (lv_room hsum) hdg hf
theorem kx_call_i {S0 : Type} {post : Int32 → S0 → Prop} {w1 : S0 → va_W} {mc ms : Nat} {st : List Value} {wc wr : va_W} {aa : Array Value} (hw : kx_w D tys A s ws H locs) (isC isR : List Nat) (h1 : isC.map (fun i => ws[i]?) = wc.map some) (h2 : isR.map (fun i => ws[i]?) = wr.map some) (hn : va_nd isR = true) (hdis : ∀ i ∈ isR, i ∉ isC)
    (run : va_Run p l e R s m args below meth c H locs cells slots mc ms (F0 m pc ls st) rest (va_Qi post (fun u t => kx_B D tys (va_A wc H.size) (w1 u) t) (va_A wc H.size) aa) (va_A wc H.size))
    (kk : ∀ (r : Int32) (u : S0) (H1 : Heap) (locs1 : List Loc), post r u → kx_w D tys A s (wr ++ w1 u) H1 locs1 → W p l e R s m args below meth c H1 locs1 (cells + mc) (slots + ms) Q (F0 m (pc + 3) ls (.int r :: rest))) : W p l e R s m args below meth c H locs cells slots Q (F0 m pc ls st) := by
  have hFc := va_free (wc := wc) hw.2.2.1 hw.2.2.2.1 hw.2.2.2.2.1 isC h1
  refine va_calli run hw.2.2.2.1 (fun q _ h => hFc q h) hFc (fun r u t H1 locs1 ht hvm hp hB hz hk hS => ?_)
  obtain ⟨hP1, hK1, hD1⟩ := hB
  rw [ht] at hP1
  obtain ⟨hP, hD⟩ := va_join hw.2.1 hw.2.2.1 isC isR h1 h2 hn hdis hk hFc hP1 hD1
  exact kk r u H1 locs1 hp ⟨hw.1, hP, hD, hS, hw.2.2.2.2⟩
theorem kx_call_v {S0 : Type} {post : S0 → Prop} {w1 : S0 → va_W} {mc ms : Nat} {st : List Value} {wc wr : va_W} {aa : Array Value} (hw : kx_w D tys A s ws H locs) (isC isR : List Nat) (h1 : isC.map (fun i => ws[i]?) = wc.map some) (h2 : isR.map (fun i => ws[i]?) = wr.map some) (hn : va_nd isR = true) (hdis : ∀ i ∈ isR, i ∉ isC)
    (run : va_Run p l e R s m args below meth c H locs cells slots mc ms (F0 m pc ls st) rest (va_Qv post (fun u t => kx_B D tys (va_A wc H.size) (w1 u) t) (va_A wc H.size) aa) (va_A wc H.size))
    (kk : ∀ (u : S0) (H1 : Heap) (locs1 : List Loc), post u → kx_w D tys A s (wr ++ w1 u) H1 locs1 → W p l e R s m args below meth c H1 locs1 (cells + mc) (slots + ms) Q (F0 m (pc + 3) ls rest)) : W p l e R s m args below meth c H locs cells slots Q (F0 m pc ls st) := by
  have hFc := va_free (wc := wc) hw.2.2.1 hw.2.2.2.1 hw.2.2.2.2.1 isC h1
  refine va_callv run hw.2.2.2.1 (fun q _ h => hFc q h) hFc (fun u t H1 locs1 ht hvm hp hB hz hk hS => ?_)
  obtain ⟨hP1, hK1, hD1⟩ := hB
  rw [ht] at hP1
  obtain ⟨hP, hD⟩ := va_join hw.2.1 hw.2.2.1 isC isR h1 h2 hn hdis hk hFc hP1 hD1
  exact kk u H1 locs1 hp ⟨hw.1, hP, hD, hS, hw.2.2.2.2⟩
theorem kx_call_r {S0 : Type} {post : S0 → Prop} {ra : S0 → Nat} {w1 : S0 → va_W} {mc ms : Nat} {st : List Value} {wc wr : va_W} {aa : Array Value} (hw : kx_w D tys A s ws H locs) (isC isR : List Nat) (h1 : isC.map (fun i => ws[i]?) = wc.map some) (h2 : isR.map (fun i => ws[i]?) = wr.map some) (hn : va_nd isR = true) (hdis : ∀ i ∈ isR, i ∉ isC)
    (run : va_Run p l e R s m args below meth c H locs cells slots mc ms (F0 m pc ls st) rest (va_Qr post (fun u a t => a = ra u ∧ kx_B D tys (va_A wc H.size) (w1 u) t) (va_A wc H.size) aa) (va_A wc H.size))
    (kk : ∀ (u : S0) (H1 : Heap) (locs1 : List Loc), post u → kx_w D tys A s (wr ++ w1 u) H1 locs1 → W p l e R s m args below meth c H1 locs1 (cells + mc) (slots + ms) Q (F0 m (pc + 3) ls (.ref (ra u) :: rest))) : W p l e R s m args below meth c H locs cells slots Q (F0 m pc ls st) := by
  have hFc := va_free (wc := wc) hw.2.2.1 hw.2.2.2.1 hw.2.2.2.2.1 isC h1
  refine va_callr run hw.2.2.2.1 (fun q _ h => hFc q h) hFc (fun u b t H1 locs1 ht hvm hp hB hz hk hS => ?_)
  obtain ⟨hb, hP1, hK1, hD1⟩ := hB
  subst hb
  rw [ht] at hP1
  obtain ⟨hP, hD⟩ := va_join hw.2.1 hw.2.2.1 isC isR h1 h2 hn hdis hk hFc hP1 hD1
  exact kk u H1 locs1 hp ⟨hw.1, hP, hD, hS, hw.2.2.2.2⟩
end KX
abbrev kt_Op : Type := Int32 × Int32 × Int32 × Int32 × Int32 × Int32
abbrev kt_Ln : Type := (Nat → Int32) × Int32
abbrev kt_Dr : Type := Int32 × Int32 × Int32 × Int32 × Int32 × Int32
abbrev kt_Rq : Type := Int32 × Int32 × Int32 × Int32 × Int32 × Int32 × Int32
abbrev kt_Ca : Type := (Nat → Int32) × (Nat → Int32) × (Nat → Int32) × (Nat → Int32)
abbrev kt_M : Type := Int32 × Int32 × Int32 × Int32
abbrev kx_T (cI cZ cO : ClassId) : List (ClassId × FieldType) := [(cI, .int), (cZ, .boolean), (cO, .object "RebornDrivers$Operation")]
def kx_opsf (ad : Nat → Nat) : Nat → Option Nat := va_up (va_up (va_up (va_up (fun _ => none) 0 (some (ad 2))) 1 (some (ad 3))) 2 (some (ad 4))) 3 (some (ad 5))
end
section
theorem mm_131 : Cond.fieldLink "RebornDrivers$Operation" 7 "RebornDrivers$Operation" "kind" "I" ∈ kx_tbl := List.mem_filter.mpr ⟨List.mem_append_right _ (List.mem_of_getElem? (i := 131) (by decide +kernel)), by decide +kernel⟩
theorem mm_133 : Cond.fieldLink "RebornDrivers$Operation" 13 "RebornDrivers$Operation" "block" "I" ∈ kx_tbl := List.mem_filter.mpr ⟨List.mem_append_right _ (List.mem_of_getElem? (i := 133) (by decide +kernel)), by decide +kernel⟩
theorem mm_135 : Cond.fieldLink "RebornDrivers$Operation" 16 "RebornDrivers$Operation" "value" "I" ∈ kx_tbl := List.mem_filter.mpr ⟨List.mem_append_right _ (List.mem_of_getElem? (i := 135) (by decide +kernel)), by decide +kernel⟩
theorem mm_137 : Cond.fieldLink "RebornDrivers$Operation" 19 "RebornDrivers$Operation" "writesAsked" "I" ∈ kx_tbl := List.mem_filter.mpr ⟨List.mem_append_right _ (List.mem_of_getElem? (i := 137) (by decide +kernel)), by decide +kernel⟩
theorem mm_139 : Cond.fieldLink "RebornDrivers$Operation" 22 "RebornDrivers$Operation" "state" "I" ∈ kx_tbl := List.mem_filter.mpr ⟨List.mem_append_right _ (List.mem_of_getElem? (i := 139) (by decide +kernel)), by decide +kernel⟩
theorem mm_141 : Cond.fieldLink "RebornDrivers$Operation" 25 "RebornDrivers$Operation" "result" "I" ∈ kx_tbl := List.mem_filter.mpr ⟨List.mem_append_right _ (List.mem_of_getElem? (i := 141) (by decide +kernel)), by decide +kernel⟩
theorem mm_27 : Cond.fieldLink "RebornDrivers$Line" 15 "RebornDrivers$Line" "length" "I" ∈ kx_tbl := List.mem_filter.mpr ⟨List.mem_append_right _ (List.mem_of_getElem? (i := 27) (by decide +kernel)), by decide +kernel⟩
theorem mm_26 : Cond.fieldLink "RebornDrivers$Line" 9 "RebornDrivers$Line" "users" "[I" ∈ kx_tbl := List.mem_filter.mpr ⟨List.mem_append_right _ (List.mem_of_getElem? (i := 26) (by decide +kernel)), by decide +kernel⟩
theorem mm_44 : Cond.fieldLink "RebornDrivers$Driver" 11 "RebornDrivers$Driver" "condition" "I" ∈ kx_tbl := List.mem_filter.mpr ⟨List.mem_append_right _ (List.mem_of_getElem? (i := 44) (by decide +kernel)), by decide +kernel⟩
theorem mm_47 : Cond.fieldLink "RebornDrivers$Driver" 15 "RebornDrivers$Driver" "stage" "I" ∈ kx_tbl := List.mem_filter.mpr ⟨List.mem_append_right _ (List.mem_of_getElem? (i := 47) (by decide +kernel)), by decide +kernel⟩
theorem mm_52 : Cond.fieldLink "RebornDrivers$Driver" 22 "RebornDrivers$Driver" "badness" "I" ∈ kx_tbl := List.mem_filter.mpr ⟨List.mem_append_right _ (List.mem_of_getElem? (i := 52) (by decide +kernel)), by decide +kernel⟩
theorem mm_41 : Cond.fieldLink "RebornDrivers$Driver" 31 "RebornDrivers$Driver" "endpoint" "I" ∈ kx_tbl := List.mem_filter.mpr ⟨List.mem_append_right _ (List.mem_of_getElem? (i := 41) (by decide +kernel)), by decide +kernel⟩
theorem mm_50 : Cond.fieldLink "RebornDrivers$Driver" 18 "RebornDrivers$Driver" "hasAnswered" "Z" ∈ kx_tbl := List.mem_filter.mpr ⟨List.mem_append_right _ (List.mem_of_getElem? (i := 50) (by decide +kernel)), by decide +kernel⟩
theorem mm_260 : Cond.code ⟨"RebornDrivers$Driver", "die", "()V"⟩ prog_3_method_3_code 1 none ∈ kx_tbl := List.mem_filter.mpr ⟨List.mem_append_right _ (List.mem_of_getElem? (i := 260) (by decide +kernel)), by decide +kernel⟩
theorem mm_3 : Cond.initialized "RebornDrivers$Driver" ∈ kx_tbl := List.mem_filter.mpr ⟨List.mem_append_right _ (List.mem_of_getElem? (i := 3) (by decide +kernel)), by decide +kernel⟩
theorem mm_257 : Cond.methodLink "RebornDrivers$Driver" 25 ⟨"RebornDrivers$Driver", "die", "()V"⟩ ∈ kx_tbl := List.mem_filter.mpr ⟨List.mem_append_right _ (List.mem_of_getElem? (i := 257) (by decide +kernel)), by decide +kernel⟩
theorem mm_259 : Cond.instanceMethod ⟨"RebornDrivers$Driver", "die", "()V"⟩ ∈ kx_tbl := List.mem_filter.mpr ⟨List.mem_append_right _ (List.mem_of_getElem? (i := 259) (by decide +kernel)), by decide +kernel⟩
theorem mm_244 : Cond.code ⟨"RebornDrivers$Driver", "restart", "()V"⟩ prog_3_method_5_code 1 none ∈ kx_tbl := List.mem_filter.mpr ⟨List.mem_append_right _ (List.mem_of_getElem? (i := 244) (by decide +kernel)), by decide +kernel⟩
theorem mm_241 : Cond.methodLink "RebornDrivers$Driver" 28 ⟨"RebornDrivers$Driver", "restart", "()V"⟩ ∈ kx_tbl := List.mem_filter.mpr ⟨List.mem_append_right _ (List.mem_of_getElem? (i := 241) (by decide +kernel)), by decide +kernel⟩
theorem mm_243 : Cond.instanceMethod ⟨"RebornDrivers$Driver", "restart", "()V"⟩ ∈ kx_tbl := List.mem_filter.mpr ⟨List.mem_append_right _ (List.mem_of_getElem? (i := 243) (by decide +kernel)), by decide +kernel⟩
theorem mm_53 : Cond.fieldLink "RebornDrivers$Driver" 37 "RebornDrivers$Driver" "refusals" "I" ∈ kx_tbl := List.mem_filter.mpr ⟨List.mem_append_right _ (List.mem_of_getElem? (i := 53) (by decide +kernel)), by decide +kernel⟩
theorem mm_256 : Cond.code ⟨"RebornDrivers$Driver", "beRefused", "()V"⟩ prog_3_method_7_code 1 none ∈ kx_tbl := List.mem_filter.mpr ⟨List.mem_append_right _ (List.mem_of_getElem? (i := 256) (by decide +kernel)), by decide +kernel⟩
theorem mm_253 : Cond.methodLink "RebornDrivers$Driver" 34 ⟨"RebornDrivers$Driver", "beRefused", "()V"⟩ ∈ kx_tbl := List.mem_filter.mpr ⟨List.mem_append_right _ (List.mem_of_getElem? (i := 253) (by decide +kernel)), by decide +kernel⟩
theorem mm_255 : Cond.instanceMethod ⟨"RebornDrivers$Driver", "beRefused", "()V"⟩ ∈ kx_tbl := List.mem_filter.mpr ⟨List.mem_append_right _ (List.mem_of_getElem? (i := 255) (by decide +kernel)), by decide +kernel⟩
theorem mm_74 : Cond.fieldLink "RebornDrivers$Request" 9 "RebornDrivers$Request" "kind" "I" ∈ kx_tbl := List.mem_filter.mpr ⟨List.mem_append_right _ (List.mem_of_getElem? (i := 74) (by decide +kernel)), by decide +kernel⟩
theorem mm_79 : Cond.fieldLink "RebornDrivers$Request" 13 "RebornDrivers$Request" "given" "Z" ∈ kx_tbl := List.mem_filter.mpr ⟨List.mem_append_right _ (List.mem_of_getElem? (i := 79) (by decide +kernel)), by decide +kernel⟩
theorem mm_81 : Cond.fieldLink "RebornDrivers$Request" 17 "RebornDrivers$Request" "answered" "Z" ∈ kx_tbl := List.mem_filter.mpr ⟨List.mem_append_right _ (List.mem_of_getElem? (i := 81) (by decide +kernel)), by decide +kernel⟩
theorem mm_83 : Cond.fieldLink "RebornDrivers$Request" 20 "RebornDrivers$Request" "givenTo" "I" ∈ kx_tbl := List.mem_filter.mpr ⟨List.mem_append_right _ (List.mem_of_getElem? (i := 83) (by decide +kernel)), by decide +kernel⟩
theorem mm_42 : Cond.fieldLinkNest "RebornDrivers$Request" 23 "RebornDrivers$Driver" "endpoint" "I" "RebornDrivers" ∈ kx_nl := List.mem_filter.mpr ⟨List.mem_append_right _ (List.mem_of_getElem? (i := 42) (by decide +kernel)), by decide +kernel⟩
theorem mm_45 : Cond.fieldLinkNest "RebornDrivers$Request" 28 "RebornDrivers$Driver" "condition" "I" "RebornDrivers" ∈ kx_nl := List.mem_filter.mpr ⟨List.mem_append_right _ (List.mem_of_getElem? (i := 45) (by decide +kernel)), by decide +kernel⟩
theorem mm_48 : Cond.fieldLinkNest "RebornDrivers$Request" 31 "RebornDrivers$Driver" "stage" "I" "RebornDrivers" ∈ kx_nl := List.mem_filter.mpr ⟨List.mem_append_right _ (List.mem_of_getElem? (i := 48) (by decide +kernel)), by decide +kernel⟩
theorem mm_280 : Cond.code ⟨"RebornDrivers$Request", "isOpen", "()Z"⟩ prog_6_method_2_code 1 (some .boolean) ∈ kx_tbl := List.mem_filter.mpr ⟨List.mem_append_right _ (List.mem_of_getElem? (i := 280) (by decide +kernel)), by decide +kernel⟩
theorem mm_4 : Cond.initialized "RebornDrivers$Request" ∈ kx_tbl := List.mem_filter.mpr ⟨List.mem_append_right _ (List.mem_of_getElem? (i := 4) (by decide +kernel)), by decide +kernel⟩
theorem mm_425 : Cond.methodLink "RebornDrivers$Request" 34 ⟨"RebornDrivers$Request", "isOpen", "()Z"⟩ ∈ kx_tbl := List.mem_filter.mpr ⟨List.mem_append_right _ (List.mem_of_getElem? (i := 425) (by decide +kernel)), by decide +kernel⟩
theorem mm_279 : Cond.instanceMethod ⟨"RebornDrivers$Request", "isOpen", "()Z"⟩ ∈ kx_tbl := List.mem_filter.mpr ⟨List.mem_append_right _ (List.mem_of_getElem? (i := 279) (by decide +kernel)), by decide +kernel⟩
theorem mm_108 : Cond.fieldLink "RebornDrivers$Cache" 9 "RebornDrivers$Cache" "blocks" "[I" ∈ kx_tbl := List.mem_filter.mpr ⟨List.mem_append_right _ (List.mem_of_getElem? (i := 108) (by decide +kernel)), by decide +kernel⟩
theorem mm_336 : Cond.code ⟨"RebornDrivers$Cache", "find", "(I)I"⟩ prog_2_method_2_code 3 (some .int) ∈ kx_tbl := List.mem_filter.mpr ⟨List.mem_append_right _ (List.mem_of_getElem? (i := 336) (by decide +kernel)), by decide +kernel⟩
theorem mm_5 : Cond.initialized "RebornDrivers$Cache" ∈ kx_tbl := List.mem_filter.mpr ⟨List.mem_append_right _ (List.mem_of_getElem? (i := 5) (by decide +kernel)), by decide +kernel⟩
theorem mm_345 : Cond.methodLink "RebornDrivers$Cache" 31 ⟨"RebornDrivers$Cache", "find", "(I)I"⟩ ∈ kx_tbl := List.mem_filter.mpr ⟨List.mem_append_right _ (List.mem_of_getElem? (i := 345) (by decide +kernel)), by decide +kernel⟩
theorem mm_335 : Cond.instanceMethod ⟨"RebornDrivers$Cache", "find", "(I)I"⟩ ∈ kx_tbl := List.mem_filter.mpr ⟨List.mem_append_right _ (List.mem_of_getElem? (i := 335) (by decide +kernel)), by decide +kernel⟩
theorem mm_114 : Cond.fieldLink "RebornDrivers$Cache" 22 "RebornDrivers$Cache" "usedAt" "[I" ∈ kx_tbl := List.mem_filter.mpr ⟨List.mem_append_right _ (List.mem_of_getElem? (i := 114) (by decide +kernel)), by decide +kernel⟩
theorem mm_112 : Cond.fieldLink "RebornDrivers$Cache" 18 "RebornDrivers$Cache" "dirty" "[Z" ∈ kx_tbl := List.mem_filter.mpr ⟨List.mem_append_right _ (List.mem_of_getElem? (i := 112) (by decide +kernel)), by decide +kernel⟩
theorem mm_110 : Cond.fieldLink "RebornDrivers$Cache" 15 "RebornDrivers$Cache" "values" "[I" ∈ kx_tbl := List.mem_filter.mpr ⟨List.mem_append_right _ (List.mem_of_getElem? (i := 110) (by decide +kernel)), by decide +kernel⟩
theorem mm_296 : Cond.code ⟨"RebornDrivers$Cache", "hold", "(IIIZ)V"⟩ prog_2_method_5_code 5 none ∈ kx_tbl := List.mem_filter.mpr ⟨List.mem_append_right _ (List.mem_of_getElem? (i := 296) (by decide +kernel)), by decide +kernel⟩
theorem mm_350 : Cond.methodLink "RebornDrivers$Cache" 35 ⟨"RebornDrivers$Cache", "hold", "(IIIZ)V"⟩ ∈ kx_tbl := List.mem_filter.mpr ⟨List.mem_append_right _ (List.mem_of_getElem? (i := 350) (by decide +kernel)), by decide +kernel⟩
theorem mm_295 : Cond.instanceMethod ⟨"RebornDrivers$Cache", "hold", "(IIIZ)V"⟩ ∈ kx_tbl := List.mem_filter.mpr ⟨List.mem_append_right _ (List.mem_of_getElem? (i := 295) (by decide +kernel)), by decide +kernel⟩
theorem fp_Op_7 : kx_q "RebornDrivers$Operation" 7 1 0 (.int) := ⟨R_Op, F_Op, 6, t_Op, rfl, by decide, in_Op, Or.inl mm_131, t_Op_ok, n_Op, rfl, by decide +kernel⟩
theorem fp_Op_13 : kx_q "RebornDrivers$Operation" 13 1 1 (.int) := ⟨R_Op, F_Op, 6, t_Op, rfl, by decide, in_Op, Or.inl mm_133, t_Op_ok, n_Op, rfl, by decide +kernel⟩
theorem fp_Op_16 : kx_q "RebornDrivers$Operation" 16 1 2 (.int) := ⟨R_Op, F_Op, 6, t_Op, rfl, by decide, in_Op, Or.inl mm_135, t_Op_ok, n_Op, rfl, by decide +kernel⟩
theorem fp_Op_19 : kx_q "RebornDrivers$Operation" 19 1 3 (.int) := ⟨R_Op, F_Op, 6, t_Op, rfl, by decide, in_Op, Or.inl mm_137, t_Op_ok, n_Op, rfl, by decide +kernel⟩
theorem fp_Op_22 : kx_q "RebornDrivers$Operation" 22 1 4 (.int) := ⟨R_Op, F_Op, 6, t_Op, rfl, by decide, in_Op, Or.inl mm_139, t_Op_ok, n_Op, rfl, by decide +kernel⟩
theorem fp_Op_25 : kx_q "RebornDrivers$Operation" 25 1 5 (.int) := ⟨R_Op, F_Op, 6, t_Op, rfl, by decide, in_Op, Or.inl mm_141, t_Op_ok, n_Op, rfl, by decide +kernel⟩
theorem fg_Ln_15 : kx_f "RebornDrivers$Line" 15 2 1 := ⟨R_Ln, F_Ln, 2, rfl, by decide, in_Ln, Or.inl mm_27⟩
theorem fg_Ln_9 : kx_f "RebornDrivers$Line" 9 2 0 := ⟨R_Ln, F_Ln, 2, rfl, by decide, in_Ln, Or.inl mm_26⟩
theorem fp_Ln_15 : kx_q "RebornDrivers$Line" 15 2 1 (.int) := ⟨R_Ln, F_Ln, 2, t_Ln, rfl, by decide, in_Ln, Or.inl mm_27, t_Ln_ok, n_Ln, rfl, by decide +kernel⟩
theorem fm_Ln_19 : Cond.methodLink "RebornDrivers$Line" 19 Lib.Math.max.name ∈ kx_tbl ∧ Cond.static Lib.Math.max.name ∈ kx_tbl ∧ Cond.initialized "java/lang/Math" ∈ kx_tbl ∧ Cond.code Lib.Math.max.name Lib.Math.max.code 2 (some .int) ∈ kx_tbl := ⟨List.mem_filter.mpr ⟨List.mem_append_right _ (List.mem_of_getElem? (i := 359) (by decide +kernel)), by decide +kernel⟩, List.mem_filter.mpr ⟨List.mem_append_right _ (List.mem_of_getElem? (i := 360) (by decide +kernel)), by decide +kernel⟩, List.mem_filter.mpr ⟨List.mem_append_right _ (List.mem_of_getElem? (i := 9) (by decide +kernel)), by decide +kernel⟩, List.mem_filter.mpr ⟨List.mem_append_right _ (List.mem_of_getElem? (i := 361) (by decide +kernel)), by decide +kernel⟩⟩
theorem fp_Dr_11 : kx_q "RebornDrivers$Driver" 11 3 1 (.int) := ⟨R_Dr, F_Dr, 6, t_Dr, rfl, by decide, in_Dr, Or.inl mm_44, t_Dr_ok, n_Dr, rfl, by decide +kernel⟩
theorem fp_Dr_15 : kx_q "RebornDrivers$Driver" 15 3 2 (.int) := ⟨R_Dr, F_Dr, 6, t_Dr, rfl, by decide, in_Dr, Or.inl mm_47, t_Dr_ok, n_Dr, rfl, by decide +kernel⟩
theorem fp_Dr_22 : kx_q "RebornDrivers$Driver" 22 3 4 (.int) := ⟨R_Dr, F_Dr, 6, t_Dr, rfl, by decide, in_Dr, Or.inl mm_52, t_Dr_ok, n_Dr, rfl, by decide +kernel⟩
theorem fg_Dr_31 : kx_f "RebornDrivers$Driver" 31 3 0 := ⟨R_Dr, F_Dr, 6, rfl, by decide, in_Dr, Or.inl mm_41⟩
theorem fp_Dr_31 : kx_q "RebornDrivers$Driver" 31 3 0 (.int) := ⟨R_Dr, F_Dr, 6, t_Dr, rfl, by decide, in_Dr, Or.inl mm_41, t_Dr_ok, n_Dr, rfl, by decide +kernel⟩
theorem fp_Dr_18 : kx_q "RebornDrivers$Driver" 18 3 3 (.boolean) := ⟨R_Dr, F_Dr, 6, t_Dr, rfl, by decide, in_Dr, Or.inl mm_50, t_Dr_ok, n_Dr, rfl, by decide +kernel⟩
theorem fg_Dr_11 : kx_f "RebornDrivers$Driver" 11 3 1 := ⟨R_Dr, F_Dr, 6, rfl, by decide, in_Dr, Or.inl mm_44⟩
theorem sel_Dr_die : Cond.selects "RebornDrivers$Driver" y_Dr_die y_Dr_die ∈ kx_tbl := List.mem_filter.mpr ⟨List.mem_append_left _ (by decide +kernel), by decide +kernel⟩
theorem fc_Dr_25 : kx_m "RebornDrivers$Driver" 25 y_Dr_die b_Dr_die 1 none 0 ∧ Cond.instanceMethod y_Dr_die ∈ kx_tbl ∧ Cond.selects "RebornDrivers$Driver" y_Dr_die y_Dr_die ∈ kx_tbl := ⟨⟨mm_260, mm_3, by decide +kernel, Or.inl mm_257⟩, mm_259, sel_Dr_die⟩
theorem sel_Dr_restart : Cond.selects "RebornDrivers$Driver" y_Dr_restart y_Dr_restart ∈ kx_tbl := List.mem_filter.mpr ⟨List.mem_append_left _ (by decide +kernel), by decide +kernel⟩
theorem fc_Dr_28 : kx_m "RebornDrivers$Driver" 28 y_Dr_restart b_Dr_restart 1 none 0 ∧ Cond.instanceMethod y_Dr_restart ∈ kx_tbl ∧ Cond.selects "RebornDrivers$Driver" y_Dr_restart y_Dr_restart ∈ kx_tbl := ⟨⟨mm_244, mm_3, by decide +kernel, Or.inl mm_241⟩, mm_243, sel_Dr_restart⟩
theorem fg_Dr_18 : kx_f "RebornDrivers$Driver" 18 3 3 := ⟨R_Dr, F_Dr, 6, rfl, by decide, in_Dr, Or.inl mm_50⟩
theorem fg_Dr_37 : kx_f "RebornDrivers$Driver" 37 3 5 := ⟨R_Dr, F_Dr, 6, rfl, by decide, in_Dr, Or.inl mm_53⟩
theorem fp_Dr_37 : kx_q "RebornDrivers$Driver" 37 3 5 (.int) := ⟨R_Dr, F_Dr, 6, t_Dr, rfl, by decide, in_Dr, Or.inl mm_53, t_Dr_ok, n_Dr, rfl, by decide +kernel⟩
theorem fg_Dr_22 : kx_f "RebornDrivers$Driver" 22 3 4 := ⟨R_Dr, F_Dr, 6, rfl, by decide, in_Dr, Or.inl mm_52⟩
theorem fg_Dr_15 : kx_f "RebornDrivers$Driver" 15 3 2 := ⟨R_Dr, F_Dr, 6, rfl, by decide, in_Dr, Or.inl mm_47⟩
theorem sel_Dr_beRefused : Cond.selects "RebornDrivers$Driver" y_Dr_beRefused y_Dr_beRefused ∈ kx_tbl := List.mem_filter.mpr ⟨List.mem_append_left _ (by decide +kernel), by decide +kernel⟩
theorem fc_Dr_34 : kx_m "RebornDrivers$Driver" 34 y_Dr_beRefused b_Dr_beRefused 1 none 0 ∧ Cond.instanceMethod y_Dr_beRefused ∈ kx_tbl ∧ Cond.selects "RebornDrivers$Driver" y_Dr_beRefused y_Dr_beRefused ∈ kx_tbl := ⟨⟨mm_256, mm_3, by decide +kernel, Or.inl mm_253⟩, mm_255, sel_Dr_beRefused⟩
theorem fg_Rq_9 : kx_f "RebornDrivers$Request" 9 4 0 := ⟨R_Rq, F_Rq, 7, rfl, by decide, in_Rq, Or.inl mm_74⟩
theorem fp_Rq_9 : kx_q "RebornDrivers$Request" 9 4 0 (.int) := ⟨R_Rq, F_Rq, 7, t_Rq, rfl, by decide, in_Rq, Or.inl mm_74, t_Rq_ok, n_Rq, rfl, by decide +kernel⟩
theorem fp_Rq_13 : kx_q "RebornDrivers$Request" 13 4 4 (.boolean) := ⟨R_Rq, F_Rq, 7, t_Rq, rfl, by decide, in_Rq, Or.inl mm_79, t_Rq_ok, n_Rq, rfl, by decide +kernel⟩
theorem fp_Rq_17 : kx_q "RebornDrivers$Request" 17 4 5 (.boolean) := ⟨R_Rq, F_Rq, 7, t_Rq, rfl, by decide, in_Rq, Or.inl mm_81, t_Rq_ok, n_Rq, rfl, by decide +kernel⟩
theorem fg_Rq_13 : kx_f "RebornDrivers$Request" 13 4 4 := ⟨R_Rq, F_Rq, 7, rfl, by decide, in_Rq, Or.inl mm_79⟩
theorem fg_Rq_20 : kx_f "RebornDrivers$Request" 20 4 6 := ⟨R_Rq, F_Rq, 7, rfl, by decide, in_Rq, Or.inl mm_83⟩
theorem fg_Rq_23 : kx_f "RebornDrivers$Request" 23 3 0 := ⟨R_Dr, F_Dr, 6, rfl, by decide, in_Dr, Or.inr ⟨_, mm_42⟩⟩
theorem fg_Rq_28 : kx_f "RebornDrivers$Request" 28 3 1 := ⟨R_Dr, F_Dr, 6, rfl, by decide, in_Dr, Or.inr ⟨_, mm_45⟩⟩
theorem fp_Rq_31 : kx_q "RebornDrivers$Request" 31 3 2 (.int) := ⟨R_Dr, F_Dr, 6, t_Dr, rfl, by decide, in_Dr, Or.inr ⟨_, mm_48⟩, t_Dr_ok, n_Dr, rfl, by decide +kernel⟩
theorem fp_Rq_20 : kx_q "RebornDrivers$Request" 20 4 6 (.int) := ⟨R_Rq, F_Rq, 7, t_Rq, rfl, by decide, in_Rq, Or.inl mm_83, t_Rq_ok, n_Rq, rfl, by decide +kernel⟩
theorem sel_Rq_isOpen : Cond.selects "RebornDrivers$Request" y_Rq_isOpen y_Rq_isOpen ∈ kx_tbl := List.mem_filter.mpr ⟨List.mem_append_left _ (by decide +kernel), by decide +kernel⟩
theorem fc_Rq_34 : kx_m "RebornDrivers$Request" 34 y_Rq_isOpen b_Rq_isOpen 1 (some .boolean) 0 ∧ Cond.instanceMethod y_Rq_isOpen ∈ kx_tbl ∧ Cond.selects "RebornDrivers$Request" y_Rq_isOpen y_Rq_isOpen ∈ kx_tbl := ⟨⟨mm_280, mm_4, by decide +kernel, Or.inl mm_425⟩, mm_279, sel_Rq_isOpen⟩
theorem fg_Ca_9 : kx_f "RebornDrivers$Cache" 9 5 0 := ⟨R_Ca, F_Ca, 4, rfl, by decide, in_Ca, Or.inl mm_108⟩
theorem sel_Ca_find : Cond.selects "RebornDrivers$Cache" y_Ca_find y_Ca_find ∈ kx_tbl := List.mem_filter.mpr ⟨List.mem_append_left _ (by decide +kernel), by decide +kernel⟩
theorem fc_Ca_31 : kx_m "RebornDrivers$Cache" 31 y_Ca_find b_Ca_find 3 (some .int) 1 ∧ Cond.instanceMethod y_Ca_find ∈ kx_tbl ∧ Cond.selects "RebornDrivers$Cache" y_Ca_find y_Ca_find ∈ kx_tbl := ⟨⟨mm_336, mm_5, by decide +kernel, Or.inl mm_345⟩, mm_335, sel_Ca_find⟩
theorem fg_Ca_22 : kx_f "RebornDrivers$Cache" 22 5 3 := ⟨R_Ca, F_Ca, 4, rfl, by decide, in_Ca, Or.inl mm_114⟩
theorem fg_Ca_18 : kx_f "RebornDrivers$Cache" 18 5 2 := ⟨R_Ca, F_Ca, 4, rfl, by decide, in_Ca, Or.inl mm_112⟩
theorem fg_Ca_15 : kx_f "RebornDrivers$Cache" 15 5 1 := ⟨R_Ca, F_Ca, 4, rfl, by decide, in_Ca, Or.inl mm_110⟩
theorem sel_Ca_hold : Cond.selects "RebornDrivers$Cache" y_Ca_hold y_Ca_hold ∈ kx_tbl := List.mem_filter.mpr ⟨List.mem_append_left _ (by decide +kernel), by decide +kernel⟩
theorem fc_Ca_35 : kx_m "RebornDrivers$Cache" 35 y_Ca_hold b_Ca_hold 5 none 4 ∧ Cond.instanceMethod y_Ca_hold ∈ kx_tbl ∧ Cond.selects "RebornDrivers$Cache" y_Ca_hold y_Ca_hold ∈ kx_tbl := ⟨⟨mm_296, mm_5, by decide +kernel, Or.inl mm_350⟩, mm_295, sel_Ca_hold⟩

def f_Op_begin (o : kt_Op) (k : Int32) (b : Int32) (v : Int32) : kt_Op :=
  (k, b, v, 0, 1, 0)
set_option maxHeartbeats 4000000 in
set_option maxRecDepth 100000 in
theorem c_Op_begin (l : Launch) (D : va_G) (cI cZ cO : ClassId) (h : Nat) (o : kt_Op) (k : Int32) (b : Int32) (v : Int32) : kx_Cv (S := kt_Op) l y_Op_begin b_Op_begin 4 0 0 0 D (kx_T cI cZ cO) [.ref h, .int k, .int b, .int v] [(h, .inr (1, [.int o.1, .int o.2.1, .int o.2.2.1, .int o.2.2.2.1, .int o.2.2.2.2.1, .int o.2.2.2.2.2]))] (fun zz => zz = f_Op_begin o k b v) (fun zz => [(h, .inr (1, [.int zz.1, .int zz.2.1, .int zz.2.2.1, .int zz.2.2.2.1, .int zz.2.2.2.2.1, .int zz.2.2.2.2.2]))]) := by
  refine kx_enter_v (by decide) (Nat.le_of_ble_eq_true rfl) ?_
  intro p_ e_ s_ m_ below_ meth_ c_ ls A_ H I hl hw
  have S := I.1
  have hx := S.1
  have hb := S.2.1
  have hl : lv_has ls 4 [(0, .ref h), (1, .int k), (2, .int b), (3, .int v)] := hl
  refine lv_aload_n hx hb d_Op_begin_0 rfl (lv_at hl 0 rfl) ?_
  refine lv_iload_n hx hb d_Op_begin_1 rfl (lv_at hl 1 rfl) ?_
  refine kx_put S hw fp_Op_7 0 rfl rfl rfl (Nat.le_of_ble_eq_true rfl) d_Op_begin_2 (fun H locs hw => ?_)
  have hw : kx_w D (kx_T cI cZ cO) A_ s_ [(h, .inr (1, [.int k, .int o.2.1, .int o.2.2.1, .int o.2.2.2.1, .int o.2.2.2.2.1, .int o.2.2.2.2.2]))] H locs := hw
  refine lv_aload_n hx hb d_Op_begin_5 rfl (lv_at hl 0 rfl) ?_
  refine lv_iload_n hx hb d_Op_begin_6 rfl (lv_at hl 2 rfl) ?_
  refine kx_put S hw fp_Op_13 0 rfl rfl rfl (Nat.le_of_ble_eq_true rfl) d_Op_begin_7 (fun H locs hw => ?_)
  have hw : kx_w D (kx_T cI cZ cO) A_ s_ [(h, .inr (1, [.int k, .int b, .int o.2.2.1, .int o.2.2.2.1, .int o.2.2.2.2.1, .int o.2.2.2.2.2]))] H locs := hw
  refine lv_aload_n hx hb d_Op_begin_10 rfl (lv_at hl 0 rfl) ?_
  refine lv_iload_n hx hb d_Op_begin_11 rfl (lv_at hl 3 rfl) ?_
  refine kx_put S hw fp_Op_16 0 rfl rfl rfl (Nat.le_of_ble_eq_true rfl) d_Op_begin_12 (fun H locs hw => ?_)
  have hw : kx_w D (kx_T cI cZ cO) A_ s_ [(h, .inr (1, [.int k, .int b, .int v, .int o.2.2.2.1, .int o.2.2.2.2.1, .int o.2.2.2.2.2]))] H locs := hw
  refine lv_aload_n hx hb d_Op_begin_15 rfl (lv_at hl 0 rfl) ?_
  refine lv_iconst (v := 0) hx hb d_Op_begin_16 (by decide) ?_
  refine kx_put S hw fp_Op_19 0 rfl rfl rfl (Nat.le_of_ble_eq_true rfl) d_Op_begin_17 (fun H locs hw => ?_)
  have hw : kx_w D (kx_T cI cZ cO) A_ s_ [(h, .inr (1, [.int k, .int b, .int v, .int 0, .int o.2.2.2.2.1, .int o.2.2.2.2.2]))] H locs := hw
  refine lv_aload_n hx hb d_Op_begin_20 rfl (lv_at hl 0 rfl) ?_
  refine lv_iconst (v := 1) hx hb d_Op_begin_21 (by decide) ?_
  refine kx_put S hw fp_Op_22 0 rfl rfl rfl (Nat.le_of_ble_eq_true rfl) d_Op_begin_22 (fun H locs hw => ?_)
  have hw : kx_w D (kx_T cI cZ cO) A_ s_ [(h, .inr (1, [.int k, .int b, .int v, .int 0, .int 1, .int o.2.2.2.2.2]))] H locs := hw
  refine lv_aload_n hx hb d_Op_begin_25 rfl (lv_at hl 0 rfl) ?_
  refine lv_iconst (v := 0) hx hb d_Op_begin_26 (by decide) ?_
  refine kx_put S hw fp_Op_25 0 rfl rfl rfl (Nat.le_of_ble_eq_true rfl) d_Op_begin_27 (fun H locs hw => ?_)
  have hw : kx_w D (kx_T cI cZ cO) A_ s_ [(h, .inr (1, [.int k, .int b, .int v, .int 0, .int 1, .int 0]))] H locs := hw
  exact kx_ret_v I rfl hw (k, b, v, 0, 1, 0) (by simp only [f_Op_begin]) [0] (by decide) rfl d_Op_begin_30
def f_Op_finish (o : kt_Op) (v : Int32) : kt_Op :=
  (o.1, o.2.1, o.2.2.1, o.2.2.2.1, 2, v)
set_option maxHeartbeats 4000000 in
set_option maxRecDepth 100000 in
theorem c_Op_finish (l : Launch) (D : va_G) (cI cZ cO : ClassId) (h : Nat) (o : kt_Op) (v : Int32) : kx_Cv (S := kt_Op) l y_Op_finish b_Op_finish 2 0 0 0 D (kx_T cI cZ cO) [.ref h, .int v] [(h, .inr (1, [.int o.1, .int o.2.1, .int o.2.2.1, .int o.2.2.2.1, .int o.2.2.2.2.1, .int o.2.2.2.2.2]))] (fun zz => zz = f_Op_finish o v) (fun zz => [(h, .inr (1, [.int zz.1, .int zz.2.1, .int zz.2.2.1, .int zz.2.2.2.1, .int zz.2.2.2.2.1, .int zz.2.2.2.2.2]))]) := by
  refine kx_enter_v (by decide) (Nat.le_of_ble_eq_true rfl) ?_
  intro p_ e_ s_ m_ below_ meth_ c_ ls A_ H I hl hw
  have S := I.1
  have hx := S.1
  have hb := S.2.1
  have hl : lv_has ls 2 [(0, .ref h), (1, .int v)] := hl
  refine lv_aload_n hx hb d_Op_finish_0 rfl (lv_at hl 0 rfl) ?_
  refine lv_iconst (v := 2) hx hb d_Op_finish_1 (by decide) ?_
  refine kx_put S hw fp_Op_22 0 rfl rfl rfl (Nat.le_of_ble_eq_true rfl) d_Op_finish_2 (fun H locs hw => ?_)
  have hw : kx_w D (kx_T cI cZ cO) A_ s_ [(h, .inr (1, [.int o.1, .int o.2.1, .int o.2.2.1, .int o.2.2.2.1, .int 2, .int o.2.2.2.2.2]))] H locs := hw
  refine lv_aload_n hx hb d_Op_finish_5 rfl (lv_at hl 0 rfl) ?_
  refine lv_iload_n hx hb d_Op_finish_6 rfl (lv_at hl 1 rfl) ?_
  refine kx_put S hw fp_Op_25 0 rfl rfl rfl (Nat.le_of_ble_eq_true rfl) d_Op_finish_7 (fun H locs hw => ?_)
  have hw : kx_w D (kx_T cI cZ cO) A_ s_ [(h, .inr (1, [.int o.1, .int o.2.1, .int o.2.2.1, .int o.2.2.2.1, .int 2, .int v]))] H locs := hw
  exact kx_ret_v I rfl hw (o.1, o.2.1, o.2.2.1, o.2.2.2.1, 2, v) (by simp only [f_Op_finish]) [0] (by decide) rfl d_Op_finish_10
def f_Op_fail (o : kt_Op) : kt_Op :=
  (o.1, o.2.1, o.2.2.1, o.2.2.2.1, 3, (-5))
set_option maxHeartbeats 4000000 in
set_option maxRecDepth 100000 in
theorem c_Op_fail (l : Launch) (D : va_G) (cI cZ cO : ClassId) (h : Nat) (o : kt_Op) : kx_Cv (S := kt_Op) l y_Op_fail b_Op_fail 1 0 0 0 D (kx_T cI cZ cO) [.ref h] [(h, .inr (1, [.int o.1, .int o.2.1, .int o.2.2.1, .int o.2.2.2.1, .int o.2.2.2.2.1, .int o.2.2.2.2.2]))] (fun zz => zz = f_Op_fail o) (fun zz => [(h, .inr (1, [.int zz.1, .int zz.2.1, .int zz.2.2.1, .int zz.2.2.2.1, .int zz.2.2.2.2.1, .int zz.2.2.2.2.2]))]) := by
  refine kx_enter_v (by decide) (Nat.le_of_ble_eq_true rfl) ?_
  intro p_ e_ s_ m_ below_ meth_ c_ ls A_ H I hl hw
  have S := I.1
  have hx := S.1
  have hb := S.2.1
  have hl : lv_has ls 1 [(0, .ref h)] := hl
  refine lv_aload_n hx hb d_Op_fail_0 rfl (lv_at hl 0 rfl) ?_
  refine lv_iconst (v := 3) hx hb d_Op_fail_1 (by decide) ?_
  refine kx_put S hw fp_Op_22 0 rfl rfl rfl (Nat.le_of_ble_eq_true rfl) d_Op_fail_2 (fun H locs hw => ?_)
  have hw : kx_w D (kx_T cI cZ cO) A_ s_ [(h, .inr (1, [.int o.1, .int o.2.1, .int o.2.2.1, .int o.2.2.2.1, .int 3, .int o.2.2.2.2.2]))] H locs := hw
  refine lv_aload_n hx hb d_Op_fail_5 rfl (lv_at hl 0 rfl) ?_
  refine lv_bipush (v := (-5)) hx hb d_Op_fail_6 (by decide) ?_
  refine kx_put S hw fp_Op_25 0 rfl rfl rfl (Nat.le_of_ble_eq_true rfl) d_Op_fail_8 (fun H locs hw => ?_)
  have hw : kx_w D (kx_T cI cZ cO) A_ s_ [(h, .inr (1, [.int o.1, .int o.2.1, .int o.2.2.1, .int o.2.2.2.1, .int 3, .int (-5)]))] H locs := hw
  exact kx_ret_v I rfl hw (o.1, o.2.1, o.2.2.1, o.2.2.2.1, 3, (-5)) (by simp only [f_Op_fail]) [0] (by decide) rfl d_Op_fail_11
def f_Ln_isEmpty (n : kt_Ln) : Int32 :=
  if n.2 = 0 then 1
  else 0
set_option maxHeartbeats 4000000 in
set_option maxRecDepth 100000 in
theorem c_Ln_isEmpty (l : Launch) (D : va_G) (cI cZ cO : ClassId) (h : Nat) (a : Nat) (n : kt_Ln) : kx_Ci (S := Unit) l y_Ln_isEmpty b_Ln_isEmpty 1 (some .boolean) 0 0 0 D (kx_T cI cZ cO) [.ref h] [(h, .inr (2, [.ref a, .int n.2])), (a, .inl (cI, 4, .inl n.1))] (fun rr _ => rr = f_Ln_isEmpty n ∧ kx_b rr) (fun _ => [(h, .inr (2, [.ref a, .int n.2])), (a, .inl (cI, 4, .inl n.1))]) := by
  refine kx_enter_i (by decide) (Nat.le_of_ble_eq_true rfl) ?_
  intro p_ e_ s_ m_ below_ meth_ c_ ls A_ H I hl hw
  have S := I.1
  have hx := S.1
  have hb := S.2.1
  have hl : lv_has ls 1 [(0, .ref h)] := hl
  refine lv_aload_n hx hb d_Ln_isEmpty_0 rfl (lv_at hl 0 rfl) ?_
  refine kx_get S hw fg_Ln_15 0 rfl rfl d_Ln_isEmpty_1 ?_
  refine lv_if_ne (tgt := 11) hx hb d_Ln_isEmpty_4 (by decide) (fun h1 => ?_) (fun h1 => ?_)
  · refine lv_iconst (v := 0) hx hb d_Ln_isEmpty_11 (by decide) ?_
    exact kx_ret_z I rfl hw (Or.inl rfl) () ⟨(by simp only [f_Ln_isEmpty, if_neg h1]), (Or.inl rfl)⟩ [0, 1] (by decide) rfl d_Ln_isEmpty_12
  · refine lv_iconst (v := 1) hx hb d_Ln_isEmpty_7 (by decide) ?_
    refine lv_goto (tgt := 12) hx hb d_Ln_isEmpty_8 (by decide) ?_
    exact kx_ret_z I rfl hw (Or.inr rfl) () ⟨(by simp only [f_Ln_isEmpty, if_pos h1]), (Or.inr rfl)⟩ [0, 1] (by decide) rfl d_Ln_isEmpty_12
def f_Ln_head (n : kt_Ln) : Int32 :=
  n.1 0
set_option maxHeartbeats 4000000 in
set_option maxRecDepth 100000 in
theorem c_Ln_head (l : Launch) (D : va_G) (cI cZ cO : ClassId) (h : Nat) (a : Nat) (n : kt_Ln) : kx_Ci (S := Unit) l y_Ln_head b_Ln_head 1 (some .int) 0 0 0 D (kx_T cI cZ cO) [.ref h] [(h, .inr (2, [.ref a, .int n.2])), (a, .inl (cI, 4, .inl n.1))] (fun rr _ => rr = f_Ln_head n) (fun _ => [(h, .inr (2, [.ref a, .int n.2])), (a, .inl (cI, 4, .inl n.1))]) := by
  refine kx_enter_i (by decide) (Nat.le_of_ble_eq_true rfl) ?_
  intro p_ e_ s_ m_ below_ meth_ c_ ls A_ H I hl hw
  have S := I.1
  have hx := S.1
  have hb := S.2.1
  have hl : lv_has ls 1 [(0, .ref h)] := hl
  refine lv_aload_n hx hb d_Ln_head_0 rfl (lv_at hl 0 rfl) ?_
  refine kx_get S hw fg_Ln_9 0 rfl rfl d_Ln_head_1 ?_
  refine lv_iconst (v := 0) hx hb d_Ln_head_4 (by decide) ?_
  refine kx_iald S hw 1 0 rfl rfl (j := 0) (by decide) (by unfold vp_in; decide) d_Ln_head_5 ?_
  exact kx_ret_i I rfl hw () (by simp only [f_Ln_head]) [0, 1] (by decide) rfl d_Ln_head_6
def f_Ln_join (n : kt_Ln) (u : Int32) : kt_Ln :=
  if 4 ≤ n.2 then n
  else (upd n.1 n.2.toNatClampNeg u, n.2 + 1)
set_option maxHeartbeats 4000000 in
set_option maxRecDepth 100000 in
theorem c_Ln_join (l : Launch) (D : va_G) (cI cZ cO : ClassId) (h : Nat) (a : Nat) (n : kt_Ln) (u : Int32) (h0 : 0 ≤ n.2) : kx_Cv (S := kt_Ln) l y_Ln_join b_Ln_join 2 0 0 0 D (kx_T cI cZ cO) [.ref h, .int u] [(h, .inr (2, [.ref a, .int n.2])), (a, .inl (cI, 4, .inl n.1))] (fun zz => zz = f_Ln_join n u) (fun zz => [(h, .inr (2, [.ref a, .int zz.2])), (a, .inl (cI, 4, .inl zz.1))]) := by
  refine kx_enter_v (by decide) (Nat.le_of_ble_eq_true rfl) ?_
  intro p_ e_ s_ m_ below_ meth_ c_ ls A_ H I hl hw
  have S := I.1
  have hx := S.1
  have hb := S.2.1
  have hl : lv_has ls 2 [(0, .ref h), (1, .int u)] := hl
  refine lv_aload_n hx hb d_Ln_join_0 rfl (lv_at hl 0 rfl) ?_
  refine kx_get S hw fg_Ln_15 0 rfl rfl d_Ln_join_1 ?_
  refine lv_iconst (v := 4) hx hb d_Ln_join_4 (by decide) ?_
  refine lv_icmp_ge (tgt := 28) hx hb d_Ln_join_5 (by decide) (fun h1 => ?_) (fun h1 => ?_)
  · exact kx_ret_v I rfl hw n (by simp only [f_Ln_join, if_pos h1]) [0, 1] (by decide) rfl d_Ln_join_28
  · refine lv_aload_n hx hb d_Ln_join_8 rfl (lv_at hl 0 rfl) ?_
    refine kx_get S hw fg_Ln_9 0 rfl rfl d_Ln_join_9 ?_
    refine lv_aload_n hx hb d_Ln_join_12 rfl (lv_at hl 0 rfl) ?_
    refine kx_get S hw fg_Ln_15 0 rfl rfl d_Ln_join_13 ?_
    refine lv_iload_n hx hb d_Ln_join_16 rfl (lv_at hl 1 rfl) ?_
    refine kx_iast S hw 1 0 rfl rfl (j := n.2.toNatClampNeg) rfl (kx_i3 rfl h0 h1) d_Ln_join_17 (fun H locs hw => ?_)
    have hw : kx_w D (kx_T cI cZ cO) A_ s_ [(h, .inr (2, [.ref a, .int n.2])), (a, .inl (cI, 4, .inl (upd n.1 n.2.toNatClampNeg u)))] H locs := hw
    refine lv_aload_n hx hb d_Ln_join_18 rfl (lv_at hl 0 rfl) ?_
    refine lv_dup hx hb d_Ln_join_19 rfl ?_
    refine kx_get S hw fg_Ln_15 0 rfl rfl d_Ln_join_20 ?_
    refine lv_iconst (v := 1) hx hb d_Ln_join_23 (by decide) ?_
    refine lv_iadd hx hb d_Ln_join_24 ?_
    refine kx_put S hw fp_Ln_15 0 rfl rfl rfl (Nat.le_of_ble_eq_true rfl) d_Ln_join_25 (fun H locs hw => ?_)
    have hw : kx_w D (kx_T cI cZ cO) A_ s_ [(h, .inr (2, [.ref a, .int (n.2 + 1)])), (a, .inl (cI, 4, .inl (upd n.1 n.2.toNatClampNeg u)))] H locs := hw
    exact kx_ret_v I rfl hw (upd n.1 n.2.toNatClampNeg u, n.2 + 1) (by simp only [f_Ln_join, if_neg h1]) [0, 1] (by decide) rfl d_Ln_join_28
def f_Ln_dropHead (n : kt_Ln) : kt_Ln :=
  if n.2 ≤ 1 then (n.1, if (n.2 - 1) < 0 then 0 else (n.2 - 1))
  else if n.2 ≤ 2 then (upd n.1 0 (n.1 1), if (n.2 - 1) < 0 then 0 else (n.2 - 1))
  else if n.2 ≤ 3 then (upd (upd n.1 0 (n.1 1)) 1 ((upd n.1 0 (n.1 1)) 2), if (n.2 - 1) < 0 then 0 else (n.2 - 1))
  else (upd (upd (upd n.1 0 (n.1 1)) 1 ((upd n.1 0 (n.1 1)) 2)) 2 ((upd (upd n.1 0 (n.1 1)) 1 ((upd n.1 0 (n.1 1)) 2)) 3), if (n.2 - 1) < 0 then 0 else (n.2 - 1))
set_option maxHeartbeats 4000000 in
set_option maxRecDepth 100000 in
theorem c_Ln_dropHead (l : Launch) (D : va_G) (cI cZ cO : ClassId) (h : Nat) (a : Nat) (n : kt_Ln) (h4 : ¬ 4 < n.2) : kx_Cv (S := kt_Ln) l y_Ln_dropHead b_Ln_dropHead 2 1 0 0 D (kx_T cI cZ cO) [.ref h] [(h, .inr (2, [.ref a, .int n.2])), (a, .inl (cI, 4, .inl n.1))] (fun zz => zz = f_Ln_dropHead n) (fun zz => [(h, .inr (2, [.ref a, .int zz.2])), (a, .inl (cI, 4, .inl zz.1))]) := by
  refine kx_enter_v (by decide) (Nat.le_of_ble_eq_true rfl) ?_
  intro p_ e_ s_ m_ below_ meth_ c_ ls A_ H I hl hw
  have S := I.1
  have hx := S.1
  have hb := S.2.1
  have hl : lv_has ls 2 [(0, .ref h)] := hl
  refine lv_iconst (v := 1) hx hb d_Ln_dropHead_0 (by decide) ?_
  refine lv_istore_n (lv' := [(1, .int 1), (0, .ref h)]) hx hb d_Ln_dropHead_1 rfl hl (by decide) rfl (fun ls hl => ?_)
  refine lv_iload_n hx hb d_Ln_dropHead_2 rfl (lv_at hl 0 rfl) ?_
  refine lv_aload_n hx hb d_Ln_dropHead_3 rfl (lv_at hl 1 rfl) ?_
  refine kx_get S hw fg_Ln_15 0 rfl rfl d_Ln_dropHead_4 ?_
  refine lv_icmp_ge (tgt := 30) hx hb d_Ln_dropHead_7 (by decide) (fun h1 => ?_) (fun h1 => ?_)
  · refine lv_aload_n hx hb d_Ln_dropHead_30 rfl (lv_at hl 1 rfl) ?_
    refine lv_aload_n hx hb d_Ln_dropHead_31 rfl (lv_at hl 1 rfl) ?_
    refine kx_get S hw fg_Ln_15 0 rfl rfl d_Ln_dropHead_32 ?_
    refine lv_iconst (v := 1) hx hb d_Ln_dropHead_35 (by decide) ?_
    refine lv_isub hx hb d_Ln_dropHead_36 ?_
    refine lv_iconst (v := 0) hx hb d_Ln_dropHead_37 (by decide) ?_
    refine kx_max S fm_Ln_19 hl.1 (by decide) (Nat.le_of_ble_eq_true rfl) (by decide) (by decide) d_Ln_dropHead_38 ?_
    refine kx_put S hw fp_Ln_15 0 rfl rfl rfl (Nat.le_of_ble_eq_true rfl) d_Ln_dropHead_41 (fun H locs hw => ?_)
    have hw : kx_w D (kx_T cI cZ cO) A_ s_ [(h, .inr (2, [.ref a, .int (if (n.2 - 1) < 0 then 0 else (n.2 - 1))])), (a, .inl (cI, 4, .inl n.1))] H locs := hw
    exact kx_ret_v I rfl hw (n.1, if (n.2 - 1) < 0 then 0 else (n.2 - 1)) (by simp only [f_Ln_dropHead, if_pos h1]) [0, 1] (by decide) rfl d_Ln_dropHead_44
  · refine lv_aload_n hx hb d_Ln_dropHead_10 rfl (lv_at hl 1 rfl) ?_
    refine kx_get S hw fg_Ln_9 0 rfl rfl d_Ln_dropHead_11 ?_
    refine lv_iload_n hx hb d_Ln_dropHead_14 rfl (lv_at hl 0 rfl) ?_
    refine lv_iconst (v := 1) hx hb d_Ln_dropHead_15 (by decide) ?_
    refine lv_isub hx hb d_Ln_dropHead_16 ?_
    refine kx_top (v := 0) (by decide) ?_
    refine lv_aload_n hx hb d_Ln_dropHead_17 rfl (lv_at hl 1 rfl) ?_
    refine kx_get S hw fg_Ln_9 0 rfl rfl d_Ln_dropHead_18 ?_
    refine lv_iload_n hx hb d_Ln_dropHead_21 rfl (lv_at hl 0 rfl) ?_
    refine kx_iald S hw 1 0 rfl rfl (j := 1) (by decide) (by unfold vp_in; decide) d_Ln_dropHead_22 ?_
    refine kx_iast S hw 1 0 rfl rfl (j := 0) (by decide) (by unfold vp_in; decide) d_Ln_dropHead_23 (fun H locs hw => ?_)
    have hw : kx_w D (kx_T cI cZ cO) A_ s_ [(h, .inr (2, [.ref a, .int n.2])), (a, .inl (cI, 4, .inl (upd n.1 0 (n.1 1))))] H locs := hw
    refine lv_iinc (v := 2) (k := 0) (lv' := [(1, .int 2), (0, .ref h)]) hx hb d_Ln_dropHead_24 hl rfl (by decide) (by decide) rfl (fun ls hl => ?_)
    refine lv_goto (tgt := 2) hx hb d_Ln_dropHead_27 (by decide) ?_
    refine lv_iload_n hx hb d_Ln_dropHead_2 rfl (lv_at hl 0 rfl) ?_
    refine lv_aload_n hx hb d_Ln_dropHead_3 rfl (lv_at hl 1 rfl) ?_
    refine kx_get S hw fg_Ln_15 0 rfl rfl d_Ln_dropHead_4 ?_
    refine lv_icmp_ge (tgt := 30) hx hb d_Ln_dropHead_7 (by decide) (fun h2 => ?_) (fun h2 => ?_)
    · refine lv_aload_n hx hb d_Ln_dropHead_30 rfl (lv_at hl 1 rfl) ?_
      refine lv_aload_n hx hb d_Ln_dropHead_31 rfl (lv_at hl 1 rfl) ?_
      refine kx_get S hw fg_Ln_15 0 rfl rfl d_Ln_dropHead_32 ?_
      refine lv_iconst (v := 1) hx hb d_Ln_dropHead_35 (by decide) ?_
      refine lv_isub hx hb d_Ln_dropHead_36 ?_
      refine lv_iconst (v := 0) hx hb d_Ln_dropHead_37 (by decide) ?_
      refine kx_max S fm_Ln_19 hl.1 (by decide) (Nat.le_of_ble_eq_true rfl) (by decide) (by decide) d_Ln_dropHead_38 ?_
      refine kx_put S hw fp_Ln_15 0 rfl rfl rfl (Nat.le_of_ble_eq_true rfl) d_Ln_dropHead_41 (fun H locs hw => ?_)
      have hw : kx_w D (kx_T cI cZ cO) A_ s_ [(h, .inr (2, [.ref a, .int (if (n.2 - 1) < 0 then 0 else (n.2 - 1))])), (a, .inl (cI, 4, .inl (upd n.1 0 (n.1 1))))] H locs := hw
      exact kx_ret_v I rfl hw (upd n.1 0 (n.1 1), if (n.2 - 1) < 0 then 0 else (n.2 - 1)) (by simp only [f_Ln_dropHead, if_neg h1, if_pos h2]) [0, 1] (by decide) rfl d_Ln_dropHead_44
    · refine lv_aload_n hx hb d_Ln_dropHead_10 rfl (lv_at hl 1 rfl) ?_
      refine kx_get S hw fg_Ln_9 0 rfl rfl d_Ln_dropHead_11 ?_
      refine lv_iload_n hx hb d_Ln_dropHead_14 rfl (lv_at hl 0 rfl) ?_
      refine lv_iconst (v := 1) hx hb d_Ln_dropHead_15 (by decide) ?_
      refine lv_isub hx hb d_Ln_dropHead_16 ?_
      refine kx_top (v := 1) (by decide) ?_
      refine lv_aload_n hx hb d_Ln_dropHead_17 rfl (lv_at hl 1 rfl) ?_
      refine kx_get S hw fg_Ln_9 0 rfl rfl d_Ln_dropHead_18 ?_
      refine lv_iload_n hx hb d_Ln_dropHead_21 rfl (lv_at hl 0 rfl) ?_
      refine kx_iald S hw 1 0 rfl rfl (j := 2) (by decide) (by unfold vp_in; decide) d_Ln_dropHead_22 ?_
      refine kx_iast S hw 1 0 rfl rfl (j := 1) (by decide) (by unfold vp_in; decide) d_Ln_dropHead_23 (fun H locs hw => ?_)
      have hw : kx_w D (kx_T cI cZ cO) A_ s_ [(h, .inr (2, [.ref a, .int n.2])), (a, .inl (cI, 4, .inl (upd (upd n.1 0 (n.1 1)) 1 ((upd n.1 0 (n.1 1)) 2))))] H locs := hw
      refine lv_iinc (v := 3) (k := 0) (lv' := [(1, .int 3), (0, .ref h)]) hx hb d_Ln_dropHead_24 hl rfl (by decide) (by decide) rfl (fun ls hl => ?_)
      refine lv_goto (tgt := 2) hx hb d_Ln_dropHead_27 (by decide) ?_
      refine lv_iload_n hx hb d_Ln_dropHead_2 rfl (lv_at hl 0 rfl) ?_
      refine lv_aload_n hx hb d_Ln_dropHead_3 rfl (lv_at hl 1 rfl) ?_
      refine kx_get S hw fg_Ln_15 0 rfl rfl d_Ln_dropHead_4 ?_
      refine lv_icmp_ge (tgt := 30) hx hb d_Ln_dropHead_7 (by decide) (fun h3 => ?_) (fun h3 => ?_)
      · refine lv_aload_n hx hb d_Ln_dropHead_30 rfl (lv_at hl 1 rfl) ?_
        refine lv_aload_n hx hb d_Ln_dropHead_31 rfl (lv_at hl 1 rfl) ?_
        refine kx_get S hw fg_Ln_15 0 rfl rfl d_Ln_dropHead_32 ?_
        refine lv_iconst (v := 1) hx hb d_Ln_dropHead_35 (by decide) ?_
        refine lv_isub hx hb d_Ln_dropHead_36 ?_
        refine lv_iconst (v := 0) hx hb d_Ln_dropHead_37 (by decide) ?_
        refine kx_max S fm_Ln_19 hl.1 (by decide) (Nat.le_of_ble_eq_true rfl) (by decide) (by decide) d_Ln_dropHead_38 ?_
        refine kx_put S hw fp_Ln_15 0 rfl rfl rfl (Nat.le_of_ble_eq_true rfl) d_Ln_dropHead_41 (fun H locs hw => ?_)
        have hw : kx_w D (kx_T cI cZ cO) A_ s_ [(h, .inr (2, [.ref a, .int (if (n.2 - 1) < 0 then 0 else (n.2 - 1))])), (a, .inl (cI, 4, .inl (upd (upd n.1 0 (n.1 1)) 1 ((upd n.1 0 (n.1 1)) 2))))] H locs := hw
        exact kx_ret_v I rfl hw (upd (upd n.1 0 (n.1 1)) 1 ((upd n.1 0 (n.1 1)) 2), if (n.2 - 1) < 0 then 0 else (n.2 - 1)) (by simp only [f_Ln_dropHead, if_neg h1, if_neg h2, if_pos h3]) [0, 1] (by decide) rfl d_Ln_dropHead_44
      · refine lv_aload_n hx hb d_Ln_dropHead_10 rfl (lv_at hl 1 rfl) ?_
        refine kx_get S hw fg_Ln_9 0 rfl rfl d_Ln_dropHead_11 ?_
        refine lv_iload_n hx hb d_Ln_dropHead_14 rfl (lv_at hl 0 rfl) ?_
        refine lv_iconst (v := 1) hx hb d_Ln_dropHead_15 (by decide) ?_
        refine lv_isub hx hb d_Ln_dropHead_16 ?_
        refine kx_top (v := 2) (by decide) ?_
        refine lv_aload_n hx hb d_Ln_dropHead_17 rfl (lv_at hl 1 rfl) ?_
        refine kx_get S hw fg_Ln_9 0 rfl rfl d_Ln_dropHead_18 ?_
        refine lv_iload_n hx hb d_Ln_dropHead_21 rfl (lv_at hl 0 rfl) ?_
        refine kx_iald S hw 1 0 rfl rfl (j := 3) (by decide) (by unfold vp_in; decide) d_Ln_dropHead_22 ?_
        refine kx_iast S hw 1 0 rfl rfl (j := 2) (by decide) (by unfold vp_in; decide) d_Ln_dropHead_23 (fun H locs hw => ?_)
        have hw : kx_w D (kx_T cI cZ cO) A_ s_ [(h, .inr (2, [.ref a, .int n.2])), (a, .inl (cI, 4, .inl (upd (upd (upd n.1 0 (n.1 1)) 1 ((upd n.1 0 (n.1 1)) 2)) 2 ((upd (upd n.1 0 (n.1 1)) 1 ((upd n.1 0 (n.1 1)) 2)) 3))))] H locs := hw
        refine lv_iinc (v := 4) (k := 0) (lv' := [(1, .int 4), (0, .ref h)]) hx hb d_Ln_dropHead_24 hl rfl (by decide) (by decide) rfl (fun ls hl => ?_)
        refine lv_goto (tgt := 2) hx hb d_Ln_dropHead_27 (by decide) ?_
        refine lv_iload_n hx hb d_Ln_dropHead_2 rfl (lv_at hl 0 rfl) ?_
        refine lv_aload_n hx hb d_Ln_dropHead_3 rfl (lv_at hl 1 rfl) ?_
        refine kx_get S hw fg_Ln_15 0 rfl rfl d_Ln_dropHead_4 ?_
        refine lv_icmp_ge (tgt := 30) hx hb d_Ln_dropHead_7 (by decide) (fun _ => ?_) (fun hq => (hq (Int32.not_lt.mp h4)).elim)
        refine lv_aload_n hx hb d_Ln_dropHead_30 rfl (lv_at hl 1 rfl) ?_
        refine lv_aload_n hx hb d_Ln_dropHead_31 rfl (lv_at hl 1 rfl) ?_
        refine kx_get S hw fg_Ln_15 0 rfl rfl d_Ln_dropHead_32 ?_
        refine lv_iconst (v := 1) hx hb d_Ln_dropHead_35 (by decide) ?_
        refine lv_isub hx hb d_Ln_dropHead_36 ?_
        refine lv_iconst (v := 0) hx hb d_Ln_dropHead_37 (by decide) ?_
        refine kx_max S fm_Ln_19 hl.1 (by decide) (Nat.le_of_ble_eq_true rfl) (by decide) (by decide) d_Ln_dropHead_38 ?_
        refine kx_put S hw fp_Ln_15 0 rfl rfl rfl (Nat.le_of_ble_eq_true rfl) d_Ln_dropHead_41 (fun H locs hw => ?_)
        have hw : kx_w D (kx_T cI cZ cO) A_ s_ [(h, .inr (2, [.ref a, .int (if (n.2 - 1) < 0 then 0 else (n.2 - 1))])), (a, .inl (cI, 4, .inl (upd (upd (upd n.1 0 (n.1 1)) 1 ((upd n.1 0 (n.1 1)) 2)) 2 ((upd (upd n.1 0 (n.1 1)) 1 ((upd n.1 0 (n.1 1)) 2)) 3))))] H locs := hw
        exact kx_ret_v I rfl hw (upd (upd (upd n.1 0 (n.1 1)) 1 ((upd n.1 0 (n.1 1)) 2)) 2 ((upd (upd n.1 0 (n.1 1)) 1 ((upd n.1 0 (n.1 1)) 2)) 3), if (n.2 - 1) < 0 then 0 else (n.2 - 1)) (by simp only [f_Ln_dropHead, if_neg h1, if_neg h2, if_neg h3]) [0, 1] (by decide) rfl d_Ln_dropHead_44
def f_Dr_die (d : kt_Dr) : kt_Dr :=
  (d.1, 2, (-1), d.2.2.2.1, 0, d.2.2.2.2.2)
set_option maxHeartbeats 4000000 in
set_option maxRecDepth 100000 in
theorem c_Dr_die (l : Launch) (D : va_G) (cI cZ cO : ClassId) (h : Nat) (d : kt_Dr) : kx_Cv (S := kt_Dr) l y_Dr_die b_Dr_die 1 0 0 0 D (kx_T cI cZ cO) [.ref h] [(h, .inr (3, [.int d.1, .int d.2.1, .int d.2.2.1, .int d.2.2.2.1, .int d.2.2.2.2.1, .int d.2.2.2.2.2]))] (fun zz => zz = f_Dr_die d) (fun zz => [(h, .inr (3, [.int zz.1, .int zz.2.1, .int zz.2.2.1, .int zz.2.2.2.1, .int zz.2.2.2.2.1, .int zz.2.2.2.2.2]))]) := by
  refine kx_enter_v (by decide) (Nat.le_of_ble_eq_true rfl) ?_
  intro p_ e_ s_ m_ below_ meth_ c_ ls A_ H I hl hw
  have S := I.1
  have hx := S.1
  have hb := S.2.1
  have hl : lv_has ls 1 [(0, .ref h)] := hl
  refine lv_aload_n hx hb d_Dr_die_0 rfl (lv_at hl 0 rfl) ?_
  refine lv_iconst (v := 2) hx hb d_Dr_die_1 (by decide) ?_
  refine kx_put S hw fp_Dr_11 0 rfl rfl rfl (Nat.le_of_ble_eq_true rfl) d_Dr_die_2 (fun H locs hw => ?_)
  have hw : kx_w D (kx_T cI cZ cO) A_ s_ [(h, .inr (3, [.int d.1, .int 2, .int d.2.2.1, .int d.2.2.2.1, .int d.2.2.2.2.1, .int d.2.2.2.2.2]))] H locs := hw
  refine lv_aload_n hx hb d_Dr_die_5 rfl (lv_at hl 0 rfl) ?_
  refine lv_iconst (v := (-1)) hx hb d_Dr_die_6 (by decide) ?_
  refine kx_put S hw fp_Dr_15 0 rfl rfl rfl (Nat.le_of_ble_eq_true rfl) d_Dr_die_7 (fun H locs hw => ?_)
  have hw : kx_w D (kx_T cI cZ cO) A_ s_ [(h, .inr (3, [.int d.1, .int 2, .int (-1), .int d.2.2.2.1, .int d.2.2.2.2.1, .int d.2.2.2.2.2]))] H locs := hw
  refine lv_aload_n hx hb d_Dr_die_10 rfl (lv_at hl 0 rfl) ?_
  refine lv_iconst (v := 0) hx hb d_Dr_die_11 (by decide) ?_
  refine kx_put S hw fp_Dr_22 0 rfl rfl rfl (Nat.le_of_ble_eq_true rfl) d_Dr_die_12 (fun H locs hw => ?_)
  have hw : kx_w D (kx_T cI cZ cO) A_ s_ [(h, .inr (3, [.int d.1, .int 2, .int (-1), .int d.2.2.2.1, .int 0, .int d.2.2.2.2.2]))] H locs := hw
  exact kx_ret_v I rfl hw (d.1, 2, (-1), d.2.2.2.1, 0, d.2.2.2.2.2) (by simp only [f_Dr_die]) [0] (by decide) rfl d_Dr_die_15
def f_Dr_restart (d : kt_Dr) : kt_Dr :=
  (d.1 + 1, 0, (-1), 1, 0, d.2.2.2.2.2)
set_option maxHeartbeats 4000000 in
set_option maxRecDepth 100000 in
theorem c_Dr_restart (l : Launch) (D : va_G) (cI cZ cO : ClassId) (h : Nat) (d : kt_Dr) : kx_Cv (S := kt_Dr) l y_Dr_restart b_Dr_restart 1 0 0 0 D (kx_T cI cZ cO) [.ref h] [(h, .inr (3, [.int d.1, .int d.2.1, .int d.2.2.1, .int d.2.2.2.1, .int d.2.2.2.2.1, .int d.2.2.2.2.2]))] (fun zz => zz = f_Dr_restart d) (fun zz => [(h, .inr (3, [.int zz.1, .int zz.2.1, .int zz.2.2.1, .int zz.2.2.2.1, .int zz.2.2.2.2.1, .int zz.2.2.2.2.2]))]) := by
  refine kx_enter_v (by decide) (Nat.le_of_ble_eq_true rfl) ?_
  intro p_ e_ s_ m_ below_ meth_ c_ ls A_ H I hl hw
  have S := I.1
  have hx := S.1
  have hb := S.2.1
  have hl : lv_has ls 1 [(0, .ref h)] := hl
  refine lv_aload_n hx hb d_Dr_restart_0 rfl (lv_at hl 0 rfl) ?_
  refine lv_dup hx hb d_Dr_restart_1 rfl ?_
  refine kx_get S hw fg_Dr_31 0 rfl rfl d_Dr_restart_2 ?_
  refine lv_iconst (v := 1) hx hb d_Dr_restart_5 (by decide) ?_
  refine lv_iadd hx hb d_Dr_restart_6 ?_
  refine kx_put S hw fp_Dr_31 0 rfl rfl rfl (Nat.le_of_ble_eq_true rfl) d_Dr_restart_7 (fun H locs hw => ?_)
  have hw : kx_w D (kx_T cI cZ cO) A_ s_ [(h, .inr (3, [.int (d.1 + 1), .int d.2.1, .int d.2.2.1, .int d.2.2.2.1, .int d.2.2.2.2.1, .int d.2.2.2.2.2]))] H locs := hw
  refine lv_aload_n hx hb d_Dr_restart_10 rfl (lv_at hl 0 rfl) ?_
  refine lv_iconst (v := 0) hx hb d_Dr_restart_11 (by decide) ?_
  refine kx_put S hw fp_Dr_11 0 rfl rfl rfl (Nat.le_of_ble_eq_true rfl) d_Dr_restart_12 (fun H locs hw => ?_)
  have hw : kx_w D (kx_T cI cZ cO) A_ s_ [(h, .inr (3, [.int (d.1 + 1), .int 0, .int d.2.2.1, .int d.2.2.2.1, .int d.2.2.2.2.1, .int d.2.2.2.2.2]))] H locs := hw
  refine lv_aload_n hx hb d_Dr_restart_15 rfl (lv_at hl 0 rfl) ?_
  refine lv_iconst (v := (-1)) hx hb d_Dr_restart_16 (by decide) ?_
  refine kx_put S hw fp_Dr_15 0 rfl rfl rfl (Nat.le_of_ble_eq_true rfl) d_Dr_restart_17 (fun H locs hw => ?_)
  have hw : kx_w D (kx_T cI cZ cO) A_ s_ [(h, .inr (3, [.int (d.1 + 1), .int 0, .int (-1), .int d.2.2.2.1, .int d.2.2.2.2.1, .int d.2.2.2.2.2]))] H locs := hw
  refine lv_aload_n hx hb d_Dr_restart_20 rfl (lv_at hl 0 rfl) ?_
  refine lv_iconst (v := 1) hx hb d_Dr_restart_21 (by decide) ?_
  refine kx_put S hw fp_Dr_18 0 rfl rfl rfl (Nat.le_of_ble_eq_true rfl) d_Dr_restart_22 (fun H locs hw => ?_)
  have hw : kx_w D (kx_T cI cZ cO) A_ s_ [(h, .inr (3, [.int (d.1 + 1), .int 0, .int (-1), .int 1, .int d.2.2.2.2.1, .int d.2.2.2.2.2]))] H locs := hw
  refine lv_aload_n hx hb d_Dr_restart_25 rfl (lv_at hl 0 rfl) ?_
  refine lv_iconst (v := 0) hx hb d_Dr_restart_26 (by decide) ?_
  refine kx_put S hw fp_Dr_22 0 rfl rfl rfl (Nat.le_of_ble_eq_true rfl) d_Dr_restart_27 (fun H locs hw => ?_)
  have hw : kx_w D (kx_T cI cZ cO) A_ s_ [(h, .inr (3, [.int (d.1 + 1), .int 0, .int (-1), .int 1, .int 0, .int d.2.2.2.2.2]))] H locs := hw
  exact kx_ret_v I rfl hw (d.1 + 1, 0, (-1), 1, 0, d.2.2.2.2.2) (by simp only [f_Dr_restart]) [0] (by decide) rfl d_Dr_restart_30
def f_Dr_suffer (d : kt_Dr) (f : Int32) : Int32 × kt_Dr :=
  if d.2.1 = 2 then (0, d)
  else if d.2.1 = 1 then (if f = 0 then (match f_Dr_die d with
      | d7 => (1, d7))
    else (0, d))
  else if f = 0 then (match f_Dr_die d with
    | d5 => (1, d5))
  else if f = 1 then (1, (d.1, 1, d.2.2.1, d.2.2.2.1, d.2.2.2.2.1, d.2.2.2.2.2))
  else (1, (d.1, d.2.1, d.2.2.1, d.2.2.2.1, f, d.2.2.2.2.2))
set_option maxHeartbeats 4000000 in
set_option maxRecDepth 100000 in
theorem c_Dr_suffer (l : Launch) (D : va_G) (cI cZ cO : ClassId) (h : Nat) (d : kt_Dr) (f : Int32) : kx_Ci (S := kt_Dr) l y_Dr_suffer b_Dr_suffer 2 (some .boolean) 1 0 0 D (kx_T cI cZ cO) [.ref h, .int f] [(h, .inr (3, [.int d.1, .int d.2.1, .int d.2.2.1, .int d.2.2.2.1, .int d.2.2.2.2.1, .int d.2.2.2.2.2]))] (fun rr zz => (rr, zz) = f_Dr_suffer d f ∧ kx_b rr) (fun zz => [(h, .inr (3, [.int zz.1, .int zz.2.1, .int zz.2.2.1, .int zz.2.2.2.1, .int zz.2.2.2.2.1, .int zz.2.2.2.2.2]))]) := by
  refine kx_enter_i (by decide) (Nat.le_of_ble_eq_true rfl) ?_
  intro p_ e_ s_ m_ below_ meth_ c_ ls A_ H I hl hw
  have S := I.1
  have hx := S.1
  have hb := S.2.1
  have hl : lv_has ls 2 [(0, .ref h), (1, .int f)] := hl
  refine lv_aload_n hx hb d_Dr_suffer_0 rfl (lv_at hl 0 rfl) ?_
  refine kx_get S hw fg_Dr_11 0 rfl rfl d_Dr_suffer_1 ?_
  refine lv_iconst (v := 2) hx hb d_Dr_suffer_4 (by decide) ?_
  refine lv_icmp_eq (tgt := 20) hx hb d_Dr_suffer_5 (by decide) (fun h1 => ?_) (fun h1 => ?_)
  · refine lv_iconst (v := 0) hx hb d_Dr_suffer_20 (by decide) ?_
    exact kx_ret_z I rfl hw (Or.inl rfl) d ⟨(by simp only [f_Dr_suffer, if_pos h1]), (Or.inl rfl)⟩ [0] (by decide) rfl d_Dr_suffer_21
  · refine lv_aload_n hx hb d_Dr_suffer_8 rfl (lv_at hl 0 rfl) ?_
    refine kx_get S hw fg_Dr_11 0 rfl rfl d_Dr_suffer_9 ?_
    refine lv_iconst (v := 1) hx hb d_Dr_suffer_12 (by decide) ?_
    refine lv_icmp_ne (tgt := 22) hx hb d_Dr_suffer_13 (by decide) (fun h2 => ?_) (fun h2 => ?_)
    · refine lv_iload_n hx hb d_Dr_suffer_22 rfl (lv_at hl 1 rfl) ?_
      refine lv_if_ne (tgt := 33) hx hb d_Dr_suffer_23 (by decide) (fun h3 => ?_) (fun h3 => ?_)
      · refine lv_iload_n hx hb d_Dr_suffer_33 rfl (lv_at hl 1 rfl) ?_
        refine lv_iconst (v := 1) hx hb d_Dr_suffer_34 (by decide) ?_
        refine lv_icmp_ne (tgt := 46) hx hb d_Dr_suffer_35 (by decide) (fun h4 => ?_) (fun h4 => ?_)
        · refine lv_aload_n hx hb d_Dr_suffer_46 rfl (lv_at hl 0 rfl) ?_
          refine lv_iload_n hx hb d_Dr_suffer_47 rfl (lv_at hl 1 rfl) ?_
          refine kx_put S hw fp_Dr_22 0 rfl rfl rfl (Nat.le_of_ble_eq_true rfl) d_Dr_suffer_48 (fun H locs hw => ?_)
          have hw : kx_w D (kx_T cI cZ cO) A_ s_ [(h, .inr (3, [.int d.1, .int d.2.1, .int d.2.2.1, .int d.2.2.2.1, .int f, .int d.2.2.2.2.2]))] H locs := hw
          refine lv_iconst (v := 1) hx hb d_Dr_suffer_51 (by decide) ?_
          exact kx_ret_z I rfl hw (Or.inr rfl) (d.1, d.2.1, d.2.2.1, d.2.2.2.1, f, d.2.2.2.2.2) ⟨(by simp only [f_Dr_suffer, if_neg h1, if_neg h2, if_neg h3, if_neg h4]), (Or.inr rfl)⟩ [0] (by decide) rfl d_Dr_suffer_52
        · refine lv_aload_n hx hb d_Dr_suffer_38 rfl (lv_at hl 0 rfl) ?_
          refine lv_iconst (v := 1) hx hb d_Dr_suffer_39 (by decide) ?_
          refine kx_put S hw fp_Dr_11 0 rfl rfl rfl (Nat.le_of_ble_eq_true rfl) d_Dr_suffer_40 (fun H locs hw => ?_)
          have hw : kx_w D (kx_T cI cZ cO) A_ s_ [(h, .inr (3, [.int d.1, .int 1, .int d.2.2.1, .int d.2.2.2.1, .int d.2.2.2.2.1, .int d.2.2.2.2.2]))] H locs := hw
          refine lv_goto (tgt := 51) hx hb d_Dr_suffer_43 (by decide) ?_
          refine lv_iconst (v := 1) hx hb d_Dr_suffer_51 (by decide) ?_
          exact kx_ret_z I rfl hw (Or.inr rfl) (d.1, 1, d.2.2.1, d.2.2.2.1, d.2.2.2.2.1, d.2.2.2.2.2) ⟨(by simp only [f_Dr_suffer, if_neg h1, if_neg h2, if_neg h3, if_pos h4]), (Or.inr rfl)⟩ [0] (by decide) rfl d_Dr_suffer_52
      · refine lv_aload_n hx hb d_Dr_suffer_26 rfl (lv_at hl 0 rfl) ?_
        refine kx_call_v (wc := [(h, .inr (3, [.int d.1, .int d.2.1, .int d.2.2.1, .int d.2.2.2.1, .int d.2.2.2.2.1, .int d.2.2.2.2.2]))]) (wr := []) (rest := []) hw [0] [] rfl rfl (by decide) (by decide) (kx_runV S hw fc_Dr_25 rfl 0 rfl [0] (by decide) rfl (c_Dr_die l D cI cZ cO h d H.size) rfl hl.1 rfl (Nat.le_of_ble_eq_true rfl) d_Dr_suffer_27 (by decide) (by decide)) (fun u5 H locs hp5 hw => ?_)
        obtain ⟨d5, rfl⟩ : ∃ z, z = u5 := ⟨_, rfl⟩
        have hw : kx_w D (kx_T cI cZ cO) A_ s_ [(h, .inr (3, [.int d5.1, .int d5.2.1, .int d5.2.2.1, .int d5.2.2.2.1, .int d5.2.2.2.2.1, .int d5.2.2.2.2.2]))] H locs := hw
        refine lv_goto (tgt := 51) hx hb d_Dr_suffer_30 (by decide) ?_
        refine lv_iconst (v := 1) hx hb d_Dr_suffer_51 (by decide) ?_
        exact kx_ret_z I rfl hw (Or.inr rfl) d5 ⟨(by simp only [f_Dr_suffer, if_neg h1, if_neg h2, if_pos h3, ← hp5]), (Or.inr rfl)⟩ [0] (by decide) rfl d_Dr_suffer_52
    · refine lv_iload_n hx hb d_Dr_suffer_16 rfl (lv_at hl 1 rfl) ?_
      refine lv_if_eq (tgt := 22) hx hb d_Dr_suffer_17 (by decide) (fun h6 => ?_) (fun h6 => ?_)
      · refine lv_iload_n hx hb d_Dr_suffer_22 rfl (lv_at hl 1 rfl) ?_
        refine lv_if_ne (tgt := 33) hx hb d_Dr_suffer_23 (by decide) (fun h => absurd h6 h) (fun _ => ?_)
        refine lv_aload_n hx hb d_Dr_suffer_26 rfl (lv_at hl 0 rfl) ?_
        refine kx_call_v (wc := [(h, .inr (3, [.int d.1, .int d.2.1, .int d.2.2.1, .int d.2.2.2.1, .int d.2.2.2.2.1, .int d.2.2.2.2.2]))]) (wr := []) (rest := []) hw [0] [] rfl rfl (by decide) (by decide) (kx_runV S hw fc_Dr_25 rfl 0 rfl [0] (by decide) rfl (c_Dr_die l D cI cZ cO h d H.size) rfl hl.1 rfl (Nat.le_of_ble_eq_true rfl) d_Dr_suffer_27 (by decide) (by decide)) (fun u7 H locs hp7 hw => ?_)
        obtain ⟨d7, rfl⟩ : ∃ z, z = u7 := ⟨_, rfl⟩
        have hw : kx_w D (kx_T cI cZ cO) A_ s_ [(h, .inr (3, [.int d7.1, .int d7.2.1, .int d7.2.2.1, .int d7.2.2.2.1, .int d7.2.2.2.2.1, .int d7.2.2.2.2.2]))] H locs := hw
        refine lv_goto (tgt := 51) hx hb d_Dr_suffer_30 (by decide) ?_
        refine lv_iconst (v := 1) hx hb d_Dr_suffer_51 (by decide) ?_
        exact kx_ret_z I rfl hw (Or.inr rfl) d7 ⟨(by simp only [f_Dr_suffer, if_neg h1, if_pos h2, if_pos h6, ← hp7]), (Or.inr rfl)⟩ [0] (by decide) rfl d_Dr_suffer_52
      · refine lv_iconst (v := 0) hx hb d_Dr_suffer_20 (by decide) ?_
        exact kx_ret_z I rfl hw (Or.inl rfl) d ⟨(by simp only [f_Dr_suffer, if_neg h1, if_pos h2, if_neg h6]), (Or.inl rfl)⟩ [0] (by decide) rfl d_Dr_suffer_21
def f_Dr_beWatched (d : kt_Dr) (p : Int32) : kt_Dr :=
  if d.2.1 = 2 then (match f_Dr_restart d with
    | d2 => d2)
  else if p = 0 then d
  else if d.2.2.2.1 = 0 then (match f_Dr_restart d with
    | d5 => d5)
  else (d.1, d.2.1, d.2.2.1, 0, d.2.2.2.2.1, d.2.2.2.2.2)
set_option maxHeartbeats 4000000 in
set_option maxRecDepth 100000 in
theorem c_Dr_beWatched (l : Launch) (D : va_G) (cI cZ cO : ClassId) (h : Nat) (d : kt_Dr) (p : Int32) : kx_Cv (S := kt_Dr) l y_Dr_beWatched b_Dr_beWatched 2 1 0 0 D (kx_T cI cZ cO) [.ref h, .int p] [(h, .inr (3, [.int d.1, .int d.2.1, .int d.2.2.1, .int d.2.2.2.1, .int d.2.2.2.2.1, .int d.2.2.2.2.2]))] (fun zz => zz = f_Dr_beWatched d p) (fun zz => [(h, .inr (3, [.int zz.1, .int zz.2.1, .int zz.2.2.1, .int zz.2.2.2.1, .int zz.2.2.2.2.1, .int zz.2.2.2.2.2]))]) := by
  refine kx_enter_v (by decide) (Nat.le_of_ble_eq_true rfl) ?_
  intro p_ e_ s_ m_ below_ meth_ c_ ls A_ H I hl hw
  have S := I.1
  have hx := S.1
  have hb := S.2.1
  have hl : lv_has ls 2 [(0, .ref h), (1, .int p)] := hl
  refine lv_aload_n hx hb d_Dr_beWatched_0 rfl (lv_at hl 0 rfl) ?_
  refine kx_get S hw fg_Dr_11 0 rfl rfl d_Dr_beWatched_1 ?_
  refine lv_iconst (v := 2) hx hb d_Dr_beWatched_4 (by decide) ?_
  refine lv_icmp_eq (tgt := 19) hx hb d_Dr_beWatched_5 (by decide) (fun h1 => ?_) (fun h1 => ?_)
  · refine lv_aload_n hx hb d_Dr_beWatched_19 rfl (lv_at hl 0 rfl) ?_
    refine kx_call_v (wc := [(h, .inr (3, [.int d.1, .int d.2.1, .int d.2.2.1, .int d.2.2.2.1, .int d.2.2.2.2.1, .int d.2.2.2.2.2]))]) (wr := []) (rest := []) hw [0] [] rfl rfl (by decide) (by decide) (kx_runV S hw fc_Dr_28 rfl 0 rfl [0] (by decide) rfl (c_Dr_restart l D cI cZ cO h d H.size) rfl hl.1 rfl (Nat.le_of_ble_eq_true rfl) d_Dr_beWatched_20 (by decide) (by decide)) (fun u2 H locs hp2 hw => ?_)
    obtain ⟨d2, rfl⟩ : ∃ z, z = u2 := ⟨_, rfl⟩
    have hw : kx_w D (kx_T cI cZ cO) A_ s_ [(h, .inr (3, [.int d2.1, .int d2.2.1, .int d2.2.2.1, .int d2.2.2.2.1, .int d2.2.2.2.2.1, .int d2.2.2.2.2.2]))] H locs := hw
    refine lv_goto (tgt := 35) hx hb d_Dr_beWatched_23 (by decide) ?_
    exact kx_ret_v I rfl hw d2 (by simp only [f_Dr_beWatched, if_pos h1, ← hp2]) [0] (by decide) rfl d_Dr_beWatched_35
  · refine lv_iload_n hx hb d_Dr_beWatched_8 rfl (lv_at hl 1 rfl) ?_
    refine lv_if_eq (tgt := 26) hx hb d_Dr_beWatched_9 (by decide) (fun h3 => ?_) (fun h3 => ?_)
    · refine lv_iload_n hx hb d_Dr_beWatched_26 rfl (lv_at hl 1 rfl) ?_
      refine lv_if_eq (tgt := 35) hx hb d_Dr_beWatched_27 (by decide) (fun _ => ?_) (fun h => absurd h3 h)
      exact kx_ret_v I rfl hw d (by simp only [f_Dr_beWatched, if_neg h1, if_pos h3]) [0] (by decide) rfl d_Dr_beWatched_35
    · refine lv_aload_n hx hb d_Dr_beWatched_12 rfl (lv_at hl 0 rfl) ?_
      refine kx_get S hw fg_Dr_18 0 rfl rfl d_Dr_beWatched_13 ?_
      refine lv_if_ne (tgt := 26) hx hb d_Dr_beWatched_16 (by decide) (fun h4 => ?_) (fun h4 => ?_)
      · refine lv_iload_n hx hb d_Dr_beWatched_26 rfl (lv_at hl 1 rfl) ?_
        refine lv_if_eq (tgt := 35) hx hb d_Dr_beWatched_27 (by decide) (fun h => absurd h h3) (fun _ => ?_)
        refine lv_aload_n hx hb d_Dr_beWatched_30 rfl (lv_at hl 0 rfl) ?_
        refine lv_iconst (v := 0) hx hb d_Dr_beWatched_31 (by decide) ?_
        refine kx_put S hw fp_Dr_18 0 rfl rfl rfl (Nat.le_of_ble_eq_true rfl) d_Dr_beWatched_32 (fun H locs hw => ?_)
        have hw : kx_w D (kx_T cI cZ cO) A_ s_ [(h, .inr (3, [.int d.1, .int d.2.1, .int d.2.2.1, .int 0, .int d.2.2.2.2.1, .int d.2.2.2.2.2]))] H locs := hw
        exact kx_ret_v I rfl hw (d.1, d.2.1, d.2.2.1, 0, d.2.2.2.2.1, d.2.2.2.2.2) (by simp only [f_Dr_beWatched, if_neg h1, if_neg h3, if_neg h4]) [0] (by decide) rfl d_Dr_beWatched_35
      · refine lv_aload_n hx hb d_Dr_beWatched_19 rfl (lv_at hl 0 rfl) ?_
        refine kx_call_v (wc := [(h, .inr (3, [.int d.1, .int d.2.1, .int d.2.2.1, .int d.2.2.2.1, .int d.2.2.2.2.1, .int d.2.2.2.2.2]))]) (wr := []) (rest := []) hw [0] [] rfl rfl (by decide) (by decide) (kx_runV S hw fc_Dr_28 rfl 0 rfl [0] (by decide) rfl (c_Dr_restart l D cI cZ cO h d H.size) rfl hl.1 rfl (Nat.le_of_ble_eq_true rfl) d_Dr_beWatched_20 (by decide) (by decide)) (fun u5 H locs hp5 hw => ?_)
        obtain ⟨d5, rfl⟩ : ∃ z, z = u5 := ⟨_, rfl⟩
        have hw : kx_w D (kx_T cI cZ cO) A_ s_ [(h, .inr (3, [.int d5.1, .int d5.2.1, .int d5.2.2.1, .int d5.2.2.2.1, .int d5.2.2.2.2.1, .int d5.2.2.2.2.2]))] H locs := hw
        refine lv_goto (tgt := 35) hx hb d_Dr_beWatched_23 (by decide) ?_
        exact kx_ret_v I rfl hw d5 (by simp only [f_Dr_beWatched, if_neg h1, if_neg h3, if_pos h4, ← hp5]) [0] (by decide) rfl d_Dr_beWatched_35
def f_Dr_beRefused (d : kt_Dr) : kt_Dr :=
  if d.2.2.2.2.1 = 3 then (match f_Dr_die (d.1, d.2.1, d.2.2.1, d.2.2.2.1, d.2.2.2.2.1, d.2.2.2.2.2 + 1) with
    | d2 => (d2.1, d2.2.1, d2.2.2.1, d2.2.2.2.1, 0, d2.2.2.2.2.2))
  else (d.1, d.2.1, d.2.2.1, d.2.2.2.1, 0, d.2.2.2.2.2 + 1)
set_option maxHeartbeats 4000000 in
set_option maxRecDepth 100000 in
theorem c_Dr_beRefused (l : Launch) (D : va_G) (cI cZ cO : ClassId) (h : Nat) (d : kt_Dr) : kx_Cv (S := kt_Dr) l y_Dr_beRefused b_Dr_beRefused 1 1 0 0 D (kx_T cI cZ cO) [.ref h] [(h, .inr (3, [.int d.1, .int d.2.1, .int d.2.2.1, .int d.2.2.2.1, .int d.2.2.2.2.1, .int d.2.2.2.2.2]))] (fun zz => zz = f_Dr_beRefused d) (fun zz => [(h, .inr (3, [.int zz.1, .int zz.2.1, .int zz.2.2.1, .int zz.2.2.2.1, .int zz.2.2.2.2.1, .int zz.2.2.2.2.2]))]) := by
  refine kx_enter_v (by decide) (Nat.le_of_ble_eq_true rfl) ?_
  intro p_ e_ s_ m_ below_ meth_ c_ ls A_ H I hl hw
  have S := I.1
  have hx := S.1
  have hb := S.2.1
  have hl : lv_has ls 1 [(0, .ref h)] := hl
  refine lv_aload_n hx hb d_Dr_beRefused_0 rfl (lv_at hl 0 rfl) ?_
  refine lv_dup hx hb d_Dr_beRefused_1 rfl ?_
  refine kx_get S hw fg_Dr_37 0 rfl rfl d_Dr_beRefused_2 ?_
  refine lv_iconst (v := 1) hx hb d_Dr_beRefused_5 (by decide) ?_
  refine lv_iadd hx hb d_Dr_beRefused_6 ?_
  refine kx_put S hw fp_Dr_37 0 rfl rfl rfl (Nat.le_of_ble_eq_true rfl) d_Dr_beRefused_7 (fun H locs hw => ?_)
  have hw : kx_w D (kx_T cI cZ cO) A_ s_ [(h, .inr (3, [.int d.1, .int d.2.1, .int d.2.2.1, .int d.2.2.2.1, .int d.2.2.2.2.1, .int (d.2.2.2.2.2 + 1)]))] H locs := hw
  refine lv_aload_n hx hb d_Dr_beRefused_10 rfl (lv_at hl 0 rfl) ?_
  refine kx_get S hw fg_Dr_22 0 rfl rfl d_Dr_beRefused_11 ?_
  refine lv_iconst (v := 3) hx hb d_Dr_beRefused_14 (by decide) ?_
  refine lv_icmp_ne (tgt := 22) hx hb d_Dr_beRefused_15 (by decide) (fun h1 => ?_) (fun h1 => ?_)
  · refine lv_aload_n hx hb d_Dr_beRefused_22 rfl (lv_at hl 0 rfl) ?_
    refine lv_iconst (v := 0) hx hb d_Dr_beRefused_23 (by decide) ?_
    refine kx_put S hw fp_Dr_22 0 rfl rfl rfl (Nat.le_of_ble_eq_true rfl) d_Dr_beRefused_24 (fun H locs hw => ?_)
    have hw : kx_w D (kx_T cI cZ cO) A_ s_ [(h, .inr (3, [.int d.1, .int d.2.1, .int d.2.2.1, .int d.2.2.2.1, .int 0, .int (d.2.2.2.2.2 + 1)]))] H locs := hw
    exact kx_ret_v I rfl hw (d.1, d.2.1, d.2.2.1, d.2.2.2.1, 0, d.2.2.2.2.2 + 1) (by simp only [f_Dr_beRefused, if_neg h1]) [0] (by decide) rfl d_Dr_beRefused_27
  · refine lv_aload_n hx hb d_Dr_beRefused_18 rfl (lv_at hl 0 rfl) ?_
    refine kx_call_v (wc := [(h, .inr (3, [.int d.1, .int d.2.1, .int d.2.2.1, .int d.2.2.2.1, .int d.2.2.2.2.1, .int (d.2.2.2.2.2 + 1)]))]) (wr := []) (rest := []) hw [0] [] rfl rfl (by decide) (by decide) (kx_runV S hw fc_Dr_25 rfl 0 rfl [0] (by decide) rfl (c_Dr_die l D cI cZ cO h (d.1, d.2.1, d.2.2.1, d.2.2.2.1, d.2.2.2.2.1, d.2.2.2.2.2 + 1) H.size) rfl hl.1 rfl (Nat.le_of_ble_eq_true rfl) d_Dr_beRefused_19 (by decide) (by decide)) (fun u2 H locs hp2 hw => ?_)
    obtain ⟨d2, rfl⟩ : ∃ z, z = u2 := ⟨_, rfl⟩
    have hw : kx_w D (kx_T cI cZ cO) A_ s_ [(h, .inr (3, [.int d2.1, .int d2.2.1, .int d2.2.2.1, .int d2.2.2.2.1, .int d2.2.2.2.2.1, .int d2.2.2.2.2.2]))] H locs := hw
    refine lv_aload_n hx hb d_Dr_beRefused_22 rfl (lv_at hl 0 rfl) ?_
    refine lv_iconst (v := 0) hx hb d_Dr_beRefused_23 (by decide) ?_
    refine kx_put S hw fp_Dr_22 0 rfl rfl rfl (Nat.le_of_ble_eq_true rfl) d_Dr_beRefused_24 (fun H locs hw => ?_)
    have hw : kx_w D (kx_T cI cZ cO) A_ s_ [(h, .inr (3, [.int d2.1, .int d2.2.1, .int d2.2.2.1, .int d2.2.2.2.1, .int 0, .int d2.2.2.2.2.2]))] H locs := hw
    exact kx_ret_v I rfl hw (d2.1, d2.2.1, d2.2.2.1, d2.2.2.2.1, 0, d2.2.2.2.2.2) (by simp only [f_Dr_beRefused, if_pos h1, ← hp2]) [0] (by decide) rfl d_Dr_beRefused_27
def f_Dr_takeStep (d : kt_Dr) : Int32 × kt_Dr :=
  if d.2.1 = 0 then (if d.2.2.2.2.1 = 0 then (if d.2.2.1 = 2 then (d.2.2.1, (d.1, d.2.1, (-1), 1, d.2.2.2.2.1, d.2.2.2.2.2))
      else if d.2.2.1 = (-1) then (d.2.2.1, (d.1, d.2.1, d.2.2.1, 1, d.2.2.2.2.1, d.2.2.2.2.2))
      else (d.2.2.1, (d.1, d.2.1, d.2.2.1 + 1, 1, d.2.2.2.2.1, d.2.2.2.2.2)))
    else match f_Dr_beRefused (d.1, d.2.1, d.2.2.1, 1, d.2.2.2.2.1, d.2.2.2.2.2) with
    | d5 => ((-1), d5))
  else ((-1), d)
set_option maxHeartbeats 4000000 in
set_option maxRecDepth 100000 in
theorem c_Dr_takeStep (l : Launch) (D : va_G) (cI cZ cO : ClassId) (h : Nat) (d : kt_Dr) : kx_Ci (S := kt_Dr) l y_Dr_takeStep b_Dr_takeStep 2 (some .int) 2 0 0 D (kx_T cI cZ cO) [.ref h] [(h, .inr (3, [.int d.1, .int d.2.1, .int d.2.2.1, .int d.2.2.2.1, .int d.2.2.2.2.1, .int d.2.2.2.2.2]))] (fun rr zz => (rr, zz) = f_Dr_takeStep d) (fun zz => [(h, .inr (3, [.int zz.1, .int zz.2.1, .int zz.2.2.1, .int zz.2.2.2.1, .int zz.2.2.2.2.1, .int zz.2.2.2.2.2]))]) := by
  refine kx_enter_i (by decide) (Nat.le_of_ble_eq_true rfl) ?_
  intro p_ e_ s_ m_ below_ meth_ c_ ls A_ H I hl hw
  have S := I.1
  have hx := S.1
  have hb := S.2.1
  have hl : lv_has ls 2 [(0, .ref h)] := hl
  refine lv_aload_n hx hb d_Dr_takeStep_0 rfl (lv_at hl 0 rfl) ?_
  refine kx_get S hw fg_Dr_11 0 rfl rfl d_Dr_takeStep_1 ?_
  refine lv_if_eq (tgt := 9) hx hb d_Dr_takeStep_4 (by decide) (fun h1 => ?_) (fun h1 => ?_)
  · refine lv_aload_n hx hb d_Dr_takeStep_9 rfl (lv_at hl 0 rfl) ?_
    refine lv_iconst (v := 1) hx hb d_Dr_takeStep_10 (by decide) ?_
    refine kx_put S hw fp_Dr_18 0 rfl rfl rfl (Nat.le_of_ble_eq_true rfl) d_Dr_takeStep_11 (fun H locs hw => ?_)
    have hw : kx_w D (kx_T cI cZ cO) A_ s_ [(h, .inr (3, [.int d.1, .int d.2.1, .int d.2.2.1, .int 1, .int d.2.2.2.2.1, .int d.2.2.2.2.2]))] H locs := hw
    refine lv_aload_n hx hb d_Dr_takeStep_14 rfl (lv_at hl 0 rfl) ?_
    refine kx_get S hw fg_Dr_22 0 rfl rfl d_Dr_takeStep_15 ?_
    refine lv_if_eq (tgt := 27) hx hb d_Dr_takeStep_18 (by decide) (fun h2 => ?_) (fun h2 => ?_)
    · refine lv_aload_n hx hb d_Dr_takeStep_27 rfl (lv_at hl 0 rfl) ?_
      refine kx_get S hw fg_Dr_15 0 rfl rfl d_Dr_takeStep_28 ?_
      refine lv_istore_n (lv' := [(1, .int d.2.2.1), (0, .ref h)]) hx hb d_Dr_takeStep_31 rfl hl (by decide) rfl (fun ls hl => ?_)
      refine lv_iload_n hx hb d_Dr_takeStep_32 rfl (lv_at hl 0 rfl) ?_
      refine lv_iconst (v := 2) hx hb d_Dr_takeStep_33 (by decide) ?_
      refine lv_icmp_ne (tgt := 45) hx hb d_Dr_takeStep_34 (by decide) (fun h3 => ?_) (fun h3 => ?_)
      · refine lv_iload_n hx hb d_Dr_takeStep_45 rfl (lv_at hl 0 rfl) ?_
        refine lv_iconst (v := (-1)) hx hb d_Dr_takeStep_46 (by decide) ?_
        refine lv_icmp_eq (tgt := 60) hx hb d_Dr_takeStep_47 (by decide) (fun h4 => ?_) (fun h4 => ?_)
        · refine lv_iload_n hx hb d_Dr_takeStep_60 rfl (lv_at hl 0 rfl) ?_
          exact kx_ret_i I rfl hw (d.1, d.2.1, d.2.2.1, 1, d.2.2.2.2.1, d.2.2.2.2.2) (by simp only [f_Dr_takeStep, if_pos h1, if_pos h2, if_neg h3, if_pos h4]) [0] (by decide) rfl d_Dr_takeStep_61
        · refine lv_aload_n hx hb d_Dr_takeStep_50 rfl (lv_at hl 1 rfl) ?_
          refine lv_dup hx hb d_Dr_takeStep_51 rfl ?_
          refine kx_get S hw fg_Dr_15 0 rfl rfl d_Dr_takeStep_52 ?_
          refine lv_iconst (v := 1) hx hb d_Dr_takeStep_55 (by decide) ?_
          refine lv_iadd hx hb d_Dr_takeStep_56 ?_
          refine kx_put S hw fp_Dr_15 0 rfl rfl rfl (Nat.le_of_ble_eq_true rfl) d_Dr_takeStep_57 (fun H locs hw => ?_)
          have hw : kx_w D (kx_T cI cZ cO) A_ s_ [(h, .inr (3, [.int d.1, .int d.2.1, .int (d.2.2.1 + 1), .int 1, .int d.2.2.2.2.1, .int d.2.2.2.2.2]))] H locs := hw
          refine lv_iload_n hx hb d_Dr_takeStep_60 rfl (lv_at hl 0 rfl) ?_
          exact kx_ret_i I rfl hw (d.1, d.2.1, d.2.2.1 + 1, 1, d.2.2.2.2.1, d.2.2.2.2.2) (by simp only [f_Dr_takeStep, if_pos h1, if_pos h2, if_neg h3, if_neg h4]) [0] (by decide) rfl d_Dr_takeStep_61
      · refine lv_aload_n hx hb d_Dr_takeStep_37 rfl (lv_at hl 1 rfl) ?_
        refine lv_iconst (v := (-1)) hx hb d_Dr_takeStep_38 (by decide) ?_
        refine kx_put S hw fp_Dr_15 0 rfl rfl rfl (Nat.le_of_ble_eq_true rfl) d_Dr_takeStep_39 (fun H locs hw => ?_)
        have hw : kx_w D (kx_T cI cZ cO) A_ s_ [(h, .inr (3, [.int d.1, .int d.2.1, .int (-1), .int 1, .int d.2.2.2.2.1, .int d.2.2.2.2.2]))] H locs := hw
        refine lv_goto (tgt := 60) hx hb d_Dr_takeStep_42 (by decide) ?_
        refine lv_iload_n hx hb d_Dr_takeStep_60 rfl (lv_at hl 0 rfl) ?_
        exact kx_ret_i I rfl hw (d.1, d.2.1, (-1), 1, d.2.2.2.2.1, d.2.2.2.2.2) (by simp only [f_Dr_takeStep, if_pos h1, if_pos h2, if_pos h3]) [0] (by decide) rfl d_Dr_takeStep_61
    · refine lv_aload_n hx hb d_Dr_takeStep_21 rfl (lv_at hl 0 rfl) ?_
      refine kx_call_v (wc := [(h, .inr (3, [.int d.1, .int d.2.1, .int d.2.2.1, .int 1, .int d.2.2.2.2.1, .int d.2.2.2.2.2]))]) (wr := []) (rest := []) hw [0] [] rfl rfl (by decide) (by decide) (kx_runV S hw fc_Dr_34 rfl 0 rfl [0] (by decide) rfl (c_Dr_beRefused l D cI cZ cO h (d.1, d.2.1, d.2.2.1, 1, d.2.2.2.2.1, d.2.2.2.2.2) H.size) rfl hl.1 rfl (Nat.le_of_ble_eq_true rfl) d_Dr_takeStep_22 (by decide) (by decide)) (fun u5 H locs hp5 hw => ?_)
      obtain ⟨d5, rfl⟩ : ∃ z, z = u5 := ⟨_, rfl⟩
      have hw : kx_w D (kx_T cI cZ cO) A_ s_ [(h, .inr (3, [.int d5.1, .int d5.2.1, .int d5.2.2.1, .int d5.2.2.2.1, .int d5.2.2.2.2.1, .int d5.2.2.2.2.2]))] H locs := hw
      refine lv_iconst (v := (-1)) hx hb d_Dr_takeStep_25 (by decide) ?_
      exact kx_ret_i I rfl hw d5 (by simp only [f_Dr_takeStep, if_pos h1, if_neg h2, ← hp5]) [0] (by decide) rfl d_Dr_takeStep_26
  · refine lv_iconst (v := (-1)) hx hb d_Dr_takeStep_7 (by decide) ?_
    exact kx_ret_i I rfl hw d (by simp only [f_Dr_takeStep, if_neg h1]) [0] (by decide) rfl d_Dr_takeStep_8
def f_Rq_isOpen (q : kt_Rq) : Int32 :=
  if q.1 = 0 then 0
  else 1
set_option maxHeartbeats 4000000 in
set_option maxRecDepth 100000 in
theorem c_Rq_isOpen (l : Launch) (D : va_G) (cI cZ cO : ClassId) (h : Nat) (q : kt_Rq) : kx_Ci (S := Unit) l y_Rq_isOpen b_Rq_isOpen 1 (some .boolean) 0 0 0 D (kx_T cI cZ cO) [.ref h] [(h, .inr (4, [.int q.1, .int q.2.1, .int q.2.2.1, .int q.2.2.2.1, .int q.2.2.2.2.1, .int q.2.2.2.2.2.1, .int q.2.2.2.2.2.2]))] (fun rr _ => rr = f_Rq_isOpen q ∧ kx_b rr) (fun _ => [(h, .inr (4, [.int q.1, .int q.2.1, .int q.2.2.1, .int q.2.2.2.1, .int q.2.2.2.2.1, .int q.2.2.2.2.2.1, .int q.2.2.2.2.2.2]))]) := by
  refine kx_enter_i (by decide) (Nat.le_of_ble_eq_true rfl) ?_
  intro p_ e_ s_ m_ below_ meth_ c_ ls A_ H I hl hw
  have S := I.1
  have hx := S.1
  have hb := S.2.1
  have hl : lv_has ls 1 [(0, .ref h)] := hl
  refine lv_aload_n hx hb d_Rq_isOpen_0 rfl (lv_at hl 0 rfl) ?_
  refine kx_get S hw fg_Rq_9 0 rfl rfl d_Rq_isOpen_1 ?_
  refine lv_if_eq (tgt := 11) hx hb d_Rq_isOpen_4 (by decide) (fun h1 => ?_) (fun h1 => ?_)
  · refine lv_iconst (v := 0) hx hb d_Rq_isOpen_11 (by decide) ?_
    exact kx_ret_z I rfl hw (Or.inl rfl) () ⟨(by simp only [f_Rq_isOpen, if_pos h1]), (Or.inl rfl)⟩ [0] (by decide) rfl d_Rq_isOpen_12
  · refine lv_iconst (v := 1) hx hb d_Rq_isOpen_7 (by decide) ?_
    refine lv_goto (tgt := 12) hx hb d_Rq_isOpen_8 (by decide) ?_
    exact kx_ret_z I rfl hw (Or.inr rfl) () ⟨(by simp only [f_Rq_isOpen, if_neg h1]), (Or.inr rfl)⟩ [0] (by decide) rfl d_Rq_isOpen_12
def f_Rq_open (q : kt_Rq) (k : Int32) : kt_Rq :=
  (k, q.2.1, q.2.2.1, q.2.2.2.1, 0, 0, q.2.2.2.2.2.2)
set_option maxHeartbeats 4000000 in
set_option maxRecDepth 100000 in
theorem c_Rq_open (l : Launch) (D : va_G) (cI cZ cO : ClassId) (h : Nat) (q : kt_Rq) (k : Int32) : kx_Cv (S := kt_Rq) l y_Rq_open b_Rq_open 2 0 0 0 D (kx_T cI cZ cO) [.ref h, .int k] [(h, .inr (4, [.int q.1, .int q.2.1, .int q.2.2.1, .int q.2.2.2.1, .int q.2.2.2.2.1, .int q.2.2.2.2.2.1, .int q.2.2.2.2.2.2]))] (fun zz => zz = f_Rq_open q k) (fun zz => [(h, .inr (4, [.int zz.1, .int zz.2.1, .int zz.2.2.1, .int zz.2.2.2.1, .int zz.2.2.2.2.1, .int zz.2.2.2.2.2.1, .int zz.2.2.2.2.2.2]))]) := by
  refine kx_enter_v (by decide) (Nat.le_of_ble_eq_true rfl) ?_
  intro p_ e_ s_ m_ below_ meth_ c_ ls A_ H I hl hw
  have S := I.1
  have hx := S.1
  have hb := S.2.1
  have hl : lv_has ls 2 [(0, .ref h), (1, .int k)] := hl
  refine lv_aload_n hx hb d_Rq_open_0 rfl (lv_at hl 0 rfl) ?_
  refine lv_iload_n hx hb d_Rq_open_1 rfl (lv_at hl 1 rfl) ?_
  refine kx_put S hw fp_Rq_9 0 rfl rfl rfl (Nat.le_of_ble_eq_true rfl) d_Rq_open_2 (fun H locs hw => ?_)
  have hw : kx_w D (kx_T cI cZ cO) A_ s_ [(h, .inr (4, [.int k, .int q.2.1, .int q.2.2.1, .int q.2.2.2.1, .int q.2.2.2.2.1, .int q.2.2.2.2.2.1, .int q.2.2.2.2.2.2]))] H locs := hw
  refine lv_aload_n hx hb d_Rq_open_5 rfl (lv_at hl 0 rfl) ?_
  refine lv_iconst (v := 0) hx hb d_Rq_open_6 (by decide) ?_
  refine kx_put S hw fp_Rq_13 0 rfl rfl rfl (Nat.le_of_ble_eq_true rfl) d_Rq_open_7 (fun H locs hw => ?_)
  have hw : kx_w D (kx_T cI cZ cO) A_ s_ [(h, .inr (4, [.int k, .int q.2.1, .int q.2.2.1, .int q.2.2.2.1, .int 0, .int q.2.2.2.2.2.1, .int q.2.2.2.2.2.2]))] H locs := hw
  refine lv_aload_n hx hb d_Rq_open_10 rfl (lv_at hl 0 rfl) ?_
  refine lv_iconst (v := 0) hx hb d_Rq_open_11 (by decide) ?_
  refine kx_put S hw fp_Rq_17 0 rfl rfl rfl (Nat.le_of_ble_eq_true rfl) d_Rq_open_12 (fun H locs hw => ?_)
  have hw : kx_w D (kx_T cI cZ cO) A_ s_ [(h, .inr (4, [.int k, .int q.2.1, .int q.2.2.1, .int q.2.2.2.1, .int 0, .int 0, .int q.2.2.2.2.2.2]))] H locs := hw
  exact kx_ret_v I rfl hw (k, q.2.1, q.2.2.1, q.2.2.2.1, 0, 0, q.2.2.2.2.2.2) (by simp only [f_Rq_open]) [0] (by decide) rfl d_Rq_open_15
def f_Rq_close (q : kt_Rq) : kt_Rq :=
  (0, q.2.1, q.2.2.1, q.2.2.2.1, q.2.2.2.2.1, q.2.2.2.2.2.1, q.2.2.2.2.2.2)
set_option maxHeartbeats 4000000 in
set_option maxRecDepth 100000 in
theorem c_Rq_close (l : Launch) (D : va_G) (cI cZ cO : ClassId) (h : Nat) (q : kt_Rq) : kx_Cv (S := kt_Rq) l y_Rq_close b_Rq_close 1 0 0 0 D (kx_T cI cZ cO) [.ref h] [(h, .inr (4, [.int q.1, .int q.2.1, .int q.2.2.1, .int q.2.2.2.1, .int q.2.2.2.2.1, .int q.2.2.2.2.2.1, .int q.2.2.2.2.2.2]))] (fun zz => zz = f_Rq_close q) (fun zz => [(h, .inr (4, [.int zz.1, .int zz.2.1, .int zz.2.2.1, .int zz.2.2.2.1, .int zz.2.2.2.2.1, .int zz.2.2.2.2.2.1, .int zz.2.2.2.2.2.2]))]) := by
  refine kx_enter_v (by decide) (Nat.le_of_ble_eq_true rfl) ?_
  intro p_ e_ s_ m_ below_ meth_ c_ ls A_ H I hl hw
  have S := I.1
  have hx := S.1
  have hb := S.2.1
  have hl : lv_has ls 1 [(0, .ref h)] := hl
  refine lv_aload_n hx hb d_Rq_close_0 rfl (lv_at hl 0 rfl) ?_
  refine lv_iconst (v := 0) hx hb d_Rq_close_1 (by decide) ?_
  refine kx_put S hw fp_Rq_9 0 rfl rfl rfl (Nat.le_of_ble_eq_true rfl) d_Rq_close_2 (fun H locs hw => ?_)
  have hw : kx_w D (kx_T cI cZ cO) A_ s_ [(h, .inr (4, [.int 0, .int q.2.1, .int q.2.2.1, .int q.2.2.2.1, .int q.2.2.2.2.1, .int q.2.2.2.2.2.1, .int q.2.2.2.2.2.2]))] H locs := hw
  exact kx_ret_v I rfl hw (0, q.2.1, q.2.2.1, q.2.2.2.1, q.2.2.2.2.1, q.2.2.2.2.2.1, q.2.2.2.2.2.2) (by simp only [f_Rq_close]) [0] (by decide) rfl d_Rq_close_5
def f_Rq_wasGivenElsewhere (q : kt_Rq) (d : kt_Dr) : Int32 :=
  if q.2.2.2.2.1 = 0 then 0
  else if q.2.2.2.2.2.2 = d.1 then 0
  else 1
set_option maxHeartbeats 4000000 in
set_option maxRecDepth 100000 in
theorem c_Rq_wasGivenElsewhere (l : Launch) (D : va_G) (cI cZ cO : ClassId) (h : Nat) (g : Nat) (q : kt_Rq) (d : kt_Dr) : kx_Ci (S := Unit) l y_Rq_wasGivenElsewhere b_Rq_wasGivenElsewhere 2 (some .boolean) 0 0 0 D (kx_T cI cZ cO) [.ref h, .ref g] [(h, .inr (4, [.int q.1, .int q.2.1, .int q.2.2.1, .int q.2.2.2.1, .int q.2.2.2.2.1, .int q.2.2.2.2.2.1, .int q.2.2.2.2.2.2])), (g, .inr (3, [.int d.1, .int d.2.1, .int d.2.2.1, .int d.2.2.2.1, .int d.2.2.2.2.1, .int d.2.2.2.2.2]))] (fun rr _ => rr = f_Rq_wasGivenElsewhere q d ∧ kx_b rr) (fun _ => [(h, .inr (4, [.int q.1, .int q.2.1, .int q.2.2.1, .int q.2.2.2.1, .int q.2.2.2.2.1, .int q.2.2.2.2.2.1, .int q.2.2.2.2.2.2])), (g, .inr (3, [.int d.1, .int d.2.1, .int d.2.2.1, .int d.2.2.2.1, .int d.2.2.2.2.1, .int d.2.2.2.2.2]))]) := by
  refine kx_enter_i (by decide) (Nat.le_of_ble_eq_true rfl) ?_
  intro p_ e_ s_ m_ below_ meth_ c_ ls A_ H I hl hw
  have S := I.1
  have hx := S.1
  have hb := S.2.1
  have hl : lv_has ls 2 [(0, .ref h), (1, .ref g)] := hl
  refine lv_aload_n hx hb d_Rq_wasGivenElsewhere_0 rfl (lv_at hl 0 rfl) ?_
  refine kx_get S hw fg_Rq_13 0 rfl rfl d_Rq_wasGivenElsewhere_1 ?_
  refine lv_if_eq (tgt := 22) hx hb d_Rq_wasGivenElsewhere_4 (by decide) (fun h1 => ?_) (fun h1 => ?_)
  · refine lv_iconst (v := 0) hx hb d_Rq_wasGivenElsewhere_22 (by decide) ?_
    exact kx_ret_z I rfl hw (Or.inl rfl) () ⟨(by simp only [f_Rq_wasGivenElsewhere, if_pos h1]), (Or.inl rfl)⟩ [0, 1] (by decide) rfl d_Rq_wasGivenElsewhere_23
  · refine lv_aload_n hx hb d_Rq_wasGivenElsewhere_7 rfl (lv_at hl 0 rfl) ?_
    refine kx_get S hw fg_Rq_20 0 rfl rfl d_Rq_wasGivenElsewhere_8 ?_
    refine lv_aload_n hx hb d_Rq_wasGivenElsewhere_11 rfl (lv_at hl 1 rfl) ?_
    refine kx_get S hw fg_Rq_23 1 rfl rfl d_Rq_wasGivenElsewhere_12 ?_
    refine lv_icmp_eq (tgt := 22) hx hb d_Rq_wasGivenElsewhere_15 (by decide) (fun h2 => ?_) (fun h2 => ?_)
    · refine lv_iconst (v := 0) hx hb d_Rq_wasGivenElsewhere_22 (by decide) ?_
      exact kx_ret_z I rfl hw (Or.inl rfl) () ⟨(by simp only [f_Rq_wasGivenElsewhere, if_neg h1, if_pos h2]), (Or.inl rfl)⟩ [0, 1] (by decide) rfl d_Rq_wasGivenElsewhere_23
    · refine lv_iconst (v := 1) hx hb d_Rq_wasGivenElsewhere_18 (by decide) ?_
      refine lv_goto (tgt := 23) hx hb d_Rq_wasGivenElsewhere_19 (by decide) ?_
      exact kx_ret_z I rfl hw (Or.inr rfl) () ⟨(by simp only [f_Rq_wasGivenElsewhere, if_neg h1, if_neg h2]), (Or.inr rfl)⟩ [0, 1] (by decide) rfl d_Rq_wasGivenElsewhere_23
def f_Rq_giveTo (q : kt_Rq) (d : kt_Dr) : kt_Rq × kt_Dr :=
  if d.2.1 = 2 then ((q.1, q.2.1, q.2.2.1, q.2.2.2.1, 0, q.2.2.2.2.2.1, q.2.2.2.2.2.2), d)
  else ((q.1, q.2.1, q.2.2.1, q.2.2.2.1, 1, 0, d.1), (d.1, d.2.1, 0, d.2.2.2.1, d.2.2.2.2.1, d.2.2.2.2.2))
set_option maxHeartbeats 4000000 in
set_option maxRecDepth 100000 in
theorem c_Rq_giveTo (l : Launch) (D : va_G) (cI cZ cO : ClassId) (h : Nat) (g : Nat) (q : kt_Rq) (d : kt_Dr) : kx_Cv (S := kt_Rq × kt_Dr) l y_Rq_giveTo b_Rq_giveTo 2 0 0 0 D (kx_T cI cZ cO) [.ref h, .ref g] [(h, .inr (4, [.int q.1, .int q.2.1, .int q.2.2.1, .int q.2.2.2.1, .int q.2.2.2.2.1, .int q.2.2.2.2.2.1, .int q.2.2.2.2.2.2])), (g, .inr (3, [.int d.1, .int d.2.1, .int d.2.2.1, .int d.2.2.2.1, .int d.2.2.2.2.1, .int d.2.2.2.2.2]))] (fun zz => zz = f_Rq_giveTo q d) (fun zz => [(h, .inr (4, [.int zz.1.1, .int zz.1.2.1, .int zz.1.2.2.1, .int zz.1.2.2.2.1, .int zz.1.2.2.2.2.1, .int zz.1.2.2.2.2.2.1, .int zz.1.2.2.2.2.2.2])), (g, .inr (3, [.int zz.2.1, .int zz.2.2.1, .int zz.2.2.2.1, .int zz.2.2.2.2.1, .int zz.2.2.2.2.2.1, .int zz.2.2.2.2.2.2]))]) := by
  refine kx_enter_v (by decide) (Nat.le_of_ble_eq_true rfl) ?_
  intro p_ e_ s_ m_ below_ meth_ c_ ls A_ H I hl hw
  have S := I.1
  have hx := S.1
  have hb := S.2.1
  have hl : lv_has ls 2 [(0, .ref h), (1, .ref g)] := hl
  refine lv_aload_n hx hb d_Rq_giveTo_0 rfl (lv_at hl 1 rfl) ?_
  refine kx_get S hw fg_Rq_28 1 rfl rfl d_Rq_giveTo_1 ?_
  refine lv_iconst (v := 2) hx hb d_Rq_giveTo_4 (by decide) ?_
  refine lv_icmp_ne (tgt := 14) hx hb d_Rq_giveTo_5 (by decide) (fun h1 => ?_) (fun h1 => ?_)
  · refine lv_aload_n hx hb d_Rq_giveTo_14 rfl (lv_at hl 1 rfl) ?_
    refine lv_iconst (v := 0) hx hb d_Rq_giveTo_15 (by decide) ?_
    refine kx_put S hw fp_Rq_31 1 rfl rfl rfl (Nat.le_of_ble_eq_true rfl) d_Rq_giveTo_16 (fun H locs hw => ?_)
    have hw : kx_w D (kx_T cI cZ cO) A_ s_ [(h, .inr (4, [.int q.1, .int q.2.1, .int q.2.2.1, .int q.2.2.2.1, .int q.2.2.2.2.1, .int q.2.2.2.2.2.1, .int q.2.2.2.2.2.2])), (g, .inr (3, [.int d.1, .int d.2.1, .int 0, .int d.2.2.2.1, .int d.2.2.2.2.1, .int d.2.2.2.2.2]))] H locs := hw
    refine lv_aload_n hx hb d_Rq_giveTo_19 rfl (lv_at hl 0 rfl) ?_
    refine lv_iconst (v := 1) hx hb d_Rq_giveTo_20 (by decide) ?_
    refine kx_put S hw fp_Rq_13 0 rfl rfl rfl (Nat.le_of_ble_eq_true rfl) d_Rq_giveTo_21 (fun H locs hw => ?_)
    have hw : kx_w D (kx_T cI cZ cO) A_ s_ [(h, .inr (4, [.int q.1, .int q.2.1, .int q.2.2.1, .int q.2.2.2.1, .int 1, .int q.2.2.2.2.2.1, .int q.2.2.2.2.2.2])), (g, .inr (3, [.int d.1, .int d.2.1, .int 0, .int d.2.2.2.1, .int d.2.2.2.2.1, .int d.2.2.2.2.2]))] H locs := hw
    refine lv_aload_n hx hb d_Rq_giveTo_24 rfl (lv_at hl 0 rfl) ?_
    refine lv_iconst (v := 0) hx hb d_Rq_giveTo_25 (by decide) ?_
    refine kx_put S hw fp_Rq_17 0 rfl rfl rfl (Nat.le_of_ble_eq_true rfl) d_Rq_giveTo_26 (fun H locs hw => ?_)
    have hw : kx_w D (kx_T cI cZ cO) A_ s_ [(h, .inr (4, [.int q.1, .int q.2.1, .int q.2.2.1, .int q.2.2.2.1, .int 1, .int 0, .int q.2.2.2.2.2.2])), (g, .inr (3, [.int d.1, .int d.2.1, .int 0, .int d.2.2.2.1, .int d.2.2.2.2.1, .int d.2.2.2.2.2]))] H locs := hw
    refine lv_aload_n hx hb d_Rq_giveTo_29 rfl (lv_at hl 0 rfl) ?_
    refine lv_aload_n hx hb d_Rq_giveTo_30 rfl (lv_at hl 1 rfl) ?_
    refine kx_get S hw fg_Rq_23 1 rfl rfl d_Rq_giveTo_31 ?_
    refine kx_put S hw fp_Rq_20 0 rfl rfl rfl (Nat.le_of_ble_eq_true rfl) d_Rq_giveTo_34 (fun H locs hw => ?_)
    have hw : kx_w D (kx_T cI cZ cO) A_ s_ [(h, .inr (4, [.int q.1, .int q.2.1, .int q.2.2.1, .int q.2.2.2.1, .int 1, .int 0, .int d.1])), (g, .inr (3, [.int d.1, .int d.2.1, .int 0, .int d.2.2.2.1, .int d.2.2.2.2.1, .int d.2.2.2.2.2]))] H locs := hw
    exact kx_ret_v I rfl hw ((q.1, q.2.1, q.2.2.1, q.2.2.2.1, 1, 0, d.1), (d.1, d.2.1, 0, d.2.2.2.1, d.2.2.2.2.1, d.2.2.2.2.2)) (by simp only [f_Rq_giveTo, if_neg h1]) [0, 1] (by decide) rfl d_Rq_giveTo_37
  · refine lv_aload_n hx hb d_Rq_giveTo_8 rfl (lv_at hl 0 rfl) ?_
    refine lv_iconst (v := 0) hx hb d_Rq_giveTo_9 (by decide) ?_
    refine kx_put S hw fp_Rq_13 0 rfl rfl rfl (Nat.le_of_ble_eq_true rfl) d_Rq_giveTo_10 (fun H locs hw => ?_)
    have hw : kx_w D (kx_T cI cZ cO) A_ s_ [(h, .inr (4, [.int q.1, .int q.2.1, .int q.2.2.1, .int q.2.2.2.1, .int 0, .int q.2.2.2.2.2.1, .int q.2.2.2.2.2.2])), (g, .inr (3, [.int d.1, .int d.2.1, .int d.2.2.1, .int d.2.2.2.1, .int d.2.2.2.2.1, .int d.2.2.2.2.2]))] H locs := hw
    exact kx_ret_v I rfl hw ((q.1, q.2.1, q.2.2.1, q.2.2.2.1, 0, q.2.2.2.2.2.1, q.2.2.2.2.2.2), d) (by simp only [f_Rq_giveTo, if_pos h1]) [0, 1] (by decide) rfl d_Rq_giveTo_13
def f_Rq_progress (q : kt_Rq) : Int32 :=
  match f_Rq_isOpen q with
  | r1 => if r1 = 0 then 0
    else if q.2.2.2.2.1 = 0 then 1
    else 2
set_option maxHeartbeats 4000000 in
set_option maxRecDepth 100000 in
theorem c_Rq_progress (l : Launch) (D : va_G) (cI cZ cO : ClassId) (h : Nat) (q : kt_Rq) : kx_Ci (S := Unit) l y_Rq_progress b_Rq_progress 1 (some .int) 1 0 0 D (kx_T cI cZ cO) [.ref h] [(h, .inr (4, [.int q.1, .int q.2.1, .int q.2.2.1, .int q.2.2.2.1, .int q.2.2.2.2.1, .int q.2.2.2.2.2.1, .int q.2.2.2.2.2.2]))] (fun rr _ => rr = f_Rq_progress q) (fun _ => [(h, .inr (4, [.int q.1, .int q.2.1, .int q.2.2.1, .int q.2.2.2.1, .int q.2.2.2.2.1, .int q.2.2.2.2.2.1, .int q.2.2.2.2.2.2]))]) := by
  refine kx_enter_i (by decide) (Nat.le_of_ble_eq_true rfl) ?_
  intro p_ e_ s_ m_ below_ meth_ c_ ls A_ H I hl hw
  have S := I.1
  have hx := S.1
  have hb := S.2.1
  have hl : lv_has ls 1 [(0, .ref h)] := hl
  refine lv_aload_n hx hb d_Rq_progress_0 rfl (lv_at hl 0 rfl) ?_
  refine kx_call_i (wc := [(h, .inr (4, [.int q.1, .int q.2.1, .int q.2.2.1, .int q.2.2.2.1, .int q.2.2.2.2.1, .int q.2.2.2.2.2.1, .int q.2.2.2.2.2.2]))]) (wr := []) (rest := []) hw [0] [] rfl rfl (by decide) (by decide) (kx_runV S hw fc_Rq_34 rfl 0 rfl [0] (by decide) rfl (c_Rq_isOpen l D cI cZ cO h q H.size) rfl hl.1 rfl (Nat.le_of_ble_eq_true rfl) d_Rq_progress_1 (by decide) (by decide)) (fun r1 u1 H locs hp1 hw => ?_)
  obtain ⟨hp1, hb1⟩ := hp1
  have hw : kx_w D (kx_T cI cZ cO) A_ s_ [(h, .inr (4, [.int q.1, .int q.2.1, .int q.2.2.1, .int q.2.2.2.1, .int q.2.2.2.2.1, .int q.2.2.2.2.2.1, .int q.2.2.2.2.2.2]))] H locs := hw
  refine lv_if_ne (tgt := 9) hx hb d_Rq_progress_4 (by decide) (fun h2 => ?_) (fun h2 => ?_)
  · refine lv_aload_n hx hb d_Rq_progress_9 rfl (lv_at hl 0 rfl) ?_
    refine kx_get S hw fg_Rq_13 0 rfl rfl d_Rq_progress_10 ?_
    refine lv_if_eq (tgt := 20) hx hb d_Rq_progress_13 (by decide) (fun h3 => ?_) (fun h3 => ?_)
    · refine lv_iconst (v := 1) hx hb d_Rq_progress_20 (by decide) ?_
      exact kx_ret_i I rfl hw () (by simp only [f_Rq_progress, ← hp1, if_neg h2, if_pos h3]) [0] (by decide) rfl d_Rq_progress_21
    · refine lv_iconst (v := 2) hx hb d_Rq_progress_16 (by decide) ?_
      refine lv_goto (tgt := 21) hx hb d_Rq_progress_17 (by decide) ?_
      exact kx_ret_i I rfl hw () (by simp only [f_Rq_progress, ← hp1, if_neg h2, if_neg h3]) [0] (by decide) rfl d_Rq_progress_21
  · refine lv_iconst (v := 0) hx hb d_Rq_progress_7 (by decide) ?_
    exact kx_ret_i I rfl hw () (by simp only [f_Rq_progress, ← hp1, if_pos h2]) [0] (by decide) rfl d_Rq_progress_8
def f_Ca_find (c : kt_Ca) (b : Int32) : Int32 :=
  if (c.1 0) = b then 0
  else if (c.1 1) = b then 1
  else if (c.1 2) = b then 2
  else (-1)
set_option maxHeartbeats 4000000 in
set_option maxRecDepth 100000 in
theorem c_Ca_find (l : Launch) (D : va_G) (cI cZ cO : ClassId) (h : Nat) (a0 : Nat) (a1 : Nat) (a2 : Nat) (a3 : Nat) (c : kt_Ca) (b : Int32) : kx_Ci (S := Unit) l y_Ca_find b_Ca_find 3 (some .int) 0 0 0 D (kx_T cI cZ cO) [.ref h, .int b] [(h, .inr (5, [.ref a0, .ref a1, .ref a2, .ref a3])), (a0, .inl (cI, 3, .inl c.1)), (a1, .inl (cI, 3, .inl c.2.1)), (a2, .inl (cZ, 3, .inl c.2.2.1)), (a3, .inl (cI, 3, .inl c.2.2.2))] (fun rr _ => rr = f_Ca_find c b) (fun _ => [(h, .inr (5, [.ref a0, .ref a1, .ref a2, .ref a3])), (a0, .inl (cI, 3, .inl c.1)), (a1, .inl (cI, 3, .inl c.2.1)), (a2, .inl (cZ, 3, .inl c.2.2.1)), (a3, .inl (cI, 3, .inl c.2.2.2))]) := by
  refine kx_enter_i (by decide) (Nat.le_of_ble_eq_true rfl) ?_
  intro p_ e_ s_ m_ below_ meth_ c_ ls A_ H I hl hw
  have S := I.1
  have hx := S.1
  have hb := S.2.1
  have hl : lv_has ls 3 [(0, .ref h), (1, .int b)] := hl
  refine lv_iconst (v := 0) hx hb d_Ca_find_0 (by decide) ?_
  refine lv_istore_n (lv' := [(2, .int 0), (0, .ref h), (1, .int b)]) hx hb d_Ca_find_1 rfl hl (by decide) rfl (fun ls hl => ?_)
  refine lv_iload_n hx hb d_Ca_find_2 rfl (lv_at hl 0 rfl) ?_
  refine lv_iconst (v := 3) hx hb d_Ca_find_3 (by decide) ?_
  refine lv_icmp_ge (tgt := 25) hx hb d_Ca_find_4 (by decide) (fun h => absurd h (by decide)) (fun _ => ?_)
  refine lv_aload_n hx hb d_Ca_find_7 rfl (lv_at hl 1 rfl) ?_
  refine kx_get S hw fg_Ca_9 0 rfl rfl d_Ca_find_8 ?_
  refine lv_iload_n hx hb d_Ca_find_11 rfl (lv_at hl 0 rfl) ?_
  refine kx_iald S hw 1 0 rfl rfl (j := 0) (by decide) (by unfold vp_in; decide) d_Ca_find_12 ?_
  refine lv_iload_n hx hb d_Ca_find_13 rfl (lv_at hl 2 rfl) ?_
  refine lv_icmp_ne (tgt := 19) hx hb d_Ca_find_14 (by decide) (fun h1 => ?_) (fun h1 => ?_)
  · refine lv_iinc (v := 1) (k := 0) (lv' := [(2, .int 1), (0, .ref h), (1, .int b)]) hx hb d_Ca_find_19 hl rfl (by decide) (by decide) rfl (fun ls hl => ?_)
    refine lv_goto (tgt := 2) hx hb d_Ca_find_22 (by decide) ?_
    refine lv_iload_n hx hb d_Ca_find_2 rfl (lv_at hl 0 rfl) ?_
    refine lv_iconst (v := 3) hx hb d_Ca_find_3 (by decide) ?_
    refine lv_icmp_ge (tgt := 25) hx hb d_Ca_find_4 (by decide) (fun h => absurd h (by decide)) (fun _ => ?_)
    refine lv_aload_n hx hb d_Ca_find_7 rfl (lv_at hl 1 rfl) ?_
    refine kx_get S hw fg_Ca_9 0 rfl rfl d_Ca_find_8 ?_
    refine lv_iload_n hx hb d_Ca_find_11 rfl (lv_at hl 0 rfl) ?_
    refine kx_iald S hw 1 0 rfl rfl (j := 1) (by decide) (by unfold vp_in; decide) d_Ca_find_12 ?_
    refine lv_iload_n hx hb d_Ca_find_13 rfl (lv_at hl 2 rfl) ?_
    refine lv_icmp_ne (tgt := 19) hx hb d_Ca_find_14 (by decide) (fun h2 => ?_) (fun h2 => ?_)
    · refine lv_iinc (v := 2) (k := 0) (lv' := [(2, .int 2), (0, .ref h), (1, .int b)]) hx hb d_Ca_find_19 hl rfl (by decide) (by decide) rfl (fun ls hl => ?_)
      refine lv_goto (tgt := 2) hx hb d_Ca_find_22 (by decide) ?_
      refine lv_iload_n hx hb d_Ca_find_2 rfl (lv_at hl 0 rfl) ?_
      refine lv_iconst (v := 3) hx hb d_Ca_find_3 (by decide) ?_
      refine lv_icmp_ge (tgt := 25) hx hb d_Ca_find_4 (by decide) (fun h => absurd h (by decide)) (fun _ => ?_)
      refine lv_aload_n hx hb d_Ca_find_7 rfl (lv_at hl 1 rfl) ?_
      refine kx_get S hw fg_Ca_9 0 rfl rfl d_Ca_find_8 ?_
      refine lv_iload_n hx hb d_Ca_find_11 rfl (lv_at hl 0 rfl) ?_
      refine kx_iald S hw 1 0 rfl rfl (j := 2) (by decide) (by unfold vp_in; decide) d_Ca_find_12 ?_
      refine lv_iload_n hx hb d_Ca_find_13 rfl (lv_at hl 2 rfl) ?_
      refine lv_icmp_ne (tgt := 19) hx hb d_Ca_find_14 (by decide) (fun h3 => ?_) (fun h3 => ?_)
      · refine lv_iinc (v := 3) (k := 0) (lv' := [(2, .int 3), (0, .ref h), (1, .int b)]) hx hb d_Ca_find_19 hl rfl (by decide) (by decide) rfl (fun ls hl => ?_)
        refine lv_goto (tgt := 2) hx hb d_Ca_find_22 (by decide) ?_
        refine lv_iload_n hx hb d_Ca_find_2 rfl (lv_at hl 0 rfl) ?_
        refine lv_iconst (v := 3) hx hb d_Ca_find_3 (by decide) ?_
        refine lv_icmp_ge (tgt := 25) hx hb d_Ca_find_4 (by decide) (fun _ => ?_) (fun h => absurd h (by decide))
        refine lv_iconst (v := (-1)) hx hb d_Ca_find_25 (by decide) ?_
        exact kx_ret_i I rfl hw () (by simp only [f_Ca_find, if_neg h1, if_neg h2, if_neg h3]) [0, 1, 2, 3, 4] (by decide) rfl d_Ca_find_26
      · refine lv_iload_n hx hb d_Ca_find_17 rfl (lv_at hl 0 rfl) ?_
        exact kx_ret_i I rfl hw () (by simp only [f_Ca_find, if_neg h1, if_neg h2, if_pos h3]) [0, 1, 2, 3, 4] (by decide) rfl d_Ca_find_18
    · refine lv_iload_n hx hb d_Ca_find_17 rfl (lv_at hl 0 rfl) ?_
      exact kx_ret_i I rfl hw () (by simp only [f_Ca_find, if_neg h1, if_pos h2]) [0, 1, 2, 3, 4] (by decide) rfl d_Ca_find_18
  · refine lv_iload_n hx hb d_Ca_find_17 rfl (lv_at hl 0 rfl) ?_
    exact kx_ret_i I rfl hw () (by simp only [f_Ca_find, if_pos h1]) [0, 1, 2, 3, 4] (by decide) rfl d_Ca_find_18
def f_Ca_slotToFill (c : kt_Ca) : Int32 :=
  match f_Ca_find c (-1) with
  | r1 => if r1 = (-1) then (if (c.2.2.2 0) ≤ (c.2.2.2 1) then (if (c.2.2.2 0) ≤ (c.2.2.2 2) then 0
        else 2)
      else if (c.2.2.2 1) ≤ (c.2.2.2 2) then 1
      else 2)
    else r1
set_option maxHeartbeats 4000000 in
set_option maxRecDepth 100000 in
theorem c_Ca_slotToFill (l : Launch) (D : va_G) (cI cZ cO : ClassId) (h : Nat) (a0 : Nat) (a1 : Nat) (a2 : Nat) (a3 : Nat) (c : kt_Ca) : kx_Ci (S := Unit) l y_Ca_slotToFill b_Ca_slotToFill 4 (some .int) 1 0 0 D (kx_T cI cZ cO) [.ref h] [(h, .inr (5, [.ref a0, .ref a1, .ref a2, .ref a3])), (a0, .inl (cI, 3, .inl c.1)), (a1, .inl (cI, 3, .inl c.2.1)), (a2, .inl (cZ, 3, .inl c.2.2.1)), (a3, .inl (cI, 3, .inl c.2.2.2))] (fun rr _ => rr = f_Ca_slotToFill c) (fun _ => [(h, .inr (5, [.ref a0, .ref a1, .ref a2, .ref a3])), (a0, .inl (cI, 3, .inl c.1)), (a1, .inl (cI, 3, .inl c.2.1)), (a2, .inl (cZ, 3, .inl c.2.2.1)), (a3, .inl (cI, 3, .inl c.2.2.2))]) := by
  refine kx_enter_i (by decide) (Nat.le_of_ble_eq_true rfl) ?_
  intro p_ e_ s_ m_ below_ meth_ c_ ls A_ H I hl hw
  have S := I.1
  have hx := S.1
  have hb := S.2.1
  have hl : lv_has ls 4 [(0, .ref h)] := hl
  refine lv_aload_n hx hb d_Ca_slotToFill_0 rfl (lv_at hl 0 rfl) ?_
  refine lv_iconst (v := (-1)) hx hb d_Ca_slotToFill_1 (by decide) ?_
  refine kx_call_i (wc := [(h, .inr (5, [.ref a0, .ref a1, .ref a2, .ref a3])), (a0, .inl (cI, 3, .inl c.1)), (a1, .inl (cI, 3, .inl c.2.1)), (a2, .inl (cZ, 3, .inl c.2.2.1)), (a3, .inl (cI, 3, .inl c.2.2.2))]) (wr := []) (rest := []) hw [0, 1, 2, 3, 4] [] rfl rfl (by decide) (by decide) (kx_runV S hw fc_Ca_31 rfl 0 rfl [0, 1, 2, 3, 4] (by decide) rfl (c_Ca_find l D cI cZ cO h a0 a1 a2 a3 c (-1) H.size) rfl hl.1 rfl (Nat.le_of_ble_eq_true rfl) d_Ca_slotToFill_2 (by decide) (by decide)) (fun r1 u1 H locs hp1 hw => ?_)
  have hw : kx_w D (kx_T cI cZ cO) A_ s_ [(h, .inr (5, [.ref a0, .ref a1, .ref a2, .ref a3])), (a0, .inl (cI, 3, .inl c.1)), (a1, .inl (cI, 3, .inl c.2.1)), (a2, .inl (cZ, 3, .inl c.2.2.1)), (a3, .inl (cI, 3, .inl c.2.2.2))] H locs := hw
  refine lv_istore_n (lv' := [(1, .int r1), (0, .ref h)]) hx hb d_Ca_slotToFill_5 rfl hl (by decide) rfl (fun ls hl => ?_)
  refine lv_iload_n hx hb d_Ca_slotToFill_6 rfl (lv_at hl 0 rfl) ?_
  refine lv_iconst (v := (-1)) hx hb d_Ca_slotToFill_7 (by decide) ?_
  refine lv_icmp_eq (tgt := 13) hx hb d_Ca_slotToFill_8 (by decide) (fun h2 => ?_) (fun h2 => ?_)
  · refine lv_iconst (v := 0) hx hb d_Ca_slotToFill_13 (by decide) ?_
    refine lv_istore_n (lv' := [(2, .int 0), (1, .int r1), (0, .ref h)]) hx hb d_Ca_slotToFill_14 rfl hl (by decide) rfl (fun ls hl => ?_)
    refine lv_iconst (v := 1) hx hb d_Ca_slotToFill_15 (by decide) ?_
    refine lv_istore_n (lv' := [(3, .int 1), (2, .int 0), (1, .int r1), (0, .ref h)]) hx hb d_Ca_slotToFill_16 rfl hl (by decide) rfl (fun ls hl => ?_)
    refine lv_iload_n hx hb d_Ca_slotToFill_17 rfl (lv_at hl 0 rfl) ?_
    refine lv_iconst (v := 3) hx hb d_Ca_slotToFill_18 (by decide) ?_
    refine lv_icmp_ge (tgt := 45) hx hb d_Ca_slotToFill_19 (by decide) (fun h => absurd h (by decide)) (fun _ => ?_)
    refine lv_aload_n hx hb d_Ca_slotToFill_22 rfl (lv_at hl 3 rfl) ?_
    refine kx_get S hw fg_Ca_22 0 rfl rfl d_Ca_slotToFill_23 ?_
    refine lv_iload_n hx hb d_Ca_slotToFill_26 rfl (lv_at hl 0 rfl) ?_
    refine kx_iald S hw 4 0 rfl rfl (j := 1) (by decide) (by unfold vp_in; decide) d_Ca_slotToFill_27 ?_
    refine lv_aload_n hx hb d_Ca_slotToFill_28 rfl (lv_at hl 3 rfl) ?_
    refine kx_get S hw fg_Ca_22 0 rfl rfl d_Ca_slotToFill_29 ?_
    refine lv_iload_n hx hb d_Ca_slotToFill_32 rfl (lv_at hl 1 rfl) ?_
    refine kx_iald S hw 4 0 rfl rfl (j := 0) (by decide) (by unfold vp_in; decide) d_Ca_slotToFill_33 ?_
    refine lv_icmp_ge (tgt := 39) hx hb d_Ca_slotToFill_34 (by decide) (fun h3 => ?_) (fun h3 => ?_)
    · refine lv_iinc (v := 2) (k := 0) (lv' := [(3, .int 2), (2, .int 0), (1, .int r1), (0, .ref h)]) hx hb d_Ca_slotToFill_39 hl rfl (by decide) (by decide) rfl (fun ls hl => ?_)
      refine lv_goto (tgt := 17) hx hb d_Ca_slotToFill_42 (by decide) ?_
      refine lv_iload_n hx hb d_Ca_slotToFill_17 rfl (lv_at hl 0 rfl) ?_
      refine lv_iconst (v := 3) hx hb d_Ca_slotToFill_18 (by decide) ?_
      refine lv_icmp_ge (tgt := 45) hx hb d_Ca_slotToFill_19 (by decide) (fun h => absurd h (by decide)) (fun _ => ?_)
      refine lv_aload_n hx hb d_Ca_slotToFill_22 rfl (lv_at hl 3 rfl) ?_
      refine kx_get S hw fg_Ca_22 0 rfl rfl d_Ca_slotToFill_23 ?_
      refine lv_iload_n hx hb d_Ca_slotToFill_26 rfl (lv_at hl 0 rfl) ?_
      refine kx_iald S hw 4 0 rfl rfl (j := 2) (by decide) (by unfold vp_in; decide) d_Ca_slotToFill_27 ?_
      refine lv_aload_n hx hb d_Ca_slotToFill_28 rfl (lv_at hl 3 rfl) ?_
      refine kx_get S hw fg_Ca_22 0 rfl rfl d_Ca_slotToFill_29 ?_
      refine lv_iload_n hx hb d_Ca_slotToFill_32 rfl (lv_at hl 1 rfl) ?_
      refine kx_iald S hw 4 0 rfl rfl (j := 0) (by decide) (by unfold vp_in; decide) d_Ca_slotToFill_33 ?_
      refine lv_icmp_ge (tgt := 39) hx hb d_Ca_slotToFill_34 (by decide) (fun h4 => ?_) (fun h4 => ?_)
      · refine lv_iinc (v := 3) (k := 0) (lv' := [(3, .int 3), (2, .int 0), (1, .int r1), (0, .ref h)]) hx hb d_Ca_slotToFill_39 hl rfl (by decide) (by decide) rfl (fun ls hl => ?_)
        refine lv_goto (tgt := 17) hx hb d_Ca_slotToFill_42 (by decide) ?_
        refine lv_iload_n hx hb d_Ca_slotToFill_17 rfl (lv_at hl 0 rfl) ?_
        refine lv_iconst (v := 3) hx hb d_Ca_slotToFill_18 (by decide) ?_
        refine lv_icmp_ge (tgt := 45) hx hb d_Ca_slotToFill_19 (by decide) (fun _ => ?_) (fun h => absurd h (by decide))
        refine lv_iload_n hx hb d_Ca_slotToFill_45 rfl (lv_at hl 1 rfl) ?_
        exact kx_ret_i I rfl hw () (by simp only [f_Ca_slotToFill, ← hp1, if_pos h2, if_pos h3, if_pos h4]) [0, 1, 2, 3, 4] (by decide) rfl d_Ca_slotToFill_46
      · refine lv_iload_n hx hb d_Ca_slotToFill_37 rfl (lv_at hl 0 rfl) ?_
        refine lv_istore_n (lv' := [(2, .int 2), (3, .int 2), (1, .int r1), (0, .ref h)]) hx hb d_Ca_slotToFill_38 rfl hl (by decide) rfl (fun ls hl => ?_)
        refine lv_iinc (v := 3) (k := 1) (lv' := [(3, .int 3), (2, .int 2), (1, .int r1), (0, .ref h)]) hx hb d_Ca_slotToFill_39 hl rfl (by decide) (by decide) rfl (fun ls hl => ?_)
        refine lv_goto (tgt := 17) hx hb d_Ca_slotToFill_42 (by decide) ?_
        refine lv_iload_n hx hb d_Ca_slotToFill_17 rfl (lv_at hl 0 rfl) ?_
        refine lv_iconst (v := 3) hx hb d_Ca_slotToFill_18 (by decide) ?_
        refine lv_icmp_ge (tgt := 45) hx hb d_Ca_slotToFill_19 (by decide) (fun _ => ?_) (fun h => absurd h (by decide))
        refine lv_iload_n hx hb d_Ca_slotToFill_45 rfl (lv_at hl 1 rfl) ?_
        exact kx_ret_i I rfl hw () (by simp only [f_Ca_slotToFill, ← hp1, if_pos h2, if_pos h3, if_neg h4]) [0, 1, 2, 3, 4] (by decide) rfl d_Ca_slotToFill_46
    · refine lv_iload_n hx hb d_Ca_slotToFill_37 rfl (lv_at hl 0 rfl) ?_
      refine lv_istore_n (lv' := [(2, .int 1), (3, .int 1), (1, .int r1), (0, .ref h)]) hx hb d_Ca_slotToFill_38 rfl hl (by decide) rfl (fun ls hl => ?_)
      refine lv_iinc (v := 2) (k := 1) (lv' := [(3, .int 2), (2, .int 1), (1, .int r1), (0, .ref h)]) hx hb d_Ca_slotToFill_39 hl rfl (by decide) (by decide) rfl (fun ls hl => ?_)
      refine lv_goto (tgt := 17) hx hb d_Ca_slotToFill_42 (by decide) ?_
      refine lv_iload_n hx hb d_Ca_slotToFill_17 rfl (lv_at hl 0 rfl) ?_
      refine lv_iconst (v := 3) hx hb d_Ca_slotToFill_18 (by decide) ?_
      refine lv_icmp_ge (tgt := 45) hx hb d_Ca_slotToFill_19 (by decide) (fun h => absurd h (by decide)) (fun _ => ?_)
      refine lv_aload_n hx hb d_Ca_slotToFill_22 rfl (lv_at hl 3 rfl) ?_
      refine kx_get S hw fg_Ca_22 0 rfl rfl d_Ca_slotToFill_23 ?_
      refine lv_iload_n hx hb d_Ca_slotToFill_26 rfl (lv_at hl 0 rfl) ?_
      refine kx_iald S hw 4 0 rfl rfl (j := 2) (by decide) (by unfold vp_in; decide) d_Ca_slotToFill_27 ?_
      refine lv_aload_n hx hb d_Ca_slotToFill_28 rfl (lv_at hl 3 rfl) ?_
      refine kx_get S hw fg_Ca_22 0 rfl rfl d_Ca_slotToFill_29 ?_
      refine lv_iload_n hx hb d_Ca_slotToFill_32 rfl (lv_at hl 1 rfl) ?_
      refine kx_iald S hw 4 0 rfl rfl (j := 1) (by decide) (by unfold vp_in; decide) d_Ca_slotToFill_33 ?_
      refine lv_icmp_ge (tgt := 39) hx hb d_Ca_slotToFill_34 (by decide) (fun h5 => ?_) (fun h5 => ?_)
      · refine lv_iinc (v := 3) (k := 0) (lv' := [(3, .int 3), (2, .int 1), (1, .int r1), (0, .ref h)]) hx hb d_Ca_slotToFill_39 hl rfl (by decide) (by decide) rfl (fun ls hl => ?_)
        refine lv_goto (tgt := 17) hx hb d_Ca_slotToFill_42 (by decide) ?_
        refine lv_iload_n hx hb d_Ca_slotToFill_17 rfl (lv_at hl 0 rfl) ?_
        refine lv_iconst (v := 3) hx hb d_Ca_slotToFill_18 (by decide) ?_
        refine lv_icmp_ge (tgt := 45) hx hb d_Ca_slotToFill_19 (by decide) (fun _ => ?_) (fun h => absurd h (by decide))
        refine lv_iload_n hx hb d_Ca_slotToFill_45 rfl (lv_at hl 1 rfl) ?_
        exact kx_ret_i I rfl hw () (by simp only [f_Ca_slotToFill, ← hp1, if_pos h2, if_neg h3, if_pos h5]) [0, 1, 2, 3, 4] (by decide) rfl d_Ca_slotToFill_46
      · refine lv_iload_n hx hb d_Ca_slotToFill_37 rfl (lv_at hl 0 rfl) ?_
        refine lv_istore_n (lv' := [(2, .int 2), (3, .int 2), (1, .int r1), (0, .ref h)]) hx hb d_Ca_slotToFill_38 rfl hl (by decide) rfl (fun ls hl => ?_)
        refine lv_iinc (v := 3) (k := 1) (lv' := [(3, .int 3), (2, .int 2), (1, .int r1), (0, .ref h)]) hx hb d_Ca_slotToFill_39 hl rfl (by decide) (by decide) rfl (fun ls hl => ?_)
        refine lv_goto (tgt := 17) hx hb d_Ca_slotToFill_42 (by decide) ?_
        refine lv_iload_n hx hb d_Ca_slotToFill_17 rfl (lv_at hl 0 rfl) ?_
        refine lv_iconst (v := 3) hx hb d_Ca_slotToFill_18 (by decide) ?_
        refine lv_icmp_ge (tgt := 45) hx hb d_Ca_slotToFill_19 (by decide) (fun _ => ?_) (fun h => absurd h (by decide))
        refine lv_iload_n hx hb d_Ca_slotToFill_45 rfl (lv_at hl 1 rfl) ?_
        exact kx_ret_i I rfl hw () (by simp only [f_Ca_slotToFill, ← hp1, if_pos h2, if_neg h3, if_neg h5]) [0, 1, 2, 3, 4] (by decide) rfl d_Ca_slotToFill_46
  · refine lv_iload_n hx hb d_Ca_slotToFill_11 rfl (lv_at hl 0 rfl) ?_
    exact kx_ret_i I rfl hw () (by simp only [f_Ca_slotToFill, ← hp1, if_neg h2]) [0, 1, 2, 3, 4] (by decide) rfl d_Ca_slotToFill_12
def f_Ca_dirtySlotOfLowestBlock (c : kt_Ca) : Int32 :=
  if (c.2.2.1 0) = 0 then (if (c.2.2.1 1) = 0 then (if (c.2.2.1 2) = 0 then (-1)
      else 2)
    else if (c.2.2.1 2) = 0 then 1
    else if (c.1 1) ≤ (c.1 2) then 1
    else 2)
  else if (c.2.2.1 1) = 0 then (if (c.2.2.1 2) = 0 then 0
    else if (c.1 0) ≤ (c.1 2) then 0
    else 2)
  else if (c.1 0) ≤ (c.1 1) then (if (c.2.2.1 2) = 0 then 0
    else if (c.1 0) ≤ (c.1 2) then 0
    else 2)
  else if (c.2.2.1 2) = 0 then 1
  else if (c.1 1) ≤ (c.1 2) then 1
  else 2
set_option maxHeartbeats 4000000 in
set_option maxRecDepth 100000 in
theorem c_Ca_dirtySlotOfLowestBlock (l : Launch) (D : va_G) (cI cZ cO : ClassId) (h : Nat) (a0 : Nat) (a1 : Nat) (a2 : Nat) (a3 : Nat) (c : kt_Ca) : kx_Ci (S := Unit) l y_Ca_dirtySlotOfLowestBlock b_Ca_dirtySlotOfLowestBlock 3 (some .int) 0 0 0 D (kx_T cI cZ cO) [.ref h] [(h, .inr (5, [.ref a0, .ref a1, .ref a2, .ref a3])), (a0, .inl (cI, 3, .inl c.1)), (a1, .inl (cI, 3, .inl c.2.1)), (a2, .inl (cZ, 3, .inl c.2.2.1)), (a3, .inl (cI, 3, .inl c.2.2.2))] (fun rr _ => rr = f_Ca_dirtySlotOfLowestBlock c) (fun _ => [(h, .inr (5, [.ref a0, .ref a1, .ref a2, .ref a3])), (a0, .inl (cI, 3, .inl c.1)), (a1, .inl (cI, 3, .inl c.2.1)), (a2, .inl (cZ, 3, .inl c.2.2.1)), (a3, .inl (cI, 3, .inl c.2.2.2))]) := by
  refine kx_enter_i (by decide) (Nat.le_of_ble_eq_true rfl) ?_
  intro p_ e_ s_ m_ below_ meth_ c_ ls A_ H I hl hw
  have S := I.1
  have hx := S.1
  have hb := S.2.1
  have hl : lv_has ls 3 [(0, .ref h)] := hl
  refine lv_iconst (v := (-1)) hx hb d_Ca_dirtySlotOfLowestBlock_0 (by decide) ?_
  refine lv_istore_n (lv' := [(1, .int (-1)), (0, .ref h)]) hx hb d_Ca_dirtySlotOfLowestBlock_1 rfl hl (by decide) rfl (fun ls hl => ?_)
  refine lv_iconst (v := 0) hx hb d_Ca_dirtySlotOfLowestBlock_2 (by decide) ?_
  refine lv_istore_n (lv' := [(2, .int 0), (1, .int (-1)), (0, .ref h)]) hx hb d_Ca_dirtySlotOfLowestBlock_3 rfl hl (by decide) rfl (fun ls hl => ?_)
  refine lv_iload_n hx hb d_Ca_dirtySlotOfLowestBlock_4 rfl (lv_at hl 0 rfl) ?_
  refine lv_iconst (v := 3) hx hb d_Ca_dirtySlotOfLowestBlock_5 (by decide) ?_
  refine lv_icmp_ge (tgt := 46) hx hb d_Ca_dirtySlotOfLowestBlock_6 (by decide) (fun h => absurd h (by decide)) (fun _ => ?_)
  refine lv_aload_n hx hb d_Ca_dirtySlotOfLowestBlock_9 rfl (lv_at hl 2 rfl) ?_
  refine kx_get S hw fg_Ca_18 0 rfl rfl d_Ca_dirtySlotOfLowestBlock_10 ?_
  refine lv_iload_n hx hb d_Ca_dirtySlotOfLowestBlock_13 rfl (lv_at hl 0 rfl) ?_
  refine kx_zald S hw 3 1 rfl rfl (j := 0) (by decide) (by unfold vp_in; decide) d_Ca_dirtySlotOfLowestBlock_14 ?_
  refine lv_if_eq (tgt := 40) hx hb d_Ca_dirtySlotOfLowestBlock_15 (by decide) (fun h1 => ?_) (fun h1 => ?_)
  · refine lv_iinc (v := 1) (k := 0) (lv' := [(2, .int 1), (1, .int (-1)), (0, .ref h)]) hx hb d_Ca_dirtySlotOfLowestBlock_40 hl rfl (by decide) (by decide) rfl (fun ls hl => ?_)
    refine lv_goto (tgt := 4) hx hb d_Ca_dirtySlotOfLowestBlock_43 (by decide) ?_
    refine lv_iload_n hx hb d_Ca_dirtySlotOfLowestBlock_4 rfl (lv_at hl 0 rfl) ?_
    refine lv_iconst (v := 3) hx hb d_Ca_dirtySlotOfLowestBlock_5 (by decide) ?_
    refine lv_icmp_ge (tgt := 46) hx hb d_Ca_dirtySlotOfLowestBlock_6 (by decide) (fun h => absurd h (by decide)) (fun _ => ?_)
    refine lv_aload_n hx hb d_Ca_dirtySlotOfLowestBlock_9 rfl (lv_at hl 2 rfl) ?_
    refine kx_get S hw fg_Ca_18 0 rfl rfl d_Ca_dirtySlotOfLowestBlock_10 ?_
    refine lv_iload_n hx hb d_Ca_dirtySlotOfLowestBlock_13 rfl (lv_at hl 0 rfl) ?_
    refine kx_zald S hw 3 1 rfl rfl (j := 1) (by decide) (by unfold vp_in; decide) d_Ca_dirtySlotOfLowestBlock_14 ?_
    refine lv_if_eq (tgt := 40) hx hb d_Ca_dirtySlotOfLowestBlock_15 (by decide) (fun h2 => ?_) (fun h2 => ?_)
    · refine lv_iinc (v := 2) (k := 0) (lv' := [(2, .int 2), (1, .int (-1)), (0, .ref h)]) hx hb d_Ca_dirtySlotOfLowestBlock_40 hl rfl (by decide) (by decide) rfl (fun ls hl => ?_)
      refine lv_goto (tgt := 4) hx hb d_Ca_dirtySlotOfLowestBlock_43 (by decide) ?_
      refine lv_iload_n hx hb d_Ca_dirtySlotOfLowestBlock_4 rfl (lv_at hl 0 rfl) ?_
      refine lv_iconst (v := 3) hx hb d_Ca_dirtySlotOfLowestBlock_5 (by decide) ?_
      refine lv_icmp_ge (tgt := 46) hx hb d_Ca_dirtySlotOfLowestBlock_6 (by decide) (fun h => absurd h (by decide)) (fun _ => ?_)
      refine lv_aload_n hx hb d_Ca_dirtySlotOfLowestBlock_9 rfl (lv_at hl 2 rfl) ?_
      refine kx_get S hw fg_Ca_18 0 rfl rfl d_Ca_dirtySlotOfLowestBlock_10 ?_
      refine lv_iload_n hx hb d_Ca_dirtySlotOfLowestBlock_13 rfl (lv_at hl 0 rfl) ?_
      refine kx_zald S hw 3 1 rfl rfl (j := 2) (by decide) (by unfold vp_in; decide) d_Ca_dirtySlotOfLowestBlock_14 ?_
      refine lv_if_eq (tgt := 40) hx hb d_Ca_dirtySlotOfLowestBlock_15 (by decide) (fun h3 => ?_) (fun h3 => ?_)
      · refine lv_iinc (v := 3) (k := 0) (lv' := [(2, .int 3), (1, .int (-1)), (0, .ref h)]) hx hb d_Ca_dirtySlotOfLowestBlock_40 hl rfl (by decide) (by decide) rfl (fun ls hl => ?_)
        refine lv_goto (tgt := 4) hx hb d_Ca_dirtySlotOfLowestBlock_43 (by decide) ?_
        refine lv_iload_n hx hb d_Ca_dirtySlotOfLowestBlock_4 rfl (lv_at hl 0 rfl) ?_
        refine lv_iconst (v := 3) hx hb d_Ca_dirtySlotOfLowestBlock_5 (by decide) ?_
        refine lv_icmp_ge (tgt := 46) hx hb d_Ca_dirtySlotOfLowestBlock_6 (by decide) (fun _ => ?_) (fun h => absurd h (by decide))
        refine lv_iload_n hx hb d_Ca_dirtySlotOfLowestBlock_46 rfl (lv_at hl 1 rfl) ?_
        exact kx_ret_i I rfl hw () (by simp only [f_Ca_dirtySlotOfLowestBlock, if_pos h1, if_pos h2, if_pos h3]) [0, 1, 2, 3, 4] (by decide) rfl d_Ca_dirtySlotOfLowestBlock_47
      · refine lv_iload_n hx hb d_Ca_dirtySlotOfLowestBlock_18 rfl (lv_at hl 1 rfl) ?_
        refine lv_iconst (v := (-1)) hx hb d_Ca_dirtySlotOfLowestBlock_19 (by decide) ?_
        refine lv_icmp_eq (tgt := 38) hx hb d_Ca_dirtySlotOfLowestBlock_20 (by decide) (fun _ => ?_) (fun h => absurd h (by decide))
        refine lv_iload_n hx hb d_Ca_dirtySlotOfLowestBlock_38 rfl (lv_at hl 0 rfl) ?_
        refine lv_istore_n (lv' := [(1, .int 2), (2, .int 2), (0, .ref h)]) hx hb d_Ca_dirtySlotOfLowestBlock_39 rfl hl (by decide) rfl (fun ls hl => ?_)
        refine lv_iinc (v := 3) (k := 1) (lv' := [(2, .int 3), (1, .int 2), (0, .ref h)]) hx hb d_Ca_dirtySlotOfLowestBlock_40 hl rfl (by decide) (by decide) rfl (fun ls hl => ?_)
        refine lv_goto (tgt := 4) hx hb d_Ca_dirtySlotOfLowestBlock_43 (by decide) ?_
        refine lv_iload_n hx hb d_Ca_dirtySlotOfLowestBlock_4 rfl (lv_at hl 0 rfl) ?_
        refine lv_iconst (v := 3) hx hb d_Ca_dirtySlotOfLowestBlock_5 (by decide) ?_
        refine lv_icmp_ge (tgt := 46) hx hb d_Ca_dirtySlotOfLowestBlock_6 (by decide) (fun _ => ?_) (fun h => absurd h (by decide))
        refine lv_iload_n hx hb d_Ca_dirtySlotOfLowestBlock_46 rfl (lv_at hl 1 rfl) ?_
        exact kx_ret_i I rfl hw () (by simp only [f_Ca_dirtySlotOfLowestBlock, if_pos h1, if_pos h2, if_neg h3]) [0, 1, 2, 3, 4] (by decide) rfl d_Ca_dirtySlotOfLowestBlock_47
    · refine lv_iload_n hx hb d_Ca_dirtySlotOfLowestBlock_18 rfl (lv_at hl 1 rfl) ?_
      refine lv_iconst (v := (-1)) hx hb d_Ca_dirtySlotOfLowestBlock_19 (by decide) ?_
      refine lv_icmp_eq (tgt := 38) hx hb d_Ca_dirtySlotOfLowestBlock_20 (by decide) (fun _ => ?_) (fun h => absurd h (by decide))
      refine lv_iload_n hx hb d_Ca_dirtySlotOfLowestBlock_38 rfl (lv_at hl 0 rfl) ?_
      refine lv_istore_n (lv' := [(1, .int 1), (2, .int 1), (0, .ref h)]) hx hb d_Ca_dirtySlotOfLowestBlock_39 rfl hl (by decide) rfl (fun ls hl => ?_)
      refine lv_iinc (v := 2) (k := 1) (lv' := [(2, .int 2), (1, .int 1), (0, .ref h)]) hx hb d_Ca_dirtySlotOfLowestBlock_40 hl rfl (by decide) (by decide) rfl (fun ls hl => ?_)
      refine lv_goto (tgt := 4) hx hb d_Ca_dirtySlotOfLowestBlock_43 (by decide) ?_
      refine lv_iload_n hx hb d_Ca_dirtySlotOfLowestBlock_4 rfl (lv_at hl 0 rfl) ?_
      refine lv_iconst (v := 3) hx hb d_Ca_dirtySlotOfLowestBlock_5 (by decide) ?_
      refine lv_icmp_ge (tgt := 46) hx hb d_Ca_dirtySlotOfLowestBlock_6 (by decide) (fun h => absurd h (by decide)) (fun _ => ?_)
      refine lv_aload_n hx hb d_Ca_dirtySlotOfLowestBlock_9 rfl (lv_at hl 2 rfl) ?_
      refine kx_get S hw fg_Ca_18 0 rfl rfl d_Ca_dirtySlotOfLowestBlock_10 ?_
      refine lv_iload_n hx hb d_Ca_dirtySlotOfLowestBlock_13 rfl (lv_at hl 0 rfl) ?_
      refine kx_zald S hw 3 1 rfl rfl (j := 2) (by decide) (by unfold vp_in; decide) d_Ca_dirtySlotOfLowestBlock_14 ?_
      refine lv_if_eq (tgt := 40) hx hb d_Ca_dirtySlotOfLowestBlock_15 (by decide) (fun h4 => ?_) (fun h4 => ?_)
      · refine lv_iinc (v := 3) (k := 0) (lv' := [(2, .int 3), (1, .int 1), (0, .ref h)]) hx hb d_Ca_dirtySlotOfLowestBlock_40 hl rfl (by decide) (by decide) rfl (fun ls hl => ?_)
        refine lv_goto (tgt := 4) hx hb d_Ca_dirtySlotOfLowestBlock_43 (by decide) ?_
        refine lv_iload_n hx hb d_Ca_dirtySlotOfLowestBlock_4 rfl (lv_at hl 0 rfl) ?_
        refine lv_iconst (v := 3) hx hb d_Ca_dirtySlotOfLowestBlock_5 (by decide) ?_
        refine lv_icmp_ge (tgt := 46) hx hb d_Ca_dirtySlotOfLowestBlock_6 (by decide) (fun _ => ?_) (fun h => absurd h (by decide))
        refine lv_iload_n hx hb d_Ca_dirtySlotOfLowestBlock_46 rfl (lv_at hl 1 rfl) ?_
        exact kx_ret_i I rfl hw () (by simp only [f_Ca_dirtySlotOfLowestBlock, if_pos h1, if_neg h2, if_pos h4]) [0, 1, 2, 3, 4] (by decide) rfl d_Ca_dirtySlotOfLowestBlock_47
      · refine lv_iload_n hx hb d_Ca_dirtySlotOfLowestBlock_18 rfl (lv_at hl 1 rfl) ?_
        refine lv_iconst (v := (-1)) hx hb d_Ca_dirtySlotOfLowestBlock_19 (by decide) ?_
        refine lv_icmp_eq (tgt := 38) hx hb d_Ca_dirtySlotOfLowestBlock_20 (by decide) (fun h => absurd h (by decide)) (fun _ => ?_)
        refine lv_aload_n hx hb d_Ca_dirtySlotOfLowestBlock_23 rfl (lv_at hl 2 rfl) ?_
        refine kx_get S hw fg_Ca_9 0 rfl rfl d_Ca_dirtySlotOfLowestBlock_24 ?_
        refine lv_iload_n hx hb d_Ca_dirtySlotOfLowestBlock_27 rfl (lv_at hl 0 rfl) ?_
        refine kx_iald S hw 1 0 rfl rfl (j := 2) (by decide) (by unfold vp_in; decide) d_Ca_dirtySlotOfLowestBlock_28 ?_
        refine lv_aload_n hx hb d_Ca_dirtySlotOfLowestBlock_29 rfl (lv_at hl 2 rfl) ?_
        refine kx_get S hw fg_Ca_9 0 rfl rfl d_Ca_dirtySlotOfLowestBlock_30 ?_
        refine lv_iload_n hx hb d_Ca_dirtySlotOfLowestBlock_33 rfl (lv_at hl 1 rfl) ?_
        refine kx_iald S hw 1 0 rfl rfl (j := 1) (by decide) (by unfold vp_in; decide) d_Ca_dirtySlotOfLowestBlock_34 ?_
        refine lv_icmp_ge (tgt := 40) hx hb d_Ca_dirtySlotOfLowestBlock_35 (by decide) (fun h5 => ?_) (fun h5 => ?_)
        · refine lv_iinc (v := 3) (k := 0) (lv' := [(2, .int 3), (1, .int 1), (0, .ref h)]) hx hb d_Ca_dirtySlotOfLowestBlock_40 hl rfl (by decide) (by decide) rfl (fun ls hl => ?_)
          refine lv_goto (tgt := 4) hx hb d_Ca_dirtySlotOfLowestBlock_43 (by decide) ?_
          refine lv_iload_n hx hb d_Ca_dirtySlotOfLowestBlock_4 rfl (lv_at hl 0 rfl) ?_
          refine lv_iconst (v := 3) hx hb d_Ca_dirtySlotOfLowestBlock_5 (by decide) ?_
          refine lv_icmp_ge (tgt := 46) hx hb d_Ca_dirtySlotOfLowestBlock_6 (by decide) (fun _ => ?_) (fun h => absurd h (by decide))
          refine lv_iload_n hx hb d_Ca_dirtySlotOfLowestBlock_46 rfl (lv_at hl 1 rfl) ?_
          exact kx_ret_i I rfl hw () (by simp only [f_Ca_dirtySlotOfLowestBlock, if_pos h1, if_neg h2, if_neg h4, if_pos h5]) [0, 1, 2, 3, 4] (by decide) rfl d_Ca_dirtySlotOfLowestBlock_47
        · refine lv_iload_n hx hb d_Ca_dirtySlotOfLowestBlock_38 rfl (lv_at hl 0 rfl) ?_
          refine lv_istore_n (lv' := [(1, .int 2), (2, .int 2), (0, .ref h)]) hx hb d_Ca_dirtySlotOfLowestBlock_39 rfl hl (by decide) rfl (fun ls hl => ?_)
          refine lv_iinc (v := 3) (k := 1) (lv' := [(2, .int 3), (1, .int 2), (0, .ref h)]) hx hb d_Ca_dirtySlotOfLowestBlock_40 hl rfl (by decide) (by decide) rfl (fun ls hl => ?_)
          refine lv_goto (tgt := 4) hx hb d_Ca_dirtySlotOfLowestBlock_43 (by decide) ?_
          refine lv_iload_n hx hb d_Ca_dirtySlotOfLowestBlock_4 rfl (lv_at hl 0 rfl) ?_
          refine lv_iconst (v := 3) hx hb d_Ca_dirtySlotOfLowestBlock_5 (by decide) ?_
          refine lv_icmp_ge (tgt := 46) hx hb d_Ca_dirtySlotOfLowestBlock_6 (by decide) (fun _ => ?_) (fun h => absurd h (by decide))
          refine lv_iload_n hx hb d_Ca_dirtySlotOfLowestBlock_46 rfl (lv_at hl 1 rfl) ?_
          exact kx_ret_i I rfl hw () (by simp only [f_Ca_dirtySlotOfLowestBlock, if_pos h1, if_neg h2, if_neg h4, if_neg h5]) [0, 1, 2, 3, 4] (by decide) rfl d_Ca_dirtySlotOfLowestBlock_47
  · refine lv_iload_n hx hb d_Ca_dirtySlotOfLowestBlock_18 rfl (lv_at hl 1 rfl) ?_
    refine lv_iconst (v := (-1)) hx hb d_Ca_dirtySlotOfLowestBlock_19 (by decide) ?_
    refine lv_icmp_eq (tgt := 38) hx hb d_Ca_dirtySlotOfLowestBlock_20 (by decide) (fun _ => ?_) (fun h => absurd h (by decide))
    refine lv_iload_n hx hb d_Ca_dirtySlotOfLowestBlock_38 rfl (lv_at hl 0 rfl) ?_
    refine lv_istore_n (lv' := [(1, .int 0), (2, .int 0), (0, .ref h)]) hx hb d_Ca_dirtySlotOfLowestBlock_39 rfl hl (by decide) rfl (fun ls hl => ?_)
    refine lv_iinc (v := 1) (k := 1) (lv' := [(2, .int 1), (1, .int 0), (0, .ref h)]) hx hb d_Ca_dirtySlotOfLowestBlock_40 hl rfl (by decide) (by decide) rfl (fun ls hl => ?_)
    refine lv_goto (tgt := 4) hx hb d_Ca_dirtySlotOfLowestBlock_43 (by decide) ?_
    refine lv_iload_n hx hb d_Ca_dirtySlotOfLowestBlock_4 rfl (lv_at hl 0 rfl) ?_
    refine lv_iconst (v := 3) hx hb d_Ca_dirtySlotOfLowestBlock_5 (by decide) ?_
    refine lv_icmp_ge (tgt := 46) hx hb d_Ca_dirtySlotOfLowestBlock_6 (by decide) (fun h => absurd h (by decide)) (fun _ => ?_)
    refine lv_aload_n hx hb d_Ca_dirtySlotOfLowestBlock_9 rfl (lv_at hl 2 rfl) ?_
    refine kx_get S hw fg_Ca_18 0 rfl rfl d_Ca_dirtySlotOfLowestBlock_10 ?_
    refine lv_iload_n hx hb d_Ca_dirtySlotOfLowestBlock_13 rfl (lv_at hl 0 rfl) ?_
    refine kx_zald S hw 3 1 rfl rfl (j := 1) (by decide) (by unfold vp_in; decide) d_Ca_dirtySlotOfLowestBlock_14 ?_
    refine lv_if_eq (tgt := 40) hx hb d_Ca_dirtySlotOfLowestBlock_15 (by decide) (fun h6 => ?_) (fun h6 => ?_)
    · refine lv_iinc (v := 2) (k := 0) (lv' := [(2, .int 2), (1, .int 0), (0, .ref h)]) hx hb d_Ca_dirtySlotOfLowestBlock_40 hl rfl (by decide) (by decide) rfl (fun ls hl => ?_)
      refine lv_goto (tgt := 4) hx hb d_Ca_dirtySlotOfLowestBlock_43 (by decide) ?_
      refine lv_iload_n hx hb d_Ca_dirtySlotOfLowestBlock_4 rfl (lv_at hl 0 rfl) ?_
      refine lv_iconst (v := 3) hx hb d_Ca_dirtySlotOfLowestBlock_5 (by decide) ?_
      refine lv_icmp_ge (tgt := 46) hx hb d_Ca_dirtySlotOfLowestBlock_6 (by decide) (fun h => absurd h (by decide)) (fun _ => ?_)
      refine lv_aload_n hx hb d_Ca_dirtySlotOfLowestBlock_9 rfl (lv_at hl 2 rfl) ?_
      refine kx_get S hw fg_Ca_18 0 rfl rfl d_Ca_dirtySlotOfLowestBlock_10 ?_
      refine lv_iload_n hx hb d_Ca_dirtySlotOfLowestBlock_13 rfl (lv_at hl 0 rfl) ?_
      refine kx_zald S hw 3 1 rfl rfl (j := 2) (by decide) (by unfold vp_in; decide) d_Ca_dirtySlotOfLowestBlock_14 ?_
      refine lv_if_eq (tgt := 40) hx hb d_Ca_dirtySlotOfLowestBlock_15 (by decide) (fun h7 => ?_) (fun h7 => ?_)
      · refine lv_iinc (v := 3) (k := 0) (lv' := [(2, .int 3), (1, .int 0), (0, .ref h)]) hx hb d_Ca_dirtySlotOfLowestBlock_40 hl rfl (by decide) (by decide) rfl (fun ls hl => ?_)
        refine lv_goto (tgt := 4) hx hb d_Ca_dirtySlotOfLowestBlock_43 (by decide) ?_
        refine lv_iload_n hx hb d_Ca_dirtySlotOfLowestBlock_4 rfl (lv_at hl 0 rfl) ?_
        refine lv_iconst (v := 3) hx hb d_Ca_dirtySlotOfLowestBlock_5 (by decide) ?_
        refine lv_icmp_ge (tgt := 46) hx hb d_Ca_dirtySlotOfLowestBlock_6 (by decide) (fun _ => ?_) (fun h => absurd h (by decide))
        refine lv_iload_n hx hb d_Ca_dirtySlotOfLowestBlock_46 rfl (lv_at hl 1 rfl) ?_
        exact kx_ret_i I rfl hw () (by simp only [f_Ca_dirtySlotOfLowestBlock, if_neg h1, if_pos h6, if_pos h7]) [0, 1, 2, 3, 4] (by decide) rfl d_Ca_dirtySlotOfLowestBlock_47
      · refine lv_iload_n hx hb d_Ca_dirtySlotOfLowestBlock_18 rfl (lv_at hl 1 rfl) ?_
        refine lv_iconst (v := (-1)) hx hb d_Ca_dirtySlotOfLowestBlock_19 (by decide) ?_
        refine lv_icmp_eq (tgt := 38) hx hb d_Ca_dirtySlotOfLowestBlock_20 (by decide) (fun h => absurd h (by decide)) (fun _ => ?_)
        refine lv_aload_n hx hb d_Ca_dirtySlotOfLowestBlock_23 rfl (lv_at hl 2 rfl) ?_
        refine kx_get S hw fg_Ca_9 0 rfl rfl d_Ca_dirtySlotOfLowestBlock_24 ?_
        refine lv_iload_n hx hb d_Ca_dirtySlotOfLowestBlock_27 rfl (lv_at hl 0 rfl) ?_
        refine kx_iald S hw 1 0 rfl rfl (j := 2) (by decide) (by unfold vp_in; decide) d_Ca_dirtySlotOfLowestBlock_28 ?_
        refine lv_aload_n hx hb d_Ca_dirtySlotOfLowestBlock_29 rfl (lv_at hl 2 rfl) ?_
        refine kx_get S hw fg_Ca_9 0 rfl rfl d_Ca_dirtySlotOfLowestBlock_30 ?_
        refine lv_iload_n hx hb d_Ca_dirtySlotOfLowestBlock_33 rfl (lv_at hl 1 rfl) ?_
        refine kx_iald S hw 1 0 rfl rfl (j := 0) (by decide) (by unfold vp_in; decide) d_Ca_dirtySlotOfLowestBlock_34 ?_
        refine lv_icmp_ge (tgt := 40) hx hb d_Ca_dirtySlotOfLowestBlock_35 (by decide) (fun h8 => ?_) (fun h8 => ?_)
        · refine lv_iinc (v := 3) (k := 0) (lv' := [(2, .int 3), (1, .int 0), (0, .ref h)]) hx hb d_Ca_dirtySlotOfLowestBlock_40 hl rfl (by decide) (by decide) rfl (fun ls hl => ?_)
          refine lv_goto (tgt := 4) hx hb d_Ca_dirtySlotOfLowestBlock_43 (by decide) ?_
          refine lv_iload_n hx hb d_Ca_dirtySlotOfLowestBlock_4 rfl (lv_at hl 0 rfl) ?_
          refine lv_iconst (v := 3) hx hb d_Ca_dirtySlotOfLowestBlock_5 (by decide) ?_
          refine lv_icmp_ge (tgt := 46) hx hb d_Ca_dirtySlotOfLowestBlock_6 (by decide) (fun _ => ?_) (fun h => absurd h (by decide))
          refine lv_iload_n hx hb d_Ca_dirtySlotOfLowestBlock_46 rfl (lv_at hl 1 rfl) ?_
          exact kx_ret_i I rfl hw () (by simp only [f_Ca_dirtySlotOfLowestBlock, if_neg h1, if_pos h6, if_neg h7, if_pos h8]) [0, 1, 2, 3, 4] (by decide) rfl d_Ca_dirtySlotOfLowestBlock_47
        · refine lv_iload_n hx hb d_Ca_dirtySlotOfLowestBlock_38 rfl (lv_at hl 0 rfl) ?_
          refine lv_istore_n (lv' := [(1, .int 2), (2, .int 2), (0, .ref h)]) hx hb d_Ca_dirtySlotOfLowestBlock_39 rfl hl (by decide) rfl (fun ls hl => ?_)
          refine lv_iinc (v := 3) (k := 1) (lv' := [(2, .int 3), (1, .int 2), (0, .ref h)]) hx hb d_Ca_dirtySlotOfLowestBlock_40 hl rfl (by decide) (by decide) rfl (fun ls hl => ?_)
          refine lv_goto (tgt := 4) hx hb d_Ca_dirtySlotOfLowestBlock_43 (by decide) ?_
          refine lv_iload_n hx hb d_Ca_dirtySlotOfLowestBlock_4 rfl (lv_at hl 0 rfl) ?_
          refine lv_iconst (v := 3) hx hb d_Ca_dirtySlotOfLowestBlock_5 (by decide) ?_
          refine lv_icmp_ge (tgt := 46) hx hb d_Ca_dirtySlotOfLowestBlock_6 (by decide) (fun _ => ?_) (fun h => absurd h (by decide))
          refine lv_iload_n hx hb d_Ca_dirtySlotOfLowestBlock_46 rfl (lv_at hl 1 rfl) ?_
          exact kx_ret_i I rfl hw () (by simp only [f_Ca_dirtySlotOfLowestBlock, if_neg h1, if_pos h6, if_neg h7, if_neg h8]) [0, 1, 2, 3, 4] (by decide) rfl d_Ca_dirtySlotOfLowestBlock_47
    · refine lv_iload_n hx hb d_Ca_dirtySlotOfLowestBlock_18 rfl (lv_at hl 1 rfl) ?_
      refine lv_iconst (v := (-1)) hx hb d_Ca_dirtySlotOfLowestBlock_19 (by decide) ?_
      refine lv_icmp_eq (tgt := 38) hx hb d_Ca_dirtySlotOfLowestBlock_20 (by decide) (fun h => absurd h (by decide)) (fun _ => ?_)
      refine lv_aload_n hx hb d_Ca_dirtySlotOfLowestBlock_23 rfl (lv_at hl 2 rfl) ?_
      refine kx_get S hw fg_Ca_9 0 rfl rfl d_Ca_dirtySlotOfLowestBlock_24 ?_
      refine lv_iload_n hx hb d_Ca_dirtySlotOfLowestBlock_27 rfl (lv_at hl 0 rfl) ?_
      refine kx_iald S hw 1 0 rfl rfl (j := 1) (by decide) (by unfold vp_in; decide) d_Ca_dirtySlotOfLowestBlock_28 ?_
      refine lv_aload_n hx hb d_Ca_dirtySlotOfLowestBlock_29 rfl (lv_at hl 2 rfl) ?_
      refine kx_get S hw fg_Ca_9 0 rfl rfl d_Ca_dirtySlotOfLowestBlock_30 ?_
      refine lv_iload_n hx hb d_Ca_dirtySlotOfLowestBlock_33 rfl (lv_at hl 1 rfl) ?_
      refine kx_iald S hw 1 0 rfl rfl (j := 0) (by decide) (by unfold vp_in; decide) d_Ca_dirtySlotOfLowestBlock_34 ?_
      refine lv_icmp_ge (tgt := 40) hx hb d_Ca_dirtySlotOfLowestBlock_35 (by decide) (fun h9 => ?_) (fun h9 => ?_)
      · refine lv_iinc (v := 2) (k := 0) (lv' := [(2, .int 2), (1, .int 0), (0, .ref h)]) hx hb d_Ca_dirtySlotOfLowestBlock_40 hl rfl (by decide) (by decide) rfl (fun ls hl => ?_)
        refine lv_goto (tgt := 4) hx hb d_Ca_dirtySlotOfLowestBlock_43 (by decide) ?_
        refine lv_iload_n hx hb d_Ca_dirtySlotOfLowestBlock_4 rfl (lv_at hl 0 rfl) ?_
        refine lv_iconst (v := 3) hx hb d_Ca_dirtySlotOfLowestBlock_5 (by decide) ?_
        refine lv_icmp_ge (tgt := 46) hx hb d_Ca_dirtySlotOfLowestBlock_6 (by decide) (fun h => absurd h (by decide)) (fun _ => ?_)
        refine lv_aload_n hx hb d_Ca_dirtySlotOfLowestBlock_9 rfl (lv_at hl 2 rfl) ?_
        refine kx_get S hw fg_Ca_18 0 rfl rfl d_Ca_dirtySlotOfLowestBlock_10 ?_
        refine lv_iload_n hx hb d_Ca_dirtySlotOfLowestBlock_13 rfl (lv_at hl 0 rfl) ?_
        refine kx_zald S hw 3 1 rfl rfl (j := 2) (by decide) (by unfold vp_in; decide) d_Ca_dirtySlotOfLowestBlock_14 ?_
        refine lv_if_eq (tgt := 40) hx hb d_Ca_dirtySlotOfLowestBlock_15 (by decide) (fun h10 => ?_) (fun h10 => ?_)
        · refine lv_iinc (v := 3) (k := 0) (lv' := [(2, .int 3), (1, .int 0), (0, .ref h)]) hx hb d_Ca_dirtySlotOfLowestBlock_40 hl rfl (by decide) (by decide) rfl (fun ls hl => ?_)
          refine lv_goto (tgt := 4) hx hb d_Ca_dirtySlotOfLowestBlock_43 (by decide) ?_
          refine lv_iload_n hx hb d_Ca_dirtySlotOfLowestBlock_4 rfl (lv_at hl 0 rfl) ?_
          refine lv_iconst (v := 3) hx hb d_Ca_dirtySlotOfLowestBlock_5 (by decide) ?_
          refine lv_icmp_ge (tgt := 46) hx hb d_Ca_dirtySlotOfLowestBlock_6 (by decide) (fun _ => ?_) (fun h => absurd h (by decide))
          refine lv_iload_n hx hb d_Ca_dirtySlotOfLowestBlock_46 rfl (lv_at hl 1 rfl) ?_
          exact kx_ret_i I rfl hw () (by simp only [f_Ca_dirtySlotOfLowestBlock, if_neg h1, if_neg h6, if_pos h9, if_pos h10]) [0, 1, 2, 3, 4] (by decide) rfl d_Ca_dirtySlotOfLowestBlock_47
        · refine lv_iload_n hx hb d_Ca_dirtySlotOfLowestBlock_18 rfl (lv_at hl 1 rfl) ?_
          refine lv_iconst (v := (-1)) hx hb d_Ca_dirtySlotOfLowestBlock_19 (by decide) ?_
          refine lv_icmp_eq (tgt := 38) hx hb d_Ca_dirtySlotOfLowestBlock_20 (by decide) (fun h => absurd h (by decide)) (fun _ => ?_)
          refine lv_aload_n hx hb d_Ca_dirtySlotOfLowestBlock_23 rfl (lv_at hl 2 rfl) ?_
          refine kx_get S hw fg_Ca_9 0 rfl rfl d_Ca_dirtySlotOfLowestBlock_24 ?_
          refine lv_iload_n hx hb d_Ca_dirtySlotOfLowestBlock_27 rfl (lv_at hl 0 rfl) ?_
          refine kx_iald S hw 1 0 rfl rfl (j := 2) (by decide) (by unfold vp_in; decide) d_Ca_dirtySlotOfLowestBlock_28 ?_
          refine lv_aload_n hx hb d_Ca_dirtySlotOfLowestBlock_29 rfl (lv_at hl 2 rfl) ?_
          refine kx_get S hw fg_Ca_9 0 rfl rfl d_Ca_dirtySlotOfLowestBlock_30 ?_
          refine lv_iload_n hx hb d_Ca_dirtySlotOfLowestBlock_33 rfl (lv_at hl 1 rfl) ?_
          refine kx_iald S hw 1 0 rfl rfl (j := 0) (by decide) (by unfold vp_in; decide) d_Ca_dirtySlotOfLowestBlock_34 ?_
          refine lv_icmp_ge (tgt := 40) hx hb d_Ca_dirtySlotOfLowestBlock_35 (by decide) (fun h11 => ?_) (fun h11 => ?_)
          · refine lv_iinc (v := 3) (k := 0) (lv' := [(2, .int 3), (1, .int 0), (0, .ref h)]) hx hb d_Ca_dirtySlotOfLowestBlock_40 hl rfl (by decide) (by decide) rfl (fun ls hl => ?_)
            refine lv_goto (tgt := 4) hx hb d_Ca_dirtySlotOfLowestBlock_43 (by decide) ?_
            refine lv_iload_n hx hb d_Ca_dirtySlotOfLowestBlock_4 rfl (lv_at hl 0 rfl) ?_
            refine lv_iconst (v := 3) hx hb d_Ca_dirtySlotOfLowestBlock_5 (by decide) ?_
            refine lv_icmp_ge (tgt := 46) hx hb d_Ca_dirtySlotOfLowestBlock_6 (by decide) (fun _ => ?_) (fun h => absurd h (by decide))
            refine lv_iload_n hx hb d_Ca_dirtySlotOfLowestBlock_46 rfl (lv_at hl 1 rfl) ?_
            exact kx_ret_i I rfl hw () (by simp only [f_Ca_dirtySlotOfLowestBlock, if_neg h1, if_neg h6, if_pos h9, if_neg h10, if_pos h11]) [0, 1, 2, 3, 4] (by decide) rfl d_Ca_dirtySlotOfLowestBlock_47
          · refine lv_iload_n hx hb d_Ca_dirtySlotOfLowestBlock_38 rfl (lv_at hl 0 rfl) ?_
            refine lv_istore_n (lv' := [(1, .int 2), (2, .int 2), (0, .ref h)]) hx hb d_Ca_dirtySlotOfLowestBlock_39 rfl hl (by decide) rfl (fun ls hl => ?_)
            refine lv_iinc (v := 3) (k := 1) (lv' := [(2, .int 3), (1, .int 2), (0, .ref h)]) hx hb d_Ca_dirtySlotOfLowestBlock_40 hl rfl (by decide) (by decide) rfl (fun ls hl => ?_)
            refine lv_goto (tgt := 4) hx hb d_Ca_dirtySlotOfLowestBlock_43 (by decide) ?_
            refine lv_iload_n hx hb d_Ca_dirtySlotOfLowestBlock_4 rfl (lv_at hl 0 rfl) ?_
            refine lv_iconst (v := 3) hx hb d_Ca_dirtySlotOfLowestBlock_5 (by decide) ?_
            refine lv_icmp_ge (tgt := 46) hx hb d_Ca_dirtySlotOfLowestBlock_6 (by decide) (fun _ => ?_) (fun h => absurd h (by decide))
            refine lv_iload_n hx hb d_Ca_dirtySlotOfLowestBlock_46 rfl (lv_at hl 1 rfl) ?_
            exact kx_ret_i I rfl hw () (by simp only [f_Ca_dirtySlotOfLowestBlock, if_neg h1, if_neg h6, if_pos h9, if_neg h10, if_neg h11]) [0, 1, 2, 3, 4] (by decide) rfl d_Ca_dirtySlotOfLowestBlock_47
      · refine lv_iload_n hx hb d_Ca_dirtySlotOfLowestBlock_38 rfl (lv_at hl 0 rfl) ?_
        refine lv_istore_n (lv' := [(1, .int 1), (2, .int 1), (0, .ref h)]) hx hb d_Ca_dirtySlotOfLowestBlock_39 rfl hl (by decide) rfl (fun ls hl => ?_)
        refine lv_iinc (v := 2) (k := 1) (lv' := [(2, .int 2), (1, .int 1), (0, .ref h)]) hx hb d_Ca_dirtySlotOfLowestBlock_40 hl rfl (by decide) (by decide) rfl (fun ls hl => ?_)
        refine lv_goto (tgt := 4) hx hb d_Ca_dirtySlotOfLowestBlock_43 (by decide) ?_
        refine lv_iload_n hx hb d_Ca_dirtySlotOfLowestBlock_4 rfl (lv_at hl 0 rfl) ?_
        refine lv_iconst (v := 3) hx hb d_Ca_dirtySlotOfLowestBlock_5 (by decide) ?_
        refine lv_icmp_ge (tgt := 46) hx hb d_Ca_dirtySlotOfLowestBlock_6 (by decide) (fun h => absurd h (by decide)) (fun _ => ?_)
        refine lv_aload_n hx hb d_Ca_dirtySlotOfLowestBlock_9 rfl (lv_at hl 2 rfl) ?_
        refine kx_get S hw fg_Ca_18 0 rfl rfl d_Ca_dirtySlotOfLowestBlock_10 ?_
        refine lv_iload_n hx hb d_Ca_dirtySlotOfLowestBlock_13 rfl (lv_at hl 0 rfl) ?_
        refine kx_zald S hw 3 1 rfl rfl (j := 2) (by decide) (by unfold vp_in; decide) d_Ca_dirtySlotOfLowestBlock_14 ?_
        refine lv_if_eq (tgt := 40) hx hb d_Ca_dirtySlotOfLowestBlock_15 (by decide) (fun h12 => ?_) (fun h12 => ?_)
        · refine lv_iinc (v := 3) (k := 0) (lv' := [(2, .int 3), (1, .int 1), (0, .ref h)]) hx hb d_Ca_dirtySlotOfLowestBlock_40 hl rfl (by decide) (by decide) rfl (fun ls hl => ?_)
          refine lv_goto (tgt := 4) hx hb d_Ca_dirtySlotOfLowestBlock_43 (by decide) ?_
          refine lv_iload_n hx hb d_Ca_dirtySlotOfLowestBlock_4 rfl (lv_at hl 0 rfl) ?_
          refine lv_iconst (v := 3) hx hb d_Ca_dirtySlotOfLowestBlock_5 (by decide) ?_
          refine lv_icmp_ge (tgt := 46) hx hb d_Ca_dirtySlotOfLowestBlock_6 (by decide) (fun _ => ?_) (fun h => absurd h (by decide))
          refine lv_iload_n hx hb d_Ca_dirtySlotOfLowestBlock_46 rfl (lv_at hl 1 rfl) ?_
          exact kx_ret_i I rfl hw () (by simp only [f_Ca_dirtySlotOfLowestBlock, if_neg h1, if_neg h6, if_neg h9, if_pos h12]) [0, 1, 2, 3, 4] (by decide) rfl d_Ca_dirtySlotOfLowestBlock_47
        · refine lv_iload_n hx hb d_Ca_dirtySlotOfLowestBlock_18 rfl (lv_at hl 1 rfl) ?_
          refine lv_iconst (v := (-1)) hx hb d_Ca_dirtySlotOfLowestBlock_19 (by decide) ?_
          refine lv_icmp_eq (tgt := 38) hx hb d_Ca_dirtySlotOfLowestBlock_20 (by decide) (fun h => absurd h (by decide)) (fun _ => ?_)
          refine lv_aload_n hx hb d_Ca_dirtySlotOfLowestBlock_23 rfl (lv_at hl 2 rfl) ?_
          refine kx_get S hw fg_Ca_9 0 rfl rfl d_Ca_dirtySlotOfLowestBlock_24 ?_
          refine lv_iload_n hx hb d_Ca_dirtySlotOfLowestBlock_27 rfl (lv_at hl 0 rfl) ?_
          refine kx_iald S hw 1 0 rfl rfl (j := 2) (by decide) (by unfold vp_in; decide) d_Ca_dirtySlotOfLowestBlock_28 ?_
          refine lv_aload_n hx hb d_Ca_dirtySlotOfLowestBlock_29 rfl (lv_at hl 2 rfl) ?_
          refine kx_get S hw fg_Ca_9 0 rfl rfl d_Ca_dirtySlotOfLowestBlock_30 ?_
          refine lv_iload_n hx hb d_Ca_dirtySlotOfLowestBlock_33 rfl (lv_at hl 1 rfl) ?_
          refine kx_iald S hw 1 0 rfl rfl (j := 1) (by decide) (by unfold vp_in; decide) d_Ca_dirtySlotOfLowestBlock_34 ?_
          refine lv_icmp_ge (tgt := 40) hx hb d_Ca_dirtySlotOfLowestBlock_35 (by decide) (fun h13 => ?_) (fun h13 => ?_)
          · refine lv_iinc (v := 3) (k := 0) (lv' := [(2, .int 3), (1, .int 1), (0, .ref h)]) hx hb d_Ca_dirtySlotOfLowestBlock_40 hl rfl (by decide) (by decide) rfl (fun ls hl => ?_)
            refine lv_goto (tgt := 4) hx hb d_Ca_dirtySlotOfLowestBlock_43 (by decide) ?_
            refine lv_iload_n hx hb d_Ca_dirtySlotOfLowestBlock_4 rfl (lv_at hl 0 rfl) ?_
            refine lv_iconst (v := 3) hx hb d_Ca_dirtySlotOfLowestBlock_5 (by decide) ?_
            refine lv_icmp_ge (tgt := 46) hx hb d_Ca_dirtySlotOfLowestBlock_6 (by decide) (fun _ => ?_) (fun h => absurd h (by decide))
            refine lv_iload_n hx hb d_Ca_dirtySlotOfLowestBlock_46 rfl (lv_at hl 1 rfl) ?_
            exact kx_ret_i I rfl hw () (by simp only [f_Ca_dirtySlotOfLowestBlock, if_neg h1, if_neg h6, if_neg h9, if_neg h12, if_pos h13]) [0, 1, 2, 3, 4] (by decide) rfl d_Ca_dirtySlotOfLowestBlock_47
          · refine lv_iload_n hx hb d_Ca_dirtySlotOfLowestBlock_38 rfl (lv_at hl 0 rfl) ?_
            refine lv_istore_n (lv' := [(1, .int 2), (2, .int 2), (0, .ref h)]) hx hb d_Ca_dirtySlotOfLowestBlock_39 rfl hl (by decide) rfl (fun ls hl => ?_)
            refine lv_iinc (v := 3) (k := 1) (lv' := [(2, .int 3), (1, .int 2), (0, .ref h)]) hx hb d_Ca_dirtySlotOfLowestBlock_40 hl rfl (by decide) (by decide) rfl (fun ls hl => ?_)
            refine lv_goto (tgt := 4) hx hb d_Ca_dirtySlotOfLowestBlock_43 (by decide) ?_
            refine lv_iload_n hx hb d_Ca_dirtySlotOfLowestBlock_4 rfl (lv_at hl 0 rfl) ?_
            refine lv_iconst (v := 3) hx hb d_Ca_dirtySlotOfLowestBlock_5 (by decide) ?_
            refine lv_icmp_ge (tgt := 46) hx hb d_Ca_dirtySlotOfLowestBlock_6 (by decide) (fun _ => ?_) (fun h => absurd h (by decide))
            refine lv_iload_n hx hb d_Ca_dirtySlotOfLowestBlock_46 rfl (lv_at hl 1 rfl) ?_
            exact kx_ret_i I rfl hw () (by simp only [f_Ca_dirtySlotOfLowestBlock, if_neg h1, if_neg h6, if_neg h9, if_neg h12, if_neg h13]) [0, 1, 2, 3, 4] (by decide) rfl d_Ca_dirtySlotOfLowestBlock_47
def f_Ca_hold (c : kt_Ca) (s : Int32) (b : Int32) (v : Int32) (z : Int32) : kt_Ca :=
  (upd c.1 s.toNatClampNeg b, upd c.2.1 s.toNatClampNeg v, upd c.2.2.1 s.toNatClampNeg z, c.2.2.2)
set_option maxHeartbeats 4000000 in
set_option maxRecDepth 100000 in
theorem c_Ca_hold (l : Launch) (D : va_G) (cI cZ cO : ClassId) (h : Nat) (a0 : Nat) (a1 : Nat) (a2 : Nat) (a3 : Nat) (c : kt_Ca) (s : Int32) (b : Int32) (v : Int32) (z : Int32) (hs : vp_in s 3) (bz : kx_b z) : kx_Cv (S := kt_Ca) l y_Ca_hold b_Ca_hold 5 0 0 0 D (kx_T cI cZ cO) [.ref h, .int s, .int b, .int v, .int z] [(h, .inr (5, [.ref a0, .ref a1, .ref a2, .ref a3])), (a0, .inl (cI, 3, .inl c.1)), (a1, .inl (cI, 3, .inl c.2.1)), (a2, .inl (cZ, 3, .inl c.2.2.1)), (a3, .inl (cI, 3, .inl c.2.2.2))] (fun zz => zz = f_Ca_hold c s b v z) (fun zz => [(h, .inr (5, [.ref a0, .ref a1, .ref a2, .ref a3])), (a0, .inl (cI, 3, .inl zz.1)), (a1, .inl (cI, 3, .inl zz.2.1)), (a2, .inl (cZ, 3, .inl zz.2.2.1)), (a3, .inl (cI, 3, .inl zz.2.2.2))]) := by
  refine kx_enter_v (by decide) (Nat.le_of_ble_eq_true rfl) ?_
  intro p_ e_ s_ m_ below_ meth_ c_ ls A_ H I hl hw
  have S := I.1
  have hx := S.1
  have hb := S.2.1
  have hl : lv_has ls 5 [(0, .ref h), (1, .int s), (2, .int b), (3, .int v), (4, .int z)] := hl
  refine lv_aload_n hx hb d_Ca_hold_0 rfl (lv_at hl 0 rfl) ?_
  refine kx_get S hw fg_Ca_9 0 rfl rfl d_Ca_hold_1 ?_
  refine lv_iload_n hx hb d_Ca_hold_4 rfl (lv_at hl 1 rfl) ?_
  refine lv_iload_n hx hb d_Ca_hold_5 rfl (lv_at hl 2 rfl) ?_
  refine kx_iast S hw 1 0 rfl rfl (j := s.toNatClampNeg) rfl (hs) d_Ca_hold_6 (fun H locs hw => ?_)
  have hw : kx_w D (kx_T cI cZ cO) A_ s_ [(h, .inr (5, [.ref a0, .ref a1, .ref a2, .ref a3])), (a0, .inl (cI, 3, .inl (upd c.1 s.toNatClampNeg b))), (a1, .inl (cI, 3, .inl c.2.1)), (a2, .inl (cZ, 3, .inl c.2.2.1)), (a3, .inl (cI, 3, .inl c.2.2.2))] H locs := hw
  refine lv_aload_n hx hb d_Ca_hold_7 rfl (lv_at hl 0 rfl) ?_
  refine kx_get S hw fg_Ca_15 0 rfl rfl d_Ca_hold_8 ?_
  refine lv_iload_n hx hb d_Ca_hold_11 rfl (lv_at hl 1 rfl) ?_
  refine lv_iload_n hx hb d_Ca_hold_12 rfl (lv_at hl 3 rfl) ?_
  refine kx_iast S hw 2 0 rfl rfl (j := s.toNatClampNeg) rfl (hs) d_Ca_hold_13 (fun H locs hw => ?_)
  have hw : kx_w D (kx_T cI cZ cO) A_ s_ [(h, .inr (5, [.ref a0, .ref a1, .ref a2, .ref a3])), (a0, .inl (cI, 3, .inl (upd c.1 s.toNatClampNeg b))), (a1, .inl (cI, 3, .inl (upd c.2.1 s.toNatClampNeg v))), (a2, .inl (cZ, 3, .inl c.2.2.1)), (a3, .inl (cI, 3, .inl c.2.2.2))] H locs := hw
  refine lv_aload_n hx hb d_Ca_hold_14 rfl (lv_at hl 0 rfl) ?_
  refine kx_get S hw fg_Ca_18 0 rfl rfl d_Ca_hold_15 ?_
  refine lv_iload_n hx hb d_Ca_hold_18 rfl (lv_at hl 1 rfl) ?_
  refine lv_iload hx hb d_Ca_hold_19 (lv_at hl 4 rfl) ?_
  refine kx_zast S hw 3 1 rfl rfl (j := s.toNatClampNeg) rfl bz.vnar (hs) d_Ca_hold_21 (fun H locs hw => ?_)
  have hw : kx_w D (kx_T cI cZ cO) A_ s_ [(h, .inr (5, [.ref a0, .ref a1, .ref a2, .ref a3])), (a0, .inl (cI, 3, .inl (upd c.1 s.toNatClampNeg b))), (a1, .inl (cI, 3, .inl (upd c.2.1 s.toNatClampNeg v))), (a2, .inl (cZ, 3, .inl (upd c.2.2.1 s.toNatClampNeg z))), (a3, .inl (cI, 3, .inl c.2.2.2))] H locs := hw
  exact kx_ret_v I rfl hw (upd c.1 s.toNatClampNeg b, upd c.2.1 s.toNatClampNeg v, upd c.2.2.1 s.toNatClampNeg z, c.2.2.2) (by simp only [f_Ca_hold]) [0, 1, 2, 3, 4] (by decide) rfl d_Ca_hold_22
def f_Ca_empty (c : kt_Ca) (s : Int32) : kt_Ca :=
  match f_Ca_hold c s (-1) 0 0 with
  | c1 => c1
set_option maxHeartbeats 4000000 in
set_option maxRecDepth 100000 in
theorem c_Ca_empty (l : Launch) (D : va_G) (cI cZ cO : ClassId) (h : Nat) (a0 : Nat) (a1 : Nat) (a2 : Nat) (a3 : Nat) (c : kt_Ca) (s : Int32) (hs : vp_in s 3) : kx_Cv (S := kt_Ca) l y_Ca_empty b_Ca_empty 2 1 0 0 D (kx_T cI cZ cO) [.ref h, .int s] [(h, .inr (5, [.ref a0, .ref a1, .ref a2, .ref a3])), (a0, .inl (cI, 3, .inl c.1)), (a1, .inl (cI, 3, .inl c.2.1)), (a2, .inl (cZ, 3, .inl c.2.2.1)), (a3, .inl (cI, 3, .inl c.2.2.2))] (fun zz => zz = f_Ca_empty c s) (fun zz => [(h, .inr (5, [.ref a0, .ref a1, .ref a2, .ref a3])), (a0, .inl (cI, 3, .inl zz.1)), (a1, .inl (cI, 3, .inl zz.2.1)), (a2, .inl (cZ, 3, .inl zz.2.2.1)), (a3, .inl (cI, 3, .inl zz.2.2.2))]) := by
  refine kx_enter_v (by decide) (Nat.le_of_ble_eq_true rfl) ?_
  intro p_ e_ s_ m_ below_ meth_ c_ ls A_ H I hl hw
  have S := I.1
  have hx := S.1
  have hb := S.2.1
  have hl : lv_has ls 2 [(0, .ref h), (1, .int s)] := hl
  refine lv_aload_n hx hb d_Ca_empty_0 rfl (lv_at hl 0 rfl) ?_
  refine lv_iload_n hx hb d_Ca_empty_1 rfl (lv_at hl 1 rfl) ?_
  refine lv_iconst (v := (-1)) hx hb d_Ca_empty_2 (by decide) ?_
  refine lv_iconst (v := 0) hx hb d_Ca_empty_3 (by decide) ?_
  refine lv_iconst (v := 0) hx hb d_Ca_empty_4 (by decide) ?_
  refine kx_call_v (wc := [(h, .inr (5, [.ref a0, .ref a1, .ref a2, .ref a3])), (a0, .inl (cI, 3, .inl c.1)), (a1, .inl (cI, 3, .inl c.2.1)), (a2, .inl (cZ, 3, .inl c.2.2.1)), (a3, .inl (cI, 3, .inl c.2.2.2))]) (wr := []) (rest := []) hw [0, 1, 2, 3, 4] [] rfl rfl (by decide) (by decide) (kx_runV S hw fc_Ca_35 rfl 0 rfl [0, 1, 2, 3, 4] (by decide) rfl (c_Ca_hold l D cI cZ cO h a0 a1 a2 a3 c s (-1) 0 0 (hs) (Or.inl rfl) H.size) rfl hl.1 rfl (Nat.le_of_ble_eq_true rfl) d_Ca_empty_5 (by decide) (by decide)) (fun u1 H locs hp1 hw => ?_)
  obtain ⟨c1, rfl⟩ : ∃ z, z = u1 := ⟨_, rfl⟩
  have hw : kx_w D (kx_T cI cZ cO) A_ s_ [(h, .inr (5, [.ref a0, .ref a1, .ref a2, .ref a3])), (a0, .inl (cI, 3, .inl c1.1)), (a1, .inl (cI, 3, .inl c1.2.1)), (a2, .inl (cZ, 3, .inl c1.2.2.1)), (a3, .inl (cI, 3, .inl c1.2.2.2))] H locs := hw
  exact kx_ret_v I rfl hw c1 (by simp only [f_Ca_empty, ← hp1]) [0, 1, 2, 3, 4] (by decide) rfl d_Ca_empty_8
end
