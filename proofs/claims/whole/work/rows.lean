section
-- ===== PART A: goes FIRST, ahead of the names: the tables' words, and 'selects' of the private methods out of them =====
/-- a private method of a class that the tables say can be made, by its rows of tables_1 -/
def lw_okq (q : MethodName × Nat) : Prop := (q.1.cls ≠ "java/lang/invoke/MethodHandle" ∧ q.1.cls ≠ "java/lang/invoke/VarHandle") ∧ Cond.instantiable q.1.cls q.2 ∈ tables_1 ∧ Cond.privateMethod q.1 ∈ tables_1 ∧ Cond.instanceMethod q.1 ∈ tables_1
theorem lw_p0 : lw_okq (⟨"WeWereIn$Days", "begin", "()V"⟩, 5) := ⟨⟨by decide +kernel, by decide +kernel⟩, List.mem_of_getElem? (i := 112) (by decide +kernel), List.mem_of_getElem? (i := 118) (by decide +kernel), List.mem_of_getElem? (i := 119) (by decide +kernel)⟩
theorem lw_p1 : lw_okq (⟨"WeWereIn$Text", "add", "(I)Z"⟩, 6) := ⟨⟨by decide +kernel, by decide +kernel⟩, List.mem_of_getElem? (i := 24) (by decide +kernel), List.mem_of_getElem? (i := 310) (by decide +kernel), List.mem_of_getElem? (i := 311) (by decide +kernel)⟩
theorem lw_p2 : lw_okq (⟨"WeWereIn$Text", "readInto", "(LWeWereIn$Street;)V"⟩, 6) := ⟨⟨by decide +kernel, by decide +kernel⟩, List.mem_of_getElem? (i := 24) (by decide +kernel), List.mem_of_getElem? (i := 319) (by decide +kernel), List.mem_of_getElem? (i := 320) (by decide +kernel)⟩
theorem lw_p3 : lw_okq (⟨"WeWereIn$Street", "begin", "()V"⟩, 11) := ⟨⟨by decide +kernel, by decide +kernel⟩, List.mem_of_getElem? (i := 53) (by decide +kernel), List.mem_of_getElem? (i := 323) (by decide +kernel), List.mem_of_getElem? (i := 324) (by decide +kernel)⟩
theorem lw_p4 : lw_okq (⟨"WeWereIn$Text", "peek", "()I"⟩, 6) := ⟨⟨by decide +kernel, by decide +kernel⟩, List.mem_of_getElem? (i := 24) (by decide +kernel), List.mem_of_getElem? (i := 327) (by decide +kernel), List.mem_of_getElem? (i := 328) (by decide +kernel)⟩
theorem lw_p5 : lw_okq (⟨"WeWereIn$Text", "readClause", "(LWeWereIn$Street;I)V"⟩, 6) := ⟨⟨by decide +kernel, by decide +kernel⟩, List.mem_of_getElem? (i := 24) (by decide +kernel), List.mem_of_getElem? (i := 332) (by decide +kernel), List.mem_of_getElem? (i := 333) (by decide +kernel)⟩
theorem lw_p6 : lw_okq (⟨"WeWereIn$Text", "fail", "(II)V"⟩, 6) := ⟨⟨by decide +kernel, by decide +kernel⟩, List.mem_of_getElem? (i := 24) (by decide +kernel), List.mem_of_getElem? (i := 336) (by decide +kernel), List.mem_of_getElem? (i := 337) (by decide +kernel)⟩
theorem lw_p7 : lw_okq (⟨"WeWereIn$Text", "readVan", "(LWeWereIn$Street;Z)V"⟩, 6) := ⟨⟨by decide +kernel, by decide +kernel⟩, List.mem_of_getElem? (i := 24) (by decide +kernel), List.mem_of_getElem? (i := 340) (by decide +kernel), List.mem_of_getElem? (i := 341) (by decide +kernel)⟩
theorem lw_p8 : lw_okq (⟨"WeWereIn$Text", "number", "(II)I"⟩, 6) := ⟨⟨by decide +kernel, by decide +kernel⟩, List.mem_of_getElem? (i := 24) (by decide +kernel), List.mem_of_getElem? (i := 344) (by decide +kernel), List.mem_of_getElem? (i := 345) (by decide +kernel)⟩
theorem lw_p9 : lw_okq (⟨"WeWereIn$Text", "endClause", "()V"⟩, 6) := ⟨⟨by decide +kernel, by decide +kernel⟩, List.mem_of_getElem? (i := 24) (by decide +kernel), List.mem_of_getElem? (i := 351) (by decide +kernel), List.mem_of_getElem? (i := 352) (by decide +kernel)⟩
theorem lw_p10 : lw_okq (⟨"WeWereIn$Text", "readStop", "(LWeWereIn$Street;)V"⟩, 6) := ⟨⟨by decide +kernel, by decide +kernel⟩, List.mem_of_getElem? (i := 24) (by decide +kernel), List.mem_of_getElem? (i := 355) (by decide +kernel), List.mem_of_getElem? (i := 356) (by decide +kernel)⟩
theorem lw_p11 : lw_okq (⟨"WeWereIn$Street", "addStop", "(III)V"⟩, 11) := ⟨⟨by decide +kernel, by decide +kernel⟩, List.mem_of_getElem? (i := 53) (by decide +kernel), List.mem_of_getElem? (i := 359) (by decide +kernel), List.mem_of_getElem? (i := 360) (by decide +kernel)⟩
theorem lw_p12 : lw_okq (⟨"WeWereIn$Text", "readDin", "(LWeWereIn$Street;)V"⟩, 6) := ⟨⟨by decide +kernel, by decide +kernel⟩, List.mem_of_getElem? (i := 24) (by decide +kernel), List.mem_of_getElem? (i := 363) (by decide +kernel), List.mem_of_getElem? (i := 364) (by decide +kernel)⟩
theorem lw_p13 : lw_okq (⟨"WeWereIn$Street", "addDin", "(I)V"⟩, 11) := ⟨⟨by decide +kernel, by decide +kernel⟩, List.mem_of_getElem? (i := 53) (by decide +kernel), List.mem_of_getElem? (i := 367) (by decide +kernel), List.mem_of_getElem? (i := 368) (by decide +kernel)⟩
theorem lw_p14 : lw_okq (⟨"WeWereIn$Text", "readNeighbour", "(LWeWereIn$Street;)V"⟩, 6) := ⟨⟨by decide +kernel, by decide +kernel⟩, List.mem_of_getElem? (i := 24) (by decide +kernel), List.mem_of_getElem? (i := 371) (by decide +kernel), List.mem_of_getElem? (i := 372) (by decide +kernel)⟩
theorem lw_p15 : lw_okq (⟨"WeWereIn$Street", "has", "(I)Z"⟩, 11) := ⟨⟨by decide +kernel, by decide +kernel⟩, List.mem_of_getElem? (i := 53) (by decide +kernel), List.mem_of_getElem? (i := 375) (by decide +kernel), List.mem_of_getElem? (i := 376) (by decide +kernel)⟩
def lw_privs_1 : List (MethodName × Nat) := [(⟨"WeWereIn$Days", "begin", "()V"⟩, 5), (⟨"WeWereIn$Text", "add", "(I)Z"⟩, 6), (⟨"WeWereIn$Text", "readInto", "(LWeWereIn$Street;)V"⟩, 6), (⟨"WeWereIn$Street", "begin", "()V"⟩, 11), (⟨"WeWereIn$Text", "peek", "()I"⟩, 6), (⟨"WeWereIn$Text", "readClause", "(LWeWereIn$Street;I)V"⟩, 6), (⟨"WeWereIn$Text", "fail", "(II)V"⟩, 6), (⟨"WeWereIn$Text", "readVan", "(LWeWereIn$Street;Z)V"⟩, 6), (⟨"WeWereIn$Text", "number", "(II)I"⟩, 6), (⟨"WeWereIn$Text", "endClause", "()V"⟩, 6), (⟨"WeWereIn$Text", "readStop", "(LWeWereIn$Street;)V"⟩, 6), (⟨"WeWereIn$Street", "addStop", "(III)V"⟩, 11), (⟨"WeWereIn$Text", "readDin", "(LWeWereIn$Street;)V"⟩, 6), (⟨"WeWereIn$Street", "addDin", "(I)V"⟩, 11), (⟨"WeWereIn$Text", "readNeighbour", "(LWeWereIn$Street;)V"⟩, 6), (⟨"WeWereIn$Street", "has", "(I)Z"⟩, 11)]
theorem lw_r1 : ∀ q ∈ lw_privs_1, lw_okq q := List.forall_mem_cons.mpr ⟨lw_p0, List.forall_mem_cons.mpr ⟨lw_p1, List.forall_mem_cons.mpr ⟨lw_p2, List.forall_mem_cons.mpr ⟨lw_p3, List.forall_mem_cons.mpr ⟨lw_p4, List.forall_mem_cons.mpr ⟨lw_p5, List.forall_mem_cons.mpr ⟨lw_p6, List.forall_mem_cons.mpr ⟨lw_p7, List.forall_mem_cons.mpr ⟨lw_p8, List.forall_mem_cons.mpr ⟨lw_p9, List.forall_mem_cons.mpr ⟨lw_p10, List.forall_mem_cons.mpr ⟨lw_p11, List.forall_mem_cons.mpr ⟨lw_p12, List.forall_mem_cons.mpr ⟨lw_p13, List.forall_mem_cons.mpr ⟨lw_p14, List.forall_mem_cons.mpr ⟨lw_p15, fun _ h => absurd h List.not_mem_nil⟩⟩⟩⟩⟩⟩⟩⟩⟩⟩⟩⟩⟩⟩⟩⟩
theorem lw_p16 : lw_okq (⟨"WeWereIn$Text", "empty", "()V"⟩, 6) := ⟨⟨by decide +kernel, by decide +kernel⟩, List.mem_of_getElem? (i := 24) (by decide +kernel), List.mem_of_getElem? (i := 379) (by decide +kernel), List.mem_of_getElem? (i := 380) (by decide +kernel)⟩
theorem lw_p17 : lw_okq (⟨"WeWereIn$Street", "copy", "(LWeWereIn$Street;)V"⟩, 11) := ⟨⟨by decide +kernel, by decide +kernel⟩, List.mem_of_getElem? (i := 53) (by decide +kernel), List.mem_of_getElem? (i := 383) (by decide +kernel), List.mem_of_getElem? (i := 384) (by decide +kernel)⟩
theorem lw_p18 : lw_okq (⟨"WeWereIn$Past", "forget", "()V"⟩, 3) := ⟨⟨by decide +kernel, by decide +kernel⟩, List.mem_of_getElem? (i := 188) (by decide +kernel), List.mem_of_getElem? (i := 391) (by decide +kernel), List.mem_of_getElem? (i := 392) (by decide +kernel)⟩
theorem lw_p19 : lw_okq (⟨"WeWereIn$Seen", "forget", "()V"⟩, 3) := ⟨⟨by decide +kernel, by decide +kernel⟩, List.mem_of_getElem? (i := 208) (by decide +kernel), List.mem_of_getElem? (i := 395) (by decide +kernel), List.mem_of_getElem? (i := 396) (by decide +kernel)⟩
theorem lw_p20 : lw_okq (⟨"WeWereIn$Book", "forget", "()V"⟩, 3) := ⟨⟨by decide +kernel, by decide +kernel⟩, List.mem_of_getElem? (i := 226) (by decide +kernel), List.mem_of_getElem? (i := 399) (by decide +kernel), List.mem_of_getElem? (i := 400) (by decide +kernel)⟩
theorem lw_p21 : lw_okq (⟨"WeWereIn$Days", "which", "(II)I"⟩, 5) := ⟨⟨by decide +kernel, by decide +kernel⟩, List.mem_of_getElem? (i := 112) (by decide +kernel), List.mem_of_getElem? (i := 411) (by decide +kernel), List.mem_of_getElem? (i := 412) (by decide +kernel)⟩
theorem lw_p22 : lw_okq (⟨"WeWereIn$Street", "dinOf", "(I)I"⟩, 11) := ⟨⟨by decide +kernel, by decide +kernel⟩, List.mem_of_getElem? (i := 53) (by decide +kernel), List.mem_of_getElem? (i := 425) (by decide +kernel), List.mem_of_getElem? (i := 426) (by decide +kernel)⟩
theorem lw_p23 : lw_okq (⟨"WeWereIn", "refusalOfTrip", "(II)I"⟩, 12) := ⟨⟨by decide +kernel, by decide +kernel⟩, List.mem_of_getElem? (i := 16) (by decide +kernel), List.mem_of_getElem? (i := 433) (by decide +kernel), List.mem_of_getElem? (i := 434) (by decide +kernel)⟩
theorem lw_p24 : lw_okq (⟨"WeWereIn$Street", "isWay", "(I)Z"⟩, 11) := ⟨⟨by decide +kernel, by decide +kernel⟩, List.mem_of_getElem? (i := 53) (by decide +kernel), List.mem_of_getElem? (i := 437) (by decide +kernel), List.mem_of_getElem? (i := 438) (by decide +kernel)⟩
theorem lw_p25 : lw_okq (⟨"WeWereIn$Past", "push", "(LWeWereIn$Days;)V"⟩, 3) := ⟨⟨by decide +kernel, by decide +kernel⟩, List.mem_of_getElem? (i := 188) (by decide +kernel), List.mem_of_getElem? (i := 442) (by decide +kernel), List.mem_of_getElem? (i := 443) (by decide +kernel)⟩
theorem lw_p26 : lw_okq (⟨"WeWereIn$Days", "copy", "(LWeWereIn$Days;)V"⟩, 5) := ⟨⟨by decide +kernel, by decide +kernel⟩, List.mem_of_getElem? (i := 112) (by decide +kernel), List.mem_of_getElem? (i := 446) (by decide +kernel), List.mem_of_getElem? (i := 447) (by decide +kernel)⟩
theorem lw_p27 : lw_okq (⟨"WeWereIn", "drive", "(II)V"⟩, 12) := ⟨⟨by decide +kernel, by decide +kernel⟩, List.mem_of_getElem? (i := 16) (by decide +kernel), List.mem_of_getElem? (i := 454) (by decide +kernel), List.mem_of_getElem? (i := 455) (by decide +kernel)⟩
theorem lw_p28 : lw_okq (⟨"WeWereIn$Trip", "run", "(LWeWereIn$Street;ILWeWereIn$Days;I)V"⟩, 8) := ⟨⟨by decide +kernel, by decide +kernel⟩, List.mem_of_getElem? (i := 150) (by decide +kernel), List.mem_of_getElem? (i := 458) (by decide +kernel), List.mem_of_getElem? (i := 459) (by decide +kernel)⟩
theorem lw_p29 : lw_okq (⟨"WeWereIn$Trip", "begin", "(LWeWereIn$Days;)V"⟩, 8) := ⟨⟨by decide +kernel, by decide +kernel⟩, List.mem_of_getElem? (i := 150) (by decide +kernel), List.mem_of_getElem? (i := 462) (by decide +kernel), List.mem_of_getElem? (i := 463) (by decide +kernel)⟩
theorem lw_p30 : lw_okq (⟨"WeWereIn$Trip", "call", "(LWeWereIn$Street;II)V"⟩, 8) := ⟨⟨by decide +kernel, by decide +kernel⟩, List.mem_of_getElem? (i := 150) (by decide +kernel), List.mem_of_getElem? (i := 471) (by decide +kernel), List.mem_of_getElem? (i := 472) (by decide +kernel)⟩
theorem lw_p31 : lw_okq (⟨"WeWereIn$Street", "secondsBetween", "(II)I"⟩, 11) := ⟨⟨by decide +kernel, by decide +kernel⟩, List.mem_of_getElem? (i := 53) (by decide +kernel), List.mem_of_getElem? (i := 475) (by decide +kernel), List.mem_of_getElem? (i := 476) (by decide +kernel)⟩
def lw_privs_2 : List (MethodName × Nat) := [(⟨"WeWereIn$Text", "empty", "()V"⟩, 6), (⟨"WeWereIn$Street", "copy", "(LWeWereIn$Street;)V"⟩, 11), (⟨"WeWereIn$Past", "forget", "()V"⟩, 3), (⟨"WeWereIn$Seen", "forget", "()V"⟩, 3), (⟨"WeWereIn$Book", "forget", "()V"⟩, 3), (⟨"WeWereIn$Days", "which", "(II)I"⟩, 5), (⟨"WeWereIn$Street", "dinOf", "(I)I"⟩, 11), (⟨"WeWereIn", "refusalOfTrip", "(II)I"⟩, 12), (⟨"WeWereIn$Street", "isWay", "(I)Z"⟩, 11), (⟨"WeWereIn$Past", "push", "(LWeWereIn$Days;)V"⟩, 3), (⟨"WeWereIn$Days", "copy", "(LWeWereIn$Days;)V"⟩, 5), (⟨"WeWereIn", "drive", "(II)V"⟩, 12), (⟨"WeWereIn$Trip", "run", "(LWeWereIn$Street;ILWeWereIn$Days;I)V"⟩, 8), (⟨"WeWereIn$Trip", "begin", "(LWeWereIn$Days;)V"⟩, 8), (⟨"WeWereIn$Trip", "call", "(LWeWereIn$Street;II)V"⟩, 8), (⟨"WeWereIn$Street", "secondsBetween", "(II)I"⟩, 11)]
theorem lw_r2 : ∀ q ∈ lw_privs_2, lw_okq q := List.forall_mem_cons.mpr ⟨lw_p16, List.forall_mem_cons.mpr ⟨lw_p17, List.forall_mem_cons.mpr ⟨lw_p18, List.forall_mem_cons.mpr ⟨lw_p19, List.forall_mem_cons.mpr ⟨lw_p20, List.forall_mem_cons.mpr ⟨lw_p21, List.forall_mem_cons.mpr ⟨lw_p22, List.forall_mem_cons.mpr ⟨lw_p23, List.forall_mem_cons.mpr ⟨lw_p24, List.forall_mem_cons.mpr ⟨lw_p25, List.forall_mem_cons.mpr ⟨lw_p26, List.forall_mem_cons.mpr ⟨lw_p27, List.forall_mem_cons.mpr ⟨lw_p28, List.forall_mem_cons.mpr ⟨lw_p29, List.forall_mem_cons.mpr ⟨lw_p30, List.forall_mem_cons.mpr ⟨lw_p31, fun _ h => absurd h List.not_mem_nil⟩⟩⟩⟩⟩⟩⟩⟩⟩⟩⟩⟩⟩⟩⟩⟩
theorem lw_p32 : lw_okq (⟨"WeWereIn$Days", "counts", "(I)Z"⟩, 5) := ⟨⟨by decide +kernel, by decide +kernel⟩, List.mem_of_getElem? (i := 112) (by decide +kernel), List.mem_of_getElem? (i := 482) (by decide +kernel), List.mem_of_getElem? (i := 483) (by decide +kernel)⟩
theorem lw_p33 : lw_okq (⟨"WeWereIn$Street", "meets", "(IIZI)I"⟩, 11) := ⟨⟨by decide +kernel, by decide +kernel⟩, List.mem_of_getElem? (i := 53) (by decide +kernel), List.mem_of_getElem? (i := 489) (by decide +kernel), List.mem_of_getElem? (i := 490) (by decide +kernel)⟩
theorem lw_p34 : lw_okq (⟨"WeWereIn$Street", "isIn", "(II)Z"⟩, 11) := ⟨⟨by decide +kernel, by decide +kernel⟩, List.mem_of_getElem? (i := 53) (by decide +kernel), List.mem_of_getElem? (i := 493) (by decide +kernel), List.mem_of_getElem? (i := 494) (by decide +kernel)⟩
theorem lw_p35 : lw_okq (⟨"WeWereIn$Street", "secondsAtDoor", "(ZI)I"⟩, 11) := ⟨⟨by decide +kernel, by decide +kernel⟩, List.mem_of_getElem? (i := 53) (by decide +kernel), List.mem_of_getElem? (i := 499) (by decide +kernel), List.mem_of_getElem? (i := 500) (by decide +kernel)⟩
theorem lw_p36 : lw_okq (⟨"WeWereIn$Street", "risingWay", "()I"⟩, 11) := ⟨⟨by decide +kernel, by decide +kernel⟩, List.mem_of_getElem? (i := 53) (by decide +kernel), List.mem_of_getElem? (i := 527) (by decide +kernel), List.mem_of_getElem? (i := 528) (by decide +kernel)⟩
theorem lw_p37 : lw_okq (⟨"WeWereIn", "orderByDraw", "()V"⟩, 12) := ⟨⟨by decide +kernel, by decide +kernel⟩, List.mem_of_getElem? (i := 16) (by decide +kernel), List.mem_of_getElem? (i := 531) (by decide +kernel), List.mem_of_getElem? (i := 532) (by decide +kernel)⟩
theorem lw_p38 : lw_okq (⟨"WeWereIn", "draw", "(I)I"⟩, 12) := ⟨⟨by decide +kernel, by decide +kernel⟩, List.mem_of_getElem? (i := 16) (by decide +kernel), List.mem_of_getElem? (i := 535) (by decide +kernel), List.mem_of_getElem? (i := 536) (by decide +kernel)⟩
theorem lw_p39 : lw_okq (⟨"WeWereIn$Past", "pop", "(ILWeWereIn$Days;)V"⟩, 3) := ⟨⟨by decide +kernel, by decide +kernel⟩, List.mem_of_getElem? (i := 188) (by decide +kernel), List.mem_of_getElem? (i := 547) (by decide +kernel), List.mem_of_getElem? (i := 548) (by decide +kernel)⟩
theorem lw_p40 : lw_okq (⟨"WeWereIn$Search", "seek", "()V"⟩, 8) := ⟨⟨by decide +kernel, by decide +kernel⟩, List.mem_of_getElem? (i := 572) (by decide +kernel), List.mem_of_getElem? (i := 608) (by decide +kernel), List.mem_of_getElem? (i := 609) (by decide +kernel)⟩
theorem lw_p41 : lw_okq (⟨"WeWereIn$Search", "canBeat", "(II)Z"⟩, 8) := ⟨⟨by decide +kernel, by decide +kernel⟩, List.mem_of_getElem? (i := 572) (by decide +kernel), List.mem_of_getElem? (i := 616) (by decide +kernel), List.mem_of_getElem? (i := 617) (by decide +kernel)⟩
theorem lw_p42 : lw_okq (⟨"WeWereIn$Search", "settle", "(III)V"⟩, 8) := ⟨⟨by decide +kernel, by decide +kernel⟩, List.mem_of_getElem? (i := 572) (by decide +kernel), List.mem_of_getElem? (i := 620) (by decide +kernel), List.mem_of_getElem? (i := 621) (by decide +kernel)⟩
theorem lw_p43 : lw_okq (⟨"WeWereIn$Street", "countNear", "(III)I"⟩, 11) := ⟨⟨by decide +kernel, by decide +kernel⟩, List.mem_of_getElem? (i := 53) (by decide +kernel), List.mem_of_getElem? (i := 635) (by decide +kernel), List.mem_of_getElem? (i := 636) (by decide +kernel)⟩
theorem lw_p44 : lw_okq (⟨"WeWereIn$Seen", "add", "(IZ)Z"⟩, 3) := ⟨⟨by decide +kernel, by decide +kernel⟩, List.mem_of_getElem? (i := 208) (by decide +kernel), List.mem_of_getElem? (i := 653) (by decide +kernel), List.mem_of_getElem? (i := 654) (by decide +kernel)⟩
theorem lw_p45 : lw_okq (⟨"WeWereIn$Seen", "fits", "(I)Z"⟩, 3) := ⟨⟨by decide +kernel, by decide +kernel⟩, List.mem_of_getElem? (i := 208) (by decide +kernel), List.mem_of_getElem? (i := 661) (by decide +kernel), List.mem_of_getElem? (i := 662) (by decide +kernel)⟩
theorem lw_p46 : lw_okq (⟨"WeWereIn", "bestToAsk", "(I)I"⟩, 12) := ⟨⟨by decide +kernel, by decide +kernel⟩, List.mem_of_getElem? (i := 16) (by decide +kernel), List.mem_of_getElem? (i := 665) (by decide +kernel), List.mem_of_getElem? (i := 666) (by decide +kernel)⟩
theorem lw_p47 : lw_okq (⟨"WeWereIn$Book", "add", "(II)Z"⟩, 3) := ⟨⟨by decide +kernel, by decide +kernel⟩, List.mem_of_getElem? (i := 226) (by decide +kernel), List.mem_of_getElem? (i := 677) (by decide +kernel), List.mem_of_getElem? (i := 678) (by decide +kernel)⟩
def lw_privs_3 : List (MethodName × Nat) := [(⟨"WeWereIn$Days", "counts", "(I)Z"⟩, 5), (⟨"WeWereIn$Street", "meets", "(IIZI)I"⟩, 11), (⟨"WeWereIn$Street", "isIn", "(II)Z"⟩, 11), (⟨"WeWereIn$Street", "secondsAtDoor", "(ZI)I"⟩, 11), (⟨"WeWereIn$Street", "risingWay", "()I"⟩, 11), (⟨"WeWereIn", "orderByDraw", "()V"⟩, 12), (⟨"WeWereIn", "draw", "(I)I"⟩, 12), (⟨"WeWereIn$Past", "pop", "(ILWeWereIn$Days;)V"⟩, 3), (⟨"WeWereIn$Search", "seek", "()V"⟩, 8), (⟨"WeWereIn$Search", "canBeat", "(II)Z"⟩, 8), (⟨"WeWereIn$Search", "settle", "(III)V"⟩, 8), (⟨"WeWereIn$Street", "countNear", "(III)I"⟩, 11), (⟨"WeWereIn$Seen", "add", "(IZ)Z"⟩, 3), (⟨"WeWereIn$Seen", "fits", "(I)Z"⟩, 3), (⟨"WeWereIn", "bestToAsk", "(I)I"⟩, 12), (⟨"WeWereIn$Book", "add", "(II)Z"⟩, 3)]
theorem lw_r3 : ∀ q ∈ lw_privs_3, lw_okq q := List.forall_mem_cons.mpr ⟨lw_p32, List.forall_mem_cons.mpr ⟨lw_p33, List.forall_mem_cons.mpr ⟨lw_p34, List.forall_mem_cons.mpr ⟨lw_p35, List.forall_mem_cons.mpr ⟨lw_p36, List.forall_mem_cons.mpr ⟨lw_p37, List.forall_mem_cons.mpr ⟨lw_p38, List.forall_mem_cons.mpr ⟨lw_p39, List.forall_mem_cons.mpr ⟨lw_p40, List.forall_mem_cons.mpr ⟨lw_p41, List.forall_mem_cons.mpr ⟨lw_p42, List.forall_mem_cons.mpr ⟨lw_p43, List.forall_mem_cons.mpr ⟨lw_p44, List.forall_mem_cons.mpr ⟨lw_p45, List.forall_mem_cons.mpr ⟨lw_p46, List.forall_mem_cons.mpr ⟨lw_p47, fun _ h => absurd h List.not_mem_nil⟩⟩⟩⟩⟩⟩⟩⟩⟩⟩⟩⟩⟩⟩⟩⟩
theorem lw_p48 : lw_okq (⟨"WeWereIn$Book", "firstWrong", "(LWeWereIn$Days;)I"⟩, 3) := ⟨⟨by decide +kernel, by decide +kernel⟩, List.mem_of_getElem? (i := 226) (by decide +kernel), List.mem_of_getElem? (i := 685) (by decide +kernel), List.mem_of_getElem? (i := 686) (by decide +kernel)⟩
theorem lw_p49 : lw_okq (⟨"WeWereInModel", "here", "()I"⟩, 31) := ⟨⟨by decide +kernel, by decide +kernel⟩, List.mem_of_getElem? (i := 705) (by decide +kernel), List.mem_of_getElem? (i := 819) (by decide +kernel), List.mem_of_getElem? (i := 820) (by decide +kernel)⟩
theorem lw_p50 : lw_okq (⟨"WeWereInModel", "takeClause", "()V"⟩, 31) := ⟨⟨by decide +kernel, by decide +kernel⟩, List.mem_of_getElem? (i := 705) (by decide +kernel), List.mem_of_getElem? (i := 823) (by decide +kernel), List.mem_of_getElem? (i := 824) (by decide +kernel)⟩
theorem lw_p51 : lw_okq (⟨"WeWereInModel", "want", "(ZII)Z"⟩, 31) := ⟨⟨by decide +kernel, by decide +kernel⟩, List.mem_of_getElem? (i := 705) (by decide +kernel), List.mem_of_getElem? (i := 827) (by decide +kernel), List.mem_of_getElem? (i := 828) (by decide +kernel)⟩
theorem lw_p52 : lw_okq (⟨"WeWereInModel", "takeRule", "(I)V"⟩, 31) := ⟨⟨by decide +kernel, by decide +kernel⟩, List.mem_of_getElem? (i := 705) (by decide +kernel), List.mem_of_getElem? (i := 831) (by decide +kernel), List.mem_of_getElem? (i := 832) (by decide +kernel)⟩
theorem lw_p53 : lw_okq (⟨"WeWereInModel", "takeIn", "(II)I"⟩, 31) := ⟨⟨by decide +kernel, by decide +kernel⟩, List.mem_of_getElem? (i := 705) (by decide +kernel), List.mem_of_getElem? (i := 835) (by decide +kernel), List.mem_of_getElem? (i := 836) (by decide +kernel)⟩
theorem lw_p54 : lw_okq (⟨"WeWereInModel", "takeNumber", "()I"⟩, 31) := ⟨⟨by decide +kernel, by decide +kernel⟩, List.mem_of_getElem? (i := 705) (by decide +kernel), List.mem_of_getElem? (i := 839) (by decide +kernel), List.mem_of_getElem? (i := 840) (by decide +kernel)⟩
theorem lw_p55 : lw_okq (⟨"WeWereInModel", "takeStop", "(I)V"⟩, 31) := ⟨⟨by decide +kernel, by decide +kernel⟩, List.mem_of_getElem? (i := 705) (by decide +kernel), List.mem_of_getElem? (i := 846) (by decide +kernel), List.mem_of_getElem? (i := 847) (by decide +kernel)⟩
theorem lw_p56 : lw_okq (⟨"WeWereInModel", "takeDins", "(I)V"⟩, 31) := ⟨⟨by decide +kernel, by decide +kernel⟩, List.mem_of_getElem? (i := 705) (by decide +kernel), List.mem_of_getElem? (i := 850) (by decide +kernel), List.mem_of_getElem? (i := 851) (by decide +kernel)⟩
theorem lw_p57 : lw_okq (⟨"WeWereInModel", "takeNeighbour", "()V"⟩, 31) := ⟨⟨by decide +kernel, by decide +kernel⟩, List.mem_of_getElem? (i := 705) (by decide +kernel), List.mem_of_getElem? (i := 854) (by decide +kernel), List.mem_of_getElem? (i := 855) (by decide +kernel)⟩
theorem lw_p58 : lw_okq (⟨"WeWereInModel", "take", "()V"⟩, 31) := ⟨⟨by decide +kernel, by decide +kernel⟩, List.mem_of_getElem? (i := 705) (by decide +kernel), List.mem_of_getElem? (i := 858) (by decide +kernel), List.mem_of_getElem? (i := 859) (by decide +kernel)⟩
theorem lw_p59 : lw_okq (⟨"WeWereInModel", "which", "(I)I"⟩, 31) := ⟨⟨by decide +kernel, by decide +kernel⟩, List.mem_of_getElem? (i := 705) (by decide +kernel), List.mem_of_getElem? (i := 870) (by decide +kernel), List.mem_of_getElem? (i := 871) (by decide +kernel)⟩
theorem lw_p60 : lw_okq (⟨"WeWereInModel", "isStop", "(I)Z"⟩, 31) := ⟨⟨by decide +kernel, by decide +kernel⟩, List.mem_of_getElem? (i := 705) (by decide +kernel), List.mem_of_getElem? (i := 881) (by decide +kernel), List.mem_of_getElem? (i := 882) (by decide +kernel)⟩
theorem lw_p61 : lw_okq (⟨"WeWereInModel", "dinAt", "(I)I"⟩, 31) := ⟨⟨by decide +kernel, by decide +kernel⟩, List.mem_of_getElem? (i := 705) (by decide +kernel), List.mem_of_getElem? (i := 891) (by decide +kernel), List.mem_of_getElem? (i := 892) (by decide +kernel)⟩
theorem lw_p62 : lw_okq (⟨"WeWereInModel", "isWay", "(I)Z"⟩, 31) := ⟨⟨by decide +kernel, by decide +kernel⟩, List.mem_of_getElem? (i := 705) (by decide +kernel), List.mem_of_getElem? (i := 899) (by decide +kernel), List.mem_of_getElem? (i := 900) (by decide +kernel)⟩
theorem lw_p63 : lw_okq (⟨"WeWereInModel", "remember", "()V"⟩, 31) := ⟨⟨by decide +kernel, by decide +kernel⟩, List.mem_of_getElem? (i := 705) (by decide +kernel), List.mem_of_getElem? (i := 910) (by decide +kernel), List.mem_of_getElem? (i := 911) (by decide +kernel)⟩
def lw_privs_4 : List (MethodName × Nat) := [(⟨"WeWereIn$Book", "firstWrong", "(LWeWereIn$Days;)I"⟩, 3), (⟨"WeWereInModel", "here", "()I"⟩, 31), (⟨"WeWereInModel", "takeClause", "()V"⟩, 31), (⟨"WeWereInModel", "want", "(ZII)Z"⟩, 31), (⟨"WeWereInModel", "takeRule", "(I)V"⟩, 31), (⟨"WeWereInModel", "takeIn", "(II)I"⟩, 31), (⟨"WeWereInModel", "takeNumber", "()I"⟩, 31), (⟨"WeWereInModel", "takeStop", "(I)V"⟩, 31), (⟨"WeWereInModel", "takeDins", "(I)V"⟩, 31), (⟨"WeWereInModel", "takeNeighbour", "()V"⟩, 31), (⟨"WeWereInModel", "take", "()V"⟩, 31), (⟨"WeWereInModel", "which", "(I)I"⟩, 31), (⟨"WeWereInModel", "isStop", "(I)Z"⟩, 31), (⟨"WeWereInModel", "dinAt", "(I)I"⟩, 31), (⟨"WeWereInModel", "isWay", "(I)Z"⟩, 31), (⟨"WeWereInModel", "remember", "()V"⟩, 31)]
theorem lw_r4 : ∀ q ∈ lw_privs_4, lw_okq q := List.forall_mem_cons.mpr ⟨lw_p48, List.forall_mem_cons.mpr ⟨lw_p49, List.forall_mem_cons.mpr ⟨lw_p50, List.forall_mem_cons.mpr ⟨lw_p51, List.forall_mem_cons.mpr ⟨lw_p52, List.forall_mem_cons.mpr ⟨lw_p53, List.forall_mem_cons.mpr ⟨lw_p54, List.forall_mem_cons.mpr ⟨lw_p55, List.forall_mem_cons.mpr ⟨lw_p56, List.forall_mem_cons.mpr ⟨lw_p57, List.forall_mem_cons.mpr ⟨lw_p58, List.forall_mem_cons.mpr ⟨lw_p59, List.forall_mem_cons.mpr ⟨lw_p60, List.forall_mem_cons.mpr ⟨lw_p61, List.forall_mem_cons.mpr ⟨lw_p62, List.forall_mem_cons.mpr ⟨lw_p63, fun _ h => absurd h List.not_mem_nil⟩⟩⟩⟩⟩⟩⟩⟩⟩⟩⟩⟩⟩⟩⟩⟩
theorem lw_p64 : lw_okq (⟨"WeWereInModel", "copy", "(II)V"⟩, 31) := ⟨⟨by decide +kernel, by decide +kernel⟩, List.mem_of_getElem? (i := 705) (by decide +kernel), List.mem_of_getElem? (i := 914) (by decide +kernel), List.mem_of_getElem? (i := 915) (by decide +kernel)⟩
theorem lw_p65 : lw_okq (⟨"WeWereInModel", "roundIn", "(III)I"⟩, 31) := ⟨⟨by decide +kernel, by decide +kernel⟩, List.mem_of_getElem? (i := 705) (by decide +kernel), List.mem_of_getElem? (i := 918) (by decide +kernel), List.mem_of_getElem? (i := 919) (by decide +kernel)⟩
theorem lw_p66 : lw_okq (⟨"WeWereInModel", "visit", "(IIIZ)I"⟩, 31) := ⟨⟨by decide +kernel, by decide +kernel⟩, List.mem_of_getElem? (i := 705) (by decide +kernel), List.mem_of_getElem? (i := 931) (by decide +kernel), List.mem_of_getElem? (i := 932) (by decide +kernel)⟩
theorem lw_p67 : lw_okq (⟨"WeWereInModel", "isInAt", "(II)Z"⟩, 31) := ⟨⟨by decide +kernel, by decide +kernel⟩, List.mem_of_getElem? (i := 705) (by decide +kernel), List.mem_of_getElem? (i := 935) (by decide +kernel), List.mem_of_getElem? (i := 936) (by decide +kernel)⟩
theorem lw_p68 : lw_okq (⟨"WeWereInModel", "draw", "(I)I"⟩, 31) := ⟨⟨by decide +kernel, by decide +kernel⟩, List.mem_of_getElem? (i := 705) (by decide +kernel), List.mem_of_getElem? (i := 957) (by decide +kernel), List.mem_of_getElem? (i := 958) (by decide +kernel)⟩
theorem lw_p69 : lw_okq (⟨"WeWereInModel", "tryRound", "(II)I"⟩, 31) := ⟨⟨by decide +kernel, by decide +kernel⟩, List.mem_of_getElem? (i := 705) (by decide +kernel), List.mem_of_getElem? (i := 974) (by decide +kernel), List.mem_of_getElem? (i := 975) (by decide +kernel)⟩
theorem lw_p70 : lw_okq (⟨"WeWereInModel", "comesTo", "(II)I"⟩, 31) := ⟨⟨by decide +kernel, by decide +kernel⟩, List.mem_of_getElem? (i := 705) (by decide +kernel), List.mem_of_getElem? (i := 991) (by decide +kernel), List.mem_of_getElem? (i := 992) (by decide +kernel)⟩
theorem lw_p71 : lw_okq (⟨"WeWereInModel", "counting", "()I"⟩, 31) := ⟨⟨by decide +kernel, by decide +kernel⟩, List.mem_of_getElem? (i := 705) (by decide +kernel), List.mem_of_getElem? (i := 1000) (by decide +kernel), List.mem_of_getElem? (i := 1001) (by decide +kernel)⟩
theorem lw_p72 : lw_okq (⟨"WeWereInModel", "wayOf", "(I)I"⟩, 31) := ⟨⟨by decide +kernel, by decide +kernel⟩, List.mem_of_getElem? (i := 705) (by decide +kernel), List.mem_of_getElem? (i := 1005) (by decide +kernel), List.mem_of_getElem? (i := 1006) (by decide +kernel)⟩
theorem lw_p73 : lw_okq (⟨"WeWereInModel", "nextRow", "(I)Z"⟩, 31) := ⟨⟨by decide +kernel, by decide +kernel⟩, List.mem_of_getElem? (i := 705) (by decide +kernel), List.mem_of_getElem? (i := 1009) (by decide +kernel), List.mem_of_getElem? (i := 1010) (by decide +kernel)⟩
theorem lw_p74 : lw_okq (⟨"WeWereInModel", "exchange", "(II)V"⟩, 31) := ⟨⟨by decide +kernel, by decide +kernel⟩, List.mem_of_getElem? (i := 705) (by decide +kernel), List.mem_of_getElem? (i := 1013) (by decide +kernel), List.mem_of_getElem? (i := 1014) (by decide +kernel)⟩
theorem lw_p75 : lw_okq (⟨"WeWereInModel", "findHastes", "(I)I"⟩, 31) := ⟨⟨by decide +kernel, by decide +kernel⟩, List.mem_of_getElem? (i := 705) (by decide +kernel), List.mem_of_getElem? (i := 1044) (by decide +kernel), List.mem_of_getElem? (i := 1045) (by decide +kernel)⟩
theorem lw_p76 : lw_okq (⟨"WeWereInModel", "slipsBy", "(II)I"⟩, 31) := ⟨⟨by decide +kernel, by decide +kernel⟩, List.mem_of_getElem? (i := 705) (by decide +kernel), List.mem_of_getElem? (i := 1048) (by decide +kernel), List.mem_of_getElem? (i := 1049) (by decide +kernel)⟩
def lw_privs_5 : List (MethodName × Nat) := [(⟨"WeWereInModel", "copy", "(II)V"⟩, 31), (⟨"WeWereInModel", "roundIn", "(III)I"⟩, 31), (⟨"WeWereInModel", "visit", "(IIIZ)I"⟩, 31), (⟨"WeWereInModel", "isInAt", "(II)Z"⟩, 31), (⟨"WeWereInModel", "draw", "(I)I"⟩, 31), (⟨"WeWereInModel", "tryRound", "(II)I"⟩, 31), (⟨"WeWereInModel", "comesTo", "(II)I"⟩, 31), (⟨"WeWereInModel", "counting", "()I"⟩, 31), (⟨"WeWereInModel", "wayOf", "(I)I"⟩, 31), (⟨"WeWereInModel", "nextRow", "(I)Z"⟩, 31), (⟨"WeWereInModel", "exchange", "(II)V"⟩, 31), (⟨"WeWereInModel", "findHastes", "(I)I"⟩, 31), (⟨"WeWereInModel", "slipsBy", "(II)I"⟩, 31)]
theorem lw_r5 : ∀ q ∈ lw_privs_5, lw_okq q := List.forall_mem_cons.mpr ⟨lw_p64, List.forall_mem_cons.mpr ⟨lw_p65, List.forall_mem_cons.mpr ⟨lw_p66, List.forall_mem_cons.mpr ⟨lw_p67, List.forall_mem_cons.mpr ⟨lw_p68, List.forall_mem_cons.mpr ⟨lw_p69, List.forall_mem_cons.mpr ⟨lw_p70, List.forall_mem_cons.mpr ⟨lw_p71, List.forall_mem_cons.mpr ⟨lw_p72, List.forall_mem_cons.mpr ⟨lw_p73, List.forall_mem_cons.mpr ⟨lw_p74, List.forall_mem_cons.mpr ⟨lw_p75, List.forall_mem_cons.mpr ⟨lw_p76, fun _ h => absurd h List.not_mem_nil⟩⟩⟩⟩⟩⟩⟩⟩⟩⟩⟩⟩⟩
def lw_privs : List (MethodName × Nat) := lw_privs_1 ++ (lw_privs_2 ++ (lw_privs_3 ++ (lw_privs_4 ++ (lw_privs_5))))
def lw_tbl : List Cond := k2_sels lw_privs ++ tables_1
theorem lw_privs_ok : ∀ q ∈ lw_privs, lw_okq q := by
  show ∀ q ∈ lw_privs_1 ++ (lw_privs_2 ++ (lw_privs_3 ++ (lw_privs_4 ++ (lw_privs_5)))), lw_okq q
  exact List.forall_mem_append.mpr ⟨lw_r1, List.forall_mem_append.mpr ⟨lw_r2, List.forall_mem_append.mpr ⟨lw_r3, List.forall_mem_append.mpr ⟨lw_r4, lw_r5⟩⟩⟩⟩
end
section
theorem goodIn_r {big : List Cond} (ws : List Cond) (ps : List Nat) (hp : ws = ps.filterMap (fun i => big[i]?)) (h : ws.all goodWord = true) : GoodIn big ws := by
  intro w hw
  have h1 := List.all_eq_true.mp h w hw
  rw [hp] at hw
  obtain ⟨i, -, hi⟩ := List.mem_filterMap.mp hw
  have hm : w ∈ big := by first | exact List.mem_of_getElem? hi | exact List.getElem?_mem hi
  exact ⟨hm, good_of_word h1⟩
theorem goodIn_app {big a b : List Cond} (ha : GoodIn big a) (hb : GoodIn big b) : GoodIn big (a ++ b) := fun w h => (List.mem_append.mp h).elim (ha w) (hb w)
theorem goodIn_ca {big a b : List Cond} {c : Cond} (ha : GoodIn big (c :: a)) (hb : GoodIn big b) : GoodIn big (c :: (a ++ b)) := fun w h => (List.mem_cons.mp h).elim (fun e => ha w (List.mem_cons.mpr (Or.inl e))) (fun h => (List.mem_append.mp h).elim (fun h => ha w (List.mem_cons.mpr (Or.inr h))) (hb w))
theorem goodIn_sub {big ws : List Cond} (hm : ∀ w ∈ ws, w ∈ big) (h : ws.all goodWord = true) : GoodIn big ws := fun w hw => ⟨hm w hw, good_of_word (List.all_eq_true.mp h w hw)⟩
def RX0 : String := "WeWereIn$Book"
def TX0 : u_T := fun k => match k with
  | 0 => ("WeWereIn$Book", "stop", "[I", true)
  | 1 => ("WeWereIn$Book", "is", "[I", true)
  | _ => ("WeWereIn$Book", "size", "I", false)
def tyX0 : Nat → FieldType := fun k => match k with
  | 0 => .array .int
  | 1 => .array .int
  | _ => .int
abbrev wsX00 : List Cond := u_ws RX0 TX0 3
theorem nmX0 : ∀ a, a < 3 → ∀ b, b < 3 → a ≠ b → (TX0 a).2.1 ≠ (TX0 b).2.1 := by decide +kernel
theorem tyX0_ok : ∀ k, k < 3 → parseFieldDescriptor (TX0 k).2.2.1 = some (tyX0 k) := by decide +kernel
abbrev cX0_init : ByteArray := prog_2_method_1_code
def yX0_init : MethodName := ⟨RX0, "<init>", "()V"⟩
abbrev cX0_forget : ByteArray := prog_2_method_2_code
def yX0_forget : MethodName := ⟨RX0, "forget", "()V"⟩
abbrev cX0_add : ByteArray := prog_2_method_3_code
def yX0_add : MethodName := ⟨RX0, "add", "(II)Z"⟩
abbrev cX0_firstWrong : ByteArray := prog_2_method_4_code
def yX0_firstWrong : MethodName := ⟨RX0, "firstWrong", "(LWeWereIn$Days;)I"⟩
def RX1 : String := "WeWereIn$Days"
def TX1 : u_T := fun k => match k with
  | 0 => ("WeWereIn$Days", "is", "[I", true)
  | 1 => ("WeWereIn$Days", "took", "[I", true)
  | 2 => ("WeWereIn$Days", "rounds", "I", false)
  | 3 => ("WeWereIn$Days", "seconds", "I", false)
  | _ => ("WeWereIn$Days", "slips", "I", false)
def tyX1 : Nat → FieldType := fun k => match k with
  | 0 => .array .int
  | 1 => .array .int
  | 2 => .int
  | 3 => .int
  | _ => .int
abbrev wsX10 : List Cond := u_ws RX1 TX1 5
theorem nmX1 : ∀ a, a < 5 → ∀ b, b < 5 → a ≠ b → (TX1 a).2.1 ≠ (TX1 b).2.1 := by decide +kernel
theorem tyX1_ok : ∀ k, k < 5 → parseFieldDescriptor (TX1 k).2.2.1 = some (tyX1 k) := by decide +kernel
abbrev cX1_init : ByteArray := prog_3_method_1_code
def yX1_init : MethodName := ⟨RX1, "<init>", "()V"⟩
abbrev cX1_begin : ByteArray := prog_3_method_2_code
def yX1_begin : MethodName := ⟨RX1, "begin", "()V"⟩
abbrev cX1_copy : ByteArray := prog_3_method_3_code
def yX1_copy : MethodName := ⟨RX1, "copy", "(LWeWereIn$Days;)V"⟩
abbrev cX1_counts : ByteArray := prog_3_method_4_code
def yX1_counts : MethodName := ⟨RX1, "counts", "(I)Z"⟩
abbrev cX1_which : ByteArray := prog_3_method_5_code
def yX1_which : MethodName := ⟨RX1, "which", "(II)I"⟩
def RX2 : String := "WeWereIn$Image"
def TX2 : u_T := fun k => match k with
  | 0 => ("WeWereIn$Image", "days", "LWeWereIn$Days;", true)
  | 1 => ("WeWereIn$Image", "dice", "I", false)
  | _ => ("WeWereIn$Image", "kept", "Z", false)
def tyX2 : Nat → FieldType := fun k => match k with
  | 0 => .object "WeWereIn$Days"
  | 1 => .int
  | _ => .boolean
abbrev wsX20 : List Cond := u_ws RX2 TX2 3
theorem nmX2 : ∀ a, a < 3 → ∀ b, b < 3 → a ≠ b → (TX2 a).2.1 ≠ (TX2 b).2.1 := by decide +kernel
theorem tyX2_ok : ∀ k, k < 3 → parseFieldDescriptor (TX2 k).2.2.1 = some (tyX2 k) := by decide +kernel
abbrev cX2_init : ByteArray := prog_4_method_1_code
def yX2_init : MethodName := ⟨RX2, "<init>", "()V"⟩
def RX3 : String := "WeWereIn$Past"
def TX3 : u_T := fun k => match k with
  | 0 => ("WeWereIn$Past", "ahead", "[LWeWereIn$Days;", true)
  | 1 => ("WeWereIn$Past", "next", "I", false)
  | _ => ("WeWereIn$Past", "size", "I", false)
def tyX3 : Nat → FieldType := fun k => match k with
  | 0 => .array (.object "WeWereIn$Days")
  | 1 => .int
  | _ => .int
abbrev wsX30 : List Cond := u_ws RX3 TX3 3
theorem nmX3 : ∀ a, a < 3 → ∀ b, b < 3 → a ≠ b → (TX3 a).2.1 ≠ (TX3 b).2.1 := by decide +kernel
theorem tyX3_ok : ∀ k, k < 3 → parseFieldDescriptor (TX3 k).2.2.1 = some (tyX3 k) := by decide +kernel
abbrev cX3_init : ByteArray := prog_5_method_1_code
def yX3_init : MethodName := ⟨RX3, "<init>", "()V"⟩
abbrev cX3_forget : ByteArray := prog_5_method_2_code
def yX3_forget : MethodName := ⟨RX3, "forget", "()V"⟩
abbrev cX3_push : ByteArray := prog_5_method_3_code
def yX3_push : MethodName := ⟨RX3, "push", "(LWeWereIn$Days;)V"⟩
abbrev cX3_pop : ByteArray := prog_5_method_4_code
def yX3_pop : MethodName := ⟨RX3, "pop", "(ILWeWereIn$Days;)V"⟩
def RX4 : String := "WeWereIn$Search"
def TX4 : u_T := fun k => match k with
  | 0 => ("WeWereIn$Search", "lane", "LWeWereIn$Street;", true)
  | 1 => ("WeWereIn$Search", "now", "LWeWereIn$Days;", true)
  | 2 => ("WeWereIn$Search", "haste", "I", true)
  | 3 => ("WeWereIn$Search", "open", "I", true)
  | 4 => ("WeWereIn$Search", "size", "I", true)
  | 5 => ("WeWereIn$Search", "way", "I", false)
  | 6 => ("WeWereIn$Search", "handed", "I", false)
  | _ => ("WeWereIn$Search", "back", "I", false)
def tyX4 : Nat → FieldType := fun k => match k with
  | 0 => .object "WeWereIn$Street"
  | 1 => .object "WeWereIn$Days"
  | 2 => .int
  | 3 => .int
  | 4 => .int
  | 5 => .int
  | 6 => .int
  | _ => .int
abbrev wsX40 : List Cond := u_ws RX4 TX4 8
theorem nmX4 : ∀ a, a < 8 → ∀ b, b < 8 → a ≠ b → (TX4 a).2.1 ≠ (TX4 b).2.1 := by decide +kernel
theorem tyX4_ok : ∀ k, k < 8 → parseFieldDescriptor (TX4 k).2.2.1 = some (tyX4 k) := by decide +kernel
abbrev cX4_init : ByteArray := prog_6_method_1_code
def yX4_init : MethodName := ⟨RX4, "<init>", "(LWeWereIn$Street;LWeWereIn$Days;I)V"⟩
abbrev cX4_seek : ByteArray := prog_6_method_2_code
def yX4_seek : MethodName := ⟨RX4, "seek", "()V"⟩
abbrev cX4_extend : ByteArray := prog_6_method_3_code
def yX4_extend : MethodName := ⟨RX4, "extend", "(LWeWereIn$Search;IIIIII)V"⟩
abbrev cX4_canBeat : ByteArray := prog_6_method_4_code
def yX4_canBeat : MethodName := ⟨RX4, "canBeat", "(II)Z"⟩
abbrev cX4_settle : ByteArray := prog_6_method_5_code
def yX4_settle : MethodName := ⟨RX4, "settle", "(III)V"⟩
def RX5 : String := "WeWereIn$Seen"
def TX5 : u_T := fun k => match k with
  | 0 => ("WeWereIn$Seen", "stop", "[I", true)
  | 1 => ("WeWereIn$Seen", "slip", "[Z", true)
  | _ => ("WeWereIn$Seen", "size", "I", false)
def tyX5 : Nat → FieldType := fun k => match k with
  | 0 => .array .int
  | 1 => .array .boolean
  | _ => .int
abbrev wsX50 : List Cond := u_ws RX5 TX5 3
theorem nmX5 : ∀ a, a < 3 → ∀ b, b < 3 → a ≠ b → (TX5 a).2.1 ≠ (TX5 b).2.1 := by decide +kernel
theorem tyX5_ok : ∀ k, k < 3 → parseFieldDescriptor (TX5 k).2.2.1 = some (tyX5 k) := by decide +kernel
abbrev cX5_init : ByteArray := prog_7_method_1_code
def yX5_init : MethodName := ⟨RX5, "<init>", "()V"⟩
abbrev cX5_forget : ByteArray := prog_7_method_2_code
def yX5_forget : MethodName := ⟨RX5, "forget", "()V"⟩
abbrev cX5_add : ByteArray := prog_7_method_3_code
def yX5_add : MethodName := ⟨RX5, "add", "(IZ)Z"⟩
abbrev cX5_fits : ByteArray := prog_7_method_4_code
def yX5_fits : MethodName := ⟨RX5, "fits", "(I)Z"⟩
def RX6 : String := "WeWereIn$Street"
def TX6 : u_T := fun k => match k with
  | 0 => ("WeWereIn$Street", "ringSeconds", "I", false)
  | 1 => ("WeWereIn$Street", "yardSeconds", "I", false)
  | 2 => ("WeWereIn$Street", "slipSeconds", "I", false)
  | 3 => ("WeWereIn$Street", "stops", "I", false)
  | 4 => ("WeWereIn$Street", "dins", "I", false)
  | 5 => ("WeWereIn$Street", "yard", "[I", true)
  | 6 => ("WeWereIn$Street", "hoursIn", "[I", true)
  | 7 => ("WeWereIn$Street", "bell", "[I", true)
  | 8 => ("WeWereIn$Street", "neighbour", "[I", true)
  | 9 => ("WeWereIn$Street", "most", "[I", true)
  | _ => ("WeWereIn$Street", "din", "[I", true)
def tyX6 : Nat → FieldType := fun k => match k with
  | 0 => .int
  | 1 => .int
  | 2 => .int
  | 3 => .int
  | 4 => .int
  | 5 => .array .int
  | 6 => .array .int
  | 7 => .array .int
  | 8 => .array .int
  | 9 => .array .int
  | _ => .array .int
abbrev wsX60 : List Cond := u_ws RX6 TX6 11
theorem nmX6 : ∀ a, a < 11 → ∀ b, b < 11 → a ≠ b → (TX6 a).2.1 ≠ (TX6 b).2.1 := by decide +kernel
theorem tyX6_ok : ∀ k, k < 11 → parseFieldDescriptor (TX6 k).2.2.1 = some (tyX6 k) := by decide +kernel
abbrev cX6_init : ByteArray := prog_8_method_1_code
def yX6_init : MethodName := ⟨RX6, "<init>", "()V"⟩
abbrev cX6_begin : ByteArray := prog_8_method_2_code
def yX6_begin : MethodName := ⟨RX6, "begin", "()V"⟩
abbrev cX6_copy : ByteArray := prog_8_method_3_code
def yX6_copy : MethodName := ⟨RX6, "copy", "(LWeWereIn$Street;)V"⟩
abbrev cX6_addStop : ByteArray := prog_8_method_4_code
def yX6_addStop : MethodName := ⟨RX6, "addStop", "(III)V"⟩
abbrev cX6_addDin : ByteArray := prog_8_method_5_code
def yX6_addDin : MethodName := ⟨RX6, "addDin", "(I)V"⟩
abbrev cX6_has : ByteArray := prog_8_method_6_code
def yX6_has : MethodName := ⟨RX6, "has", "(I)Z"⟩
abbrev cX6_isWay : ByteArray := prog_8_method_7_code
def yX6_isWay : MethodName := ⟨RX6, "isWay", "(I)Z"⟩
abbrev cX6_risingWay : ByteArray := prog_8_method_8_code
def yX6_risingWay : MethodName := ⟨RX6, "risingWay", "()I"⟩
abbrev cX6_dinOf : ByteArray := prog_8_method_9_code
def yX6_dinOf : MethodName := ⟨RX6, "dinOf", "(I)I"⟩
abbrev cX6_isIn : ByteArray := prog_8_method_10_code
def yX6_isIn : MethodName := ⟨RX6, "isIn", "(II)Z"⟩
abbrev cX6_meets : ByteArray := prog_8_method_11_code
def yX6_meets : MethodName := ⟨RX6, "meets", "(IIZI)I"⟩
abbrev cX6_secondsAtDoor : ByteArray := prog_8_method_12_code
def yX6_secondsAtDoor : MethodName := ⟨RX6, "secondsAtDoor", "(ZI)I"⟩
abbrev cX6_secondsBetween : ByteArray := prog_8_method_13_code
def yX6_secondsBetween : MethodName := ⟨RX6, "secondsBetween", "(II)I"⟩
abbrev cX6_countNear : ByteArray := prog_8_method_14_code
def yX6_countNear : MethodName := ⟨RX6, "countNear", "(III)I"⟩
def RX7 : String := "WeWereIn$Text"
def TX7 : u_T := fun k => match k with
  | 0 => ("WeWereIn$Text", "letters", "[I", true)
  | 1 => ("WeWereIn$Text", "length", "I", false)
  | 2 => ("WeWereIn$Text", "fault", "I", false)
  | 3 => ("WeWereIn$Text", "faultAt", "I", false)
  | 4 => ("WeWereIn$Text", "at", "I", false)
  | _ => ("WeWereIn$Text", "numberAt", "I", false)
def tyX7 : Nat → FieldType := fun k => match k with
  | 0 => .array .int
  | 1 => .int
  | 2 => .int
  | 3 => .int
  | 4 => .int
  | _ => .int
abbrev wsX70 : List Cond := u_ws RX7 TX7 6
theorem nmX7 : ∀ a, a < 6 → ∀ b, b < 6 → a ≠ b → (TX7 a).2.1 ≠ (TX7 b).2.1 := by decide +kernel
theorem tyX7_ok : ∀ k, k < 6 → parseFieldDescriptor (TX7 k).2.2.1 = some (tyX7 k) := by decide +kernel
abbrev cX7_init : ByteArray := prog_9_method_1_code
def yX7_init : MethodName := ⟨RX7, "<init>", "()V"⟩
abbrev cX7_add : ByteArray := prog_9_method_2_code
def yX7_add : MethodName := ⟨RX7, "add", "(I)Z"⟩
abbrev cX7_empty : ByteArray := prog_9_method_3_code
def yX7_empty : MethodName := ⟨RX7, "empty", "()V"⟩
abbrev cX7_readInto : ByteArray := prog_9_method_4_code
def yX7_readInto : MethodName := ⟨RX7, "readInto", "(LWeWereIn$Street;)V"⟩
abbrev cX7_readClause : ByteArray := prog_9_method_5_code
def yX7_readClause : MethodName := ⟨RX7, "readClause", "(LWeWereIn$Street;I)V"⟩
abbrev cX7_readVan : ByteArray := prog_9_method_6_code
def yX7_readVan : MethodName := ⟨RX7, "readVan", "(LWeWereIn$Street;Z)V"⟩
abbrev cX7_readStop : ByteArray := prog_9_method_7_code
def yX7_readStop : MethodName := ⟨RX7, "readStop", "(LWeWereIn$Street;)V"⟩
abbrev cX7_readDin : ByteArray := prog_9_method_8_code
def yX7_readDin : MethodName := ⟨RX7, "readDin", "(LWeWereIn$Street;)V"⟩
abbrev cX7_readNeighbour : ByteArray := prog_9_method_9_code
def yX7_readNeighbour : MethodName := ⟨RX7, "readNeighbour", "(LWeWereIn$Street;)V"⟩
abbrev cX7_number : ByteArray := prog_9_method_10_code
def yX7_number : MethodName := ⟨RX7, "number", "(II)I"⟩
abbrev cX7_endClause : ByteArray := prog_9_method_11_code
def yX7_endClause : MethodName := ⟨RX7, "endClause", "()V"⟩
abbrev cX7_peek : ByteArray := prog_9_method_12_code
def yX7_peek : MethodName := ⟨RX7, "peek", "()I"⟩
abbrev cX7_isFigure : ByteArray := prog_9_method_13_code
def yX7_isFigure : MethodName := ⟨RX7, "isFigure", "(I)Z"⟩
abbrev cX7_fail : ByteArray := prog_9_method_14_code
def yX7_fail : MethodName := ⟨RX7, "fail", "(II)V"⟩
def RX8 : String := "WeWereIn$Trip"
def TX8 : u_T := fun k => match k with
  | 0 => ("WeWereIn$Trip", "after", "LWeWereIn$Days;", true)
  | 1 => ("WeWereIn$Trip", "there", "[I", true)
  | 2 => ("WeWereIn$Trip", "back", "I", false)
  | 3 => ("WeWereIn$Trip", "handed", "I", false)
  | 4 => ("WeWereIn$Trip", "slipped", "I", false)
  | 5 => ("WeWereIn$Trip", "turn", "I", false)
  | 6 => ("WeWereIn$Trip", "second", "I", false)
  | _ => ("WeWereIn$Trip", "yard", "I", false)
def tyX8 : Nat → FieldType := fun k => match k with
  | 0 => .object "WeWereIn$Days"
  | 1 => .array .int
  | 2 => .int
  | 3 => .int
  | 4 => .int
  | 5 => .int
  | 6 => .int
  | _ => .int
abbrev wsX80 : List Cond := u_ws RX8 TX8 8
theorem nmX8 : ∀ a, a < 8 → ∀ b, b < 8 → a ≠ b → (TX8 a).2.1 ≠ (TX8 b).2.1 := by decide +kernel
theorem tyX8_ok : ∀ k, k < 8 → parseFieldDescriptor (TX8 k).2.2.1 = some (tyX8 k) := by decide +kernel
abbrev cX8_init : ByteArray := prog_10_method_1_code
def yX8_init : MethodName := ⟨RX8, "<init>", "()V"⟩
abbrev cX8_run : ByteArray := prog_10_method_2_code
def yX8_run : MethodName := ⟨RX8, "run", "(LWeWereIn$Street;ILWeWereIn$Days;I)V"⟩
abbrev cX8_begin : ByteArray := prog_10_method_3_code
def yX8_begin : MethodName := ⟨RX8, "begin", "(LWeWereIn$Days;)V"⟩
abbrev cX8_firstUnit : ByteArray := prog_10_method_4_code
def yX8_firstUnit : MethodName := ⟨RX8, "firstUnit", "(I)I"⟩
abbrev cX8_call : ByteArray := prog_10_method_5_code
def yX8_call : MethodName := ⟨RX8, "call", "(LWeWereIn$Street;II)V"⟩
def RX9 : String := "WeWereIn"
def TX9 : u_T := fun k => match k with
  | 0 => ("WeWereIn", "text", "LWeWereIn$Text;", true)
  | 1 => ("WeWereIn", "draft", "LWeWereIn$Street;", true)
  | 2 => ("WeWereIn", "lane", "LWeWereIn$Street;", true)
  | 3 => ("WeWereIn", "now", "LWeWereIn$Days;", true)
  | 4 => ("WeWereIn", "untouched", "LWeWereIn$Days;", true)
  | 5 => ("WeWereIn", "trip", "LWeWereIn$Trip;", true)
  | 6 => ("WeWereIn", "past", "LWeWereIn$Past;", true)
  | 7 => ("WeWereIn", "seen", "LWeWereIn$Seen;", true)
  | 8 => ("WeWereIn", "book", "LWeWereIn$Book;", true)
  | 9 => ("WeWereIn", "images", "[LWeWereIn$Image;", true)
  | 10 => ("WeWereIn", "slipsByHaste", "[I", true)
  | _ => ("WeWereIn", "dice", "I", false)
def tyX9 : Nat → FieldType := fun k => match k with
  | 0 => .object "WeWereIn$Text"
  | 1 => .object "WeWereIn$Street"
  | 2 => .object "WeWereIn$Street"
  | 3 => .object "WeWereIn$Days"
  | 4 => .object "WeWereIn$Days"
  | 5 => .object "WeWereIn$Trip"
  | 6 => .object "WeWereIn$Past"
  | 7 => .object "WeWereIn$Seen"
  | 8 => .object "WeWereIn$Book"
  | 9 => .array (.object "WeWereIn$Image")
  | 10 => .array .int
  | _ => .int
abbrev wsX90 : List Cond := u_ws RX9 TX9 12
theorem nmX9 : ∀ a, a < 12 → ∀ b, b < 12 → a ≠ b → (TX9 a).2.1 ≠ (TX9 b).2.1 := by decide +kernel
theorem tyX9_ok : ∀ k, k < 12 → parseFieldDescriptor (TX9 k).2.2.1 = some (tyX9 k) := by decide +kernel
abbrev cX9_init : ByteArray := prog_1_method_1_code
def yX9_init : MethodName := ⟨RX9, "<init>", "()V"⟩
abbrev cX9_feed : ByteArray := prog_1_method_2_code
def yX9_feed : MethodName := ⟨RX9, "feed", "(I)I"⟩
abbrev cX9_street : ByteArray := prog_1_method_3_code
def yX9_street : MethodName := ⟨RX9, "street", "()I"⟩
abbrev cX9_fault : ByteArray := prog_1_method_4_code
def yX9_fault : MethodName := ⟨RX9, "fault", "()I"⟩
abbrev cX9_told : ByteArray := prog_1_method_5_code
def yX9_told : MethodName := ⟨RX9, "told", "(I)I"⟩
abbrev cX9_stop : ByteArray := prog_1_method_6_code
def yX9_stop : MethodName := ⟨RX9, "stop", "(II)I"⟩
abbrev cX9_din : ByteArray := prog_1_method_7_code
def yX9_din : MethodName := ⟨RX9, "din", "(I)I"⟩
abbrev cX9_round : ByteArray := prog_1_method_8_code
def yX9_round : MethodName := ⟨RX9, "round", "(II)I"⟩
abbrev cX9_fetch : ByteArray := prog_1_method_9_code
def yX9_fetch : MethodName := ⟨RX9, "fetch", "(I)I"⟩
abbrev cX9_order : ByteArray := prog_1_method_10_code
def yX9_order : MethodName := ⟨RX9, "order", "(I)I"⟩
abbrev cX9_thank : ByteArray := prog_1_method_11_code
def yX9_thank : MethodName := ⟨RX9, "thank", "(I)I"⟩
abbrev cX9_drift : ByteArray := prog_1_method_12_code
def yX9_drift : MethodName := ⟨RX9, "drift", "(I)I"⟩
abbrev cX9_undo : ByteArray := prog_1_method_13_code
def yX9_undo : MethodName := ⟨RX9, "undo", "(I)I"⟩
abbrev cX9_comes : ByteArray := prog_1_method_14_code
def yX9_comes : MethodName := ⟨RX9, "comes", "(III)I"⟩
abbrev cX9_home : ByteArray := prog_1_method_15_code
def yX9_home : MethodName := ⟨RX9, "home", "(II)I"⟩
abbrev cX9_outcome : ByteArray := prog_1_method_16_code
def yX9_outcome : MethodName := ⟨RX9, "outcome", "(II)I"⟩
abbrev cX9_bath : ByteArray := prog_1_method_17_code
def yX9_bath : MethodName := ⟨RX9, "bath", "(IIII)I"⟩
abbrev cX9_bestWay : ByteArray := prog_1_method_18_code
def yX9_bestWay : MethodName := ⟨RX9, "bestWay", "(II)I"⟩
abbrev cX9_pretends : ByteArray := prog_1_method_19_code
def yX9_pretends : MethodName := ⟨RX9, "pretends", "(III)I"⟩
abbrev cX9_locker : ByteArray := prog_1_method_20_code
def yX9_locker : MethodName := ⟨RX9, "locker", "(III)I"⟩
abbrev cX9_bears : ByteArray := prog_1_method_21_code
def yX9_bears : MethodName := ⟨RX9, "bears", "(I)I"⟩
abbrev cX9_heard : ByteArray := prog_1_method_22_code
def yX9_heard : MethodName := ⟨RX9, "heard", "(II)I"⟩
abbrev cX9_see : ByteArray := prog_1_method_23_code
def yX9_see : MethodName := ⟨RX9, "see", "(IZ)I"⟩
abbrev cX9_rang : ByteArray := prog_1_method_24_code
def yX9_rang : MethodName := ⟨RX9, "rang", "(II)I"⟩
abbrev cX9_write : ByteArray := prog_1_method_25_code
def yX9_write : MethodName := ⟨RX9, "write", "(II)I"⟩
abbrev cX9_judge : ByteArray := prog_1_method_26_code
def yX9_judge : MethodName := ⟨RX9, "judge", "()I"⟩
abbrev cX9_tear : ByteArray := prog_1_method_27_code
def yX9_tear : MethodName := ⟨RX9, "tear", "()I"⟩
abbrev cX9_seed : ByteArray := prog_1_method_28_code
def yX9_seed : MethodName := ⟨RX9, "seed", "(I)I"⟩
abbrev cX9_keep : ByteArray := prog_1_method_29_code
def yX9_keep : MethodName := ⟨RX9, "keep", "(I)I"⟩
abbrev cX9_goBack : ByteArray := prog_1_method_30_code
def yX9_goBack : MethodName := ⟨RX9, "goBack", "(I)I"⟩
abbrev cX9_within : ByteArray := prog_1_method_31_code
def yX9_within : MethodName := ⟨RX9, "within", "(III)Z"⟩
abbrev cX9_ringsAt : ByteArray := prog_1_method_32_code
def yX9_ringsAt : MethodName := ⟨RX9, "ringsAt", "(II)Z"⟩
abbrev cX9_refusalOfTrip : ByteArray := prog_1_method_33_code
def yX9_refusalOfTrip : MethodName := ⟨RX9, "refusalOfTrip", "(II)I"⟩
abbrev cX9_drive : ByteArray := prog_1_method_34_code
def yX9_drive : MethodName := ⟨RX9, "drive", "(II)V"⟩
abbrev cX9_draw : ByteArray := prog_1_method_35_code
def yX9_draw : MethodName := ⟨RX9, "draw", "(I)I"⟩
abbrev cX9_orderByDraw : ByteArray := prog_1_method_36_code
def yX9_orderByDraw : MethodName := ⟨RX9, "orderByDraw", "()V"⟩
abbrev cX9_bestToAsk : ByteArray := prog_1_method_37_code
def yX9_bestToAsk : MethodName := ⟨RX9, "bestToAsk", "(I)I"⟩
def RX10 : String := "WeWereInModel"
def TX10 : u_T := fun k => match k with
  | 0 => ("WeWereInModel", "w", "[I", true)
  | 1 => ("WeWereInModel", "isKept", "[Z", true)
  | 2 => ("WeWereInModel", "rule", "[I", true)
  | 3 => ("WeWereInModel", "yard", "[I", true)
  | 4 => ("WeWereInModel", "isIn", "[I", true)
  | 5 => ("WeWereInModel", "bell", "[I", true)
  | 6 => ("WeWereInModel", "neighbour", "[I", true)
  | 7 => ("WeWereInModel", "bears", "[I", true)
  | 8 => ("WeWereInModel", "stops", "I", false)
  | 9 => ("WeWereInModel", "newStops", "I", false)
  | 10 => ("WeWereInModel", "dins", "[I", true)
  | 11 => ("WeWereInModel", "dinMany", "I", false)
  | 12 => ("WeWereInModel", "newDins", "I", false)
  | 13 => ("WeWereInModel", "text", "[I", true)
  | 14 => ("WeWereInModel", "textSize", "I", false)
  | 15 => ("WeWereInModel", "at", "I", false)
  | 16 => ("WeWereInModel", "first", "I", false)
  | 17 => ("WeWereInModel", "faultOf", "I", false)
  | 18 => ("WeWereInModel", "fault", "I", false)
  | 19 => ("WeWereInModel", "came", "[I", true)
  | 20 => ("WeWereInModel", "handedNow", "I", false)
  | 21 => ("WeWereInModel", "slippedNow", "I", false)
  | 22 => ("WeWereInModel", "undoMany", "I", false)
  | 23 => ("WeWereInModel", "row", "[I", true)
  | 24 => ("WeWereInModel", "seenAt", "[I", true)
  | 25 => ("WeWereInModel", "seenSlip", "[Z", true)
  | 26 => ("WeWereInModel", "seen", "I", false)
  | 27 => ("WeWereInModel", "slips", "[I", true)
  | 28 => ("WeWereInModel", "bookOf", "[I", true)
  | 29 => ("WeWereInModel", "bookIs", "[I", true)
  | _ => ("WeWereInModel", "written", "I", false)
def tyX10 : Nat → FieldType := fun k => match k with
  | 0 => .array .int
  | 1 => .array .boolean
  | 2 => .array .int
  | 3 => .array .int
  | 4 => .array .int
  | 5 => .array .int
  | 6 => .array .int
  | 7 => .array .int
  | 8 => .int
  | 9 => .int
  | 10 => .array .int
  | 11 => .int
  | 12 => .int
  | 13 => .array .int
  | 14 => .int
  | 15 => .int
  | 16 => .int
  | 17 => .int
  | 18 => .int
  | 19 => .array .int
  | 20 => .int
  | 21 => .int
  | 22 => .int
  | 23 => .array .int
  | 24 => .array .int
  | 25 => .array .boolean
  | 26 => .int
  | 27 => .array .int
  | 28 => .array .int
  | 29 => .array .int
  | _ => .int
abbrev wsX100 : List Cond := u_ws RX10 TX10 31
theorem nmX10 : ∀ a, a < 31 → ∀ b, b < 31 → a ≠ b → (TX10 a).2.1 ≠ (TX10 b).2.1 := by decide +kernel
theorem tyX10_ok : ∀ k, k < 31 → parseFieldDescriptor (TX10 k).2.2.1 = some (tyX10 k) := by decide +kernel
abbrev cX10_init : ByteArray := prog_12_method_1_code
def yX10_init : MethodName := ⟨RX10, "<init>", "()V"⟩
abbrev cX10_in : ByteArray := prog_12_method_3_code
def yX10_in : MethodName := ⟨RX10, "in", "(JJJ)Z"⟩
abbrev cX10_one : ByteArray := prog_12_method_4_code
def yX10_one : MethodName := ⟨RX10, "one", "(Z)I"⟩
abbrev cX10_has : ByteArray := prog_12_method_5_code
def yX10_has : MethodName := ⟨RX10, "has", "(II)Z"⟩
abbrev cX10_far : ByteArray := prog_12_method_6_code
def yX10_far : MethodName := ⟨RX10, "far", "(II)I"⟩
abbrev cX10_feed : ByteArray := prog_12_method_7_code
def yX10_feed : MethodName := ⟨RX10, "feed", "(I)I"⟩
abbrev cX10_here : ByteArray := prog_12_method_8_code
def yX10_here : MethodName := ⟨RX10, "here", "()I"⟩
abbrev cX10_want : ByteArray := prog_12_method_9_code
def yX10_want : MethodName := ⟨RX10, "want", "(ZII)Z"⟩
abbrev cX10_takeNumber : ByteArray := prog_12_method_10_code
def yX10_takeNumber : MethodName := ⟨RX10, "takeNumber", "()I"⟩
abbrev cX10_takeIn : ByteArray := prog_12_method_11_code
def yX10_takeIn : MethodName := ⟨RX10, "takeIn", "(II)I"⟩
abbrev cX10_takeRule : ByteArray := prog_12_method_12_code
def yX10_takeRule : MethodName := ⟨RX10, "takeRule", "(I)V"⟩
abbrev cX10_takeStop : ByteArray := prog_12_method_13_code
def yX10_takeStop : MethodName := ⟨RX10, "takeStop", "(I)V"⟩
abbrev cX10_takeDins : ByteArray := prog_12_method_14_code
def yX10_takeDins : MethodName := ⟨RX10, "takeDins", "(I)V"⟩
abbrev cX10_takeNeighbour : ByteArray := prog_12_method_15_code
def yX10_takeNeighbour : MethodName := ⟨RX10, "takeNeighbour", "()V"⟩
abbrev cX10_takeClause : ByteArray := prog_12_method_16_code
def yX10_takeClause : MethodName := ⟨RX10, "takeClause", "()V"⟩
abbrev cX10_street : ByteArray := prog_12_method_17_code
def yX10_street : MethodName := ⟨RX10, "street", "()I"⟩
abbrev cX10_take : ByteArray := prog_12_method_18_code
def yX10_take : MethodName := ⟨RX10, "take", "()V"⟩
abbrev cX10_fault : ByteArray := prog_12_method_19_code
def yX10_fault : MethodName := ⟨RX10, "fault", "()I"⟩
abbrev cX10_isStop : ByteArray := prog_12_method_20_code
def yX10_isStop : MethodName := ⟨RX10, "isStop", "(I)Z"⟩
abbrev cX10_figures : ByteArray := prog_12_method_21_code
def yX10_figures : MethodName := ⟨RX10, "figures", "(I)I"⟩
abbrev cX10_stopOf : ByteArray := prog_12_method_22_code
def yX10_stopOf : MethodName := ⟨RX10, "stopOf", "(II)I"⟩
abbrev cX10_isWay : ByteArray := prog_12_method_23_code
def yX10_isWay : MethodName := ⟨RX10, "isWay", "(I)Z"⟩
abbrev cX10_isHaste : ByteArray := prog_12_method_24_code
def yX10_isHaste : MethodName := ⟨RX10, "isHaste", "(I)Z"⟩
abbrev cX10_which : ByteArray := prog_12_method_25_code
def yX10_which : MethodName := ⟨RX10, "which", "(I)I"⟩
abbrev cX10_told : ByteArray := prog_12_method_26_code
def yX10_told : MethodName := ⟨RX10, "told", "(I)I"⟩
abbrev cX10_stop : ByteArray := prog_12_method_27_code
def yX10_stop : MethodName := ⟨RX10, "stop", "(II)I"⟩
abbrev cX10_dinAt : ByteArray := prog_12_method_28_code
def yX10_dinAt : MethodName := ⟨RX10, "dinAt", "(I)I"⟩
abbrev cX10_din : ByteArray := prog_12_method_29_code
def yX10_din : MethodName := ⟨RX10, "din", "(I)I"⟩
abbrev cX10_isInAt : ByteArray := prog_12_method_30_code
def yX10_isInAt : MethodName := ⟨RX10, "isInAt", "(II)Z"⟩
abbrev cX10_visit : ByteArray := prog_12_method_31_code
def yX10_visit : MethodName := ⟨RX10, "visit", "(IIIZ)I"⟩
abbrev cX10_roundIn : ByteArray := prog_12_method_32_code
def yX10_roundIn : MethodName := ⟨RX10, "roundIn", "(III)I"⟩
abbrev cX10_tryRound : ByteArray := prog_12_method_33_code
def yX10_tryRound : MethodName := ⟨RX10, "tryRound", "(II)I"⟩
abbrev cX10_copy : ByteArray := prog_12_method_34_code
def yX10_copy : MethodName := ⟨RX10, "copy", "(II)V"⟩
abbrev cX10_remember : ByteArray := prog_12_method_35_code
def yX10_remember : MethodName := ⟨RX10, "remember", "()V"⟩
abbrev cX10_round : ByteArray := prog_12_method_36_code
def yX10_round : MethodName := ⟨RX10, "round", "(II)I"⟩
abbrev cX10_fetch : ByteArray := prog_12_method_37_code
def yX10_fetch : MethodName := ⟨RX10, "fetch", "(I)I"⟩
abbrev cX10_order : ByteArray := prog_12_method_38_code
def yX10_order : MethodName := ⟨RX10, "order", "(I)I"⟩
abbrev cX10_thank : ByteArray := prog_12_method_39_code
def yX10_thank : MethodName := ⟨RX10, "thank", "(I)I"⟩
abbrev cX10_draw : ByteArray := prog_12_method_40_code
def yX10_draw : MethodName := ⟨RX10, "draw", "(I)I"⟩
abbrev cX10_drift : ByteArray := prog_12_method_41_code
def yX10_drift : MethodName := ⟨RX10, "drift", "(I)I"⟩
abbrev cX10_undo : ByteArray := prog_12_method_42_code
def yX10_undo : MethodName := ⟨RX10, "undo", "(I)I"⟩
abbrev cX10_comes : ByteArray := prog_12_method_43_code
def yX10_comes : MethodName := ⟨RX10, "comes", "(III)I"⟩
abbrev cX10_home : ByteArray := prog_12_method_44_code
def yX10_home : MethodName := ⟨RX10, "home", "(II)I"⟩
abbrev cX10_outcome : ByteArray := prog_12_method_45_code
def yX10_outcome : MethodName := ⟨RX10, "outcome", "(II)I"⟩
abbrev cX10_comesTo : ByteArray := prog_12_method_46_code
def yX10_comesTo : MethodName := ⟨RX10, "comesTo", "(II)I"⟩
abbrev cX10_bath : ByteArray := prog_12_method_47_code
def yX10_bath : MethodName := ⟨RX10, "bath", "(IIII)I"⟩
abbrev cX10_counting : ByteArray := prog_12_method_48_code
def yX10_counting : MethodName := ⟨RX10, "counting", "()I"⟩
abbrev cX10_wayOf : ByteArray := prog_12_method_49_code
def yX10_wayOf : MethodName := ⟨RX10, "wayOf", "(I)I"⟩
abbrev cX10_exchange : ByteArray := prog_12_method_50_code
def yX10_exchange : MethodName := ⟨RX10, "exchange", "(II)V"⟩
abbrev cX10_nextRow : ByteArray := prog_12_method_51_code
def yX10_nextRow : MethodName := ⟨RX10, "nextRow", "(I)Z"⟩
abbrev cX10_bestWay : ByteArray := prog_12_method_52_code
def yX10_bestWay : MethodName := ⟨RX10, "bestWay", "(II)I"⟩
abbrev cX10_pretends : ByteArray := prog_12_method_53_code
def yX10_pretends : MethodName := ⟨RX10, "pretends", "(III)I"⟩
abbrev cX10_locker : ByteArray := prog_12_method_54_code
def yX10_locker : MethodName := ⟨RX10, "locker", "(III)I"⟩
abbrev cX10_bears : ByteArray := prog_12_method_55_code
def yX10_bears : MethodName := ⟨RX10, "bears", "(I)I"⟩
abbrev cX10_heard : ByteArray := prog_12_method_56_code
def yX10_heard : MethodName := ⟨RX10, "heard", "(II)I"⟩
abbrev cX10_see : ByteArray := prog_12_method_57_code
def yX10_see : MethodName := ⟨RX10, "see", "(IZ)I"⟩
abbrev cX10_slipsBy : ByteArray := prog_12_method_58_code
def yX10_slipsBy : MethodName := ⟨RX10, "slipsBy", "(II)I"⟩
abbrev cX10_findHastes : ByteArray := prog_12_method_59_code
def yX10_findHastes : MethodName := ⟨RX10, "findHastes", "(I)I"⟩
abbrev cX10_rang : ByteArray := prog_12_method_60_code
def yX10_rang : MethodName := ⟨RX10, "rang", "(II)I"⟩
abbrev cX10_write : ByteArray := prog_12_method_61_code
def yX10_write : MethodName := ⟨RX10, "write", "(II)I"⟩
abbrev cX10_judge : ByteArray := prog_12_method_62_code
def yX10_judge : MethodName := ⟨RX10, "judge", "()I"⟩
abbrev cX10_tear : ByteArray := prog_12_method_63_code
def yX10_tear : MethodName := ⟨RX10, "tear", "()I"⟩
abbrev cX10_seed : ByteArray := prog_12_method_64_code
def yX10_seed : MethodName := ⟨RX10, "seed", "(I)I"⟩
abbrev cX10_keep : ByteArray := prog_12_method_65_code
def yX10_keep : MethodName := ⟨RX10, "keep", "(I)I"⟩
abbrev cX10_goBack : ByteArray := prog_12_method_66_code
def yX10_goBack : MethodName := ⟨RX10, "goBack", "(I)I"⟩
def RJ6 : String := "java/lang/Integer"
abbrev cJ6_bitCount_0f7a4 : ByteArray := prog_13_method_49_code
def yJ6_bitCount_0f7a4 : MethodName := ⟨RJ6, "bitCount", "(I)I"⟩
def RJ9 : String := "java/lang/Math"
abbrev cJ9_abs_0f7a4 : ByteArray := prog_14_method_59_code
def yJ9_abs_0f7a4 : MethodName := ⟨RJ9, "abs", "(I)I"⟩
abbrev cJ9_max_7cf53 : ByteArray := prog_14_method_65_code
def yJ9_max_7cf53 : MethodName := ⟨RJ9, "max", "(II)I"⟩
abbrev cJ9_min_7cf53 : ByteArray := prog_14_method_69_code
def yJ9_min_7cf53 : MethodName := ⟨RJ9, "min", "(II)I"⟩
def RJ10 : String := "java/lang/System"
def RL : String := "WeWereInLaw"
abbrev cL_law : ByteArray := code
def yL_law : MethodName := ⟨RL, "law", "([I)Z"⟩
abbrev vwCl : List vw_C := [(RX0, TX0, 3), (RX1, TX1, 5), (RX2, TX2, 3), (RX3, TX3, 3), (RX4, TX4, 8), (RX5, TX5, 3), (RX6, TX6, 11), (RX7, TX7, 6), (RX8, TX8, 8), (RX9, TX9, 12), (RX10, TX10, 31)]
end
section

abbrev aC : Type := (Nat × vp_A) ⊕ (Nat × List Value)
abbrev aS : Type := Nat × (Nat → aC)
abbrev aG : Type := va_G × (Nat → ClassId) × Nat × Nat
abbrev aM : Type := MethodName × ByteArray × Nat × Option FieldType
def a_v (G : aG) (v : Value) : Value := match v with
  | .ref n => .ref (G.2.2.1 + n)
  | .retAddr _ => .ref G.2.2.2
  | .int x => .int x
  | .long x => .long x
  | .float x => .float x
  | .double x => .double x
  | .null => .null
theorem a_v_cat (G : aG) (v : Value) : (a_v G v).category = v.category := by cases v <;> rfl
def a_st (G : aG) (l : List Value) : List Value := l.map (a_v G)
def a_f (G : aG) (f : Nat → Option Nat) : Nat → Option Nat := fun j => (f j).map (fun n => G.2.2.1 + n)
def a_arr (G : aG) (a : vp_A) : vp_A := match a.2 with
  | .inr (.inr (.inr (.inr f))) => (a.1, .inr (.inr (.inr (.inr (a_f G f)))))
  | .inl f => (a.1, .inl f)
  | .inr (.inl f) => (a.1, .inr (.inl f))
  | .inr (.inr (.inl f)) => (a.1, .inr (.inr (.inl f)))
  | .inr (.inr (.inr (.inl f))) => (a.1, .inr (.inr (.inr (.inl f))))
def a_E (G : aG) (c : aC) : va_E := match c with
  | .inl a => .inl (G.2.1 a.1, a_arr G a.2)
  | .inr o => .inr (o.1, o.2.map (a_v G))
def a_ws (G : aG) (σ : aS) : va_W := (List.range σ.1).map (fun i => (G.2.2.1 + i, a_E G (σ.2 i)))
def a_up (h : Nat → aC) (i : Nat) (c : aC) : Nat → aC := fun j => if j = i then c else h j
theorem a_ws_get (G : aG) (σ : aS) {i : Nat} (h : i < σ.1) : (a_ws G σ)[i]? = some (G.2.2.1 + i, a_E G (σ.2 i)) := by
  simp [a_ws, h]
theorem a_ws_inv {G : aG} {σ : aS} {i : Nat} {q : Nat × va_E} (h : (a_ws G σ)[i]? = some q) : i < σ.1 ∧ q = (G.2.2.1 + i, a_E G (σ.2 i)) := by
  have hi : i < σ.1 := by
    have := (List.getElem?_eq_some_iff.mp h).1
    simpa [a_ws] using this
  rw [a_ws_get G σ hi] at h
  exact ⟨hi, (Option.some.inj h).symm⟩
theorem a_ws_set (G : aG) (σ : aS) {i : Nat} (c : aC) : (a_ws G σ).set i (G.2.2.1 + i, a_E G c) = a_ws G (σ.1, a_up σ.2 i c) := by
  apply List.ext_getElem?
  intro j
  by_cases hj : j < σ.1
  · rw [a_ws_get G (σ.1, a_up σ.2 i c) hj, List.getElem?_set]
    by_cases hij : i = j
    · subst hij
      simp [a_ws, hj, a_up]
    · rw [if_neg hij, a_ws_get G σ hj]
      simp [a_up, Ne.symm hij]
  · have h1 : (a_ws G (σ.1, a_up σ.2 i c))[j]? = none := by simp [a_ws]; omega
    rw [h1]
    simp [a_ws]
    omega
theorem a_ws_push (G : aG) (σ : aS) (c : aC) : a_ws G σ ++ [(G.2.2.1 + σ.1, a_E G c)] = a_ws G (σ.1 + 1, a_up σ.2 σ.1 c) := by
  apply List.ext_getElem?
  intro j
  have hlen : (a_ws G σ).length = σ.1 := by simp [a_ws]
  by_cases hj : j < σ.1
  · rw [List.getElem?_append_left (by omega), a_ws_get G σ hj, a_ws_get G (σ.1 + 1, a_up σ.2 σ.1 c) (i := j) (by show j < σ.1 + 1; omega)]
    simp [a_up, Nat.ne_of_lt hj]
  · by_cases hj2 : j = σ.1
    · subst hj2
      rw [List.getElem?_append_right (by omega), a_ws_get G (σ.1 + 1, a_up σ.2 σ.1 c) (i := σ.1) (by show σ.1 < σ.1 + 1; omega)]
      simp [a_up, hlen]
    · rw [List.getElem?_append_right (by omega)]
      have h1 : (a_ws G (σ.1 + 1, a_up σ.2 σ.1 c))[j]? = none := by simp [a_ws]; omega
      rw [h1, hlen]
      simp
      omega
theorem a_D (G : aG) (σ : aS) : va_D (fun q => G.2.2.1 ≤ q) (a_ws G σ) := by
  refine ⟨fun i j p q hp hq he => ?_, fun k q hq => ?_⟩
  · obtain ⟨h1, rfl⟩ := a_ws_inv hp
    obtain ⟨h2, rfl⟩ := a_ws_inv hq
    have he : G.2.2.1 + i = G.2.2.1 + j := he
    omega
  · obtain ⟨h2, rfl⟩ := a_ws_inv hq
    exact Nat.le_add_right _ _
def a_R (G : aG) (σ : aS) (H : Heap) : Prop := H.size = G.2.2.1 + σ.1 ∧ va_P G.1 vwCl (a_ws G σ) H
def a_tys (G : aG) : List (ClassId × FieldType) := [(G.2.1 0, .int), (G.2.1 1, .boolean), (G.2.1 2, .object "WeWereIn$Days"), (G.2.1 3, .object "WeWereIn$Image")]
def a_isN (w : Cond) : Bool := match w with
  | .fieldLinkNest _ _ _ _ _ _ => true
  | .methodLinkNest _ _ _ _ => true
  | _ => false
def gT : List Cond := lw_tbl.filter goodWord
def nT : List Cond := lw_tbl.filter a_isN
theorem gT_good : GoodIn gT gT := fun w h => ⟨h, good_of_word (List.mem_filter.mp h).2⟩
theorem nT_warm {w : Cond} (hw : w ∈ nT) {s U : State} (hW : s.WarmedH U.vm) (h : va_Nw w s) : va_Nw w U := by
  have h2 := (List.mem_filter.mp hw).2
  cases w <;> first | (simp [a_isN] at h2; done) | exact va_Nw.warmF hW h | exact va_Nw.warmM hW h
theorem nT_same {w : Cond} (hw : w ∈ nT) {u U : State} (hv : u.vm = U.vm) (h : va_Nw w u) : va_Nw w U := by
  have h2 := (List.mem_filter.mp hw).2
  cases w <;> first | (simp [a_isN] at h2; done) | exact va_Nw.same rfl hv h
def a_Kn (G : aG) (U : State) : Prop := va_K G.1 vwCl (a_tys G) U ∧ (∀ w ∈ nT, va_Nw w U) ∧ va_AO "WeWereIn$Days" U ∧ va_AO "WeWereIn$Image" U
theorem a_Kn.warm {G : aG} {s U : State} (hW : s.WarmedH U.vm) (h : a_Kn G s) : a_Kn G U :=
  ⟨va_K.moved hW.alike h.1, fun w hw => nT_warm hw hW (h.2.1 w hw), va_AO.moved hW.alike h.2.2.1, va_AO.moved hW.alike h.2.2.2⟩
theorem a_Kn.same {G : aG} {s U : State} (hv : s.vm = U.vm) (h : a_Kn G s) : a_Kn G U :=
  ⟨va_K.moved (by rw [hv]; exact Vm.Alike.refl U.vm) h.1, fun w hw => nT_same hw hv (h.2.1 w hw), va_AO.moved (by rw [hv]; exact Vm.Alike.refl U.vm) h.2.2.1, va_AO.moved (by rw [hv]; exact Vm.Alike.refl U.vm) h.2.2.2⟩
def a_L (G : aG) (nL : Nat) (L : List (Option Value)) (ls : Array Slot) : Prop := ls.size = nL ∧ lv_wf ls ∧ ∀ (i : Nat) (v : Value), L[i]? = some (some v) → ls[i]? = some (.val (a_v G v))
def a_pairs (G : aG) (L : List (Option Value)) : List (Nat × Value) := (List.range L.length).filterMap (fun i => match L[i]? with | some (some v) => some (i, a_v G v) | _ => none)
theorem a_pairs_mem {G : aG} {L : List (Option Value)} {q : Nat × Value} : q ∈ a_pairs G L ↔ ∃ v, L[q.1]? = some (some v) ∧ q.2 = a_v G v := by
  unfold a_pairs
  rw [List.mem_filterMap]
  constructor
  · rintro ⟨i, -, h⟩
    split at h
    · next v hv =>
      cases h
      exact ⟨v, hv, rfl⟩
    · cases h
  · rintro ⟨v, h1, h2⟩
    refine ⟨q.1, List.mem_range.mpr (List.getElem?_eq_some_iff.mp h1).1, ?_⟩
    rw [h1]
    show some (q.1, a_v G v) = some q
    rw [← h2]
theorem a_L.has {G : aG} {nL : Nat} {L : List (Option Value)} {ls : Array Slot} (h : a_L G nL L ls) : lv_has ls nL (a_pairs G L) :=
  ⟨h.1, h.2.1, fun q hq => by obtain ⟨v, h1, h2⟩ := a_pairs_mem.mp hq; rw [h2]; exact h.2.2 _ _ h1⟩
/-- no long lies in the place ahead of i -/
def a_ok (L : List (Option Value)) (i : Nat) : Bool := match i with
  | 0 => true
  | j + 1 => match L[j]? with
    | some (some (.long _)) => false
    | some (some (.double _)) => false
    | _ => true
theorem a_ok_cat {L : List (Option Value)} {i : Nat} (h : a_ok L i = true) {j : Nat} {w : Value} (hj : j + 1 = i) (hw : L[j]? = some (some w)) : ¬ w.category = 2 := by
  subst hj
  simp only [a_ok, hw] at h
  cases w <;> simp [Value.category] at h ⊢
theorem a_L.st1 {G : aG} {nL : Nat} {L : List (Option Value)} {ls : Array Slot} {i : Nat} {v : Value} (hc : a_ok L i = true) {ls' : Array Slot}
    (h' : lv_has ls' nL ((i, a_v G v) :: (a_pairs G L).filter (fun q => !(q.1 == i) && !(q.1 + 1 == i && q.2.category == 2)))) : a_L G nL (L.set i (some v)) ls' := by
  refine ⟨h'.1, h'.2.1, fun j w hj => ?_⟩
  rw [List.getElem?_set] at hj
  by_cases hij : i = j
  · subst hij
    rw [if_pos rfl] at hj
    split at hj
    · cases hj
      exact h'.2.2 _ List.mem_cons_self
    · cases hj
  · rw [if_neg hij] at hj
    refine h'.2.2 (j, a_v G w) (List.mem_cons_of_mem _ (List.mem_filter.mpr ⟨a_pairs_mem.mpr ⟨w, hj, rfl⟩, ?_⟩))
    have h1 : (j == i) = false := by simpa using Ne.symm hij
    show (!(j == i) && !(j + 1 == i && (a_v G w).category == 2)) = true
    rw [h1, a_v_cat]
    by_cases h2 : j + 1 = i
    · have h3 := a_ok_cat hc h2 hj
      simp [h3]
    · simp [h2]
theorem a_L.st2 {G : aG} {nL : Nat} {L : List (Option Value)} {ls : Array Slot} {i : Nat} {v : Value} (hc : a_ok L i = true) {ls' : Array Slot}
    (h' : lv_has ls' nL ((i, a_v G v) :: (a_pairs G L).filter (fun q => !(q.1 == i) && (!(q.1 == i + 1) && !(q.1 + 1 == i && q.2.category == 2))))) : a_L G nL ((L.set i (some v)).set (i + 1) none) ls' := by
  refine ⟨h'.1, h'.2.1, fun j w hj => ?_⟩
  rw [List.getElem?_set] at hj
  by_cases hij2 : i + 1 = j
  · rw [if_pos hij2] at hj
    split at hj <;> cases hj
  rw [if_neg hij2, List.getElem?_set] at hj
  by_cases hij : i = j
  · subst hij
    rw [if_pos rfl] at hj
    split at hj
    · cases hj
      exact h'.2.2 _ List.mem_cons_self
    · cases hj
  · rw [if_neg hij] at hj
    refine h'.2.2 (j, a_v G w) (List.mem_cons_of_mem _ (List.mem_filter.mpr ⟨a_pairs_mem.mpr ⟨w, hj, rfl⟩, ?_⟩))
    have h1 : (j == i) = false := by simpa using Ne.symm hij
    have h1b : (j == i + 1) = false := by simpa using Ne.symm hij2
    show (!(j == i) && (!(j == i + 1) && !(j + 1 == i && (a_v G w).category == 2))) = true
    rw [h1, h1b, a_v_cat]
    by_cases h2 : j + 1 = i
    · have h3 := a_ok_cat hc h2 hj
      simp [h3]
    · simp [h2]
def a_rt (M : aM) (pc : Nat) (r : Option Value) : Prop := match r with
  | none => decode M.2.1 pc = .ok (.return_, 1) ∧ M.2.2.2 = none
  | some (.int v) => decode M.2.1 pc = .ok (.ireturn, 1) ∧ ∃ ty, M.2.2.2 = some ty ∧ narrow ty (.int v) = .int v
  | _ => False
def a_Cx (scr : Option (Nat × (Nat → Int32))) (k mc ms : Nat) (M : aM) (G : aG) (p : Program) (R : Room) (s : State) (m : MethodId) (args : Array Value) (meth : Method) (c : Code) : Prop :=
  p.tables.exec = Jvm.exec ∧ c.code = M.2.1 ∧ c.maxLocals = M.2.2.1 ∧ s.vm.findClass M.1.cls = some m.cls ∧ (∀ w ∈ gT, w.before args s = true) ∧ a_Kn G s ∧ meth.name = M.1.name ∧ (k ≤ R.frames ∧ 64 * k ≤ R.locals ∧ mc ≤ R.cells ∧ ms ≤ R.slots) ∧ G.2.2.1 ≤ s.heap.size ∧ (∀ q, scr = some q → va_X G.2.2.2 q.1 q.2 s s.heap ∧ G.2.2.2 < G.2.2.1)
def AW (scr : Option (Nat × (Nat → Int32))) (k mc ms : Nat) (M : aM) (c0 s0 pc : Nat) (L : List (Option Value)) (st : List Value) (σ : aS) (P : Option Value → aS → Prop) : Prop :=
  ∀ (p : Program) (l : Launch) (e : Env) (R : Room) (s : State) (m : MethodId) (args : Array Value) (below : List Frame) (meth : Method) (c : Code) (H : Heap) (locs : List Loc) (Q : State → Prop) (ls : Array Slot) (G : aG),
    a_Cx scr k mc ms M G p R s m args meth c → a_R G σ H → va_S (fun q => G.2.2.1 ≤ q) s.heap H locs → a_L G M.2.2.1 L ls →
    (∀ (r : Option Value) (σ' : aS) (H' : Heap) (locs' : List Loc) (c1 s1 pc' : Nat) (ls' : Array Slot), P r σ' → a_R G σ' H' → va_S (fun q => G.2.2.1 ≤ q) s.heap H' locs' → c1 ≤ mc → s1 ≤ ms → a_rt M pc' r → W p l e R s m args below meth c H' locs' c1 s1 Q (F0 m pc' ls' (a_st G r.toList))) →
    W p l e R s m args below meth c H locs c0 s0 Q (F0 m pc ls (a_st G st))
def a_rm (k mc ms : Nat) : Room := { frames := k, cells := mc, slots := ms, locals := 64 * k }
def a_Pc (G : aG) (av : List Value) (σ : aS) : Array Value → State → Prop := va_Pc (a_st G av) (fun U => a_R G σ U.heap ∧ a_Kn G U)
def a_Qc (G : aG) (P : Option Value → aS → Prop) : Array Value → State → Outcome → State → Prop := fun _ st oc t => (∃ (r : Option Value) (σ' : aS), oc = .returned (r.map (a_v G)) ∧ P r σ' ∧ a_R G σ' t.heap) ∧ va_F (fun q => G.2.2.1 ≤ q) st t
def a_wl (M : aM) : List Cond := .code M.1 M.2.1 M.2.2.1 M.2.2.2 :: gT
def AC (k mc ms : Nat) (M : aM) (av : List Value) (σ : aS) (P : Option Value → aS → Prop) : Prop :=
  ∀ (l : Launch) (G : aG), Met l M.1 (a_wl M) (a_rm k mc ms) (a_Pc G av σ) (a_Qc G P) mc ms (fun q => G.2.2.1 ≤ q)
def a_eq (r : Option Value) (σ : aS) : Option Value → aS → Prop := fun r' σ' => r' = r ∧ σ' = σ
/-- the locals at a method's entry -/
def a_ents (l : List Value) : List (Option Value) := match l with
  | [] => []
  | .long x :: t => some (.long x) :: none :: a_ents t
  | .double x :: t => some (.double x) :: none :: a_ents t
  | v :: t => some v :: a_ents t
theorem a_ents_ok (G : aG) (l : List Value) : ∀ (n i : Nat) (v : Value), (a_ents l)[i]? = some (some v) → (n + i, a_v G v) ∈ lv_args n (a_st G l) := by
  induction l with
  | nil => intro n i v h; simp [a_ents] at h
  | cons w t ih =>
    intro n i v h
    have one : w.category = 1 → a_ents (w :: t) = some w :: a_ents t → (n + i, a_v G v) ∈ lv_args n (a_st G (w :: t)) := by
      intro hc he
      rw [he] at h
      show (n + i, a_v G v) ∈ (n, a_v G w) :: lv_args (if (a_v G w).category = 2 then n + 2 else n + 1) (a_st G t)
      rw [a_v_cat, if_neg (by omega)]
      cases i with
      | zero => simp at h; subst h; exact List.mem_cons_self
      | succ i =>
        have := ih (n + 1) i v (by simpa using h)
        rw [show n + 1 + i = n + (i + 1) by omega] at this
        exact List.mem_cons_of_mem _ this
    have two : w.category = 2 → a_ents (w :: t) = some w :: none :: a_ents t → (n + i, a_v G v) ∈ lv_args n (a_st G (w :: t)) := by
      intro hc he
      rw [he] at h
      show (n + i, a_v G v) ∈ (n, a_v G w) :: lv_args (if (a_v G w).category = 2 then n + 2 else n + 1) (a_st G t)
      rw [a_v_cat, if_pos hc]
      match i, h with
      | 0, h => simp at h; subst h; exact List.mem_cons_self
      | 1, h => simp at h
      | i + 2, h =>
        have := ih (n + 2) i v (by simpa using h)
        rw [show n + 2 + i = n + (i + 2) by omega] at this
        exact List.mem_cons_of_mem _ this
    cases w <;> first | exact one rfl rfl | exact two rfl rfl

section AWR
variable {scr : Option (Nat × (Nat → Int32))} {k mc ms : Nat} {M : aM} {c0 s0 pc n : Nat} {L : List (Option Value)} {st : List Value} {σ : aS} {P : Option Value → aS → Prop}
theorem AW.iconst {i : Int} {v : Int32} (hd : decode M.2.1 pc = .ok (.iconst i, 1)) (hv : Int32.ofInt i = v) (hn : pc + 1 = n) (h : AW scr k mc ms M c0 s0 n L (.int v :: st) σ P) : AW scr k mc ms M c0 s0 pc L (st) σ P := by
  subst hn
  intro p l e R s m args below meth c H locs Q ls G C hR hS hL K
  exact lv_iconst C.1 C.2.1 hd hv (h p l e R s m args below meth c H locs Q ls G C hR hS hL K)
theorem AW.bipush {i : Int} {v : Int32} (hd : decode M.2.1 pc = .ok (.bipush i, 2)) (hv : (Int8.ofInt i).toInt32 = v) (hn : pc + 2 = n) (h : AW scr k mc ms M c0 s0 n L (.int v :: st) σ P) : AW scr k mc ms M c0 s0 pc L (st) σ P := by
  subst hn
  intro p l e R s m args below meth c H locs Q ls G C hR hS hL K
  exact lv_bipush C.1 C.2.1 hd hv (h p l e R s m args below meth c H locs Q ls G C hR hS hL K)
theorem AW.sipush {i : Int} {v : Int32} (hd : decode M.2.1 pc = .ok (.sipush i, 3)) (hv : (Int16.ofInt i).toInt32 = v) (hn : pc + 3 = n) (h : AW scr k mc ms M c0 s0 n L (.int v :: st) σ P) : AW scr k mc ms M c0 s0 pc L (st) σ P := by
  subst hn
  intro p l e R s m args below meth c H locs Q ls G C hR hS hL K
  exact lv_sipush C.1 C.2.1 hd hv (h p l e R s m args below meth c H locs Q ls G C hR hS hL K)
theorem AW.lconst {i : Fin 2} {v : Int64} (hd : decode M.2.1 pc = .ok (.lconst i, 1)) (hv : Int64.ofNat (i : Nat) = v) (hn : pc + 1 = n) (h : AW scr k mc ms M c0 s0 n L (.long v :: st) σ P) : AW scr k mc ms M c0 s0 pc L (st) σ P := by
  subst hn
  intro p l e R s m args below meth c H locs Q ls G C hR hS hL K
  exact lv_lconst C.1 C.2.1 hd hv (h p l e R s m args below meth c H locs Q ls G C hR hS hL K)
theorem AW.ldc {i : Nat} {v : Int32} (hd : decode M.2.1 pc = .ok (.ldc i, 2)) (hv : Cond.constant M.1.cls i v ∈ gT) (hn : pc + 2 = n) (h : AW scr k mc ms M c0 s0 n L (.int v :: st) σ P) : AW scr k mc ms M c0 s0 pc L (st) σ P := by
  subst hn
  intro p l e R s m args below meth c H locs Q ls G C hR hS hL K
  exact lv_ldc C.1 C.2.1 C.2.2.2.1 (C.2.2.2.2.1 _ hv) hd (h p l e R s m args below meth c H locs Q ls G C hR hS hL K)
theorem AW.ldcw {i : Nat} {v : Int32} (hd : decode M.2.1 pc = .ok (.ldc_w i, 3)) (hv : Cond.constant M.1.cls i v ∈ gT) (hn : pc + 3 = n) (h : AW scr k mc ms M c0 s0 n L (.int v :: st) σ P) : AW scr k mc ms M c0 s0 pc L (st) σ P := by
  subst hn
  intro p l e R s m args below meth c H locs Q ls G C hR hS hL K
  exact lv_ldcw C.1 C.2.1 C.2.2.2.1 (C.2.2.2.2.1 _ hv) hd (h p l e R s m args below meth c H locs Q ls G C hR hS hL K)
theorem AW.ldc2 {i : Nat} {v : Int64} (hd : decode M.2.1 pc = .ok (.ldc2_w i, 3)) (hv : Cond.constantLong M.1.cls i v ∈ gT) (hn : pc + 3 = n) (h : AW scr k mc ms M c0 s0 n L (.long v :: st) σ P) : AW scr k mc ms M c0 s0 pc L (st) σ P := by
  subst hn
  intro p l e R s m args below meth c H locs Q ls G C hR hS hL K
  exact lv_ldc2 C.1 C.2.1 C.2.2.2.1 (C.2.2.2.2.1 _ hv) hd (h p l e R s m args below meth c H locs Q ls G C hR hS hL K)
theorem AW.iload_n {i : Fin 4} {x : Int32} (hd : decode M.2.1 pc = .ok (.iload_n i, 1)) (hl : L[(i : Nat)]? = some (some (.int x))) (hn : pc + 1 = n) (h : AW scr k mc ms M c0 s0 n L (.int x :: st) σ P) : AW scr k mc ms M c0 s0 pc L (st) σ P := by
  subst hn
  intro p l e R s m args below meth c H locs Q ls G C hR hS hL K
  exact lv_iload_n C.1 C.2.1 hd rfl (hL.2.2 _ _ hl) (h p l e R s m args below meth c H locs Q ls G C hR hS hL K)
theorem AW.iload {i : Nat} {x : Int32} (hd : decode M.2.1 pc = .ok (.iload i, 2)) (hl : L[i]? = some (some (.int x))) (hn : pc + 2 = n) (h : AW scr k mc ms M c0 s0 n L (.int x :: st) σ P) : AW scr k mc ms M c0 s0 pc L (st) σ P := by
  subst hn
  intro p l e R s m args below meth c H locs Q ls G C hR hS hL K
  exact lv_iload C.1 C.2.1 hd (hL.2.2 _ _ hl) (h p l e R s m args below meth c H locs Q ls G C hR hS hL K)
theorem AW.lload_n {i : Fin 4} {x : Int64} (hd : decode M.2.1 pc = .ok (.lload_n i, 1)) (hl : L[(i : Nat)]? = some (some (.long x))) (hn : pc + 1 = n) (h : AW scr k mc ms M c0 s0 n L (.long x :: st) σ P) : AW scr k mc ms M c0 s0 pc L (st) σ P := by
  subst hn
  intro p l e R s m args below meth c H locs Q ls G C hR hS hL K
  exact lv_lload_n C.1 C.2.1 hd rfl (hL.2.2 _ _ hl) (h p l e R s m args below meth c H locs Q ls G C hR hS hL K)
theorem AW.lload {i : Nat} {x : Int64} (hd : decode M.2.1 pc = .ok (.lload i, 2)) (hl : L[i]? = some (some (.long x))) (hn : pc + 2 = n) (h : AW scr k mc ms M c0 s0 n L (.long x :: st) σ P) : AW scr k mc ms M c0 s0 pc L (st) σ P := by
  subst hn
  intro p l e R s m args below meth c H locs Q ls G C hR hS hL K
  exact lv_lload C.1 C.2.1 hd (hL.2.2 _ _ hl) (h p l e R s m args below meth c H locs Q ls G C hR hS hL K)
theorem AW.aload_n {i : Fin 4} {x : Nat} (hd : decode M.2.1 pc = .ok (.aload_n i, 1)) (hl : L[(i : Nat)]? = some (some (.ref x))) (hn : pc + 1 = n) (h : AW scr k mc ms M c0 s0 n L (.ref x :: st) σ P) : AW scr k mc ms M c0 s0 pc L (st) σ P := by
  subst hn
  intro p l e R s m args below meth c H locs Q ls G C hR hS hL K
  exact lv_aload_n C.1 C.2.1 hd rfl (hL.2.2 _ _ hl) (h p l e R s m args below meth c H locs Q ls G C hR hS hL K)
theorem AW.aload {i : Nat} {x : Nat} (hd : decode M.2.1 pc = .ok (.aload i, 2)) (hl : L[i]? = some (some (.ref x))) (hn : pc + 2 = n) (h : AW scr k mc ms M c0 s0 n L (.ref x :: st) σ P) : AW scr k mc ms M c0 s0 pc L (st) σ P := by
  subst hn
  intro p l e R s m args below meth c H locs Q ls G C hR hS hL K
  exact lv_aload C.1 C.2.1 hd (hL.2.2 _ _ hl) (h p l e R s m args below meth c H locs Q ls G C hR hS hL K)
theorem AW.sload_n {i : Fin 4} {x : Nat} (hd : decode M.2.1 pc = .ok (.aload_n i, 1)) (hl : L[(i : Nat)]? = some (some (.retAddr x))) (hn : pc + 1 = n) (h : AW scr k mc ms M c0 s0 n L (.retAddr x :: st) σ P) : AW scr k mc ms M c0 s0 pc L (st) σ P := by
  subst hn
  intro p l e R s m args below meth c H locs Q ls G C hR hS hL K
  exact lv_aload_n C.1 C.2.1 hd rfl (hL.2.2 _ _ hl) (h p l e R s m args below meth c H locs Q ls G C hR hS hL K)
theorem AW.istore_n {i : Fin 4} {x : Int32} {L' : List (Option Value)} (hd : decode M.2.1 pc = .ok (.istore_n i, 1)) (hi : (i : Nat) < M.2.2.1) (hc : a_ok L (i : Nat) = true) (hl : L.set (i : Nat) (some (.int x)) = L') (hn : pc + 1 = n) (h : AW scr k mc ms M c0 s0 n L' st σ P) : AW scr k mc ms M c0 s0 pc L (.int x :: st) σ P := by
  subst hn; subst hl
  intro p l e R s m args below meth c H locs Q ls G C hR hS hL K
  exact lv_istore_n C.1 C.2.1 hd rfl hL.has hi rfl (fun ls1 h1 => h p l e R s m args below meth c H locs Q ls1 G C hR hS (a_L.st1 (ls := ls) hc h1) K)
theorem AW.istore {i : Nat} {x : Int32} {L' : List (Option Value)} (hd : decode M.2.1 pc = .ok (.istore i, 2)) (hi : i < M.2.2.1) (hc : a_ok L i = true) (hl : L.set i (some (.int x)) = L') (hn : pc + 2 = n) (h : AW scr k mc ms M c0 s0 n L' st σ P) : AW scr k mc ms M c0 s0 pc L (.int x :: st) σ P := by
  subst hn; subst hl
  intro p l e R s m args below meth c H locs Q ls G C hR hS hL K
  exact lv_istore C.1 C.2.1 hd hL.has hi rfl (fun ls1 h1 => h p l e R s m args below meth c H locs Q ls1 G C hR hS (a_L.st1 (ls := ls) hc h1) K)
theorem AW.astore_n {i : Fin 4} {x : Nat} {L' : List (Option Value)} (hd : decode M.2.1 pc = .ok (.astore_n i, 1)) (hi : (i : Nat) < M.2.2.1) (hc : a_ok L (i : Nat) = true) (hl : L.set (i : Nat) (some (.ref x)) = L') (hn : pc + 1 = n) (h : AW scr k mc ms M c0 s0 n L' st σ P) : AW scr k mc ms M c0 s0 pc L (.ref x :: st) σ P := by
  subst hn; subst hl
  intro p l e R s m args below meth c H locs Q ls G C hR hS hL K
  exact lv_astore_n C.1 C.2.1 hd rfl hL.has hi rfl (fun ls1 h1 => h p l e R s m args below meth c H locs Q ls1 G C hR hS (a_L.st1 (ls := ls) hc h1) K)
theorem AW.astore {i : Nat} {x : Nat} {L' : List (Option Value)} (hd : decode M.2.1 pc = .ok (.astore i, 2)) (hi : i < M.2.2.1) (hc : a_ok L i = true) (hl : L.set i (some (.ref x)) = L') (hn : pc + 2 = n) (h : AW scr k mc ms M c0 s0 n L' st σ P) : AW scr k mc ms M c0 s0 pc L (.ref x :: st) σ P := by
  subst hn; subst hl
  intro p l e R s m args below meth c H locs Q ls G C hR hS hL K
  exact lv_astore C.1 C.2.1 hd hL.has hi rfl (fun ls1 h1 => h p l e R s m args below meth c H locs Q ls1 G C hR hS (a_L.st1 (ls := ls) hc h1) K)
theorem AW.lstore_n {i : Fin 4} {x : Int64} {L' : List (Option Value)} (hd : decode M.2.1 pc = .ok (.lstore_n i, 1)) (hi : (i : Nat) + 1 < M.2.2.1) (hc : a_ok L (i : Nat) = true) (hl : (L.set (i : Nat) (some (.long x))).set ((i : Nat) + 1) none = L') (hn : pc + 1 = n) (h : AW scr k mc ms M c0 s0 n L' st σ P) : AW scr k mc ms M c0 s0 pc L (.long x :: st) σ P := by
  subst hn; subst hl
  intro p l e R s m args below meth c H locs Q ls G C hR hS hL K
  exact lv_lstore_n C.1 C.2.1 hd rfl hL.has hi rfl (fun ls1 h1 => h p l e R s m args below meth c H locs Q ls1 G C hR hS (a_L.st2 (ls := ls) hc h1) K)
theorem AW.iinc {i : Nat} {x v : Int32} {d : Int} {L' : List (Option Value)} (hd : decode M.2.1 pc = .ok (.iinc i d, 3)) (hx : L[i]? = some (some (.int x))) (hv : x + Int32.ofInt d = v) (hi : i < M.2.2.1) (hc : a_ok L i = true) (hl : L.set i (some (.int v)) = L') (hn : pc + 3 = n) (h : AW scr k mc ms M c0 s0 n L' st σ P) : AW scr k mc ms M c0 s0 pc L st σ P := by
  subst hn; subst hl
  intro p l e R s m args below meth c H locs Q ls G C hR hS hL K
  obtain ⟨kk, hkk⟩ := List.getElem?_of_mem (a_pairs_mem (G := G) (q := (i, .int x)) |>.mpr ⟨.int x, hx, rfl⟩)
  exact lv_iinc C.1 C.2.1 hd hL.has hkk hv hi rfl (fun ls1 h1 => h p l e R s m args below meth c H locs Q ls1 G C hR hS (a_L.st1 (ls := ls) (v := .int v) hc h1) K)
theorem AW.iadd {x y : Int32} (hd : decode M.2.1 pc = .ok (.iadd, 1)) (hn : pc + 1 = n) (h : AW scr k mc ms M c0 s0 n L (.int (x + y) :: st) σ P) : AW scr k mc ms M c0 s0 pc L (.int y :: .int x :: st) σ P := by
  subst hn
  intro p l e R s m args below meth c H locs Q ls G C hR hS hL K
  exact lv_iadd C.1 C.2.1 hd (h p l e R s m args below meth c H locs Q ls G C hR hS hL K)
theorem AW.isub {x y : Int32} (hd : decode M.2.1 pc = .ok (.isub, 1)) (hn : pc + 1 = n) (h : AW scr k mc ms M c0 s0 n L (.int (x - y) :: st) σ P) : AW scr k mc ms M c0 s0 pc L (.int y :: .int x :: st) σ P := by
  subst hn
  intro p l e R s m args below meth c H locs Q ls G C hR hS hL K
  exact lv_isub C.1 C.2.1 hd (h p l e R s m args below meth c H locs Q ls G C hR hS hL K)
theorem AW.imul {x y : Int32} (hd : decode M.2.1 pc = .ok (.imul, 1)) (hn : pc + 1 = n) (h : AW scr k mc ms M c0 s0 n L (.int (x * y) :: st) σ P) : AW scr k mc ms M c0 s0 pc L (.int y :: .int x :: st) σ P := by
  subst hn
  intro p l e R s m args below meth c H locs Q ls G C hR hS hL K
  exact lv_imul C.1 C.2.1 hd (h p l e R s m args below meth c H locs Q ls G C hR hS hL K)
theorem AW.iand {x y : Int32} (hd : decode M.2.1 pc = .ok (.iand, 1)) (hn : pc + 1 = n) (h : AW scr k mc ms M c0 s0 n L (.int (x &&& y) :: st) σ P) : AW scr k mc ms M c0 s0 pc L (.int y :: .int x :: st) σ P := by
  subst hn
  intro p l e R s m args below meth c H locs Q ls G C hR hS hL K
  exact lv_iand C.1 C.2.1 hd (h p l e R s m args below meth c H locs Q ls G C hR hS hL K)
theorem AW.ior {x y : Int32} (hd : decode M.2.1 pc = .ok (.ior, 1)) (hn : pc + 1 = n) (h : AW scr k mc ms M c0 s0 n L (.int (x ||| y) :: st) σ P) : AW scr k mc ms M c0 s0 pc L (.int y :: .int x :: st) σ P := by
  subst hn
  intro p l e R s m args below meth c H locs Q ls G C hR hS hL K
  exact lv_ior C.1 C.2.1 hd (h p l e R s m args below meth c H locs Q ls G C hR hS hL K)
theorem AW.ixor {x y : Int32} (hd : decode M.2.1 pc = .ok (.ixor, 1)) (hn : pc + 1 = n) (h : AW scr k mc ms M c0 s0 n L (.int (x ^^^ y) :: st) σ P) : AW scr k mc ms M c0 s0 pc L (.int y :: .int x :: st) σ P := by
  subst hn
  intro p l e R s m args below meth c H locs Q ls G C hR hS hL K
  exact lv_ixor C.1 C.2.1 hd (h p l e R s m args below meth c H locs Q ls G C hR hS hL K)
theorem AW.ishl {x y : Int32} (hd : decode M.2.1 pc = .ok (.ishl, 1)) (hn : pc + 1 = n) (h : AW scr k mc ms M c0 s0 n L (.int (x <<< (y &&& 31)) :: st) σ P) : AW scr k mc ms M c0 s0 pc L (.int y :: .int x :: st) σ P := by
  subst hn
  intro p l e R s m args below meth c H locs Q ls G C hR hS hL K
  exact lv_ishl C.1 C.2.1 hd (h p l e R s m args below meth c H locs Q ls G C hR hS hL K)
theorem AW.ishr {x y : Int32} (hd : decode M.2.1 pc = .ok (.ishr, 1)) (hn : pc + 1 = n) (h : AW scr k mc ms M c0 s0 n L (.int (x >>> (y &&& 31)) :: st) σ P) : AW scr k mc ms M c0 s0 pc L (.int y :: .int x :: st) σ P := by
  subst hn
  intro p l e R s m args below meth c H locs Q ls G C hR hS hL K
  exact lv_ishr C.1 C.2.1 hd (h p l e R s m args below meth c H locs Q ls G C hR hS hL K)
theorem AW.iushr {x y : Int32} (hd : decode M.2.1 pc = .ok (.iushr, 1)) (hn : pc + 1 = n) (h : AW scr k mc ms M c0 s0 n L (.int ((x.toUInt32 >>> (y.toUInt32 &&& Int32.toUInt32 31)).toInt32) :: st) σ P) : AW scr k mc ms M c0 s0 pc L (.int y :: .int x :: st) σ P := by
  subst hn
  intro p l e R s m args below meth c H locs Q ls G C hR hS hL K
  exact lv_iushr C.1 C.2.1 hd rfl (h p l e R s m args below meth c H locs Q ls G C hR hS hL K)
theorem AW.idiv {x y : Int32} (hd : decode M.2.1 pc = .ok (.idiv, 1)) (hne : ¬ y = 0) (hn : pc + 1 = n) (h : AW scr k mc ms M c0 s0 n L (.int (x / y) :: st) σ P) : AW scr k mc ms M c0 s0 pc L (.int y :: .int x :: st) σ P := by
  subst hn
  intro p l e R s m args below meth c H locs Q ls G C hR hS hL K
  exact lv_idiv C.1 C.2.1 hd hne (h p l e R s m args below meth c H locs Q ls G C hR hS hL K)
theorem AW.irem {x y : Int32} (hd : decode M.2.1 pc = .ok (.irem, 1)) (hne : ¬ y = 0) (hn : pc + 1 = n) (h : AW scr k mc ms M c0 s0 n L (.int (x - x / y * y) :: st) σ P) : AW scr k mc ms M c0 s0 pc L (.int y :: .int x :: st) σ P := by
  subst hn
  intro p l e R s m args below meth c H locs Q ls G C hR hS hL K
  exact lv_irem C.1 C.2.1 hd hne (h p l e R s m args below meth c H locs Q ls G C hR hS hL K)
theorem AW.ladd {x y : Int64} (hd : decode M.2.1 pc = .ok (.ladd, 1)) (hn : pc + 1 = n) (h : AW scr k mc ms M c0 s0 n L (.long (x + y) :: st) σ P) : AW scr k mc ms M c0 s0 pc L (.long y :: .long x :: st) σ P := by
  subst hn
  intro p l e R s m args below meth c H locs Q ls G C hR hS hL K
  exact lv_ladd C.1 C.2.1 hd (h p l e R s m args below meth c H locs Q ls G C hR hS hL K)
theorem AW.lsub {x y : Int64} (hd : decode M.2.1 pc = .ok (.lsub, 1)) (hn : pc + 1 = n) (h : AW scr k mc ms M c0 s0 n L (.long (x - y) :: st) σ P) : AW scr k mc ms M c0 s0 pc L (.long y :: .long x :: st) σ P := by
  subst hn
  intro p l e R s m args below meth c H locs Q ls G C hR hS hL K
  exact lv_lsub C.1 C.2.1 hd (h p l e R s m args below meth c H locs Q ls G C hR hS hL K)
theorem AW.lmul {x y : Int64} (hd : decode M.2.1 pc = .ok (.lmul, 1)) (hn : pc + 1 = n) (h : AW scr k mc ms M c0 s0 n L (.long (x * y) :: st) σ P) : AW scr k mc ms M c0 s0 pc L (.long y :: .long x :: st) σ P := by
  subst hn
  intro p l e R s m args below meth c H locs Q ls G C hR hS hL K
  exact lv_lmul C.1 C.2.1 hd (h p l e R s m args below meth c H locs Q ls G C hR hS hL K)
theorem AW.land {x y : Int64} (hd : decode M.2.1 pc = .ok (.land, 1)) (hn : pc + 1 = n) (h : AW scr k mc ms M c0 s0 n L (.long (x &&& y) :: st) σ P) : AW scr k mc ms M c0 s0 pc L (.long y :: .long x :: st) σ P := by
  subst hn
  intro p l e R s m args below meth c H locs Q ls G C hR hS hL K
  exact lv_land C.1 C.2.1 hd (h p l e R s m args below meth c H locs Q ls G C hR hS hL K)
theorem AW.ldiv {x y : Int64} (hd : decode M.2.1 pc = .ok (.ldiv, 1)) (hne : ¬ y = 0) (hn : pc + 1 = n) (h : AW scr k mc ms M c0 s0 n L (.long (x / y) :: st) σ P) : AW scr k mc ms M c0 s0 pc L (.long y :: .long x :: st) σ P := by
  subst hn
  intro p l e R s m args below meth c H locs Q ls G C hR hS hL K
  exact lv_ldiv C.1 C.2.1 hd hne (h p l e R s m args below meth c H locs Q ls G C hR hS hL K)
theorem AW.lrem {x y : Int64} (hd : decode M.2.1 pc = .ok (.lrem, 1)) (hne : ¬ y = 0) (hn : pc + 1 = n) (h : AW scr k mc ms M c0 s0 n L (.long (x - x / y * y) :: st) σ P) : AW scr k mc ms M c0 s0 pc L (.long y :: .long x :: st) σ P := by
  subst hn
  intro p l e R s m args below meth c H locs Q ls G C hR hS hL K
  exact lv_lrem C.1 C.2.1 hd hne (h p l e R s m args below meth c H locs Q ls G C hR hS hL K)
theorem AW.lcmp {x y : Int64} (hd : decode M.2.1 pc = .ok (.lcmp, 1)) (hn : pc + 1 = n) (h : AW scr k mc ms M c0 s0 n L (.int (lg_cmp x y) :: st) σ P) : AW scr k mc ms M c0 s0 pc L (.long y :: .long x :: st) σ P := by
  subst hn
  intro p l e R s m args below meth c H locs Q ls G C hR hS hL K
  exact W.lcmp C.1 C.2.1 hd (h p l e R s m args below meth c H locs Q ls G C hR hS hL K)
theorem AW.i2l {x : Int32} (hd : decode M.2.1 pc = .ok (.i2l, 1)) (hn : pc + 1 = n) (h : AW scr k mc ms M c0 s0 n L (.long x.toInt64 :: st) σ P) : AW scr k mc ms M c0 s0 pc L (.int x :: st) σ P := by
  subst hn
  intro p l e R s m args below meth c H locs Q ls G C hR hS hL K
  exact lv_i2l C.1 C.2.1 hd rfl (h p l e R s m args below meth c H locs Q ls G C hR hS hL K)
theorem AW.l2i {x : Int64} (hd : decode M.2.1 pc = .ok (.l2i, 1)) (hn : pc + 1 = n) (h : AW scr k mc ms M c0 s0 n L (.int x.toInt32 :: st) σ P) : AW scr k mc ms M c0 s0 pc L (.long x :: st) σ P := by
  subst hn
  intro p l e R s m args below meth c H locs Q ls G C hR hS hL K
  exact lv_l2i C.1 C.2.1 hd rfl (h p l e R s m args below meth c H locs Q ls G C hR hS hL K)
theorem AW.dup {v : Value} (hd : decode M.2.1 pc = .ok (.dup, 1)) (hc : v.category = 1) (hn : pc + 1 = n) (h : AW scr k mc ms M c0 s0 n L (v :: v :: st) σ P) : AW scr k mc ms M c0 s0 pc L (v :: st) σ P := by
  subst hn
  intro p l e R s m args below meth c H locs Q ls G C hR hS hL K
  exact lv_dup C.1 C.2.1 hd ((a_v_cat G v).trans hc) (h p l e R s m args below meth c H locs Q ls G C hR hS hL K)
theorem AW.dup2 {v u : Value} (hd : decode M.2.1 pc = .ok (.dup2, 1)) (hc : v.category = 1) (hu : u.category = 1) (hn : pc + 1 = n) (h : AW scr k mc ms M c0 s0 n L (v :: u :: v :: u :: st) σ P) : AW scr k mc ms M c0 s0 pc L (v :: u :: st) σ P := by
  subst hn
  intro p l e R s m args below meth c H locs Q ls G C hR hS hL K
  exact lv_dup2_11 C.1 C.2.1 hd ((a_v_cat G v).trans hc) ((a_v_cat G u).trans hu) (h p l e R s m args below meth c H locs Q ls G C hR hS hL K)
theorem AW.if_eq {x : Int32} {o : Int} {t : Nat} (hd : decode M.2.1 pc = .ok (.ifCond .eq o, 3)) (ht : (pc : Int) + o = (t : Int)) (hn : pc + 3 = n) (h1 : x = 0 → AW scr k mc ms M c0 s0 t L st σ P) (h2 : ¬ (x = 0) → AW scr k mc ms M c0 s0 n L st σ P) : AW scr k mc ms M c0 s0 pc L (.int x :: st) σ P := by
  subst hn
  intro p l e R s m args below meth c H locs Q ls G C hR hS hL K
  exact lv_if_eq C.1 C.2.1 hd ht (fun q => h1 q p l e R s m args below meth c H locs Q ls G C hR hS hL K) (fun q => h2 q p l e R s m args below meth c H locs Q ls G C hR hS hL K)
theorem AW.if_ne {x : Int32} {o : Int} {t : Nat} (hd : decode M.2.1 pc = .ok (.ifCond .ne o, 3)) (ht : (pc : Int) + o = (t : Int)) (hn : pc + 3 = n) (h1 : ¬ x = 0 → AW scr k mc ms M c0 s0 t L st σ P) (h2 : x = 0 → AW scr k mc ms M c0 s0 n L st σ P) : AW scr k mc ms M c0 s0 pc L (.int x :: st) σ P := by
  subst hn
  intro p l e R s m args below meth c H locs Q ls G C hR hS hL K
  exact lv_if_ne C.1 C.2.1 hd ht (fun q => h1 q p l e R s m args below meth c H locs Q ls G C hR hS hL K) (fun q => h2 q p l e R s m args below meth c H locs Q ls G C hR hS hL K)
theorem AW.if_lt {x : Int32} {o : Int} {t : Nat} (hd : decode M.2.1 pc = .ok (.ifCond .lt o, 3)) (ht : (pc : Int) + o = (t : Int)) (hn : pc + 3 = n) (h1 : x < 0 → AW scr k mc ms M c0 s0 t L st σ P) (h2 : ¬ (x < 0) → AW scr k mc ms M c0 s0 n L st σ P) : AW scr k mc ms M c0 s0 pc L (.int x :: st) σ P := by
  subst hn
  intro p l e R s m args below meth c H locs Q ls G C hR hS hL K
  exact lv_if_lt C.1 C.2.1 hd ht (fun q => h1 q p l e R s m args below meth c H locs Q ls G C hR hS hL K) (fun q => h2 q p l e R s m args below meth c H locs Q ls G C hR hS hL K)
theorem AW.if_ge {x : Int32} {o : Int} {t : Nat} (hd : decode M.2.1 pc = .ok (.ifCond .ge o, 3)) (ht : (pc : Int) + o = (t : Int)) (hn : pc + 3 = n) (h1 : 0 ≤ x → AW scr k mc ms M c0 s0 t L st σ P) (h2 : ¬ (0 ≤ x) → AW scr k mc ms M c0 s0 n L st σ P) : AW scr k mc ms M c0 s0 pc L (.int x :: st) σ P := by
  subst hn
  intro p l e R s m args below meth c H locs Q ls G C hR hS hL K
  exact lv_if_ge C.1 C.2.1 hd ht (fun q => h1 q p l e R s m args below meth c H locs Q ls G C hR hS hL K) (fun q => h2 q p l e R s m args below meth c H locs Q ls G C hR hS hL K)
theorem AW.if_gt {x : Int32} {o : Int} {t : Nat} (hd : decode M.2.1 pc = .ok (.ifCond .gt o, 3)) (ht : (pc : Int) + o = (t : Int)) (hn : pc + 3 = n) (h1 : 0 < x → AW scr k mc ms M c0 s0 t L st σ P) (h2 : ¬ (0 < x) → AW scr k mc ms M c0 s0 n L st σ P) : AW scr k mc ms M c0 s0 pc L (.int x :: st) σ P := by
  subst hn
  intro p l e R s m args below meth c H locs Q ls G C hR hS hL K
  exact lv_if_gt C.1 C.2.1 hd ht (fun q => h1 q p l e R s m args below meth c H locs Q ls G C hR hS hL K) (fun q => h2 q p l e R s m args below meth c H locs Q ls G C hR hS hL K)
theorem AW.if_le {x : Int32} {o : Int} {t : Nat} (hd : decode M.2.1 pc = .ok (.ifCond .le o, 3)) (ht : (pc : Int) + o = (t : Int)) (hn : pc + 3 = n) (h1 : x ≤ 0 → AW scr k mc ms M c0 s0 t L st σ P) (h2 : ¬ (x ≤ 0) → AW scr k mc ms M c0 s0 n L st σ P) : AW scr k mc ms M c0 s0 pc L (.int x :: st) σ P := by
  subst hn
  intro p l e R s m args below meth c H locs Q ls G C hR hS hL K
  exact lv_if_le C.1 C.2.1 hd ht (fun q => h1 q p l e R s m args below meth c H locs Q ls G C hR hS hL K) (fun q => h2 q p l e R s m args below meth c H locs Q ls G C hR hS hL K)
theorem AW.icmp_eq {x y : Int32} {o : Int} {t : Nat} (hd : decode M.2.1 pc = .ok (.if_icmp .eq o, 3)) (ht : (pc : Int) + o = (t : Int)) (hn : pc + 3 = n) (h1 : x = y → AW scr k mc ms M c0 s0 t L st σ P) (h2 : ¬ (x = y) → AW scr k mc ms M c0 s0 n L st σ P) : AW scr k mc ms M c0 s0 pc L (.int y :: .int x :: st) σ P := by
  subst hn
  intro p l e R s m args below meth c H locs Q ls G C hR hS hL K
  exact lv_icmp_eq C.1 C.2.1 hd ht (fun q => h1 q p l e R s m args below meth c H locs Q ls G C hR hS hL K) (fun q => h2 q p l e R s m args below meth c H locs Q ls G C hR hS hL K)
theorem AW.icmp_ne {x y : Int32} {o : Int} {t : Nat} (hd : decode M.2.1 pc = .ok (.if_icmp .ne o, 3)) (ht : (pc : Int) + o = (t : Int)) (hn : pc + 3 = n) (h1 : ¬ x = y → AW scr k mc ms M c0 s0 t L st σ P) (h2 : x = y → AW scr k mc ms M c0 s0 n L st σ P) : AW scr k mc ms M c0 s0 pc L (.int y :: .int x :: st) σ P := by
  subst hn
  intro p l e R s m args below meth c H locs Q ls G C hR hS hL K
  exact lv_icmp_ne C.1 C.2.1 hd ht (fun q => h1 q p l e R s m args below meth c H locs Q ls G C hR hS hL K) (fun q => h2 q p l e R s m args below meth c H locs Q ls G C hR hS hL K)
theorem AW.icmp_lt {x y : Int32} {o : Int} {t : Nat} (hd : decode M.2.1 pc = .ok (.if_icmp .lt o, 3)) (ht : (pc : Int) + o = (t : Int)) (hn : pc + 3 = n) (h1 : x < y → AW scr k mc ms M c0 s0 t L st σ P) (h2 : ¬ (x < y) → AW scr k mc ms M c0 s0 n L st σ P) : AW scr k mc ms M c0 s0 pc L (.int y :: .int x :: st) σ P := by
  subst hn
  intro p l e R s m args below meth c H locs Q ls G C hR hS hL K
  exact lv_icmp_lt C.1 C.2.1 hd ht (fun q => h1 q p l e R s m args below meth c H locs Q ls G C hR hS hL K) (fun q => h2 q p l e R s m args below meth c H locs Q ls G C hR hS hL K)
theorem AW.icmp_ge {x y : Int32} {o : Int} {t : Nat} (hd : decode M.2.1 pc = .ok (.if_icmp .ge o, 3)) (ht : (pc : Int) + o = (t : Int)) (hn : pc + 3 = n) (h1 : y ≤ x → AW scr k mc ms M c0 s0 t L st σ P) (h2 : ¬ (y ≤ x) → AW scr k mc ms M c0 s0 n L st σ P) : AW scr k mc ms M c0 s0 pc L (.int y :: .int x :: st) σ P := by
  subst hn
  intro p l e R s m args below meth c H locs Q ls G C hR hS hL K
  exact lv_icmp_ge C.1 C.2.1 hd ht (fun q => h1 q p l e R s m args below meth c H locs Q ls G C hR hS hL K) (fun q => h2 q p l e R s m args below meth c H locs Q ls G C hR hS hL K)
theorem AW.icmp_gt {x y : Int32} {o : Int} {t : Nat} (hd : decode M.2.1 pc = .ok (.if_icmp .gt o, 3)) (ht : (pc : Int) + o = (t : Int)) (hn : pc + 3 = n) (h1 : y < x → AW scr k mc ms M c0 s0 t L st σ P) (h2 : ¬ (y < x) → AW scr k mc ms M c0 s0 n L st σ P) : AW scr k mc ms M c0 s0 pc L (.int y :: .int x :: st) σ P := by
  subst hn
  intro p l e R s m args below meth c H locs Q ls G C hR hS hL K
  exact lv_icmp_gt C.1 C.2.1 hd ht (fun q => h1 q p l e R s m args below meth c H locs Q ls G C hR hS hL K) (fun q => h2 q p l e R s m args below meth c H locs Q ls G C hR hS hL K)
theorem AW.icmp_le {x y : Int32} {o : Int} {t : Nat} (hd : decode M.2.1 pc = .ok (.if_icmp .le o, 3)) (ht : (pc : Int) + o = (t : Int)) (hn : pc + 3 = n) (h1 : x ≤ y → AW scr k mc ms M c0 s0 t L st σ P) (h2 : ¬ (x ≤ y) → AW scr k mc ms M c0 s0 n L st σ P) : AW scr k mc ms M c0 s0 pc L (.int y :: .int x :: st) σ P := by
  subst hn
  intro p l e R s m args below meth c H locs Q ls G C hR hS hL K
  exact lv_icmp_le C.1 C.2.1 hd ht (fun q => h1 q p l e R s m args below meth c H locs Q ls G C hR hS hL K) (fun q => h2 q p l e R s m args below meth c H locs Q ls G C hR hS hL K)
theorem AW.goto {o : Int} {t : Nat} (hd : decode M.2.1 pc = .ok (.goto o, 3)) (ht : (pc : Int) + o = (t : Int)) (h : AW scr k mc ms M c0 s0 t L st σ P) : AW scr k mc ms M c0 s0 pc L st σ P := by
  intro p l e R s m args below meth c H locs Q ls G C hR hS hL K
  exact lv_goto C.1 C.2.1 hd ht (h p l e R s m args below meth c H locs Q ls G C hR hS hL K)
theorem AW.tsOut {x : Int32} {df lo hi : Int} {offs : Array Int} {ln t : Nat} (hd : decode M.2.1 pc = .ok (.tableswitch df lo hi offs, ln)) (hx : x.toInt < lo ∨ hi < x.toInt) (ht : (pc : Int) + df = (t : Int)) (h : AW scr k mc ms M c0 s0 t L st σ P) : AW scr k mc ms M c0 s0 pc L (.int x :: st) σ P := by
  intro p l e R s m args below meth c H locs Q ls G C hR hS hL K
  exact lv_tableOut C.1 C.2.1 hd hx ht (h p l e R s m args below meth c H locs Q ls G C hR hS hL K)
theorem AW.tsIn {x : Int32} {df lo hi o : Int} {offs : Array Int} {ln t : Nat} (hd : decode M.2.1 pc = .ok (.tableswitch df lo hi offs, ln)) (h1 : ¬ x.toInt < lo) (h2 : ¬ hi < x.toInt) (ho : offs[(x.toInt - lo).toNat]? = some o) (ht : (pc : Int) + o = (t : Int)) (h : AW scr k mc ms M c0 s0 t L st σ P) : AW scr k mc ms M c0 s0 pc L (.int x :: st) σ P := by
  intro p l e R s m args below meth c H locs Q ls G C hR hS hL K
  exact lv_tableIn C.1 C.2.1 hd h1 h2 ho ht (h p l e R s m args below meth c H locs Q ls G C hR hS hL K)
theorem AW.lsw {x : Int32} {df o : Int} {ps : Array (Int × Int)} {ln t : Nat} (hd : decode M.2.1 pc = .ok (.lookupswitch df ps, ln)) (hp : (ps.toList.zip (ps.toList.drop 1)).all (fun (a, next) => a.1 < next.1) = true) (ho : Op.lookupswitch.offset ps.toList df x.toInt = o) (ht : (pc : Int) + o = (t : Int)) (h : AW scr k mc ms M c0 s0 t L st σ P) : AW scr k mc ms M c0 s0 pc L (.int x :: st) σ P := by
  intro p l e R s m args below meth c H locs Q ls G C hR hS hL K
  exact lv_lookup C.1 C.2.1 hd hp ho ht (h p l e R s m args below meth c H locs Q ls G C hR hS hL K)
theorem AW.ret (hd : decode M.2.1 pc = .ok (.return_, 1)) (hr : M.2.2.2 = none) (hc : c0 ≤ mc) (hs : s0 ≤ ms) (hP : P none σ) : AW scr k mc ms M c0 s0 pc L [] σ P := by
  intro p l e R s m args below meth c H locs Q ls G C hR hS hL K
  exact K none σ H locs c0 s0 pc ls hP hR hS hc hs ⟨hd, hr⟩
theorem AW.iret {x : Int32} {ty : FieldType} (hd : decode M.2.1 pc = .ok (.ireturn, 1)) (hr : M.2.2.2 = some ty) (hn : narrow ty (.int x) = .int x) (hc : c0 ≤ mc) (hs : s0 ≤ ms) (hP : P (some (.int x)) σ) : AW scr k mc ms M c0 s0 pc L [.int x] σ P := by
  intro p l e R s m args below meth c H locs Q ls G C hR hS hL K
  exact K (some (.int x)) σ H locs c0 s0 pc ls hP hR hS hc hs ⟨hd, ty, hr, hn⟩
theorem AW.mono {P' : Option Value → aS → Prop} (hP : ∀ r τ, P' r τ → P r τ) (h : AW scr k mc ms M c0 s0 pc L st σ P') : AW scr k mc ms M c0 s0 pc L st σ P := by
  intro p l e R s m args below meth c H locs Q ls G C hR hS hL K
  exact h p l e R s m args below meth c H locs Q ls G C hR hS hL (fun r τ H' locs' c1 s1 pc' ls' h1 => K r τ H' locs' c1 s1 pc' ls' (hP r τ h1))
theorem AW.wide {c1 s1 : Nat} (h1 : c0 ≤ c1) (h2 : s0 ≤ s1) (h : AW scr k mc ms M c1 s1 pc L st σ P) : AW scr k mc ms M c0 s0 pc L st σ P := by
  intro p l e R s m args below meth c H locs Q ls G C hR hS hL K
  exact W.widen h1 h2 (h p l e R s m args below meth c H locs Q ls G C hR hS hL K)
end AWR
end
section

theorem a_R.up {G : aG} {σ : aS} {H H1 : Heap} {a : Nat} {c : aC} (hR : a_R G σ H) (ha : a < σ.1) (z : H1.size = H.size) (oq : ∀ q : Nat, q ≠ G.2.2.1 + a → H1[q]? = H[q]?) (he : va_at G.1 vwCl (G.2.2.1 + a, a_E G c) H1) : a_R G (σ.1, a_up σ.2 a c) H1 := by
  refine ⟨by rw [z]; exact hR.1, ?_⟩
  rw [← a_ws_set]
  exact hR.2.set (a_D G σ) (a_ws_get G σ ha) he oq
theorem a_R.push {G : aG} {σ : aS} {H H1 : Heap} {c : aC} (hR : a_R G σ H) (z : H1.size = H.size + 1) (oq : ∀ q : Nat, q < H.size → H1[q]? = H[q]?) (he : va_at G.1 vwCl (G.2.2.1 + σ.1, a_E G c) H1) : a_R G (σ.1 + 1, a_up σ.2 σ.1 c) H1 := by
  refine ⟨by show _ = _ + (σ.1 + 1); rw [z, hR.1]; omega, ?_⟩
  rw [← a_ws_push]
  refine (hR.2.kept (fun k q hk => oq _ (hR.2 k q hk).lt)).app ?_
  intro k x hx
  have hz : k < 1 := (List.getElem?_eq_some_iff.mp hx).1
  rw [show k = 0 by omega] at hx
  cases hx
  exact he
theorem a_R.at {G : aG} {σ : aS} {H : Heap} (hR : a_R G σ H) {a : Nat} (ha : a < σ.1) {c : aC} (hc : σ.2 a = c) : va_at G.1 vwCl (G.2.2.1 + a, a_E G c) H := by
  subst hc
  exact hR.2 a _ (a_ws_get G σ ha)
theorem a_S.push {A : Nat → Prop} {H0 H H1 : Heap} {locs : List Loc} (hS : va_S A H0 H locs) (z : H1.size = H.size + 1) (oq : ∀ q : Nat, q < H.size → H1[q]? = H[q]?) : va_S A H0 H1 locs :=
  ⟨Nat.le_trans hS.1 (by omega), fun x h1 h2 => (oq x (Nat.lt_of_lt_of_le h1 hS.1)).trans (hS.2.1 x h1 h2), hS.2.2⟩
/-- what the tables say of a class of the world -/
def a_cl (q : vw_C) : Prop := ∃ ty0 : Nat → FieldType, (∀ k, k < q.2.2 → parseFieldDescriptor (q.2.1 k).2.2.1 = some (ty0 k)) ∧ (∀ a, a < q.2.2 → ∀ b, b < q.2.2 → a ≠ b → (q.2.1 a).2.1 ≠ (q.2.1 b).2.1) ∧ (∀ w ∈ u_ws q.1 q.2.1 q.2.2, w ∈ gT)
def a_inT (l : List Cond) : Bool := l.all (fun w => decide (w ∈ lw_tbl) && goodWord w)
theorem a_inT_ok {l : List Cond} (h : a_inT l = true) : ∀ w ∈ l, w ∈ gT := by
  intro w hw
  have h1 := List.all_eq_true.mp h w hw
  rw [Bool.and_eq_true] at h1
  exact List.mem_filter.mpr ⟨of_decide_eq_true h1.1, h1.2⟩
theorem a_inG {w : Cond} (i : Nat) (h : lw_tbl[i]? = some w) (hg : goodWord w = true) : w ∈ gT := List.mem_filter.mpr ⟨List.mem_of_getElem? h, hg⟩
theorem a_inN {w : Cond} (i : Nat) (h : lw_tbl[i]? = some w) (hg : a_isN w = true) : w ∈ nT := List.mem_filter.mpr ⟨List.mem_of_getElem? h, hg⟩
theorem a_clT (ci : Nat) (q : vw_C) (h : vwCl[ci]? = some q) : a_cl q := by
  match ci, h with
  | 0, h => cases h; exact ⟨tyX0, tyX0_ok, nmX0, a_inT_ok (by decide +kernel)⟩
  | 1, h => cases h; exact ⟨tyX1, tyX1_ok, nmX1, a_inT_ok (by decide +kernel)⟩
  | 2, h => cases h; exact ⟨tyX2, tyX2_ok, nmX2, a_inT_ok (by decide +kernel)⟩
  | 3, h => cases h; exact ⟨tyX3, tyX3_ok, nmX3, a_inT_ok (by decide +kernel)⟩
  | 4, h => cases h; exact ⟨tyX4, tyX4_ok, nmX4, a_inT_ok (by decide +kernel)⟩
  | 5, h => cases h; exact ⟨tyX5, tyX5_ok, nmX5, a_inT_ok (by decide +kernel)⟩
  | 6, h => cases h; exact ⟨tyX6, tyX6_ok, nmX6, a_inT_ok (by decide +kernel)⟩
  | 7, h => cases h; exact ⟨tyX7, tyX7_ok, nmX7, a_inT_ok (by decide +kernel)⟩
  | 8, h => cases h; exact ⟨tyX8, tyX8_ok, nmX8, a_inT_ok (by decide +kernel)⟩
  | 9, h => cases h; exact ⟨tyX9, tyX9_ok, nmX9, a_inT_ok (by decide +kernel)⟩
  | 10, h => cases h; exact ⟨tyX10, tyX10_ok, nmX10, a_inT_ok (by decide +kernel)⟩
  | n + 11, h => simp [vwCl] at h
def a_fl (own : String) (idx ci j : Nat) : Prop := ∃ q : vw_C, vwCl[ci]? = some q ∧ j < q.2.2 ∧ (Cond.fieldLink own idx (q.2.1 j).1 (q.2.1 j).2.1 (q.2.1 j).2.2.1 ∈ gT ∨ ∃ host, Cond.fieldLinkNest own idx (q.2.1 j).1 (q.2.1 j).2.1 (q.2.1 j).2.2.1 host ∈ nT)
def a_fp (own : String) (idx ci j : Nat) (ty : FieldType) (fin : Bool) : Prop := ∃ q : vw_C, vwCl[ci]? = some q ∧ j < q.2.2 ∧ (q.2.1 j).2.2.2 = fin ∧ parseFieldDescriptor (q.2.1 j).2.2.1 = some ty ∧ ((Cond.fieldLink own idx (q.2.1 j).1 (q.2.1 j).2.1 (q.2.1 j).2.2.1 ∈ gT ∧ (fin = true → (q.2.1 j).1 = own)) ∨ (fin = false ∧ ∃ host, Cond.fieldLinkNest own idx (q.2.1 j).1 (q.2.1 j).2.1 (q.2.1 j).2.2.1 host ∈ nT))

section AWH
variable {scr : Option (Nat × (Nat → Int32))} {k mc ms : Nat} {M : aM} {c0 s0 pc n : Nat} {L : List (Option Value)} {st : List Value} {σ : aS} {P : Option Value → aS → Prop}
theorem AW.getf0 {idx ci j a : Nat} {fs : List Value} {v : Value} (hd : decode M.2.1 pc = .ok (.getfield idx, 3)) (hf : a_fl M.1.cls idx ci j) (ha : a < σ.1) (hc : σ.2 a = .inr (ci, fs)) (hv : fs[j]? = some v) (hn : pc + 3 = n) (h : AW scr k mc ms M c0 s0 n L (v :: st) σ P) : AW scr k mc ms M c0 s0 pc L (.ref a :: st) σ P := by
  subst hn
  intro p l e R s m args below meth c H locs Q ls G C hR hS hL K
  obtain ⟨⟨Cn, T, N⟩, hq, hk, hlk⟩ := hf
  obtain ⟨ty0, hty, hnm, hin⟩ := a_clT ci _ hq
  have he := a_ws_get G σ ha
  rw [hc] at he
  have hv' : (fs.map (a_v G))[j]? = some (a_v G v) := by rw [List.getElem?_map, hv]; rfl
  have h' := h p l e R s m args below meth c H locs Q ls G C hR hS hL K
  obtain ⟨hx, hb, hml, hown, hts, hK, -⟩ := C
  rcases hlk with hl | ⟨host, hl⟩
  · exact va_get hx hb hts hin hown hK.1 hR.2 a he hq j hk (hts _ hl) (fun _ h9 => h9) hv' hd h'
  · exact va_getN hx hb hts hin hown hK.1 hR.2 a he hq j hk (va_Nw.use rfl (hK.2.1 _ hl)) (fun _ h9 => h9) hv' hd h'
theorem AW.put0 {idx ci j a : Nat} {fs : List Value} {v : Value} {ty : FieldType} {fin : Bool} (hd : decode M.2.1 pc = .ok (.putfield idx, 3)) (hf : a_fp M.1.cls idx ci j ty fin) (hfi : fin = true → M.1.name = "<init>") (ha : a < σ.1) (hc : σ.2 a = .inr (ci, fs)) (hj : j < fs.length) (hv : ∀ G : aG, narrow ty (a_v G v) = a_v G v ∧ fits ty (a_v G v) = true) (hn : pc + 3 = n) (h : AW scr k mc ms M c0 s0 n L st (σ.1, a_up σ.2 a (.inr (ci, fs.set j v))) P) : AW scr k mc ms M c0 s0 pc L (v :: .ref a :: st) σ P := by
  subst hn
  intro p l e R s m args below meth c H locs Q ls G C hR hS hL K
  obtain ⟨⟨Cn, T, N⟩, hq, hk, hfin, hty1, hlk⟩ := hf
  obtain ⟨ty0, hty, hnm, hin⟩ := a_clT ci _ hq
  have h' := fun H1 locs1 hR1 hS1 => h p l e R s m args below meth c H1 locs1 Q ls G C hR1 hS1 hL K
  obtain ⟨hx, hb, hml, hown, hts, hK, hnam, -⟩ := C
  have hap := va_apart (own := M.1.cls) hts hin ty0 hty hnm hK.1 hq
  obtain ⟨r, h1, cell, q1, q2, q3, q4⟩ := hR.at ha hc
  have hr : r = (Cn, T, N) := Option.some.inj (h1.symm.trans hq)
  subst hr
  obtain ⟨hSl, hfc, kC, hkC, hkind⟩ := hK.1.1 ci _ hq
  obtain ⟨cf, kf, fi, f, hi, hsl⟩ := hSl j hk
  have hlay := hts _ (hin _ (u_in_lay hk))
  unfold u_lay at hlay
  have hst := (u_facts hfc hkC (u_lays hts hin hk) hi).1
  have fin9 : ∀ H' : Heap, H'[G.2.2.1 + a]? = some (cell.setSlot f.slot (a_v G v)) → H'.size = H.size → (∀ q : Nat, q ≠ G.2.2.1 + a → H'[q]? = H[q]?) → W p l e R s m args below meth c H' (locs ++ [⟨G.2.2.1 + a, f.slot⟩]) c0 s0 Q (F0 m (pc + 3) ls (a_st G st)) := by
    intro H' e1 e2 e3
    rw [hsl] at e1 ⊢
    refine h' H' _ (hR.up ha e2 e3 ?_) (hS.put e2 e3 (Nat.le_add_right _ _))
    refine ⟨_, hq, t_OB.to (V := updV (vp_V (fs.map (a_v G))) j (a_v G v)) ⟨_, e1, q2, q3, t_set q4 hap hk (a_v G v)⟩ (fun i _ => ?_)⟩
    rw [vp_updV_set (by rw [List.length_map]; exact hj)]
    show _ = vp_V ((fs.set j v).map (a_v G)) i
    rw [List.map_set]
  cases fin with
  | false =>
    rw [if_neg (by rw [hfin]; decide)] at hlay
    have h6 := u_store hfc hkC hkind hlay hi hty1 (hv G).1 (hv G).2
    rcases hlk with ⟨hl, -⟩ | ⟨-, host, hl⟩
    · exact W.putK hx hb (f := f) ⟨hown, hts _ hl, ⟨_, _, _, hi⟩, hst⟩ (by rw [q2]; exact h6) q1 q3 (by rw [hsl]; exact k2_hasslot (q4 j hk)) rfl rfl hd fin9
    · exact va_WputK hx hb (f := f) hown (va_Nw.use rfl (hK.2.1 _ hl)) hi hst (by rw [q2]; exact h6) q1 q3 (by rw [hsl]; exact k2_hasslot (q4 j hk)) rfl rfl hd fin9
  | true =>
    rw [if_pos hfin] at hlay
    rcases hlk with ⟨hl, hdecl⟩ | ⟨hff, -⟩
    · have hcf : m.cls = cf := by
        obtain ⟨_, _, c', _, _, _, -, -, hf', -, -, -, hown2, -⟩ := Cond.laysFinal_spec hlay
        have e1 : c' = cf := by have := hi.symm.trans hf'; simp at this; exact this.1.symm
        rw [hdecl rfl] at hown2
        rw [← e1]; exact Option.some.inj (hown.symm.trans hown2)
      have h6 := u_fits hfc hkC hkind (Or.inr hlay) hi hty1 (hv G).1 (hv G).2
      exact W.putFinK hx hb hown (hts _ hl) hi hst hcf (hnam.trans (hfi rfl)) (by rw [q2]; exact h6) q1 q3 (by rw [hsl]; exact k2_hasslot (q4 j hk)) rfl rfl hd fin9
    · cases hff
theorem AW.new0 {idx ci : Nat} {fs : List Value} {q : vw_C} (hd : decode M.2.1 pc = .ok (.new idx, 3)) (hq : vwCl[ci]? = some q) (hl : Cond.classLink M.1.cls idx q.1 ∈ gT) (hi : Cond.instantiable q.1 q.2.2 ∈ gT) (hz : Cond.initialized q.1 ∈ gT) (hfs : ∀ (ty : Nat → FieldType), (∀ j, j < q.2.2 → parseFieldDescriptor (q.2.1 j).2.2.1 = some (ty j)) → ∀ j, j < q.2.2 → ∀ G : aG, defaultValue (ty j) = vp_V (fs.map (a_v G)) j) (hc0 : c0 + 1 ≤ mc) (hs0 : s0 + q.2.2 ≤ ms) (hn : pc + 3 = n) (h : AW scr k mc ms M (c0 + 1) (s0 + q.2.2) n L (.ref σ.1 :: st) (σ.1 + 1, a_up σ.2 σ.1 (.inr (ci, fs))) P) : AW scr k mc ms M c0 s0 pc L st σ P := by
  subst hn
  intro p l e R s m args below meth c H locs Q ls G C hR hS hL K
  obtain ⟨ty0, hty, hnm, hin⟩ := a_clT ci _ hq
  have h' := fun H1 hR1 hS1 => h p l e R s m args below meth c H1 locs Q ls G C hR1 hS1 hL K
  obtain ⟨hx, hb, hml, hown, hts, hK, hnam, hRm, -⟩ := C
  have hKn := hK.1.1 ci _ hq
  refine W.newcK hx hb hown (hts _ hl) (hts _ hi) (hts _ hz) rfl hd (Nat.le_trans hc0 hRm.2.2.1) (Nat.le_trans hs0 hRm.2.2.2) hKn.2.1 hR.1 fun H1 kC hkC e1 z1 o1 => ?_
  rw [← hR.1] at z1 o1
  exact h' H1 (hR.push z1 o1 ⟨_, hq, (u_born ty0 hts hin hKn hkC e1 hty).to (fun j hj => hfs ty0 hty j hj G)⟩) (a_S.push hS z1 o1)
theorem AW.iald {a N : Nat} {i : Int32} {f : Nat → Int32} (hd : decode M.2.1 pc = .ok (.iaload, 1)) (ha : a < σ.1) (hc : σ.2 a = .inl (0, N, .inl f)) (hi : vp_in i N) (hn : pc + 1 = n) (h : AW scr k mc ms M c0 s0 n L (.int (f i.toNatClampNeg) :: st) σ P) : AW scr k mc ms M c0 s0 pc L (.int i :: .ref a :: st) σ P := by
  subst hn
  intro p l e R s m args below meth c H locs Q ls G C hR hS hL K
  have he := a_ws_get G σ ha
  rw [hc] at he
  exact va_iald C.1 C.2.1 C.2.2.2.2.2.1.1 hR.2 a 0 he rfl hi hd (h p l e R s m args below meth c H locs Q ls G C hR hS hL K)
theorem AW.zald {a N : Nat} {i : Int32} {f : Nat → Int32} (hd : decode M.2.1 pc = .ok (.baload, 1)) (ha : a < σ.1) (hc : σ.2 a = .inl (1, N, .inl f)) (hi : vp_in i N) (hn : pc + 1 = n) (h : AW scr k mc ms M c0 s0 n L (.int (f i.toNatClampNeg) :: st) σ P) : AW scr k mc ms M c0 s0 pc L (.int i :: .ref a :: st) σ P := by
  subst hn
  intro p l e R s m args below meth c H locs Q ls G C hR hS hL K
  have he := a_ws_get G σ ha
  rw [hc] at he
  exact va_zald C.1 C.2.1 C.2.2.2.2.2.1.1 hR.2 a 1 he rfl hi hd (h p l e R s m args below meth c H locs Q ls G C hR hS hL K)
theorem AW.aald {a N t b : Nat} {i : Int32} {f : Nat → Option Nat} (hd : decode M.2.1 pc = .ok (.aaload, 1)) (ha : a < σ.1) (ht : t = 2 ∨ t = 3) (hc : σ.2 a = .inl (t, N, .inr (.inr (.inr (.inr f))))) (hi : vp_in i N) (hb : f i.toNatClampNeg = some b) (hn : pc + 1 = n) (h : AW scr k mc ms M c0 s0 n L (.ref b :: st) σ P) : AW scr k mc ms M c0 s0 pc L (.int i :: .ref a :: st) σ P := by
  subst hn
  intro p l e R s m args below meth c H locs Q ls G C hR hS hL K
  have he := a_ws_get G σ ha
  rw [hc] at he
  have h' := h p l e R s m args below meth c H locs Q ls G C hR hS hL K
  have hv : va_rf (a_f G f i.toNatClampNeg) = .ref (G.2.2.1 + b) := by unfold a_f; rw [hb]; rfl
  rcases ht with rfl | rfl
  · exact va_aldq C.1 C.2.1 C.2.2.2.2.2.1.1 hR.2 a 2 he rfl hi hd (by rw [hv]; exact h')
  · exact va_aldq C.1 C.2.1 C.2.2.2.2.2.1.1 hR.2 a 3 he rfl hi hd (by rw [hv]; exact h')
theorem AW.sald {i : Int32} {q : Nat × (Nat → Int32)} {x : Nat} (hd : decode M.2.1 pc = .ok (.iaload, 1)) (hq : scr = some q) (hi : vp_in i q.1) (hn : pc + 1 = n) (h : AW scr k mc ms M c0 s0 n L (.int (q.2 i.toNatClampNeg) :: st) σ P) : AW scr k mc ms M c0 s0 pc L (.int i :: .retAddr x :: st) σ P := by
  subst hn
  intro p l e R s m args below meth c H locs Q ls G C hR hS hL K
  have h' := h p l e R s m args below meth c H locs Q ls G C hR hS hL K
  obtain ⟨hx, hb, hml, hown, hts, hK, hnam, hRm, ho, hs⟩ := C
  obtain ⟨h1, h2⟩ := hs q hq
  exact va_sld hx hb h1 (Nat.lt_of_lt_of_le h2 ho) (Nat.not_le.mpr h2) hS hi hd h'
theorem AW.slen {q : Nat × (Nat → Int32)} {x : Nat} (hd : decode M.2.1 pc = .ok (.arraylength, 1)) (hq : scr = some q) (hn : pc + 1 = n) (h : AW scr k mc ms M c0 s0 n L (.int (Int32.ofNat q.1) :: st) σ P) : AW scr k mc ms M c0 s0 pc L (.retAddr x :: st) σ P := by
  subst hn
  intro p l e R s m args below meth c H locs Q ls G C hR hS hL K
  have h' := h p l e R s m args below meth c H locs Q ls G C hR hS hL K
  obtain ⟨hx, hb, hml, hown, hts, hK, hnam, hRm, ho, hs⟩ := C
  obtain ⟨h1, h2⟩ := hs q hq
  exact va_slen hx hb h1 (Nat.lt_of_lt_of_le h2 ho) (Nat.not_le.mpr h2) hS hd h'
theorem AW.iast {a N : Nat} {i x : Int32} {f : Nat → Int32} (hd : decode M.2.1 pc = .ok (.iastore, 1)) (ha : a < σ.1) (hc : σ.2 a = .inl (0, N, .inl f)) (hi : vp_in i N) (hn : pc + 1 = n) (h : AW scr k mc ms M c0 s0 n L st (σ.1, a_up σ.2 a (.inl (0, N, .inl (upd f i.toNatClampNeg x)))) P) : AW scr k mc ms M c0 s0 pc L (.int x :: .int i :: .ref a :: st) σ P := by
  subst hn
  intro p l e R s m args below meth c H locs Q ls G C hR hS hL K
  have h' := fun H1 locs1 hR1 hS1 => h p l e R s m args below meth c H1 locs1 Q ls G C hR1 hS1 hL K
  refine W.iast C.1 C.2.1 (hR.at ha hc) ((C.2.2.2.2.2.1.1.2 0 _ rfl).1 N (fun j => .int (f j))) (fun q => by cases q) (by show ¬ (i < 0 ∨ (arrV _ _ _).slots.size ≤ _); rw [arrV_size]; exact hi) rfl rfl hd fun H1 e z oq => ?_
  refine h' H1 _ (hR.up ha z oq ?_) (hS.put z oq (Nat.le_add_right _ _))
  show H1[_]? = some (vp_cell _ (N, .inl _))
  rw [e]
  show some ((vp_cell _ (N, .inl f)).setSlot _ _) = _
  rw [vp_cell_i, vp_cell_i, arrV_store]
  congr 2
  funext q
  by_cases hq : q = i.toNatClampNeg
  · subst hq
    simp [updV, upd]
  · simp [updV, upd, hq]
theorem AW.zast {a N : Nat} {i x : Int32} {f : Nat → Int32} (hd : decode M.2.1 pc = .ok (.bastore, 1)) (ha : a < σ.1) (hc : σ.2 a = .inl (1, N, .inl f)) (hi : vp_in i N) (hx : narrow .boolean (.int x) = .int x) (hn : pc + 1 = n) (h : AW scr k mc ms M c0 s0 n L st (σ.1, a_up σ.2 a (.inl (1, N, .inl (upd f i.toNatClampNeg x)))) P) : AW scr k mc ms M c0 s0 pc L (.int x :: .int i :: .ref a :: st) σ P := by
  subst hn
  intro p l e R s m args below meth c H locs Q ls G C hR hS hL K
  have h' := fun H1 locs1 hR1 hS1 => h p l e R s m args below meth c H1 locs1 Q ls G C hR1 hS1 hL K
  refine W.zast C.1 C.2.1 (hR.at ha hc) ((C.2.2.2.2.2.1.1.2 1 _ rfl).1 N (fun j => .int (f j))) (fun q => by cases q) (by show ¬ (i < 0 ∨ (arrV _ _ _).slots.size ≤ _); rw [arrV_size]; exact hi) rfl rfl hd fun H1 e z oq => ?_
  rw [hx] at e
  refine h' H1 _ (hR.up ha z oq ?_) (hS.put z oq (Nat.le_add_right _ _))
  show H1[_]? = some (vp_cell _ (N, .inl _))
  rw [e]
  show some ((vp_cell _ (N, .inl f)).setSlot _ _) = _
  rw [vp_cell_i, vp_cell_i, arrV_store]
  congr 2
  funext q
  by_cases hq : q = i.toNatClampNeg
  · subst hq
    simp [updV, upd]
  · simp [updV, upd, hq]
theorem AW.aast {a N t b ci : Nat} {i : Int32} {f : Nat → Option Nat} {fs : List Value} {q : vw_C} (hd : decode M.2.1 pc = .ok (.aastore, 1)) (ha : a < σ.1) (hc : σ.2 a = .inl (t, N, .inr (.inr (.inr (.inr f))))) (hb : b < σ.1) (hbc : σ.2 b = .inr (ci, fs)) (hq : vwCl[ci]? = some q) (ht : ∀ G : aG, (a_tys G)[t]? = some (G.2.1 t, .object q.1)) (hi : vp_in i N) (hn : pc + 1 = n) (h : AW scr k mc ms M c0 s0 n L st (σ.1, a_up σ.2 a (.inl (t, N, .inr (.inr (.inr (.inr (va_up f i.toNatClampNeg (some b)))))))) P) : AW scr k mc ms M c0 s0 pc L (.ref b :: .int i :: .ref a :: st) σ P := by
  subst hn
  intro p l e R s m args below meth c H locs Q ls G C hR hS hL K
  have h' := fun H1 locs1 hR1 hS1 => h p l e R s m args below meth c H1 locs1 Q ls G C hR1 hS1 hL K
  obtain ⟨hx, hbb, hml, hown, hts, hK, -⟩ := C
  have hlt : i.toNatClampNeg < N := Nat.not_le.mp fun q => hi (Or.inr q)
  have h0 : ¬ i < 0 := fun q => hi (Or.inl q)
  obtain ⟨r', hr', cellV, g1, g2, g3, -⟩ := hR.at hb hbc
  have hcls := (hK.1.1 ci q hq).2
  obtain ⟨kA, comp, k1, k2, k3, -⟩ := (hK.1.2 t _ (ht G)).2
  have hcomp : comp = G.1.1 ci := Option.some.inj (k3.symm.trans hcls.1)
  subst hcomp
  have hcls' := hcls
  obtain ⟨kC, hkC, -⟩ := hcls.2
  refine W.aast hx hbb (hR.at ha hc) (fun q h => by cases h) (fun h => by cases h) k1 k2 rfl hkC ⟨h0, by show _ < (arrV _ _ _).slots.size; rw [arrV_size]; exact hlt⟩ g1 (fun q h => by rw [g3] at h; cases h) (by rw [g2]; exact hkC) (by rw [g2]; exact va_assign hcls') rfl rfl hd fun H1 e z oq => ?_
  refine h' H1 _ (hR.up ha z oq ?_) (hS.put z oq (Nat.le_add_right _ _))
  show H1[_]? = some (vp_cell _ (N, .inr (.inr (.inr (.inr _)))))
  rw [e]
  show some ((vp_cell _ (N, .inr (.inr (.inr (.inr (a_f G f)))))).setSlot _ _) = _
  rw [vp_cell_q, vp_cell_q, arrV_store]
  congr 2
  funext q
  by_cases hq : q = i.toNatClampNeg
  · subst hq
    simp [updV, va_up, va_rf, a_f]
  · simp [updV, va_up, hq, a_f]
theorem AW.newi {x : Int32} {t N : Nat} {at0 : ArrayType} {ty : FieldType} (hd : decode M.2.1 pc = .ok (.newarray at0, 2)) (hty : newarray.typeOf at0 = ty) (ht : ∀ G : aG, (a_tys G)[t]? = some (G.2.1 t, ty)) (hdv : defaultValue ty = .int 0) (hnr : ∀ C, ty ≠ .object C) (ha : Cond.arrayClass ty ∈ gT) (hx0 : ¬ x < 0) (hN : x.toNatClampNeg = N) (hby : N * componentBytes ty ≤ 536870912) (hc0 : c0 + 1 ≤ mc) (hs0 : s0 + N ≤ ms) (hn : pc + 2 = n) (h : AW scr k mc ms M (c0 + 1) (s0 + N) n L (.ref σ.1 :: st) (σ.1 + 1, a_up σ.2 σ.1 (.inl (t, N, .inl (fun _ => 0)))) P) : AW scr k mc ms M c0 s0 pc L (.int x :: st) σ P := by
  subst hn; subst hty
  intro p l e R s m args below meth c H locs Q ls G C hR hS hL K
  have h' := fun H1 hR1 hS1 => h p l e R s m args below meth c H1 locs Q ls G C hR1 hS1 hL K
  obtain ⟨hx, hbb, hml, hown, hts, hK, hnam, hRm, -⟩ := C
  refine va_newaK hx hbb (hts _ ha) rfl hd rfl hx0 hN hby (Nat.le_trans hc0 hRm.2.2.1) (Nat.le_trans hs0 hRm.2.2.2) hR.1 fun H1 cA e1 z1 o1 hAr hNm => ?_
  rw [← hR.1] at z1 o1
  refine h' H1 (hR.push z1 o1 ?_) (a_S.push hS z1 o1)
  have hcA : cA = G.2.1 t := by
    have h2 := (hK.1.2 t _ (ht G)).2
    have h3 : s.vm.findClass ("[" ++ (newarray.typeOf at0).toString) = some (G.2.1 t) := by
      unfold va_RA at h2
      cases hh : newarray.typeOf at0 <;> first | (exact absurd hh (hnr _); done) | (simp only [hh] at h2; exact h2)
    exact Option.some.inj (hNm.symm.trans h3)
  subst hcA
  show H1[_]? = some (vp_cell _ (N, .inl (fun _ => 0)))
  rw [vp_cell_i, e1, hdv]
theorem AW.newq {x : Int32} {t N idx : Nat} {Cn : String} (hd : decode M.2.1 pc = .ok (.anewarray idx, 3)) (hl : Cond.classLink M.1.cls idx Cn ∈ gT) (ht : ∀ G : aG, (a_tys G)[t]? = some (G.2.1 t, .object Cn)) (hao : ∀ (G : aG) (U : State), a_Kn G U → va_AO Cn U) (hx0 : ¬ x < 0) (hN : x.toNatClampNeg = N) (hby : N * 4 ≤ 536870912) (hc0 : c0 + 1 ≤ mc) (hs0 : s0 + N ≤ ms) (hn : pc + 3 = n) (h : AW scr k mc ms M (c0 + 1) (s0 + N) n L (.ref σ.1 :: st) (σ.1 + 1, a_up σ.2 σ.1 (.inl (t, N, .inr (.inr (.inr (.inr (fun _ => none))))))) P) : AW scr k mc ms M c0 s0 pc L (.int x :: st) σ P := by
  subst hn; subst hN
  intro p l e R s m args below meth c H locs Q ls G C hR hS hL K
  have h' := fun H1 hR1 hS1 => h p l e R s m args below meth c H1 locs Q ls G C hR1 hS1 hL K
  obtain ⟨hx, hbb, hml, hown, hts, hK, hnam, hRm, -⟩ := C
  refine W.anew hx hbb hown (hts _ hl) (va_AO.use (hao G s hK)) rfl hd rfl hx0 hby (Nat.le_trans hc0 hRm.2.2.1) (Nat.le_trans hs0 hRm.2.2.2) fun cA kA comp f1 f2 f3 f4 => ?_
  generalize hH1 : H.push ({ cls := cA, slots := Array.replicate x.toNatClampNeg .null, vm := .none } : Cell) = H1
  have z1 : H1.size = H.size + 1 := by rw [← hH1, Array.size_push]
  have e1 : H1[H.size]? = some (arrV cA x.toNatClampNeg (fun _ => .null)) := by rw [← hH1, Array.getElem?_push_size, ← arrV_new]
  have o1 : ∀ q : Nat, q < H.size → H1[q]? = H[q]? := fun q hq => by rw [← hH1, Array.getElem?_push, if_neg (Nat.ne_of_lt hq)]
  have hcA : cA = G.2.1 t := by
    obtain ⟨kA', comp', -, -, -, h4⟩ := (hK.1.2 t _ (ht G)).2
    exact Option.some.inj (f1.symm.trans h4)
  subst hcA
  have h9 := h' H1 (hR.push (c := .inl (t, x.toNatClampNeg, .inr (.inr (.inr (.inr (fun _ => none)))))) z1 o1 ?_) (a_S.push hS z1 o1)
  · rw [hR.1]
    exact h9
  · show H1[_]? = some (vp_cell _ (x.toNatClampNeg, .inr (.inr (.inr (.inr _)))))
    rw [vp_cell_q, ← hR.1, e1]
    rfl
end AWH
end
section

def a_lk (own : String) (idx : Nat) (y : MethodName) : Prop := Cond.methodLink own idx y ∈ gT ∨ ∃ host, Cond.methodLinkNest own idx y host ∈ nT
/-- what the tables say of a callee of np parameters (the receiver apart) -/
def a_cb (Mc : aM) (np : Nat) : Prop := Cond.code Mc.1 Mc.2.1 Mc.2.2.1 Mc.2.2.2 ∈ gT ∧ Cond.initialized Mc.1.cls ∈ gT ∧ (Mc.1.cls ≠ "java/lang/invoke/MethodHandle" ∧ Mc.1.cls ≠ "java/lang/invoke/VarHandle" ∧ (parseMethodDescriptor Mc.1.desc).map (fun d => d.parameters.length) = some np) ∧ Mc.2.2.1 ≤ 40
def a_cv (Mc : aM) (np : Nat) : Prop := a_cb Mc np ∧ Cond.instanceMethod Mc.1 ∈ gT ∧ Cond.selects Mc.1.cls Mc.1 Mc.1 ∈ gT
def a_cs (Mc : aM) (np : Nat) : Prop := a_cb Mc np ∧ Cond.static Mc.1 ∈ gT
def a_ci (Mc : aM) (np : Nat) : Prop := a_cb Mc np ∧ Mc.1.name = "<init>" ∧ Mc.2.2.2 = none ∧ Cond.instanceMethod Mc.1 ∈ gT
theorem a_wl_good {Mc : aM} (h : Cond.code Mc.1 Mc.2.1 Mc.2.2.1 Mc.2.2.2 ∈ gT) : GoodIn gT (a_wl Mc) := by
  intro w hw
  rcases List.mem_cons.mp hw with rfl | hw
  · exact gT_good _ h
  · exact gT_good _ hw
theorem a_blind (G : aG) (av : List Value) (σ : aS) : FrameBlind (a_Pc G av σ) := by
  intro a U g mk q
  obtain ⟨q0, q1, q2⟩ := q
  exact ⟨q0, q1, a_Kn.same (s := U) rfl q2⟩
theorem a_restsum : ∀ (l : List Value), (l.map fun v => v.category).sum ≤ 2 * l.length := by
  intro l
  induction l with
  | nil => simp
  | cons v t ih =>
    have : v.category ≤ 2 := by rcases lv_cat v with h | h <;> omega
    simp only [List.map_cons, List.sum_cons, List.length_cons]
    omega
theorem a_st_len (G : aG) (l : List Value) : (a_st G l).length = l.length := List.length_map _
theorem a_restW {G : aG} {l : List Value} (h : l.length ≤ 4) {g : JFrame} (hg : g.monitorRoom = 0) : 2 * g.monitorRoom + ((a_st G l).map fun v => v.category).sum ≤ 8 := by
  have := a_restsum (a_st G l)
  rw [a_st_len] at this
  omega
theorem a_st_rev (G : aG) (As rest : List Value) : a_st G (As.reverse ++ rest) = (a_st G As).reverse ++ a_st G rest := by
  unfold a_st
  rw [List.map_append, List.map_reverse]
section AWCr
variable {p : Program} {l : Launch} {e : Env} {R : Room} {s : State} {m : MethodId} {args : Array Value} {below : List Frame} {meth : Method} {c : Code} {H : Heap} {locs : List Loc} {Q : State → Prop}
theorem a_went {G : aG} {P1 : Option Value → aS → Prop} {c0 s0 mc' ms' pc : Nat} {ls : Array Slot} {st0 rest : List Value} {a : Array Value} {H0 : Heap}
    (hr : va_Run p l e R s m args below meth c H locs c0 s0 mc' ms' (F0 m pc ls st0) (a_st G rest) (a_Qc G P1 a) (fun q => G.2.2.1 ≤ q)) (hS : va_S (fun q => G.2.2.1 ≤ q) H0 H locs)
    (kk : ∀ (r : Option Value) (σ' : aS) (H1 : Heap) (locs1 : List Loc), P1 r σ' → a_R G σ' H1 → va_S (fun q => G.2.2.1 ≤ q) H0 H1 locs1 → W p l e R s m args below meth c H1 locs1 (c0 + mc') (s0 + ms') Q (F0 m (pc + 3) ls (a_st G (r.toList ++ rest)))) : W p l e R s m args below meth c H locs c0 s0 Q (F0 m pc ls st0) := by
  intro T hT X
  obtain ⟨v, st₀, t, T', L, h0, X', hL, e1, e2, ⟨⟨r, σ', hv, hp, hR1⟩, hz, hk⟩, st⟩ := hr T hT X
  cases hv
  rw [h0] at hz hk
  obtain ⟨t2, a1, b1⟩ := kk r σ' T'.heap (locs ++ L) hp (by rw [e1]; exact hR1)
    ⟨Nat.le_trans hS.1 (by rw [e1]; exact hz), fun q h1 h2 => by rw [e1, hk q (Nat.lt_of_lt_of_le h1 hS.1) h2]; exact hS.2.1 q h1 h2, fun q hq => by
      rcases List.mem_append.mp hq with h | h
      · exact hS.2.2 q h
      · exact hL q h⟩ T' rfl X'
  have e9 : a_st G (r.toList ++ rest) = (r.map (a_v G)).toList ++ a_st G rest := by cases r <;> rfl
  rw [e9] at a1
  exact ⟨t2, st t2 a1, b1⟩
end AWCr
section AWC
variable {scr : Option (Nat × (Nat → Int32))} {k mc ms : Nat} {M : aM} {c0 s0 pc n : Nat} {L : List (Option Value)} {st : List Value} {σ : aS} {P : Option Value → aS → Prop}
theorem AW.callv0 {idx kc mc' ms' np : Nat} {a : Nat} {Mc : aM} {As rest : List Value} {P1 : Option Value → aS → Prop} (hd : decode M.2.1 pc = .ok (.invokevirtual idx, 3)) (hl : a_lk M.1.cls idx Mc.1) (hcb : a_cv Mc np) (hM : AC kc mc' ms' Mc (.ref a :: As) σ P1) (hnp : As.length = np) (hst : st = As.reverse ++ .ref a :: rest) (hrs : rest.length ≤ 4) (hk : kc + 1 ≤ k) (hc0 : c0 + mc' ≤ mc) (hs0 : s0 + ms' ≤ ms) (ha : a < σ.1) {ci : Nat} {fs : List Value} {q : vw_C} (hc : σ.2 a = .inr (ci, fs)) (hq : vwCl[ci]? = some q) (hqn : q.1 = Mc.1.cls) (hn : pc + 3 = n) (h : ∀ (r : Option Value) (σ' : aS), P1 r σ' → AW scr k mc ms M (c0 + mc') (s0 + ms') n L (r.toList ++ rest) σ' P) : AW scr k mc ms M c0 s0 pc L st σ P := by
  subst hn; subst hst
  intro p l e R s m args below meth c H locs Q ls G C hR hS hL K
  have h' := fun r σ' H1 locs1 hp hR1 hS1 => h r σ' hp p l e R s m args below meth c H1 locs1 Q ls G C hR1 hS1 hL K
  obtain ⟨hx, hb, hml, hown, hts, hK, hnam, ⟨hR1, hR2, hR3, hR4⟩, -⟩ := C
  obtain ⟨⟨hcode, hini, hdd, hm40⟩, hin, hsel⟩ := hcb
  have hRm : (a_rm kc mc' ms').frames + 1 ≤ R.frames ∧ 8 + (Mc.2.2.1 + 11) + (a_rm kc mc' ms').locals ≤ R.locals := ⟨by show kc + 1 ≤ _; omega, by show 8 + (Mc.2.2.1 + 11) + 64 * kc ≤ _; omega⟩
  have hg := a_wl_good hcode
  have hnp' : (a_st G As).length = np := by rw [a_st_len]; exact hnp
  have hpre : ∀ U : State, U.heap = H → s.WarmedH U.vm → a_Pc G (.ref a :: As) σ (a_st G (.ref a :: As)).toArray U := fun U hU hW => ⟨rfl, by rw [hU]; exact hR, a_Kn.warm hW hK⟩
  have hrecv : ∃ cell : Cell, H[G.2.2.1 + a]? = some cell ∧ cell.vm.isStatics = false ∧ s.vm.findClass Mc.1.cls = some cell.cls := by
    have he := a_ws_get G σ ha
    rw [hc] at he
    rw [← hqn]
    exact va_recv hK.1 hR.2 hq he
  rw [a_st_rev]
  rcases hl with hl | ⟨host, hl⟩
  · exact a_went (va_runV (As := a_st G As) (rest := a_st G rest) ⟨hx, hb, hml, hown, hts⟩ (hM l G) ⟨callB_of np hts hg rfl rfl rfl (hts _ hini) (hts _ hl) hdd hRm, hts _ hin, hts _ hsel⟩ ⟨a_blind G _ σ, hrecv, hpre⟩ rfl hnp' hL.1 rfl (a_restW hrs rfl) hd ⟨by omega, by omega⟩) hS h'
  · exact a_went (va_runVN (As := a_st G As) (rest := a_st G rest) ⟨hx, hb, hml, hown, hts⟩ (hM l G) ⟨va_cnB np hts hg rfl rfl rfl (hK.2.1 _ hl) (hts _ hini) hdd hRm, hts _ hin, hts _ hsel⟩ ⟨a_blind G _ σ, hrecv, hpre⟩ rfl hnp' hL.1 rfl (a_restW hrs rfl) hd ⟨by omega, by omega⟩) hS h'
theorem AW.calls0 {idx kc mc' ms' np : Nat} {Mc : aM} {As rest : List Value} {P1 : Option Value → aS → Prop} (hd : decode M.2.1 pc = .ok (.invokestatic idx, 3)) (hl : a_lk M.1.cls idx Mc.1) (hcb : a_cs Mc np) (hM : AC kc mc' ms' Mc As σ P1) (hnp : As.length = np) (hst : st = As.reverse ++ rest) (hrs : rest.length ≤ 4) (hk : kc + 1 ≤ k) (hc0 : c0 + mc' ≤ mc) (hs0 : s0 + ms' ≤ ms) (hn : pc + 3 = n) (h : ∀ (r : Option Value) (σ' : aS), P1 r σ' → AW scr k mc ms M (c0 + mc') (s0 + ms') n L (r.toList ++ rest) σ' P) : AW scr k mc ms M c0 s0 pc L st σ P := by
  subst hn; subst hst
  intro p l e R s m args below meth c H locs Q ls G C hR hS hL K
  have h' := fun r σ' H1 locs1 hp hR1 hS1 => h r σ' hp p l e R s m args below meth c H1 locs1 Q ls G C hR1 hS1 hL K
  obtain ⟨hx, hb, hml, hown, hts, hK, hnam, ⟨hR1, hR2, hR3, hR4⟩, -⟩ := C
  obtain ⟨⟨hcode, hini, hdd, hm40⟩, hstat⟩ := hcb
  have hRm : (a_rm kc mc' ms').frames + 1 ≤ R.frames ∧ 8 + (Mc.2.2.1 + 11) + (a_rm kc mc' ms').locals ≤ R.locals := ⟨by show kc + 1 ≤ _; omega, by show 8 + (Mc.2.2.1 + 11) + 64 * kc ≤ _; omega⟩
  have hg := a_wl_good hcode
  have hnp' : (a_st G As).length = np := by rw [a_st_len]; exact hnp
  have hpre : ∀ U : State, U.heap = H → s.WarmedH U.vm → a_Pc G As σ (a_st G As).toArray U := fun U hU hW => ⟨rfl, by rw [hU]; exact hR, a_Kn.warm hW hK⟩
  rw [a_st_rev]
  rcases hl with hl | ⟨host, hl⟩
  · exact a_went (va_runS (As := a_st G As) (rest := a_st G rest) ⟨hx, hb, hml, hown, hts⟩ (hM l G) ⟨callB_of np hts hg rfl rfl rfl (hts _ hini) (hts _ hl) hdd hRm, hts _ hstat⟩ ⟨a_blind G _ σ, hpre⟩ rfl hnp' hL.1 rfl (a_restW hrs rfl) hd ⟨by omega, by omega⟩) hS h'
  · exact a_went (va_runSN (As := a_st G As) (rest := a_st G rest) ⟨hx, hb, hml, hown, hts⟩ (hM l G) ⟨va_cnB np hts hg rfl rfl rfl (hK.2.1 _ hl) (hts _ hini) hdd hRm, hts _ hstat, trivial⟩ ⟨a_blind G _ σ, hpre⟩ rfl hnp' hL.1 rfl (a_restW hrs rfl) hd ⟨by omega, by omega⟩) hS h'
theorem AW.calli0 {idx kc mc' ms' np : Nat} {a : Nat} {Mc : aM} {As rest : List Value} {P1 : Option Value → aS → Prop} (hd : decode M.2.1 pc = .ok (.invokespecial idx, 3)) (hl : a_lk M.1.cls idx Mc.1) (hcb : a_ci Mc np) (hM : AC kc mc' ms' Mc (.ref a :: As) σ P1) (hnp : As.length = np) (hst : st = As.reverse ++ .ref a :: rest) (hrs : rest.length ≤ 4) (hk : kc + 1 ≤ k) (hc0 : c0 + mc' ≤ mc) (hs0 : s0 + ms' ≤ ms) (hn : pc + 3 = n) (h : ∀ (r : Option Value) (σ' : aS), P1 r σ' → AW scr k mc ms M (c0 + mc') (s0 + ms') n L (r.toList ++ rest) σ' P) : AW scr k mc ms M c0 s0 pc L st σ P := by
  subst hn; subst hst
  intro p l e R s m args below meth c H locs Q ls G C hR hS hL K
  have h' := fun r σ' H1 locs1 hp hR1 hS1 => h r σ' hp p l e R s m args below meth c H1 locs1 Q ls G C hR1 hS1 hL K
  obtain ⟨hx, hb, hml, hown, hts, hK, hnam, ⟨hR1, hR2, hR3, hR4⟩, -⟩ := C
  obtain ⟨⟨hcode, hini, hdd, hm40⟩, hy1, hrt, hin⟩ := hcb
  have hRm : (a_rm kc mc' ms').frames + 1 ≤ R.frames ∧ 8 + (Mc.2.2.1 + 11) + (a_rm kc mc' ms').locals ≤ R.locals := ⟨by show kc + 1 ≤ _; omega, by show 8 + (Mc.2.2.1 + 11) + 64 * kc ≤ _; omega⟩
  have hg := a_wl_good hcode
  have hnp' : (a_st G As).length = np := by rw [a_st_len]; exact hnp
  have hpre : ∀ U : State, U.heap = H → s.WarmedH U.vm → a_Pc G (.ref a :: As) σ (a_st G (.ref a :: As)).toArray U := fun U hU hW => ⟨rfl, by rw [hU]; exact hR, a_Kn.warm hW hK⟩
  rw [a_st_rev]
  obtain ⟨y, cc, ml, rt⟩ := Mc
  subst hrt
  rcases hl with hl | ⟨host, hl⟩
  · exact a_went (va_runI (As := a_st G As) (rest := a_st G rest) ⟨hx, hb, hml, hown, hts⟩ (hM l G) ⟨callB_of np hts hg rfl rfl rfl (hts _ hini) (hts _ hl) hdd hRm, hy1, hts _ hin⟩ ⟨a_blind G _ σ, hpre⟩ rfl hnp' hL.1 rfl (a_restW hrs rfl) hd ⟨by omega, by omega⟩) hS h'
  · exact a_went (va_runIN (As := a_st G As) (rest := a_st G rest) ⟨hx, hb, hml, hown, hts⟩ (hM l G) ⟨va_cnB np hts hg rfl rfl rfl (hK.2.1 _ hl) (hts _ hini) hdd hRm, hy1, hts _ hin⟩ ⟨a_blind G _ σ, hpre⟩ rfl hnp' hL.1 rfl (a_restW hrs rfl) hd ⟨by omega, by omega⟩) hS h'
theorem AW.objInit {idx a : Nat} {cc : ByteArray} (hd : decode M.2.1 pc = .ok (.invokespecial idx, 3)) (hl : Cond.methodLink M.1.cls idx objectInit ∈ gT) (hin : Cond.instanceMethod objectInit ∈ gT) (hcode : Cond.code objectInit ⟨#[0xb1]⟩ 1 none ∈ gT) (hrs : st.length ≤ 4) (hk : 1 ≤ k) (hn : pc + 3 = n) (h : AW scr k mc ms M c0 s0 n L st σ P) : AW scr k mc ms M c0 s0 pc L (.ref a :: st) σ P := by
  subst hn
  intro p l e R s m args below meth c H locs Q ls G C hR hS hL K
  have h' := h p l e R s m args below meth c H locs Q ls G C hR hS hL K
  obtain ⟨hx, hb, hml, hown, hts, hK, hnam, ⟨hR1, hR2, hR3, hR4⟩, -⟩ := C
  have hs := a_restW (G := G) (l := st) hrs (g := F0 m pc ls []) rfl
  exact W.objInit hx hb hown (hts _ hl) (hts _ hin) (hts _ hcode) (g := F0 m pc ls (a_st G (.ref a :: st))) rfl (by rw [hml]; exact hL.1) (rest := a_st G st) rfl hd (by omega) (by show 2 * 0 + _ + 12 ≤ _; have hs : 2 * 0 + ((a_st G st).map fun v => v.category).sum ≤ 8 := hs; omega) h'
theorem AW.mabs {idx : Nat} {x : Int32} (hd : decode M.2.1 pc = .ok (.invokestatic idx, 3)) (hl : Cond.methodLink M.1.cls idx Lib.Math.abs.name ∈ gT) (h2 : Cond.static Lib.Math.abs.name ∈ gT) (h3 : Cond.initialized "java/lang/Math" ∈ gT) (h4 : Cond.code Lib.Math.abs.name Lib.Math.abs.code 1 (some .int) ∈ gT) (hrs : st.length ≤ 4) (hk : 1 ≤ k) (hc0 : c0 ≤ mc) (hs0 : s0 ≤ ms) (hn : pc + 3 = n) (h : AW scr k mc ms M c0 s0 n L (.int (if 0 ≤ x then x else 0 - x) :: st) σ P) : AW scr k mc ms M c0 s0 pc L (.int x :: st) σ P := by
  subst hn
  intro p l e R s m args below meth c H locs Q ls G C hR hS hL K
  have h' := h p l e R s m args below meth c H locs Q ls G C hR hS hL K
  obtain ⟨hx, hb, hml, hown, hts, hK, hnam, ⟨hR1, hR2, hR3, hR4⟩, -⟩ := C
  have hs := a_restsum (a_st G st)
  rw [a_st_len] at hs
  exact va_mabs (rest := a_st G st) hx hb (hml.trans hL.1.symm) hown (hts _ hl) (hts _ h2) (hts _ h3) (hts _ h4) (by omega) (by omega) (by omega) (by omega) hd h'
theorem AW.mmax {idx : Nat} {x y : Int32} (hd : decode M.2.1 pc = .ok (.invokestatic idx, 3)) (hl : Cond.methodLink M.1.cls idx Lib.Math.max.name ∈ gT) (h2 : Cond.static Lib.Math.max.name ∈ gT) (h3 : Cond.initialized "java/lang/Math" ∈ gT) (h4 : Cond.code Lib.Math.max.name Lib.Math.max.code 2 (some .int) ∈ gT) (hrs : st.length ≤ 4) (hk : 1 ≤ k) (hc0 : c0 ≤ mc) (hs0 : s0 ≤ ms) (hn : pc + 3 = n) (h : AW scr k mc ms M c0 s0 n L (.int (if x < y then y else x) :: st) σ P) : AW scr k mc ms M c0 s0 pc L (.int y :: .int x :: st) σ P := by
  subst hn
  intro p l e R s m args below meth c H locs Q ls G C hR hS hL K
  have h' := h p l e R s m args below meth c H locs Q ls G C hR hS hL K
  obtain ⟨hx, hb, hml, hown, hts, hK, hnam, ⟨hR1, hR2, hR3, hR4⟩, -⟩ := C
  have hs := a_restsum (a_st G st)
  rw [a_st_len] at hs
  exact va_mmax (rest := a_st G st) hx hb (hml.trans hL.1.symm) hown (hts _ hl) (hts _ h2) (hts _ h3) (hts _ h4) (by omega) (by omega) (by omega) (by omega) hd h'
theorem AW.mmin {idx : Nat} {x y : Int32} (hd : decode M.2.1 pc = .ok (.invokestatic idx, 3)) (hl : Cond.methodLink M.1.cls idx Lib.Math.min.name ∈ gT) (h2 : Cond.static Lib.Math.min.name ∈ gT) (h3 : Cond.initialized "java/lang/Math" ∈ gT) (h4 : Cond.code Lib.Math.min.name Lib.Math.min.code 2 (some .int) ∈ gT) (hrs : st.length ≤ 4) (hk : 1 ≤ k) (hc0 : c0 ≤ mc) (hs0 : s0 ≤ ms) (hn : pc + 3 = n) (h : AW scr k mc ms M c0 s0 n L (.int (if y < x then y else x) :: st) σ P) : AW scr k mc ms M c0 s0 pc L (.int y :: .int x :: st) σ P := by
  subst hn
  intro p l e R s m args below meth c H locs Q ls G C hR hS hL K
  have h' := h p l e R s m args below meth c H locs Q ls G C hR hS hL K
  obtain ⟨hx, hb, hml, hown, hts, hK, hnam, ⟨hR1, hR2, hR3, hR4⟩, -⟩ := C
  have hs := a_restsum (a_st G st)
  rw [a_st_len] at hs
  exact va_mmin (rest := a_st G st) hx hb (hml.trans hL.1.symm) hown (hts _ hl) (hts _ h2) (hts _ h3) (hts _ h4) (by omega) (by omega) (by omega) (by omega) hd h'
theorem AW.acopy {idx a b N0 N1 : Nat} {sp dp x : Int32} {f g : Nat → Int32} (hd : decode M.2.1 pc = .ok (.invokestatic idx, 3)) (hl : Cond.methodLink M.1.cls idx arraycopyName ∈ gT) (h2 : Cond.native arraycopyName ∈ gT) (h3 : Cond.static arraycopyName ∈ gT) (h4 : Cond.initialized "java/lang/System" ∈ gT) (ha : a < σ.1) (hb : b < σ.1) (hca : σ.2 a = .inl (0, N0, .inl f)) (hcb : σ.2 b = .inl (0, N1, .inl g)) (g1 : ¬ sp < 0) (g2 : ¬ dp < 0) (g3 : ¬ x < 0) (g4 : sp.toNatClampNeg + x.toNatClampNeg ≤ N0) (g5 : dp.toNatClampNeg + x.toNatClampNeg ≤ N1) (hrs : st.length ≤ 4) (hk : 1 ≤ k) (hn : pc + 3 = n) (h : AW scr k mc ms M c0 s0 n L st (σ.1, a_up σ.2 b (.inl (0, N1, .inl (va_cpy f g sp.toNatClampNeg dp.toNatClampNeg x.toNatClampNeg)))) P) : AW scr k mc ms M c0 s0 pc L (.int x :: .int dp :: .ref b :: .int sp :: .ref a :: st) σ P := by
  subst hn
  intro p l e R s m args below meth c H locs Q ls G C hR hS hL K
  have h' := fun H1 locs1 hR1 hS1 => h p l e R s m args below meth c H1 locs1 Q ls G C hR1 hS1 hL K
  obtain ⟨hx, hbb, hml, hown, hts, hK, hnam, ⟨hR1, hR2, hR3, hR4⟩, -⟩ := C
  have hs := a_restsum (a_st G st)
  rw [a_st_len] at hs
  have nn : ∀ z : Int32, ¬ z < 0 → z.toInt = (z.toNatClampNeg : Int) := by
    intro z hz
    have hz0 : (0 : Int) ≤ z.toInt := by
      have := Int32.not_lt.mp hz
      simpa using Int32.le_iff_toInt_le.mp this
    show z.toInt = ((z.toInt.toNat : Nat) : Int)
    omega
  have he0 := a_ws_get G σ ha
  rw [hca] at he0
  have he1 := a_ws_get G σ hb
  rw [hcb] at he1
  intro T hT X
  have hc0 : H[G.2.2.1 + a]? = some (vp_cell (G.2.1 0) (N0, .inl f)) := hR.at ha hca
  have hc1 : H[G.2.2.1 + b]? = some (vp_cell (G.2.1 0) (N1, .inl g)) := hR.at hb hcb
  obtain ⟨-, k0, hk0, cm0, hkk0⟩ := (hK.1.2 0 _ rfl).1 N0 (fun j => .int (f j))
  obtain ⟨-, k1, hk1, cm1, hkk1⟩ := (hK.1.2 0 _ rfl).1 N1 (fun j => .int (g j))
  obtain ⟨vm', X', step⟩ := X.arraycopy hx hown (hts _ hl) (hts _ h2) (hts _ h3) (hts _ h4) (src := G.2.2.1 + a) (dst := G.2.2.1 + b) (cs := vp_cell (G.2.1 0) (N0, .inl f)) (cd := vp_cell (G.2.1 0) (N1, .inl g)) (srcPos := sp) (destPos := dp) (n := x) (by rw [hT]; exact hc0) (by rw [hT]; exact hc1)
    (fun _ h => by cases h) (fun _ h => by cases h) (fun h => by cases h) (fun h => by cases h) hk0 hk1 hkk0 hkk1 (by rfl) g1 g2 g3
    (by rw [nn sp g1, nn x g3]; show ¬ _ > ((arrV (G.2.1 0) N0 (fun j => .int (f j))).slots.size : Int); rw [arrV_size]; omega)
    (by rw [nn dp g2, nn x g3]; show ¬ _ > ((arrV (G.2.1 0) N1 (fun j => .int (g j))).slots.size : Int); rw [arrV_size]; omega)
    (fun vm₁ _ i hi => by
      have e : (vp_cell (G.2.1 0) (N0, .inl f)).slots.getD (sp.toNatClampNeg + i) .null = .int (f (sp.toNatClampNeg + i)) := by
        show (arrV (G.2.1 0) N0 (fun j => .int (f j))).slots.getD _ _ = _
        rw [Array.getD_eq_getD_getElem?, arrV_read _ _ (by omega)]
        rfl
      refine ⟨?_, ?_⟩
      · rw [e]
        rfl
      · rw [e]
        exact trivial)
    (g := F0 m pc ls (a_st G (.int x :: .int dp :: .ref b :: .int sp :: .ref a :: st))) rfl (by rw [hml]; exact hL.1) (rest := a_st G st) rfl (by rw [hbb]; exact hd) (by omega) (by
      have e5 : nativeFrameWords "java/lang/System" "arraycopy" 5 ≤ 40 := by decide +kernel
      show 2 * 0 + _ + _ ≤ _
      omega)
  have e1 : copied (vp_cell (G.2.1 0) (N0, .inl f)) (vp_cell (G.2.1 0) (N1, .inl g)) sp dp x = vp_cell (G.2.1 0) (N1, .inl (va_cpy f g sp.toNatClampNeg dp.toNatClampNeg x.toNatClampNeg)) := va_copied (fun z => .int z) (G.2.1 0) (G.2.1 0) f g g4
  rw [e1] at X' step
  have hlb : G.2.2.1 + b < H.size := (Array.getElem?_eq_some_iff.mp hc1).1
  have hheap : ((T.setVm vm').setCell (G.2.2.1 + b) (vp_cell (G.2.1 0) (N1, .inl (va_cpy f g sp.toNatClampNeg dp.toNatClampNeg x.toNatClampNeg)))).heap = H.setIfInBounds (G.2.2.1 + b) (vp_cell (G.2.1 0) (N1, .inl (va_cpy f g sp.toNatClampNeg dp.toNatClampNeg x.toNatClampNeg))) := by rw [← hT]; rfl
  have oq : ∀ q : Nat, q ≠ G.2.2.1 + b → (H.setIfInBounds (G.2.2.1 + b) (vp_cell (G.2.1 0) (N1, .inl (va_cpy f g sp.toNatClampNeg dp.toNatClampNeg x.toNatClampNeg))))[q]? = H[q]? := fun q hq => by simp [Array.getElem?_setIfInBounds, Ne.symm hq]
  have hR9 := hR.up (c := .inl (0, N1, .inl (va_cpy f g sp.toNatClampNeg dp.toNatClampNeg x.toNatClampNeg))) hb (by simp) oq (show (H.setIfInBounds (G.2.2.1 + b) _)[G.2.2.1 + b]? = some _ by simp [Array.getElem?_setIfInBounds, hlb]; rfl)
  obtain ⟨t, a1, b1⟩ := h' _ _ hR9 ⟨by simp; exact hS.1, fun q u1 u2 => by
      rw [oq q (fun e => u2 (by rw [e]; exact Nat.le_add_right _ _))]
      exact hS.2.1 q u1 u2, fun q hq => by
      rcases List.mem_append.mp hq with h | h
      · exact hS.2.2 q h
      · obtain ⟨z, -, hz⟩ := List.mem_map.mp h
        rw [← hz]
        exact Nat.le_add_right _ _⟩ _ hheap X'
  exact ⟨t, step t a1, b1⟩
end AWC

theorem a_L_ent {G : aG} {av : List Value} {L : List (Option Value)} {nL j : Nat} (hL : a_ents av ++ List.replicate j none = L) {ls : Array Slot} (h : lv_has ls nL (lv_args 0 (a_st G av))) : a_L G nL L ls := by
  subst hL
  refine ⟨h.1, h.2.1, fun i v hv => ?_⟩
  by_cases hi : i < (a_ents av).length
  · rw [List.getElem?_append_left hi] at hv
    have := a_ents_ok G av 0 i v hv
    rw [Nat.zero_add] at this
    exact h.2.2 _ this
  · rw [List.getElem?_append_right (by omega)] at hv
    have := List.mem_of_getElem? hv
    rw [List.mem_replicate] at this
    cases this.2
theorem AC.of {k mc ms : Nat} {M : aM} {av : List Value} {σ : aS} {P : Option Value → aS → Prop} {L : List (Option Value)} {j : Nat} (hy : plainName M.1.cls = true) (hL : a_ents av ++ List.replicate j none = L) (hml : (a_ents av).length ≤ M.2.2.1) (h : AW none k mc ms M 0 0 0 L [] σ P) : AC k mc ms M av σ P := by
  intro l G
  refine Met.ofW (cc := M.2.1) (maxL := M.2.2.1) (ret := M.2.2.2) hy rfl ?_
  intro p e s m args below meth c s₁ B hmlc hv
  obtain ⟨rfl, hR, hK⟩ := hv
  have hts0 := atoms_spec (ws := a_wl M) B.pre
  have hts : ∀ w ∈ gT, w.before (a_st G av).toArray s = true := fun w hw => hts0 w (List.mem_cons_of_mem _ hw)
  have hown : s.vm.findClass M.1.cls = some m.cls := findClass_of_methodNamed B.named
  have hnam : meth.name = M.1.name := (name_of_methodNamed B.named B.method).1
  have hlocks := B.notSynchronized
  have hlen : (lg_sl (a_st G av)).length ≤ M.2.2.1 := by
    refine Nat.le_trans (Nat.le_of_eq ?_) hml
    unfold lg_sl a_st
    clear hR hts0 hts B hL hml h
    induction av with
    | nil => rfl
    | cons v t ih => cases v <;> simp [a_ents, a_v, Value.category] at ih ⊢ <;> omega
  have hl := lv_entry (a_st G av) (n := M.2.2.1) hlen
  rw [lg_entry_eq]
  generalize (lg_sl (a_st G av) ++ List.replicate (M.2.2.1 - (lg_sl (a_st G av)).length) Slot.unset).toArray = ls at hl ⊢
  have hS : va_S (fun q => G.2.2.1 ≤ q) s.heap s.heap [] := va_S.rf
  refine h p l e _ s m _ below meth c s.heap [] _ ls G ⟨B.exec, B.bytes, hmlc, hown, hts, hK, hnam, ⟨Nat.le_refl _, Nat.le_refl _, Nat.le_refl _, Nat.le_refl _⟩, by rw [hR.1]; exact Nat.le_add_right _ _, fun q hq => by cases hq⟩ hR hS (a_L_ent hL hl) ?_
  intro r σ' H' locs' c1 s1 pc' ls' hP hR' hS' hc1 hs1 hrt
  refine W.widen hc1 hs1 ?_
  have hret := B.returns
  match r, hrt with
  | none, hrt =>
    obtain ⟨hd, hr⟩ := hrt
    exact W.vret B.exec B.bytes (hret.trans hr) (fun t ht hW => ⟨⟨none, σ', rfl, hP, by rw [ht]; exact hR'⟩, hS'.F ht⟩) hS'.2.2 hd
  | some (.int v), hrt =>
    obtain ⟨hd, ty, hr, hn⟩ := hrt
    exact W.zret B.exec B.bytes (hret.trans hr) hn (fun t ht hW => ⟨⟨some (.int v), σ', rfl, hP, by rw [ht]; exact hR'⟩, hS'.F ht⟩) hS'.2.2 hd
end
section
abbrev sC : Type := (Nat × Nat) ⊕ (Nat × Nat × (Nat → Option Nat)) ⊕ (Nat × List (Option Nat))
def skA : List sC := [.inr (.inr (9, [some 1, some 3, some 10, some 17, some 20, some 23, some 28, some 120, some 123, some 126, some 135, none])), .inr (.inr (7, [some 2, none, none, none, none, none])), .inl (0, 240), .inr (.inr (6, [none, none, none, none, none, some 4, some 5, some 6, some 7, some 8, some 9])), .inl (0, 7), .inl (0, 7), .inl (0, 7), .inl (0, 7), .inl (0, 7), .inl (0, 12), .inr (.inr (6, [none, none, none, none, none, some 11, some 12, some 13, some 14, some 15, some 16])), .inl (0, 7), .inl (0, 7), .inl (0, 7), .inl (0, 7), .inl (0, 7), .inl (0, 12), .inr (.inr (1, [some 18, some 19, none, none, none])), .inl (0, 7), .inl (0, 7), .inr (.inr (1, [some 21, some 22, none, none, none])), .inl (0, 7), .inl (0, 7), .inr (.inr (8, [some 24, some 27, none, none, none, none, none, none])), .inr (.inr (1, [some 25, some 26, none, none, none])), .inl (0, 7), .inl (0, 7), .inl (0, 7), .inr (.inr (3, [some 29, none, none])), .inr (.inl (2, 30, fun j => some (30 + 3 * j)))]
def skB : List sC := [.inr (.inr (5, [some 121, some 122, none])), .inl (0, 6), .inl (1, 6), .inr (.inr (0, [some 124, some 125, none])), .inl (0, 20), .inl (0, 20), .inr (.inl (3, 2, fun j => some (127 + 4 * j))), .inr (.inr (2, [some 128, none, none])), .inr (.inr (1, [some 129, some 130, none, none, none])), .inl (0, 7), .inl (0, 7), .inr (.inr (2, [some 132, none, none])), .inr (.inr (1, [some 133, some 134, none, none, none])), .inl (0, 7), .inl (0, 7), .inl (0, 4), .inr (.inr (10, [some 137, some 138, some 139, some 140, some 141, some 142, some 143, some 144, none, none, some 145, none, none, some 146, none, none, none, none, none, some 147, none, none, none, some 148, some 149, some 150, none, some 151, some 152, some 153, none])), .inl (0, 612), .inl (1, 2), .inl (0, 6), .inl (0, 14), .inl (0, 14), .inl (0, 14), .inl (0, 14), .inl (0, 14), .inl (0, 24), .inl (0, 240), .inl (0, 7), .inl (0, 7), .inl (0, 6), .inl (1, 6), .inl (0, 4), .inl (0, 20), .inl (0, 20)]
def sk (i : Nat) : Option sC := if i < 30 then skA[i]? else if i < 120 then some (if (i - 30) % 3 = 0 then .inr (.inr (1, [some (i + 1), some (i + 2), none, none, none])) else .inl (0, 7)) else skB[i - 120]?
abbrev Me : Type := Nat → Nat → Int32
def mr (μ : Me) (a : Nat) (f : Nat → Int32) : Me := fun i => if i = a then f else μ i
def mu (μ : Me) (a j : Nat) (x : Int32) : Me := mr μ a (upd (μ a) j x)
theorem mr_same (μ : Me) (a : Nat) (f : Nat → Int32) : mr μ a f a = f := if_pos rfl
theorem mr_ne {μ : Me} {a b : Nat} {f : Nat → Int32} (h : b ≠ a) : mr μ a f b = μ b := if_neg h
theorem mu_same (μ : Me) (a j : Nat) (x : Int32) : mu μ a j x a j = x := by unfold mu; rw [mr_same]; exact if_pos rfl
theorem mu_ne {μ : Me} {a b j : Nat} {x : Int32} (h : b ≠ a) : mu μ a j x b = μ b := mr_ne h
theorem mu_nj {μ : Me} {a i j : Nat} {x : Int32} (h : i ≠ j) : mu μ a j x a i = μ a i := by unfold mu; rw [mr_same]; exact if_neg h
theorem mu_at (μ : Me) (a b i j : Nat) (x : Int32) : mu μ a j x b i = if b = a ∧ i = j then x else μ b i := by
  by_cases h : b = a
  · subst h
    by_cases h2 : i = j
    · subst h2; simp [mu_same]
    · simp [mu_nj h2, h2]
  · simp [mu_ne h, h]
theorem mr_at (μ : Me) (a b i : Nat) (f : Nat → Int32) : mr μ a f b i = if b = a then f i else μ b i := by
  by_cases h : b = a
  · subst h; simp [mr_same]
  · simp [mr_ne h, h]
def wval (μ : Me) (a j : Nat) (o : Option Nat) : Value := match o with
  | some r => .ref r
  | none => .int (μ a j)
def wfs (μ : Me) (a : Nat) (fs : List (Option Nat)) : List Value := fs.mapIdx (fun j o => wval μ a j o)
def wcell (μ : Me) (a : Nat) (s : sC) : aC := match s with
  | .inl (t, N) => .inl (t, N, .inl (μ a))
  | .inr (.inl (t, N, f)) => .inl (t, N, .inr (.inr (.inr (.inr f))))
  | .inr (.inr (ci, fs)) => .inr (ci, wfs μ a fs)
def wd (μ : Me) (g : Nat → aC) : Nat → aC := fun i => match sk i with
  | some s => wcell μ i s
  | none => g i
def wS (μ : Me) (e : Nat × (Nat → aC)) : aS := (154 + e.1, wd μ e.2)
theorem sk_lt {a : Nat} {s : sC} (h : sk a = some s) : a < 154 := by
  unfold sk at h
  split at h
  · omega
  · split at h
    · omega
    · have := (List.getElem?_eq_some_iff.mp h).1
      have e : skB.length = 34 := rfl
      omega
theorem wd_at {μ : Me} {g : Nat → aC} {a : Nat} {s : sC} (h : sk a = some s) : wd μ g a = wcell μ a s := by unfold wd; rw [h]
theorem wfs_get {μ : Me} {a j : Nat} {fs : List (Option Nat)} {o : Option Nat} (h : fs[j]? = some o) : (wfs μ a fs)[j]? = some (wval μ a j o) := by
  unfold wfs
  rw [List.getElem?_mapIdx, h]
  rfl
theorem wd_obj {μ : Me} {g : Nat → aC} {a ci j : Nat} {fs : List (Option Nat)} {x : Int32} (h : sk a = some (.inr (.inr (ci, fs)))) (hj : fs[j]? = some none) : a_up (wd μ g) a (.inr (ci, (wfs μ a fs).set j (.int x))) = wd (mu μ a j x) g := by
  funext i
  by_cases hi : i = a
  · subst hi
    simp only [a_up, if_true]
    rw [wd_at h]
    show _ = Sum.inr (ci, wfs (mu μ i j x) i fs)
    congr 2
    apply List.ext_getElem?
    intro q
    rw [List.getElem?_set]
    unfold wfs
    rw [List.getElem?_mapIdx, List.getElem?_mapIdx, List.length_mapIdx]
    by_cases hq : j = q
    · subst hq
      rw [if_pos rfl, if_pos (List.getElem?_eq_some_iff.mp hj).1, hj]
      simp [mu_same, wval]
    · rw [if_neg hq]
      cases fs[q]? with
      | none => rfl
      | some o => cases o <;> simp [wval, mu_nj (Ne.symm hq)]
  · simp only [a_up, if_neg hi]
    unfold wd
    cases hs : sk i with
    | none => rfl
    | some s => rcases s with ⟨t, N⟩ | ⟨t, N, f⟩ | ⟨c2, f2⟩ <;> simp [wcell, wfs, wval, mu_ne hi]
theorem wd_arr {μ : Me} {g : Nat → aC} {a t N : Nat} {f : Nat → Int32} (h : sk a = some (.inl (t, N))) : a_up (wd μ g) a (.inl (t, N, .inl f)) = wd (mr μ a f) g := by
  funext i
  by_cases hi : i = a
  · subst hi
    simp only [a_up, if_true]
    rw [wd_at h]
    show _ = Sum.inl (t, N, Sum.inl (mr μ i f i))
    rw [mr_same]
  · simp only [a_up, if_neg hi]
    unfold wd
    cases hs : sk i with
    | none => rfl
    | some s => rcases s with ⟨t, N⟩ | ⟨t, N, f⟩ | ⟨c2, f2⟩ <;> simp [wcell, wfs, wval, mr_ne hi]
section WRows
variable {scr : Option (Nat × (Nat → Int32))} {k mc ms : Nat} {M : aM} {c0 s0 pc n : Nat} {L : List (Option Value)} {st : List Value} {μ : Me} {e : Nat × (Nat → aC)} {P : Option Value → aS → Prop}
theorem AW.gi {idx ci j a : Nat} {fs : List (Option Nat)} (hd : decode M.2.1 pc = .ok (.getfield idx, 3)) (hf : a_fl M.1.cls idx ci j) (hs : sk a = some (.inr (.inr (ci, fs)))) (hj : fs[j]? = some none) (hn : pc + 3 = n) (h : AW scr k mc ms M c0 s0 n L (.int (μ a j) :: st) (wS μ e) P) : AW scr k mc ms M c0 s0 pc L (.ref a :: st) (wS μ e) P :=
  AW.getf0 hd hf (Nat.lt_of_lt_of_le (sk_lt hs) (Nat.le_add_right _ _)) (wd_at hs) (wfs_get hj) hn h
theorem AW.gr {idx ci j a r : Nat} {fs : List (Option Nat)} (hd : decode M.2.1 pc = .ok (.getfield idx, 3)) (hf : a_fl M.1.cls idx ci j) (hs : sk a = some (.inr (.inr (ci, fs)))) (hj : fs[j]? = some (some r)) (hn : pc + 3 = n) (h : AW scr k mc ms M c0 s0 n L (.ref r :: st) (wS μ e) P) : AW scr k mc ms M c0 s0 pc L (.ref a :: st) (wS μ e) P :=
  AW.getf0 hd hf (Nat.lt_of_lt_of_le (sk_lt hs) (Nat.le_add_right _ _)) (wd_at hs) (wfs_get hj) hn h
theorem AW.pi {idx ci j a : Nat} {x : Int32} {fs : List (Option Nat)} {ty : FieldType} (hd : decode M.2.1 pc = .ok (.putfield idx, 3)) (hf : a_fp M.1.cls idx ci j ty false) (hs : sk a = some (.inr (.inr (ci, fs)))) (hj : fs[j]? = some none) (hv : narrow ty (.int x) = .int x ∧ fits ty (.int x) = true) (hn : pc + 3 = n) (h : AW scr k mc ms M c0 s0 n L st (wS (mu μ a j x) e) P) : AW scr k mc ms M c0 s0 pc L (.int x :: .ref a :: st) (wS μ e) P := by
  refine AW.put0 hd hf (fun q => by cases q) (Nat.lt_of_lt_of_le (sk_lt hs) (Nat.le_add_right _ _)) (wd_at hs) (by unfold wfs; rw [List.length_mapIdx]; exact (List.getElem?_eq_some_iff.mp hj).1) (fun G => hv) hn ?_
  show AW _ _ _ _ _ _ _ _ _ _ (154 + e.1, a_up (wd μ e.2) a _) _
  rw [wd_obj hs hj]
  exact h
theorem AW.ia {a N : Nat} {i : Int32} (j : Nat) (hd : decode M.2.1 pc = .ok (.iaload, 1)) (hs : sk a = some (.inl (0, N))) (hi : i = nI j) (hj : j < N) (hN : N < 2147483648) (hn : pc + 1 = n) (h : AW scr k mc ms M c0 s0 n L (.int (μ a j) :: st) (wS μ e) P) : AW scr k mc ms M c0 s0 pc L (.int i :: .ref a :: st) (wS μ e) P := by
  subst hi
  refine AW.iald hd (Nat.lt_of_lt_of_le (sk_lt hs) (Nat.le_add_right _ _)) (wd_at hs) (vp_in_nI hj hN) hn ?_
  rw [nI_clamp (Nat.lt_trans hj hN)]
  exact h
theorem AW.za {a N : Nat} {i : Int32} (j : Nat) (hd : decode M.2.1 pc = .ok (.baload, 1)) (hs : sk a = some (.inl (1, N))) (hi : i = nI j) (hj : j < N) (hN : N < 2147483648) (hn : pc + 1 = n) (h : AW scr k mc ms M c0 s0 n L (.int (μ a j) :: st) (wS μ e) P) : AW scr k mc ms M c0 s0 pc L (.int i :: .ref a :: st) (wS μ e) P := by
  subst hi
  refine AW.zald hd (Nat.lt_of_lt_of_le (sk_lt hs) (Nat.le_add_right _ _)) (wd_at hs) (vp_in_nI hj hN) hn ?_
  rw [nI_clamp (Nat.lt_trans hj hN)]
  exact h
theorem AW.ra {a N t b : Nat} {i : Int32} {f : Nat → Option Nat} (j : Nat) (hd : decode M.2.1 pc = .ok (.aaload, 1)) (ht : t = 2 ∨ t = 3) (hs : sk a = some (.inr (.inl (t, N, f)))) (hi : i = nI j) (hj : j < N) (hN : N < 2147483648) (hb : f j = some b) (hn : pc + 1 = n) (h : AW scr k mc ms M c0 s0 n L (.ref b :: st) (wS μ e) P) : AW scr k mc ms M c0 s0 pc L (.int i :: .ref a :: st) (wS μ e) P := by
  subst hi
  refine AW.aald hd (Nat.lt_of_lt_of_le (sk_lt hs) (Nat.le_add_right _ _)) ht (wd_at hs) (vp_in_nI hj hN) (by rw [nI_clamp (Nat.lt_trans hj hN)]; exact hb) hn h
theorem AW.is {a N : Nat} {i x : Int32} (j : Nat) (hd : decode M.2.1 pc = .ok (.iastore, 1)) (hs : sk a = some (.inl (0, N))) (hi : i = nI j) (hj : j < N) (hN : N < 2147483648) (hn : pc + 1 = n) (h : AW scr k mc ms M c0 s0 n L st (wS (mu μ a j x) e) P) : AW scr k mc ms M c0 s0 pc L (.int x :: .int i :: .ref a :: st) (wS μ e) P := by
  subst hi
  refine AW.iast hd (Nat.lt_of_lt_of_le (sk_lt hs) (Nat.le_add_right _ _)) (wd_at hs) (vp_in_nI hj hN) hn ?_
  show AW _ _ _ _ _ _ _ _ _ _ (154 + e.1, a_up (wd μ e.2) a _) _
  rw [wd_arr hs, nI_clamp (Nat.lt_trans hj hN)]
  exact h
theorem AW.zs {a N : Nat} {i x : Int32} (j : Nat) (hd : decode M.2.1 pc = .ok (.bastore, 1)) (hs : sk a = some (.inl (1, N))) (hi : i = nI j) (hj : j < N) (hN : N < 2147483648) (hx : narrow .boolean (.int x) = .int x) (hn : pc + 1 = n) (h : AW scr k mc ms M c0 s0 n L st (wS (mu μ a j x) e) P) : AW scr k mc ms M c0 s0 pc L (.int x :: .int i :: .ref a :: st) (wS μ e) P := by
  subst hi
  refine AW.zast hd (Nat.lt_of_lt_of_le (sk_lt hs) (Nat.le_add_right _ _)) (wd_at hs) (vp_in_nI hj hN) hx hn ?_
  show AW _ _ _ _ _ _ _ _ _ _ (154 + e.1, a_up (wd μ e.2) a _) _
  rw [wd_arr hs, nI_clamp (Nat.lt_trans hj hN)]
  exact h
theorem AW.cp {idx a b N0 N1 : Nat} {x : Int32} (q : Nat) (hd : decode M.2.1 pc = .ok (.invokestatic idx, 3)) (hl : Cond.methodLink M.1.cls idx arraycopyName ∈ gT) (h2 : Cond.native arraycopyName ∈ gT) (h3 : Cond.static arraycopyName ∈ gT) (h4 : Cond.initialized "java/lang/System" ∈ gT) (hsa : sk a = some (.inl (0, N0))) (hsb : sk b = some (.inl (0, N1))) (hx : x = nI q) (hq : q < 2147483648) (g4 : q ≤ N0) (g5 : q ≤ N1) (hrs : st.length ≤ 4) (hk : 1 ≤ k) (hn : pc + 3 = n) (h : AW scr k mc ms M c0 s0 n L st (wS (mr μ b (va_cpy (μ a) (μ b) 0 0 q)) e) P) : AW scr k mc ms M c0 s0 pc L (.int x :: .int 0 :: .ref b :: .int 0 :: .ref a :: st) (wS μ e) P := by
  subst hx
  have e0 : (0 : Int32).toNatClampNeg = 0 := by decide +kernel
  refine AW.acopy hd hl h2 h3 h4 (Nat.lt_of_lt_of_le (sk_lt hsa) (Nat.le_add_right _ _)) (Nat.lt_of_lt_of_le (sk_lt hsb) (Nat.le_add_right _ _)) (wd_at hsa) (wd_at hsb) (by decide) (by decide) (nI_pos hq) (by rw [e0, nI_clamp hq]; omega) (by rw [e0, nI_clamp hq]; omega) hrs hk hn ?_
  show AW _ _ _ _ _ _ _ _ _ _ (154 + e.1, a_up (wd μ e.2) b _) _
  rw [wd_arr hsb, e0, nI_clamp hq]
  exact h
theorem AW.cv {idx kc np a ci : Nat} {Mc : aM} {fs : List (Option Nat)} {q : vw_C} {As rest : List Value} {P1 : Option Value → aS → Prop} (hd : decode M.2.1 pc = .ok (.invokevirtual idx, 3)) (hl : a_lk M.1.cls idx Mc.1) (hcb : a_cv Mc np) (hs : sk a = some (.inr (.inr (ci, fs)))) (hq : vwCl[ci]? = some q) (hqn : q.1 = Mc.1.cls) (hM : AC kc 0 0 Mc (.ref a :: As) (wS μ e) P1) (hnp : As.length = np) (hst : st = As.reverse ++ .ref a :: rest) (hrs : rest.length ≤ 4) (hk : kc + 1 ≤ k) (hc0 : c0 ≤ mc) (hs0 : s0 ≤ ms) (hn : pc + 3 = n) (h : ∀ (r : Option Value) (σ' : aS), P1 r σ' → AW scr k mc ms M c0 s0 n L (r.toList ++ rest) σ' P) : AW scr k mc ms M c0 s0 pc L st (wS μ e) P :=
  AW.callv0 hd hl hcb hM hnp hst hrs hk hc0 hs0 (Nat.lt_of_lt_of_le (sk_lt hs) (Nat.le_add_right _ _)) (wd_at hs) hq hqn hn h
end WRows
section Pat
variable {scr : Option (Nat × (Nat → Int32))} {k mc ms : Nat} {M : aM} {c0 s0 pc n : Nat} {L : List (Option Value)} {st : List Value} {σ : aS} {P : Option Value → aS → Prop}
theorem AW.ist0 {a0 : Option Value} {x : Int32} (hd : decode M.2.1 pc = .ok (.istore_n 0, 1)) (hi : 0 < M.2.2.1) (hc : a_ok (a0 :: L) 0 = true) (hn : pc + 1 = n) (h : AW scr k mc ms M c0 s0 n (some (.int x) :: L) st σ P) : AW scr k mc ms M c0 s0 pc (a0 :: L) (.int x :: st) σ P := AW.istore_n hd hi hc rfl hn h
theorem AW.ast0 {a0 : Option Value} {x : Nat} (hd : decode M.2.1 pc = .ok (.astore_n 0, 1)) (hi : 0 < M.2.2.1) (hc : a_ok (a0 :: L) 0 = true) (hn : pc + 1 = n) (h : AW scr k mc ms M c0 s0 n (some (.ref x) :: L) st σ P) : AW scr k mc ms M c0 s0 pc (a0 :: L) (.ref x :: st) σ P := AW.astore_n hd hi hc rfl hn h
theorem AW.inc0 {x : Int32} (w : Int32) {d : Int} (hd : decode M.2.1 pc = .ok (.iinc 0 d, 3)) (hw : Int32.ofInt d = w) (hi : 0 < M.2.2.1) (hc : a_ok (some (.int x) :: L) 0 = true) (hn : pc + 3 = n) (h : AW scr k mc ms M c0 s0 n (some (.int (x + w)) :: L) st σ P) : AW scr k mc ms M c0 s0 pc (some (.int x) :: L) st σ P := AW.iinc hd rfl (by rw [hw]) hi hc rfl hn h
theorem AW.ist1 {a0 a1 : Option Value} {x : Int32} (hd : decode M.2.1 pc = .ok (.istore_n 1, 1)) (hi : 1 < M.2.2.1) (hc : a_ok (a0 :: a1 :: L) 1 = true) (hn : pc + 1 = n) (h : AW scr k mc ms M c0 s0 n (a0 :: some (.int x) :: L) st σ P) : AW scr k mc ms M c0 s0 pc (a0 :: a1 :: L) (.int x :: st) σ P := AW.istore_n hd hi hc rfl hn h
theorem AW.ast1 {a0 a1 : Option Value} {x : Nat} (hd : decode M.2.1 pc = .ok (.astore_n 1, 1)) (hi : 1 < M.2.2.1) (hc : a_ok (a0 :: a1 :: L) 1 = true) (hn : pc + 1 = n) (h : AW scr k mc ms M c0 s0 n (a0 :: some (.ref x) :: L) st σ P) : AW scr k mc ms M c0 s0 pc (a0 :: a1 :: L) (.ref x :: st) σ P := AW.astore_n hd hi hc rfl hn h
theorem AW.inc1 {a0 : Option Value} {x : Int32} (w : Int32) {d : Int} (hd : decode M.2.1 pc = .ok (.iinc 1 d, 3)) (hw : Int32.ofInt d = w) (hi : 1 < M.2.2.1) (hc : a_ok (a0 :: some (.int x) :: L) 1 = true) (hn : pc + 3 = n) (h : AW scr k mc ms M c0 s0 n (a0 :: some (.int (x + w)) :: L) st σ P) : AW scr k mc ms M c0 s0 pc (a0 :: some (.int x) :: L) st σ P := AW.iinc hd rfl (by rw [hw]) hi hc rfl hn h
theorem AW.ist2 {a0 a1 a2 : Option Value} {x : Int32} (hd : decode M.2.1 pc = .ok (.istore_n 2, 1)) (hi : 2 < M.2.2.1) (hc : a_ok (a0 :: a1 :: a2 :: L) 2 = true) (hn : pc + 1 = n) (h : AW scr k mc ms M c0 s0 n (a0 :: a1 :: some (.int x) :: L) st σ P) : AW scr k mc ms M c0 s0 pc (a0 :: a1 :: a2 :: L) (.int x :: st) σ P := AW.istore_n hd hi hc rfl hn h
theorem AW.ast2 {a0 a1 a2 : Option Value} {x : Nat} (hd : decode M.2.1 pc = .ok (.astore_n 2, 1)) (hi : 2 < M.2.2.1) (hc : a_ok (a0 :: a1 :: a2 :: L) 2 = true) (hn : pc + 1 = n) (h : AW scr k mc ms M c0 s0 n (a0 :: a1 :: some (.ref x) :: L) st σ P) : AW scr k mc ms M c0 s0 pc (a0 :: a1 :: a2 :: L) (.ref x :: st) σ P := AW.astore_n hd hi hc rfl hn h
theorem AW.inc2 {a0 a1 : Option Value} {x : Int32} (w : Int32) {d : Int} (hd : decode M.2.1 pc = .ok (.iinc 2 d, 3)) (hw : Int32.ofInt d = w) (hi : 2 < M.2.2.1) (hc : a_ok (a0 :: a1 :: some (.int x) :: L) 2 = true) (hn : pc + 3 = n) (h : AW scr k mc ms M c0 s0 n (a0 :: a1 :: some (.int (x + w)) :: L) st σ P) : AW scr k mc ms M c0 s0 pc (a0 :: a1 :: some (.int x) :: L) st σ P := AW.iinc hd rfl (by rw [hw]) hi hc rfl hn h
theorem AW.ist3 {a0 a1 a2 a3 : Option Value} {x : Int32} (hd : decode M.2.1 pc = .ok (.istore_n 3, 1)) (hi : 3 < M.2.2.1) (hc : a_ok (a0 :: a1 :: a2 :: a3 :: L) 3 = true) (hn : pc + 1 = n) (h : AW scr k mc ms M c0 s0 n (a0 :: a1 :: a2 :: some (.int x) :: L) st σ P) : AW scr k mc ms M c0 s0 pc (a0 :: a1 :: a2 :: a3 :: L) (.int x :: st) σ P := AW.istore_n hd hi hc rfl hn h
theorem AW.ast3 {a0 a1 a2 a3 : Option Value} {x : Nat} (hd : decode M.2.1 pc = .ok (.astore_n 3, 1)) (hi : 3 < M.2.2.1) (hc : a_ok (a0 :: a1 :: a2 :: a3 :: L) 3 = true) (hn : pc + 1 = n) (h : AW scr k mc ms M c0 s0 n (a0 :: a1 :: a2 :: some (.ref x) :: L) st σ P) : AW scr k mc ms M c0 s0 pc (a0 :: a1 :: a2 :: a3 :: L) (.ref x :: st) σ P := AW.astore_n hd hi hc rfl hn h
theorem AW.inc3 {a0 a1 a2 : Option Value} {x : Int32} (w : Int32) {d : Int} (hd : decode M.2.1 pc = .ok (.iinc 3 d, 3)) (hw : Int32.ofInt d = w) (hi : 3 < M.2.2.1) (hc : a_ok (a0 :: a1 :: a2 :: some (.int x) :: L) 3 = true) (hn : pc + 3 = n) (h : AW scr k mc ms M c0 s0 n (a0 :: a1 :: a2 :: some (.int (x + w)) :: L) st σ P) : AW scr k mc ms M c0 s0 pc (a0 :: a1 :: a2 :: some (.int x) :: L) st σ P := AW.iinc hd rfl (by rw [hw]) hi hc rfl hn h
theorem AW.ist4 {a0 a1 a2 a3 a4 : Option Value} {x : Int32} (hd : decode M.2.1 pc = .ok (.istore 4, 2)) (hi : 4 < M.2.2.1) (hc : a_ok (a0 :: a1 :: a2 :: a3 :: a4 :: L) 4 = true) (hn : pc + 2 = n) (h : AW scr k mc ms M c0 s0 n (a0 :: a1 :: a2 :: a3 :: some (.int x) :: L) st σ P) : AW scr k mc ms M c0 s0 pc (a0 :: a1 :: a2 :: a3 :: a4 :: L) (.int x :: st) σ P := AW.istore hd hi hc rfl hn h
theorem AW.ast4 {a0 a1 a2 a3 a4 : Option Value} {x : Nat} (hd : decode M.2.1 pc = .ok (.astore 4, 2)) (hi : 4 < M.2.2.1) (hc : a_ok (a0 :: a1 :: a2 :: a3 :: a4 :: L) 4 = true) (hn : pc + 2 = n) (h : AW scr k mc ms M c0 s0 n (a0 :: a1 :: a2 :: a3 :: some (.ref x) :: L) st σ P) : AW scr k mc ms M c0 s0 pc (a0 :: a1 :: a2 :: a3 :: a4 :: L) (.ref x :: st) σ P := AW.astore hd hi hc rfl hn h
theorem AW.inc4 {a0 a1 a2 a3 : Option Value} {x : Int32} (w : Int32) {d : Int} (hd : decode M.2.1 pc = .ok (.iinc 4 d, 3)) (hw : Int32.ofInt d = w) (hi : 4 < M.2.2.1) (hc : a_ok (a0 :: a1 :: a2 :: a3 :: some (.int x) :: L) 4 = true) (hn : pc + 3 = n) (h : AW scr k mc ms M c0 s0 n (a0 :: a1 :: a2 :: a3 :: some (.int (x + w)) :: L) st σ P) : AW scr k mc ms M c0 s0 pc (a0 :: a1 :: a2 :: a3 :: some (.int x) :: L) st σ P := AW.iinc hd rfl (by rw [hw]) hi hc rfl hn h
theorem AW.ist5 {a0 a1 a2 a3 a4 a5 : Option Value} {x : Int32} (hd : decode M.2.1 pc = .ok (.istore 5, 2)) (hi : 5 < M.2.2.1) (hc : a_ok (a0 :: a1 :: a2 :: a3 :: a4 :: a5 :: L) 5 = true) (hn : pc + 2 = n) (h : AW scr k mc ms M c0 s0 n (a0 :: a1 :: a2 :: a3 :: a4 :: some (.int x) :: L) st σ P) : AW scr k mc ms M c0 s0 pc (a0 :: a1 :: a2 :: a3 :: a4 :: a5 :: L) (.int x :: st) σ P := AW.istore hd hi hc rfl hn h
theorem AW.ast5 {a0 a1 a2 a3 a4 a5 : Option Value} {x : Nat} (hd : decode M.2.1 pc = .ok (.astore 5, 2)) (hi : 5 < M.2.2.1) (hc : a_ok (a0 :: a1 :: a2 :: a3 :: a4 :: a5 :: L) 5 = true) (hn : pc + 2 = n) (h : AW scr k mc ms M c0 s0 n (a0 :: a1 :: a2 :: a3 :: a4 :: some (.ref x) :: L) st σ P) : AW scr k mc ms M c0 s0 pc (a0 :: a1 :: a2 :: a3 :: a4 :: a5 :: L) (.ref x :: st) σ P := AW.astore hd hi hc rfl hn h
theorem AW.inc5 {a0 a1 a2 a3 a4 : Option Value} {x : Int32} (w : Int32) {d : Int} (hd : decode M.2.1 pc = .ok (.iinc 5 d, 3)) (hw : Int32.ofInt d = w) (hi : 5 < M.2.2.1) (hc : a_ok (a0 :: a1 :: a2 :: a3 :: a4 :: some (.int x) :: L) 5 = true) (hn : pc + 3 = n) (h : AW scr k mc ms M c0 s0 n (a0 :: a1 :: a2 :: a3 :: a4 :: some (.int (x + w)) :: L) st σ P) : AW scr k mc ms M c0 s0 pc (a0 :: a1 :: a2 :: a3 :: a4 :: some (.int x) :: L) st σ P := AW.iinc hd rfl (by rw [hw]) hi hc rfl hn h
theorem AW.ist6 {a0 a1 a2 a3 a4 a5 a6 : Option Value} {x : Int32} (hd : decode M.2.1 pc = .ok (.istore 6, 2)) (hi : 6 < M.2.2.1) (hc : a_ok (a0 :: a1 :: a2 :: a3 :: a4 :: a5 :: a6 :: L) 6 = true) (hn : pc + 2 = n) (h : AW scr k mc ms M c0 s0 n (a0 :: a1 :: a2 :: a3 :: a4 :: a5 :: some (.int x) :: L) st σ P) : AW scr k mc ms M c0 s0 pc (a0 :: a1 :: a2 :: a3 :: a4 :: a5 :: a6 :: L) (.int x :: st) σ P := AW.istore hd hi hc rfl hn h
theorem AW.ast6 {a0 a1 a2 a3 a4 a5 a6 : Option Value} {x : Nat} (hd : decode M.2.1 pc = .ok (.astore 6, 2)) (hi : 6 < M.2.2.1) (hc : a_ok (a0 :: a1 :: a2 :: a3 :: a4 :: a5 :: a6 :: L) 6 = true) (hn : pc + 2 = n) (h : AW scr k mc ms M c0 s0 n (a0 :: a1 :: a2 :: a3 :: a4 :: a5 :: some (.ref x) :: L) st σ P) : AW scr k mc ms M c0 s0 pc (a0 :: a1 :: a2 :: a3 :: a4 :: a5 :: a6 :: L) (.ref x :: st) σ P := AW.astore hd hi hc rfl hn h
theorem AW.inc6 {a0 a1 a2 a3 a4 a5 : Option Value} {x : Int32} (w : Int32) {d : Int} (hd : decode M.2.1 pc = .ok (.iinc 6 d, 3)) (hw : Int32.ofInt d = w) (hi : 6 < M.2.2.1) (hc : a_ok (a0 :: a1 :: a2 :: a3 :: a4 :: a5 :: some (.int x) :: L) 6 = true) (hn : pc + 3 = n) (h : AW scr k mc ms M c0 s0 n (a0 :: a1 :: a2 :: a3 :: a4 :: a5 :: some (.int (x + w)) :: L) st σ P) : AW scr k mc ms M c0 s0 pc (a0 :: a1 :: a2 :: a3 :: a4 :: a5 :: some (.int x) :: L) st σ P := AW.iinc hd rfl (by rw [hw]) hi hc rfl hn h
theorem AW.ist7 {a0 a1 a2 a3 a4 a5 a6 a7 : Option Value} {x : Int32} (hd : decode M.2.1 pc = .ok (.istore 7, 2)) (hi : 7 < M.2.2.1) (hc : a_ok (a0 :: a1 :: a2 :: a3 :: a4 :: a5 :: a6 :: a7 :: L) 7 = true) (hn : pc + 2 = n) (h : AW scr k mc ms M c0 s0 n (a0 :: a1 :: a2 :: a3 :: a4 :: a5 :: a6 :: some (.int x) :: L) st σ P) : AW scr k mc ms M c0 s0 pc (a0 :: a1 :: a2 :: a3 :: a4 :: a5 :: a6 :: a7 :: L) (.int x :: st) σ P := AW.istore hd hi hc rfl hn h
theorem AW.ast7 {a0 a1 a2 a3 a4 a5 a6 a7 : Option Value} {x : Nat} (hd : decode M.2.1 pc = .ok (.astore 7, 2)) (hi : 7 < M.2.2.1) (hc : a_ok (a0 :: a1 :: a2 :: a3 :: a4 :: a5 :: a6 :: a7 :: L) 7 = true) (hn : pc + 2 = n) (h : AW scr k mc ms M c0 s0 n (a0 :: a1 :: a2 :: a3 :: a4 :: a5 :: a6 :: some (.ref x) :: L) st σ P) : AW scr k mc ms M c0 s0 pc (a0 :: a1 :: a2 :: a3 :: a4 :: a5 :: a6 :: a7 :: L) (.ref x :: st) σ P := AW.astore hd hi hc rfl hn h
theorem AW.inc7 {a0 a1 a2 a3 a4 a5 a6 : Option Value} {x : Int32} (w : Int32) {d : Int} (hd : decode M.2.1 pc = .ok (.iinc 7 d, 3)) (hw : Int32.ofInt d = w) (hi : 7 < M.2.2.1) (hc : a_ok (a0 :: a1 :: a2 :: a3 :: a4 :: a5 :: a6 :: some (.int x) :: L) 7 = true) (hn : pc + 3 = n) (h : AW scr k mc ms M c0 s0 n (a0 :: a1 :: a2 :: a3 :: a4 :: a5 :: a6 :: some (.int (x + w)) :: L) st σ P) : AW scr k mc ms M c0 s0 pc (a0 :: a1 :: a2 :: a3 :: a4 :: a5 :: a6 :: some (.int x) :: L) st σ P := AW.iinc hd rfl (by rw [hw]) hi hc rfl hn h
theorem AW.ist8 {a0 a1 a2 a3 a4 a5 a6 a7 a8 : Option Value} {x : Int32} (hd : decode M.2.1 pc = .ok (.istore 8, 2)) (hi : 8 < M.2.2.1) (hc : a_ok (a0 :: a1 :: a2 :: a3 :: a4 :: a5 :: a6 :: a7 :: a8 :: L) 8 = true) (hn : pc + 2 = n) (h : AW scr k mc ms M c0 s0 n (a0 :: a1 :: a2 :: a3 :: a4 :: a5 :: a6 :: a7 :: some (.int x) :: L) st σ P) : AW scr k mc ms M c0 s0 pc (a0 :: a1 :: a2 :: a3 :: a4 :: a5 :: a6 :: a7 :: a8 :: L) (.int x :: st) σ P := AW.istore hd hi hc rfl hn h
theorem AW.ast8 {a0 a1 a2 a3 a4 a5 a6 a7 a8 : Option Value} {x : Nat} (hd : decode M.2.1 pc = .ok (.astore 8, 2)) (hi : 8 < M.2.2.1) (hc : a_ok (a0 :: a1 :: a2 :: a3 :: a4 :: a5 :: a6 :: a7 :: a8 :: L) 8 = true) (hn : pc + 2 = n) (h : AW scr k mc ms M c0 s0 n (a0 :: a1 :: a2 :: a3 :: a4 :: a5 :: a6 :: a7 :: some (.ref x) :: L) st σ P) : AW scr k mc ms M c0 s0 pc (a0 :: a1 :: a2 :: a3 :: a4 :: a5 :: a6 :: a7 :: a8 :: L) (.ref x :: st) σ P := AW.astore hd hi hc rfl hn h
theorem AW.inc8 {a0 a1 a2 a3 a4 a5 a6 a7 : Option Value} {x : Int32} (w : Int32) {d : Int} (hd : decode M.2.1 pc = .ok (.iinc 8 d, 3)) (hw : Int32.ofInt d = w) (hi : 8 < M.2.2.1) (hc : a_ok (a0 :: a1 :: a2 :: a3 :: a4 :: a5 :: a6 :: a7 :: some (.int x) :: L) 8 = true) (hn : pc + 3 = n) (h : AW scr k mc ms M c0 s0 n (a0 :: a1 :: a2 :: a3 :: a4 :: a5 :: a6 :: a7 :: some (.int (x + w)) :: L) st σ P) : AW scr k mc ms M c0 s0 pc (a0 :: a1 :: a2 :: a3 :: a4 :: a5 :: a6 :: a7 :: some (.int x) :: L) st σ P := AW.iinc hd rfl (by rw [hw]) hi hc rfl hn h
theorem AW.ist9 {a0 a1 a2 a3 a4 a5 a6 a7 a8 a9 : Option Value} {x : Int32} (hd : decode M.2.1 pc = .ok (.istore 9, 2)) (hi : 9 < M.2.2.1) (hc : a_ok (a0 :: a1 :: a2 :: a3 :: a4 :: a5 :: a6 :: a7 :: a8 :: a9 :: L) 9 = true) (hn : pc + 2 = n) (h : AW scr k mc ms M c0 s0 n (a0 :: a1 :: a2 :: a3 :: a4 :: a5 :: a6 :: a7 :: a8 :: some (.int x) :: L) st σ P) : AW scr k mc ms M c0 s0 pc (a0 :: a1 :: a2 :: a3 :: a4 :: a5 :: a6 :: a7 :: a8 :: a9 :: L) (.int x :: st) σ P := AW.istore hd hi hc rfl hn h
theorem AW.ast9 {a0 a1 a2 a3 a4 a5 a6 a7 a8 a9 : Option Value} {x : Nat} (hd : decode M.2.1 pc = .ok (.astore 9, 2)) (hi : 9 < M.2.2.1) (hc : a_ok (a0 :: a1 :: a2 :: a3 :: a4 :: a5 :: a6 :: a7 :: a8 :: a9 :: L) 9 = true) (hn : pc + 2 = n) (h : AW scr k mc ms M c0 s0 n (a0 :: a1 :: a2 :: a3 :: a4 :: a5 :: a6 :: a7 :: a8 :: some (.ref x) :: L) st σ P) : AW scr k mc ms M c0 s0 pc (a0 :: a1 :: a2 :: a3 :: a4 :: a5 :: a6 :: a7 :: a8 :: a9 :: L) (.ref x :: st) σ P := AW.astore hd hi hc rfl hn h
theorem AW.inc9 {a0 a1 a2 a3 a4 a5 a6 a7 a8 : Option Value} {x : Int32} (w : Int32) {d : Int} (hd : decode M.2.1 pc = .ok (.iinc 9 d, 3)) (hw : Int32.ofInt d = w) (hi : 9 < M.2.2.1) (hc : a_ok (a0 :: a1 :: a2 :: a3 :: a4 :: a5 :: a6 :: a7 :: a8 :: some (.int x) :: L) 9 = true) (hn : pc + 3 = n) (h : AW scr k mc ms M c0 s0 n (a0 :: a1 :: a2 :: a3 :: a4 :: a5 :: a6 :: a7 :: a8 :: some (.int (x + w)) :: L) st σ P) : AW scr k mc ms M c0 s0 pc (a0 :: a1 :: a2 :: a3 :: a4 :: a5 :: a6 :: a7 :: a8 :: some (.int x) :: L) st σ P := AW.iinc hd rfl (by rw [hw]) hi hc rfl hn h
theorem AW.ist10 {a0 a1 a2 a3 a4 a5 a6 a7 a8 a9 a10 : Option Value} {x : Int32} (hd : decode M.2.1 pc = .ok (.istore 10, 2)) (hi : 10 < M.2.2.1) (hc : a_ok (a0 :: a1 :: a2 :: a3 :: a4 :: a5 :: a6 :: a7 :: a8 :: a9 :: a10 :: L) 10 = true) (hn : pc + 2 = n) (h : AW scr k mc ms M c0 s0 n (a0 :: a1 :: a2 :: a3 :: a4 :: a5 :: a6 :: a7 :: a8 :: a9 :: some (.int x) :: L) st σ P) : AW scr k mc ms M c0 s0 pc (a0 :: a1 :: a2 :: a3 :: a4 :: a5 :: a6 :: a7 :: a8 :: a9 :: a10 :: L) (.int x :: st) σ P := AW.istore hd hi hc rfl hn h
theorem AW.ast10 {a0 a1 a2 a3 a4 a5 a6 a7 a8 a9 a10 : Option Value} {x : Nat} (hd : decode M.2.1 pc = .ok (.astore 10, 2)) (hi : 10 < M.2.2.1) (hc : a_ok (a0 :: a1 :: a2 :: a3 :: a4 :: a5 :: a6 :: a7 :: a8 :: a9 :: a10 :: L) 10 = true) (hn : pc + 2 = n) (h : AW scr k mc ms M c0 s0 n (a0 :: a1 :: a2 :: a3 :: a4 :: a5 :: a6 :: a7 :: a8 :: a9 :: some (.ref x) :: L) st σ P) : AW scr k mc ms M c0 s0 pc (a0 :: a1 :: a2 :: a3 :: a4 :: a5 :: a6 :: a7 :: a8 :: a9 :: a10 :: L) (.ref x :: st) σ P := AW.astore hd hi hc rfl hn h
theorem AW.inc10 {a0 a1 a2 a3 a4 a5 a6 a7 a8 a9 : Option Value} {x : Int32} (w : Int32) {d : Int} (hd : decode M.2.1 pc = .ok (.iinc 10 d, 3)) (hw : Int32.ofInt d = w) (hi : 10 < M.2.2.1) (hc : a_ok (a0 :: a1 :: a2 :: a3 :: a4 :: a5 :: a6 :: a7 :: a8 :: a9 :: some (.int x) :: L) 10 = true) (hn : pc + 3 = n) (h : AW scr k mc ms M c0 s0 n (a0 :: a1 :: a2 :: a3 :: a4 :: a5 :: a6 :: a7 :: a8 :: a9 :: some (.int (x + w)) :: L) st σ P) : AW scr k mc ms M c0 s0 pc (a0 :: a1 :: a2 :: a3 :: a4 :: a5 :: a6 :: a7 :: a8 :: a9 :: some (.int x) :: L) st σ P := AW.iinc hd rfl (by rw [hw]) hi hc rfl hn h
theorem AW.ist11 {a0 a1 a2 a3 a4 a5 a6 a7 a8 a9 a10 a11 : Option Value} {x : Int32} (hd : decode M.2.1 pc = .ok (.istore 11, 2)) (hi : 11 < M.2.2.1) (hc : a_ok (a0 :: a1 :: a2 :: a3 :: a4 :: a5 :: a6 :: a7 :: a8 :: a9 :: a10 :: a11 :: L) 11 = true) (hn : pc + 2 = n) (h : AW scr k mc ms M c0 s0 n (a0 :: a1 :: a2 :: a3 :: a4 :: a5 :: a6 :: a7 :: a8 :: a9 :: a10 :: some (.int x) :: L) st σ P) : AW scr k mc ms M c0 s0 pc (a0 :: a1 :: a2 :: a3 :: a4 :: a5 :: a6 :: a7 :: a8 :: a9 :: a10 :: a11 :: L) (.int x :: st) σ P := AW.istore hd hi hc rfl hn h
theorem AW.ast11 {a0 a1 a2 a3 a4 a5 a6 a7 a8 a9 a10 a11 : Option Value} {x : Nat} (hd : decode M.2.1 pc = .ok (.astore 11, 2)) (hi : 11 < M.2.2.1) (hc : a_ok (a0 :: a1 :: a2 :: a3 :: a4 :: a5 :: a6 :: a7 :: a8 :: a9 :: a10 :: a11 :: L) 11 = true) (hn : pc + 2 = n) (h : AW scr k mc ms M c0 s0 n (a0 :: a1 :: a2 :: a3 :: a4 :: a5 :: a6 :: a7 :: a8 :: a9 :: a10 :: some (.ref x) :: L) st σ P) : AW scr k mc ms M c0 s0 pc (a0 :: a1 :: a2 :: a3 :: a4 :: a5 :: a6 :: a7 :: a8 :: a9 :: a10 :: a11 :: L) (.ref x :: st) σ P := AW.astore hd hi hc rfl hn h
theorem AW.inc11 {a0 a1 a2 a3 a4 a5 a6 a7 a8 a9 a10 : Option Value} {x : Int32} (w : Int32) {d : Int} (hd : decode M.2.1 pc = .ok (.iinc 11 d, 3)) (hw : Int32.ofInt d = w) (hi : 11 < M.2.2.1) (hc : a_ok (a0 :: a1 :: a2 :: a3 :: a4 :: a5 :: a6 :: a7 :: a8 :: a9 :: a10 :: some (.int x) :: L) 11 = true) (hn : pc + 3 = n) (h : AW scr k mc ms M c0 s0 n (a0 :: a1 :: a2 :: a3 :: a4 :: a5 :: a6 :: a7 :: a8 :: a9 :: a10 :: some (.int (x + w)) :: L) st σ P) : AW scr k mc ms M c0 s0 pc (a0 :: a1 :: a2 :: a3 :: a4 :: a5 :: a6 :: a7 :: a8 :: a9 :: a10 :: some (.int x) :: L) st σ P := AW.iinc hd rfl (by rw [hw]) hi hc rfl hn h
theorem AW.ist12 {a0 a1 a2 a3 a4 a5 a6 a7 a8 a9 a10 a11 a12 : Option Value} {x : Int32} (hd : decode M.2.1 pc = .ok (.istore 12, 2)) (hi : 12 < M.2.2.1) (hc : a_ok (a0 :: a1 :: a2 :: a3 :: a4 :: a5 :: a6 :: a7 :: a8 :: a9 :: a10 :: a11 :: a12 :: L) 12 = true) (hn : pc + 2 = n) (h : AW scr k mc ms M c0 s0 n (a0 :: a1 :: a2 :: a3 :: a4 :: a5 :: a6 :: a7 :: a8 :: a9 :: a10 :: a11 :: some (.int x) :: L) st σ P) : AW scr k mc ms M c0 s0 pc (a0 :: a1 :: a2 :: a3 :: a4 :: a5 :: a6 :: a7 :: a8 :: a9 :: a10 :: a11 :: a12 :: L) (.int x :: st) σ P := AW.istore hd hi hc rfl hn h
theorem AW.ast12 {a0 a1 a2 a3 a4 a5 a6 a7 a8 a9 a10 a11 a12 : Option Value} {x : Nat} (hd : decode M.2.1 pc = .ok (.astore 12, 2)) (hi : 12 < M.2.2.1) (hc : a_ok (a0 :: a1 :: a2 :: a3 :: a4 :: a5 :: a6 :: a7 :: a8 :: a9 :: a10 :: a11 :: a12 :: L) 12 = true) (hn : pc + 2 = n) (h : AW scr k mc ms M c0 s0 n (a0 :: a1 :: a2 :: a3 :: a4 :: a5 :: a6 :: a7 :: a8 :: a9 :: a10 :: a11 :: some (.ref x) :: L) st σ P) : AW scr k mc ms M c0 s0 pc (a0 :: a1 :: a2 :: a3 :: a4 :: a5 :: a6 :: a7 :: a8 :: a9 :: a10 :: a11 :: a12 :: L) (.ref x :: st) σ P := AW.astore hd hi hc rfl hn h
theorem AW.inc12 {a0 a1 a2 a3 a4 a5 a6 a7 a8 a9 a10 a11 : Option Value} {x : Int32} (w : Int32) {d : Int} (hd : decode M.2.1 pc = .ok (.iinc 12 d, 3)) (hw : Int32.ofInt d = w) (hi : 12 < M.2.2.1) (hc : a_ok (a0 :: a1 :: a2 :: a3 :: a4 :: a5 :: a6 :: a7 :: a8 :: a9 :: a10 :: a11 :: some (.int x) :: L) 12 = true) (hn : pc + 3 = n) (h : AW scr k mc ms M c0 s0 n (a0 :: a1 :: a2 :: a3 :: a4 :: a5 :: a6 :: a7 :: a8 :: a9 :: a10 :: a11 :: some (.int (x + w)) :: L) st σ P) : AW scr k mc ms M c0 s0 pc (a0 :: a1 :: a2 :: a3 :: a4 :: a5 :: a6 :: a7 :: a8 :: a9 :: a10 :: a11 :: some (.int x) :: L) st σ P := AW.iinc hd rfl (by rw [hw]) hi hc rfl hn h
theorem AW.ist13 {a0 a1 a2 a3 a4 a5 a6 a7 a8 a9 a10 a11 a12 a13 : Option Value} {x : Int32} (hd : decode M.2.1 pc = .ok (.istore 13, 2)) (hi : 13 < M.2.2.1) (hc : a_ok (a0 :: a1 :: a2 :: a3 :: a4 :: a5 :: a6 :: a7 :: a8 :: a9 :: a10 :: a11 :: a12 :: a13 :: L) 13 = true) (hn : pc + 2 = n) (h : AW scr k mc ms M c0 s0 n (a0 :: a1 :: a2 :: a3 :: a4 :: a5 :: a6 :: a7 :: a8 :: a9 :: a10 :: a11 :: a12 :: some (.int x) :: L) st σ P) : AW scr k mc ms M c0 s0 pc (a0 :: a1 :: a2 :: a3 :: a4 :: a5 :: a6 :: a7 :: a8 :: a9 :: a10 :: a11 :: a12 :: a13 :: L) (.int x :: st) σ P := AW.istore hd hi hc rfl hn h
theorem AW.ast13 {a0 a1 a2 a3 a4 a5 a6 a7 a8 a9 a10 a11 a12 a13 : Option Value} {x : Nat} (hd : decode M.2.1 pc = .ok (.astore 13, 2)) (hi : 13 < M.2.2.1) (hc : a_ok (a0 :: a1 :: a2 :: a3 :: a4 :: a5 :: a6 :: a7 :: a8 :: a9 :: a10 :: a11 :: a12 :: a13 :: L) 13 = true) (hn : pc + 2 = n) (h : AW scr k mc ms M c0 s0 n (a0 :: a1 :: a2 :: a3 :: a4 :: a5 :: a6 :: a7 :: a8 :: a9 :: a10 :: a11 :: a12 :: some (.ref x) :: L) st σ P) : AW scr k mc ms M c0 s0 pc (a0 :: a1 :: a2 :: a3 :: a4 :: a5 :: a6 :: a7 :: a8 :: a9 :: a10 :: a11 :: a12 :: a13 :: L) (.ref x :: st) σ P := AW.astore hd hi hc rfl hn h
theorem AW.inc13 {a0 a1 a2 a3 a4 a5 a6 a7 a8 a9 a10 a11 a12 : Option Value} {x : Int32} (w : Int32) {d : Int} (hd : decode M.2.1 pc = .ok (.iinc 13 d, 3)) (hw : Int32.ofInt d = w) (hi : 13 < M.2.2.1) (hc : a_ok (a0 :: a1 :: a2 :: a3 :: a4 :: a5 :: a6 :: a7 :: a8 :: a9 :: a10 :: a11 :: a12 :: some (.int x) :: L) 13 = true) (hn : pc + 3 = n) (h : AW scr k mc ms M c0 s0 n (a0 :: a1 :: a2 :: a3 :: a4 :: a5 :: a6 :: a7 :: a8 :: a9 :: a10 :: a11 :: a12 :: some (.int (x + w)) :: L) st σ P) : AW scr k mc ms M c0 s0 pc (a0 :: a1 :: a2 :: a3 :: a4 :: a5 :: a6 :: a7 :: a8 :: a9 :: a10 :: a11 :: a12 :: some (.int x) :: L) st σ P := AW.iinc hd rfl (by rw [hw]) hi hc rfl hn h
theorem AW.ist14 {a0 a1 a2 a3 a4 a5 a6 a7 a8 a9 a10 a11 a12 a13 a14 : Option Value} {x : Int32} (hd : decode M.2.1 pc = .ok (.istore 14, 2)) (hi : 14 < M.2.2.1) (hc : a_ok (a0 :: a1 :: a2 :: a3 :: a4 :: a5 :: a6 :: a7 :: a8 :: a9 :: a10 :: a11 :: a12 :: a13 :: a14 :: L) 14 = true) (hn : pc + 2 = n) (h : AW scr k mc ms M c0 s0 n (a0 :: a1 :: a2 :: a3 :: a4 :: a5 :: a6 :: a7 :: a8 :: a9 :: a10 :: a11 :: a12 :: a13 :: some (.int x) :: L) st σ P) : AW scr k mc ms M c0 s0 pc (a0 :: a1 :: a2 :: a3 :: a4 :: a5 :: a6 :: a7 :: a8 :: a9 :: a10 :: a11 :: a12 :: a13 :: a14 :: L) (.int x :: st) σ P := AW.istore hd hi hc rfl hn h
theorem AW.ast14 {a0 a1 a2 a3 a4 a5 a6 a7 a8 a9 a10 a11 a12 a13 a14 : Option Value} {x : Nat} (hd : decode M.2.1 pc = .ok (.astore 14, 2)) (hi : 14 < M.2.2.1) (hc : a_ok (a0 :: a1 :: a2 :: a3 :: a4 :: a5 :: a6 :: a7 :: a8 :: a9 :: a10 :: a11 :: a12 :: a13 :: a14 :: L) 14 = true) (hn : pc + 2 = n) (h : AW scr k mc ms M c0 s0 n (a0 :: a1 :: a2 :: a3 :: a4 :: a5 :: a6 :: a7 :: a8 :: a9 :: a10 :: a11 :: a12 :: a13 :: some (.ref x) :: L) st σ P) : AW scr k mc ms M c0 s0 pc (a0 :: a1 :: a2 :: a3 :: a4 :: a5 :: a6 :: a7 :: a8 :: a9 :: a10 :: a11 :: a12 :: a13 :: a14 :: L) (.ref x :: st) σ P := AW.astore hd hi hc rfl hn h
theorem AW.inc14 {a0 a1 a2 a3 a4 a5 a6 a7 a8 a9 a10 a11 a12 a13 : Option Value} {x : Int32} (w : Int32) {d : Int} (hd : decode M.2.1 pc = .ok (.iinc 14 d, 3)) (hw : Int32.ofInt d = w) (hi : 14 < M.2.2.1) (hc : a_ok (a0 :: a1 :: a2 :: a3 :: a4 :: a5 :: a6 :: a7 :: a8 :: a9 :: a10 :: a11 :: a12 :: a13 :: some (.int x) :: L) 14 = true) (hn : pc + 3 = n) (h : AW scr k mc ms M c0 s0 n (a0 :: a1 :: a2 :: a3 :: a4 :: a5 :: a6 :: a7 :: a8 :: a9 :: a10 :: a11 :: a12 :: a13 :: some (.int (x + w)) :: L) st σ P) : AW scr k mc ms M c0 s0 pc (a0 :: a1 :: a2 :: a3 :: a4 :: a5 :: a6 :: a7 :: a8 :: a9 :: a10 :: a11 :: a12 :: a13 :: some (.int x) :: L) st σ P := AW.iinc hd rfl (by rw [hw]) hi hc rfl hn h
theorem AW.ist15 {a0 a1 a2 a3 a4 a5 a6 a7 a8 a9 a10 a11 a12 a13 a14 a15 : Option Value} {x : Int32} (hd : decode M.2.1 pc = .ok (.istore 15, 2)) (hi : 15 < M.2.2.1) (hc : a_ok (a0 :: a1 :: a2 :: a3 :: a4 :: a5 :: a6 :: a7 :: a8 :: a9 :: a10 :: a11 :: a12 :: a13 :: a14 :: a15 :: L) 15 = true) (hn : pc + 2 = n) (h : AW scr k mc ms M c0 s0 n (a0 :: a1 :: a2 :: a3 :: a4 :: a5 :: a6 :: a7 :: a8 :: a9 :: a10 :: a11 :: a12 :: a13 :: a14 :: some (.int x) :: L) st σ P) : AW scr k mc ms M c0 s0 pc (a0 :: a1 :: a2 :: a3 :: a4 :: a5 :: a6 :: a7 :: a8 :: a9 :: a10 :: a11 :: a12 :: a13 :: a14 :: a15 :: L) (.int x :: st) σ P := AW.istore hd hi hc rfl hn h
theorem AW.ast15 {a0 a1 a2 a3 a4 a5 a6 a7 a8 a9 a10 a11 a12 a13 a14 a15 : Option Value} {x : Nat} (hd : decode M.2.1 pc = .ok (.astore 15, 2)) (hi : 15 < M.2.2.1) (hc : a_ok (a0 :: a1 :: a2 :: a3 :: a4 :: a5 :: a6 :: a7 :: a8 :: a9 :: a10 :: a11 :: a12 :: a13 :: a14 :: a15 :: L) 15 = true) (hn : pc + 2 = n) (h : AW scr k mc ms M c0 s0 n (a0 :: a1 :: a2 :: a3 :: a4 :: a5 :: a6 :: a7 :: a8 :: a9 :: a10 :: a11 :: a12 :: a13 :: a14 :: some (.ref x) :: L) st σ P) : AW scr k mc ms M c0 s0 pc (a0 :: a1 :: a2 :: a3 :: a4 :: a5 :: a6 :: a7 :: a8 :: a9 :: a10 :: a11 :: a12 :: a13 :: a14 :: a15 :: L) (.ref x :: st) σ P := AW.astore hd hi hc rfl hn h
theorem AW.inc15 {a0 a1 a2 a3 a4 a5 a6 a7 a8 a9 a10 a11 a12 a13 a14 : Option Value} {x : Int32} (w : Int32) {d : Int} (hd : decode M.2.1 pc = .ok (.iinc 15 d, 3)) (hw : Int32.ofInt d = w) (hi : 15 < M.2.2.1) (hc : a_ok (a0 :: a1 :: a2 :: a3 :: a4 :: a5 :: a6 :: a7 :: a8 :: a9 :: a10 :: a11 :: a12 :: a13 :: a14 :: some (.int x) :: L) 15 = true) (hn : pc + 3 = n) (h : AW scr k mc ms M c0 s0 n (a0 :: a1 :: a2 :: a3 :: a4 :: a5 :: a6 :: a7 :: a8 :: a9 :: a10 :: a11 :: a12 :: a13 :: a14 :: some (.int (x + w)) :: L) st σ P) : AW scr k mc ms M c0 s0 pc (a0 :: a1 :: a2 :: a3 :: a4 :: a5 :: a6 :: a7 :: a8 :: a9 :: a10 :: a11 :: a12 :: a13 :: a14 :: some (.int x) :: L) st σ P := AW.iinc hd rfl (by rw [hw]) hi hc rfl hn h
end Pat
end
section
abbrev mX0_init : aM := (yX0_init, cX0_init, 1, none)
abbrev mX0_forget : aM := (yX0_forget, cX0_forget, 1, none)
abbrev mX0_add : aM := (yX0_add, cX0_add, 3, (some .boolean))
abbrev mX0_firstWrong : aM := (yX0_firstWrong, cX0_firstWrong, 3, (some .int))
abbrev mX1_init : aM := (yX1_init, cX1_init, 1, none)
abbrev mX1_begin : aM := (yX1_begin, cX1_begin, 2, none)
abbrev mX1_copy : aM := (yX1_copy, cX1_copy, 2, none)
abbrev mX1_counts : aM := (yX1_counts, cX1_counts, 2, (some .boolean))
abbrev mX1_which : aM := (yX1_which, cX1_which, 5, (some .int))
abbrev mX2_init : aM := (yX2_init, cX2_init, 1, none)
abbrev mX3_init : aM := (yX3_init, cX3_init, 2, none)
abbrev mX3_forget : aM := (yX3_forget, cX3_forget, 1, none)
abbrev mX3_push : aM := (yX3_push, cX3_push, 2, none)
abbrev mX3_pop : aM := (yX3_pop, cX3_pop, 3, none)
abbrev mX4_init : aM := (yX4_init, cX4_init, 4, none)
abbrev mX4_seek : aM := (yX4_seek, cX4_seek, 1, none)
abbrev mX4_extend : aM := (yX4_extend, cX4_extend, 15, none)
abbrev mX4_canBeat : aM := (yX4_canBeat, cX4_canBeat, 3, (some .boolean))
abbrev mX4_settle : aM := (yX4_settle, cX4_settle, 4, none)
abbrev mX5_init : aM := (yX5_init, cX5_init, 1, none)
abbrev mX5_forget : aM := (yX5_forget, cX5_forget, 1, none)
abbrev mX5_add : aM := (yX5_add, cX5_add, 3, (some .boolean))
abbrev mX5_fits : aM := (yX5_fits, cX5_fits, 4, (some .boolean))
abbrev mX6_init : aM := (yX6_init, cX6_init, 1, none)
abbrev mX6_begin : aM := (yX6_begin, cX6_begin, 1, none)
abbrev mX6_copy : aM := (yX6_copy, cX6_copy, 2, none)
abbrev mX6_addStop : aM := (yX6_addStop, cX6_addStop, 4, none)
abbrev mX6_addDin : aM := (yX6_addDin, cX6_addDin, 2, none)
abbrev mX6_has : aM := (yX6_has, cX6_has, 2, (some .boolean))
abbrev mX6_isWay : aM := (yX6_isWay, cX6_isWay, 5, (some .boolean))
abbrev mX6_risingWay : aM := (yX6_risingWay, cX6_risingWay, 3, (some .int))
abbrev mX6_dinOf : aM := (yX6_dinOf, cX6_dinOf, 2, (some .int))
abbrev mX6_isIn : aM := (yX6_isIn, cX6_isIn, 3, (some .boolean))
abbrev mX6_meets : aM := (yX6_meets, cX6_meets, 6, (some .int))
abbrev mX6_secondsAtDoor : aM := (yX6_secondsAtDoor, cX6_secondsAtDoor, 3, (some .int))
abbrev mX6_secondsBetween : aM := (yX6_secondsBetween, cX6_secondsBetween, 3, (some .int))
abbrev mX6_countNear : aM := (yX6_countNear, cX6_countNear, 6, (some .int))
abbrev mX7_init : aM := (yX7_init, cX7_init, 1, none)
abbrev mX7_add : aM := (yX7_add, cX7_add, 2, (some .boolean))
abbrev mX7_empty : aM := (yX7_empty, cX7_empty, 1, none)
abbrev mX7_readInto : aM := (yX7_readInto, cX7_readInto, 4, none)
abbrev mX7_readClause : aM := (yX7_readClause, cX7_readClause, 4, none)
abbrev mX7_readVan : aM := (yX7_readVan, cX7_readVan, 3, none)
abbrev mX7_readStop : aM := (yX7_readStop, cX7_readStop, 5, none)
abbrev mX7_readDin : aM := (yX7_readDin, cX7_readDin, 3, none)
abbrev mX7_readNeighbour : aM := (yX7_readNeighbour, cX7_readNeighbour, 5, none)
abbrev mX7_number : aM := (yX7_number, cX7_number, 5, (some .int))
abbrev mX7_endClause : aM := (yX7_endClause, cX7_endClause, 1, none)
abbrev mX7_peek : aM := (yX7_peek, cX7_peek, 1, (some .int))
abbrev mX7_isFigure : aM := (yX7_isFigure, cX7_isFigure, 1, (some .boolean))
abbrev mX7_fail : aM := (yX7_fail, cX7_fail, 3, none)
abbrev mX8_init : aM := (yX8_init, cX8_init, 1, none)
abbrev mX8_run : aM := (yX8_run, cX8_run, 7, none)
abbrev mX8_begin : aM := (yX8_begin, cX8_begin, 3, none)
abbrev mX8_firstUnit : aM := (yX8_firstUnit, cX8_firstUnit, 3, (some .int))
abbrev mX8_call : aM := (yX8_call, cX8_call, 6, none)
abbrev mX9_init : aM := (yX9_init, cX9_init, 1, none)
abbrev mX9_feed : aM := (yX9_feed, cX9_feed, 2, (some .int))
abbrev mX9_street : aM := (yX9_street, cX9_street, 2, (some .int))
abbrev mX9_fault : aM := (yX9_fault, cX9_fault, 1, (some .int))
abbrev mX9_told : aM := (yX9_told, cX9_told, 2, (some .int))
abbrev mX9_stop : aM := (yX9_stop, cX9_stop, 3, (some .int))
abbrev mX9_din : aM := (yX9_din, cX9_din, 2, (some .int))
abbrev mX9_round : aM := (yX9_round, cX9_round, 4, (some .int))
abbrev mX9_fetch : aM := (yX9_fetch, cX9_fetch, 3, (some .int))
abbrev mX9_order : aM := (yX9_order, cX9_order, 2, (some .int))
abbrev mX9_thank : aM := (yX9_thank, cX9_thank, 3, (some .int))
abbrev mX9_drift : aM := (yX9_drift, cX9_drift, 4, (some .int))
abbrev mX9_undo : aM := (yX9_undo, cX9_undo, 2, (some .int))
abbrev mX9_comes : aM := (yX9_comes, cX9_comes, 5, (some .int))
abbrev mX9_home : aM := (yX9_home, cX9_home, 4, (some .int))
abbrev mX9_outcome : aM := (yX9_outcome, cX9_outcome, 6, (some .int))
abbrev mX9_bath : aM := (yX9_bath, cX9_bath, 10, (some .int))
abbrev mX9_bestWay : aM := (yX9_bestWay, cX9_bestWay, 4, (some .int))
abbrev mX9_pretends : aM := (yX9_pretends, cX9_pretends, 7, (some .int))
abbrev mX9_locker : aM := (yX9_locker, cX9_locker, 8, (some .int))
abbrev mX9_bears : aM := (yX9_bears, cX9_bears, 2, (some .int))
abbrev mX9_heard : aM := (yX9_heard, cX9_heard, 6, (some .int))
abbrev mX9_see : aM := (yX9_see, cX9_see, 3, (some .int))
abbrev mX9_rang : aM := (yX9_rang, cX9_rang, 5, (some .int))
abbrev mX9_write : aM := (yX9_write, cX9_write, 3, (some .int))
abbrev mX9_judge : aM := (yX9_judge, cX9_judge, 1, (some .int))
abbrev mX9_tear : aM := (yX9_tear, cX9_tear, 2, (some .int))
abbrev mX9_seed : aM := (yX9_seed, cX9_seed, 3, (some .int))
abbrev mX9_keep : aM := (yX9_keep, cX9_keep, 2, (some .int))
abbrev mX9_goBack : aM := (yX9_goBack, cX9_goBack, 2, (some .int))
abbrev mX9_within : aM := (yX9_within, cX9_within, 3, (some .boolean))
abbrev mX9_ringsAt : aM := (yX9_ringsAt, cX9_ringsAt, 2, (some .boolean))
abbrev mX9_refusalOfTrip : aM := (yX9_refusalOfTrip, cX9_refusalOfTrip, 3, (some .int))
abbrev mX9_drive : aM := (yX9_drive, cX9_drive, 3, none)
abbrev mX9_draw : aM := (yX9_draw, cX9_draw, 2, (some .int))
abbrev mX9_orderByDraw : aM := (yX9_orderByDraw, cX9_orderByDraw, 2, none)
abbrev mX9_bestToAsk : aM := (yX9_bestToAsk, cX9_bestToAsk, 8, (some .int))
abbrev mX10_init : aM := (yX10_init, cX10_init, 1, none)
abbrev mX10_in : aM := (yX10_in, cX10_in, 6, (some .boolean))
abbrev mX10_one : aM := (yX10_one, cX10_one, 1, (some .int))
abbrev mX10_has : aM := (yX10_has, cX10_has, 2, (some .boolean))
abbrev mX10_far : aM := (yX10_far, cX10_far, 2, (some .int))
abbrev mX10_feed : aM := (yX10_feed, cX10_feed, 2, (some .int))
abbrev mX10_here : aM := (yX10_here, cX10_here, 1, (some .int))
abbrev mX10_want : aM := (yX10_want, cX10_want, 4, (some .boolean))
abbrev mX10_takeNumber : aM := (yX10_takeNumber, cX10_takeNumber, 4, (some .int))
abbrev mX10_takeIn : aM := (yX10_takeIn, cX10_takeIn, 5, (some .int))
abbrev mX10_takeRule : aM := (yX10_takeRule, cX10_takeRule, 3, none)
abbrev mX10_takeStop : aM := (yX10_takeStop, cX10_takeStop, 3, none)
abbrev mX10_takeDins : aM := (yX10_takeDins, cX10_takeDins, 3, none)
abbrev mX10_takeNeighbour : aM := (yX10_takeNeighbour, cX10_takeNeighbour, 3, none)
abbrev mX10_takeClause : aM := (yX10_takeClause, cX10_takeClause, 3, none)
abbrev mX10_street : aM := (yX10_street, cX10_street, 2, (some .int))
abbrev mX10_take : aM := (yX10_take, cX10_take, 2, none)
abbrev mX10_fault : aM := (yX10_fault, cX10_fault, 1, (some .int))
abbrev mX10_isStop : aM := (yX10_isStop, cX10_isStop, 2, (some .boolean))
abbrev mX10_figures : aM := (yX10_figures, cX10_figures, 3, (some .int))
abbrev mX10_stopOf : aM := (yX10_stopOf, cX10_stopOf, 4, (some .int))
abbrev mX10_isWay : aM := (yX10_isWay, cX10_isWay, 6, (some .boolean))
abbrev mX10_isHaste : aM := (yX10_isHaste, cX10_isHaste, 1, (some .boolean))
abbrev mX10_which : aM := (yX10_which, cX10_which, 4, (some .int))
abbrev mX10_told : aM := (yX10_told, cX10_told, 2, (some .int))
abbrev mX10_stop : aM := (yX10_stop, cX10_stop, 3, (some .int))
abbrev mX10_dinAt : aM := (yX10_dinAt, cX10_dinAt, 2, (some .int))
abbrev mX10_din : aM := (yX10_din, cX10_din, 2, (some .int))
abbrev mX10_isInAt : aM := (yX10_isInAt, cX10_isInAt, 3, (some .boolean))
abbrev mX10_visit : aM := (yX10_visit, cX10_visit, 8, (some .int))
abbrev mX10_roundIn : aM := (yX10_roundIn, cX10_roundIn, 9, (some .int))
abbrev mX10_tryRound : aM := (yX10_tryRound, cX10_tryRound, 3, (some .int))
abbrev mX10_copy : aM := (yX10_copy, cX10_copy, 4, none)
abbrev mX10_remember : aM := (yX10_remember, cX10_remember, 2, none)
abbrev mX10_round : aM := (yX10_round, cX10_round, 3, (some .int))
abbrev mX10_fetch : aM := (yX10_fetch, cX10_fetch, 3, (some .int))
abbrev mX10_order : aM := (yX10_order, cX10_order, 2, (some .int))
abbrev mX10_thank : aM := (yX10_thank, cX10_thank, 3, (some .int))
abbrev mX10_draw : aM := (yX10_draw, cX10_draw, 2, (some .int))
abbrev mX10_drift : aM := (yX10_drift, cX10_drift, 6, (some .int))
abbrev mX10_undo : aM := (yX10_undo, cX10_undo, 3, (some .int))
abbrev mX10_comes : aM := (yX10_comes, cX10_comes, 5, (some .int))
abbrev mX10_home : aM := (yX10_home, cX10_home, 3, (some .int))
abbrev mX10_outcome : aM := (yX10_outcome, cX10_outcome, 6, (some .int))
abbrev mX10_comesTo : aM := (yX10_comesTo, cX10_comesTo, 4, (some .int))
abbrev mX10_bath : aM := (yX10_bath, cX10_bath, 8, (some .int))
abbrev mX10_counting : aM := (yX10_counting, cX10_counting, 3, (some .int))
abbrev mX10_wayOf : aM := (yX10_wayOf, cX10_wayOf, 4, (some .int))
abbrev mX10_exchange : aM := (yX10_exchange, cX10_exchange, 4, none)
abbrev mX10_nextRow : aM := (yX10_nextRow, cX10_nextRow, 6, (some .boolean))
abbrev mX10_bestWay : aM := (yX10_bestWay, cX10_bestWay, 11, (some .int))
abbrev mX10_pretends : aM := (yX10_pretends, cX10_pretends, 7, (some .int))
abbrev mX10_locker : aM := (yX10_locker, cX10_locker, 10, (some .int))
abbrev mX10_bears : aM := (yX10_bears, cX10_bears, 2, (some .int))
abbrev mX10_heard : aM := (yX10_heard, cX10_heard, 6, (some .int))
abbrev mX10_see : aM := (yX10_see, cX10_see, 3, (some .int))
abbrev mX10_slipsBy : aM := (yX10_slipsBy, cX10_slipsBy, 4, (some .int))
abbrev mX10_findHastes : aM := (yX10_findHastes, cX10_findHastes, 6, (some .int))
abbrev mX10_rang : aM := (yX10_rang, cX10_rang, 10, (some .int))
abbrev mX10_write : aM := (yX10_write, cX10_write, 3, (some .int))
abbrev mX10_judge : aM := (yX10_judge, cX10_judge, 2, (some .int))
abbrev mX10_tear : aM := (yX10_tear, cX10_tear, 2, (some .int))
abbrev mX10_seed : aM := (yX10_seed, cX10_seed, 3, (some .int))
abbrev mX10_keep : aM := (yX10_keep, cX10_keep, 2, (some .int))
abbrev mX10_goBack : aM := (yX10_goBack, cX10_goBack, 2, (some .int))
abbrev mJ6_bitCount_0f7a4 : aM := (yJ6_bitCount_0f7a4, cJ6_bitCount_0f7a4, 1, (some .int))
abbrev mJ9_abs_0f7a4 : aM := (yJ9_abs_0f7a4, cJ9_abs_0f7a4, 1, (some .int))
abbrev mJ9_max_7cf53 : aM := (yJ9_max_7cf53, cJ9_max_7cf53, 2, (some .int))
abbrev mJ9_min_7cf53 : aM := (yJ9_min_7cf53, cJ9_min_7cf53, 2, (some .int))
theorem kc_X9_83 : Cond.constant RX9 83 (-1000000002) ∈ gT := (a_inG 385 (by decide +kernel) rfl)
theorem kc_X9_91 : Cond.constant RX9 91 (-1000000004) ∈ gT := (a_inG 390 (by decide +kernel) rfl)
theorem kc_X9_153 : Cond.constant RX9 153 (-1000000001) ∈ gT := (a_inG 496 (by decide +kernel) rfl)
theorem kc_J6_265 : Cond.constant RJ6 265 (1431655765) ∈ gT := (a_inG 582 (by decide +kernel) rfl)
theorem kc_J6_266 : Cond.constant RJ6 266 (858993459) ∈ gT := (a_inG 583 (by decide +kernel) rfl)
theorem kc_J6_267 : Cond.constant RJ6 267 (252645135) ∈ gT := (a_inG 584 (by decide +kernel) rfl)
theorem kc_X9_193 : Cond.constant RX9 193 (-1000000003) ∈ gT := (a_inG 590 (by decide +kernel) rfl)
theorem kc_X9_276 : Cond.constant RX9 276 (65536) ∈ gT := (a_inG 618 (by decide +kernel) rfl)
theorem kc_X10_72 : Cond.constant RX10 72 (-1000000002) ∈ gT := (a_inG 889 (by decide +kernel) rfl)
theorem kc_X10_76 : Cond.constant RX10 76 (-1000000004) ∈ gT := (a_inG 890 (by decide +kernel) rfl)
theorem kc_X10_98 : Cond.constant RX10 98 (99999) ∈ gT := (a_inG 921 (by decide +kernel) rfl)
theorem kc_X10_167 : Cond.constant RX10 167 (-1000000001) ∈ gT := (a_inG 961 (by decide +kernel) rfl)
theorem kc_X10_209 : Cond.constant RX10 209 (-1000000003) ∈ gT := (a_inG 1019 (by decide +kernel) rfl)
theorem kc_X10_216 : Cond.constant RX10 216 (65536) ∈ gT := (a_inG 1040 (by decide +kernel) rfl)
theorem kc_X10_240 : Cond.constant RX10 240 (99999999) ∈ gT := (a_inG 1080 (by decide +kernel) rfl)
theorem kl_X9_270 : Cond.constantLong RX9 270 (1103515245) ∈ gT := (a_inG 615 (by decide +kernel) rfl)
theorem kl_X9_272 : Cond.constantLong RX9 272 (12345) ∈ gT := (a_inG 616 (by decide +kernel) rfl)
theorem kl_X9_274 : Cond.constantLong RX9 274 (2147483647) ∈ gT := (a_inG 617 (by decide +kernel) rfl)
theorem kl_X9_244 : Cond.constantLong RX9 244 (1000000000) ∈ gT := (a_inG 723 (by decide +kernel) rfl)
theorem kl_X9_246 : Cond.constantLong RX9 246 (100) ∈ gT := (a_inG 724 (by decide +kernel) rfl)
theorem kl_X10_66 : Cond.constantLong RX10 66 (255) ∈ gT := (a_inG 885 (by decide +kernel) rfl)
theorem kl_X10_90 : Cond.constantLong RX10 90 (48) ∈ gT := (a_inG 919 (by decide +kernel) rfl)
theorem kl_X10_92 : Cond.constantLong RX10 92 (57) ∈ gT := (a_inG 920 (by decide +kernel) rfl)
theorem kl_X10_168 : Cond.constantLong RX10 168 (11) ∈ gT := (a_inG 966 (by decide +kernel) rfl)
theorem kl_X10_158 : Cond.constantLong RX10 158 (3) ∈ gT := (a_inG 985 (by decide +kernel) rfl)
theorem kl_X10_217 : Cond.constantLong RX10 217 (20) ∈ gT := (a_inG 1032 (by decide +kernel) rfl)
theorem kl_X10_210 : Cond.constantLong RX10 210 (1103515245) ∈ gT := (a_inG 1037 (by decide +kernel) rfl)
theorem kl_X10_212 : Cond.constantLong RX10 212 (12345) ∈ gT := (a_inG 1038 (by decide +kernel) rfl)
theorem kl_X10_214 : Cond.constantLong RX10 214 (2147483648) ∈ gT := (a_inG 1039 (by decide +kernel) rfl)
theorem kl_X10_222 : Cond.constantLong RX10 222 (30) ∈ gT := (a_inG 1045 (by decide +kernel) rfl)
theorem kl_X10_227 : Cond.constantLong RX10 227 (99) ∈ gT := (a_inG 1066 (by decide +kernel) rfl)
theorem kl_X10_235 : Cond.constantLong RX10 235 (2) ∈ gT := (a_inG 1075 (by decide +kernel) rfl)
theorem kl_X10_247 : Cond.constantLong RX10 247 (60) ∈ gT := (a_inG 1109 (by decide +kernel) rfl)
theorem kl_X10_249 : Cond.constantLong RX10 249 (100) ∈ gT := (a_inG 1110 (by decide +kernel) rfl)
theorem kl_X10_251 : Cond.constantLong RX10 251 (1000000000) ∈ gT := (a_inG 1111 (by decide +kernel) rfl)
theorem kl_X10_259 : Cond.constantLong RX10 259 (4) ∈ gT := (a_inG 1132 (by decide +kernel) rfl)
theorem ini_L : Cond.initialized RL ∈ gT := (a_inG 77 (by decide +kernel) rfl)
theorem ini_X9 : Cond.initialized RX9 ∈ gT := (a_inG 78 (by decide +kernel) rfl)
theorem ini_X7 : Cond.initialized RX7 ∈ gT := (a_inG 79 (by decide +kernel) rfl)
theorem ini_X6 : Cond.initialized RX6 ∈ gT := (a_inG 80 (by decide +kernel) rfl)
theorem ini_X1 : Cond.initialized RX1 ∈ gT := (a_inG 81 (by decide +kernel) rfl)
theorem ini_X8 : Cond.initialized RX8 ∈ gT := (a_inG 82 (by decide +kernel) rfl)
theorem ini_X3 : Cond.initialized RX3 ∈ gT := (a_inG 83 (by decide +kernel) rfl)
theorem ini_X5 : Cond.initialized RX5 ∈ gT := (a_inG 84 (by decide +kernel) rfl)
theorem ini_X0 : Cond.initialized RX0 ∈ gT := (a_inG 85 (by decide +kernel) rfl)
theorem ini_X2 : Cond.initialized RX2 ∈ gT := (a_inG 86 (by decide +kernel) rfl)
theorem ini_X10 : Cond.initialized RX10 ∈ gT := (a_inG 87 (by decide +kernel) rfl)
theorem ini_J10 : Cond.initialized RJ10 ∈ gT := (a_inG 88 (by decide +kernel) rfl)
theorem ini_J9 : Cond.initialized RJ9 ∈ gT := (a_inG 89 (by decide +kernel) rfl)
theorem ini_J6 : Cond.initialized RJ6 ∈ gT := (a_inG 90 (by decide +kernel) rfl)
theorem ini_X4 : Cond.initialized RX4 ∈ gT := (a_inG 91 (by decide +kernel) rfl)
theorem fl_X7_9 : a_fl RX7 9 7 0 := ⟨_, rfl, by decide, Or.inl (a_inG 106 (by decide +kernel) rfl)⟩
theorem fp_X7_9 : a_fp RX7 9 7 0 (.array .int) true := ⟨_, rfl, by decide, rfl, by decide +kernel, Or.inl ⟨(a_inG 106 (by decide +kernel) rfl), fun _ => rfl⟩⟩
theorem fl_X7_15 : a_fl RX7 15 7 1 := ⟨_, rfl, by decide, Or.inl (a_inG 107 (by decide +kernel) rfl)⟩
theorem fp_X7_15 : a_fp RX7 15 7 1 .int false := ⟨_, rfl, by decide, rfl, by decide +kernel, Or.inl ⟨(a_inG 107 (by decide +kernel) rfl), fun _ => rfl⟩⟩
theorem fl_X9_88 : a_fl RX9 88 7 1 := ⟨_, rfl, by decide, Or.inr ⟨"WeWereIn", (a_inN 108 (by decide +kernel) rfl)⟩⟩
theorem fp_X9_88 : a_fp RX9 88 7 1 .int false := ⟨_, rfl, by decide, rfl, by decide +kernel, Or.inr ⟨rfl, "WeWereIn", (a_inN 108 (by decide +kernel) rfl)⟩⟩
theorem fl_X7_19 : a_fl RX7 19 7 2 := ⟨_, rfl, by decide, Or.inl (a_inG 109 (by decide +kernel) rfl)⟩
theorem fp_X7_19 : a_fp RX7 19 7 2 .int false := ⟨_, rfl, by decide, rfl, by decide +kernel, Or.inl ⟨(a_inG 109 (by decide +kernel) rfl), fun _ => rfl⟩⟩
theorem fl_X9_99 : a_fl RX9 99 7 2 := ⟨_, rfl, by decide, Or.inr ⟨"WeWereIn", (a_inN 110 (by decide +kernel) rfl)⟩⟩
theorem fp_X9_99 : a_fp RX9 99 7 2 .int false := ⟨_, rfl, by decide, rfl, by decide +kernel, Or.inr ⟨rfl, "WeWereIn", (a_inN 110 (by decide +kernel) rfl)⟩⟩
theorem fl_X7_22 : a_fl RX7 22 7 3 := ⟨_, rfl, by decide, Or.inl (a_inG 111 (by decide +kernel) rfl)⟩
theorem fp_X7_22 : a_fp RX7 22 7 3 .int false := ⟨_, rfl, by decide, rfl, by decide +kernel, Or.inl ⟨(a_inG 111 (by decide +kernel) rfl), fun _ => rfl⟩⟩
theorem fl_X9_120 : a_fl RX9 120 7 3 := ⟨_, rfl, by decide, Or.inr ⟨"WeWereIn", (a_inN 112 (by decide +kernel) rfl)⟩⟩
theorem fp_X9_120 : a_fp RX9 120 7 3 .int false := ⟨_, rfl, by decide, rfl, by decide +kernel, Or.inr ⟨rfl, "WeWereIn", (a_inN 112 (by decide +kernel) rfl)⟩⟩
theorem fl_X7_25 : a_fl RX7 25 7 4 := ⟨_, rfl, by decide, Or.inl (a_inG 113 (by decide +kernel) rfl)⟩
theorem fp_X7_25 : a_fp RX7 25 7 4 .int false := ⟨_, rfl, by decide, rfl, by decide +kernel, Or.inl ⟨(a_inG 113 (by decide +kernel) rfl), fun _ => rfl⟩⟩
theorem fl_X7_28 : a_fl RX7 28 7 5 := ⟨_, rfl, by decide, Or.inl (a_inG 114 (by decide +kernel) rfl)⟩
theorem fp_X7_28 : a_fp RX7 28 7 5 .int false := ⟨_, rfl, by decide, rfl, by decide +kernel, Or.inl ⟨(a_inG 114 (by decide +kernel) rfl), fun _ => rfl⟩⟩
theorem fl_X6_9 : a_fl RX6 9 6 0 := ⟨_, rfl, by decide, Or.inl (a_inG 135 (by decide +kernel) rfl)⟩
theorem fp_X6_9 : a_fp RX6 9 6 0 .int false := ⟨_, rfl, by decide, rfl, by decide +kernel, Or.inl ⟨(a_inG 135 (by decide +kernel) rfl), fun _ => rfl⟩⟩
theorem fl_X7_44 : a_fl RX7 44 6 0 := ⟨_, rfl, by decide, Or.inr ⟨"WeWereIn", (a_inN 136 (by decide +kernel) rfl)⟩⟩
theorem fp_X7_44 : a_fp RX7 44 6 0 .int false := ⟨_, rfl, by decide, rfl, by decide +kernel, Or.inr ⟨rfl, "WeWereIn", (a_inN 136 (by decide +kernel) rfl)⟩⟩
theorem fl_X9_123 : a_fl RX9 123 6 0 := ⟨_, rfl, by decide, Or.inr ⟨"WeWereIn", (a_inN 137 (by decide +kernel) rfl)⟩⟩
theorem fp_X9_123 : a_fp RX9 123 6 0 .int false := ⟨_, rfl, by decide, rfl, by decide +kernel, Or.inr ⟨rfl, "WeWereIn", (a_inN 137 (by decide +kernel) rfl)⟩⟩
theorem fl_X6_15 : a_fl RX6 15 6 1 := ⟨_, rfl, by decide, Or.inl (a_inG 138 (by decide +kernel) rfl)⟩
theorem fp_X6_15 : a_fp RX6 15 6 1 .int false := ⟨_, rfl, by decide, rfl, by decide +kernel, Or.inl ⟨(a_inG 138 (by decide +kernel) rfl), fun _ => rfl⟩⟩
theorem fl_X9_126 : a_fl RX9 126 6 1 := ⟨_, rfl, by decide, Or.inr ⟨"WeWereIn", (a_inN 139 (by decide +kernel) rfl)⟩⟩
theorem fp_X9_126 : a_fp RX9 126 6 1 .int false := ⟨_, rfl, by decide, rfl, by decide +kernel, Or.inr ⟨rfl, "WeWereIn", (a_inN 139 (by decide +kernel) rfl)⟩⟩
theorem fl_X7_69 : a_fl RX7 69 6 1 := ⟨_, rfl, by decide, Or.inr ⟨"WeWereIn", (a_inN 140 (by decide +kernel) rfl)⟩⟩
theorem fp_X7_69 : a_fp RX7 69 6 1 .int false := ⟨_, rfl, by decide, rfl, by decide +kernel, Or.inr ⟨rfl, "WeWereIn", (a_inN 140 (by decide +kernel) rfl)⟩⟩
theorem fl_X6_18 : a_fl RX6 18 6 2 := ⟨_, rfl, by decide, Or.inl (a_inG 141 (by decide +kernel) rfl)⟩
theorem fp_X6_18 : a_fp RX6 18 6 2 .int false := ⟨_, rfl, by decide, rfl, by decide +kernel, Or.inl ⟨(a_inG 141 (by decide +kernel) rfl), fun _ => rfl⟩⟩
theorem fl_X9_129 : a_fl RX9 129 6 2 := ⟨_, rfl, by decide, Or.inr ⟨"WeWereIn", (a_inN 142 (by decide +kernel) rfl)⟩⟩
theorem fp_X9_129 : a_fp RX9 129 6 2 .int false := ⟨_, rfl, by decide, rfl, by decide +kernel, Or.inr ⟨rfl, "WeWereIn", (a_inN 142 (by decide +kernel) rfl)⟩⟩
theorem fl_X7_72 : a_fl RX7 72 6 2 := ⟨_, rfl, by decide, Or.inr ⟨"WeWereIn", (a_inN 143 (by decide +kernel) rfl)⟩⟩
theorem fp_X7_72 : a_fp RX7 72 6 2 .int false := ⟨_, rfl, by decide, rfl, by decide +kernel, Or.inr ⟨rfl, "WeWereIn", (a_inN 143 (by decide +kernel) rfl)⟩⟩
theorem fl_X6_21 : a_fl RX6 21 6 3 := ⟨_, rfl, by decide, Or.inl (a_inG 144 (by decide +kernel) rfl)⟩
theorem fp_X6_21 : a_fp RX6 21 6 3 .int false := ⟨_, rfl, by decide, rfl, by decide +kernel, Or.inl ⟨(a_inG 144 (by decide +kernel) rfl), fun _ => rfl⟩⟩
theorem fl_X4_32 : a_fl RX4 32 6 3 := ⟨_, rfl, by decide, Or.inr ⟨"WeWereIn", (a_inN 145 (by decide +kernel) rfl)⟩⟩
theorem fp_X4_32 : a_fp RX4 32 6 3 .int false := ⟨_, rfl, by decide, rfl, by decide +kernel, Or.inr ⟨rfl, "WeWereIn", (a_inN 145 (by decide +kernel) rfl)⟩⟩
theorem fl_X9_117 : a_fl RX9 117 6 3 := ⟨_, rfl, by decide, Or.inr ⟨"WeWereIn", (a_inN 146 (by decide +kernel) rfl)⟩⟩
theorem fp_X9_117 : a_fp RX9 117 6 3 .int false := ⟨_, rfl, by decide, rfl, by decide +kernel, Or.inr ⟨rfl, "WeWereIn", (a_inN 146 (by decide +kernel) rfl)⟩⟩
theorem fl_X7_78 : a_fl RX7 78 6 3 := ⟨_, rfl, by decide, Or.inr ⟨"WeWereIn", (a_inN 147 (by decide +kernel) rfl)⟩⟩
theorem fp_X7_78 : a_fp RX7 78 6 3 .int false := ⟨_, rfl, by decide, rfl, by decide +kernel, Or.inr ⟨rfl, "WeWereIn", (a_inN 147 (by decide +kernel) rfl)⟩⟩
theorem fl_X6_24 : a_fl RX6 24 6 4 := ⟨_, rfl, by decide, Or.inl (a_inG 148 (by decide +kernel) rfl)⟩
theorem fp_X6_24 : a_fp RX6 24 6 4 .int false := ⟨_, rfl, by decide, rfl, by decide +kernel, Or.inl ⟨(a_inG 148 (by decide +kernel) rfl), fun _ => rfl⟩⟩
theorem fl_X7_85 : a_fl RX7 85 6 4 := ⟨_, rfl, by decide, Or.inr ⟨"WeWereIn", (a_inN 149 (by decide +kernel) rfl)⟩⟩
theorem fp_X7_85 : a_fp RX7 85 6 4 .int false := ⟨_, rfl, by decide, rfl, by decide +kernel, Or.inr ⟨rfl, "WeWereIn", (a_inN 149 (by decide +kernel) rfl)⟩⟩
theorem fl_X6_27 : a_fl RX6 27 6 5 := ⟨_, rfl, by decide, Or.inl (a_inG 150 (by decide +kernel) rfl)⟩
theorem fp_X6_27 : a_fp RX6 27 6 5 (.array .int) true := ⟨_, rfl, by decide, rfl, by decide +kernel, Or.inl ⟨(a_inG 150 (by decide +kernel) rfl), fun _ => rfl⟩⟩
theorem fl_X4_73 : a_fl RX4 73 6 5 := ⟨_, rfl, by decide, Or.inr ⟨"WeWereIn", (a_inN 151 (by decide +kernel) rfl)⟩⟩
theorem fl_X8_80 : a_fl RX8 80 6 5 := ⟨_, rfl, by decide, Or.inr ⟨"WeWereIn", (a_inN 152 (by decide +kernel) rfl)⟩⟩
theorem fl_X9_154 : a_fl RX9 154 6 5 := ⟨_, rfl, by decide, Or.inr ⟨"WeWereIn", (a_inN 153 (by decide +kernel) rfl)⟩⟩
theorem fl_X6_31 : a_fl RX6 31 6 6 := ⟨_, rfl, by decide, Or.inl (a_inG 154 (by decide +kernel) rfl)⟩
theorem fp_X6_31 : a_fp RX6 31 6 6 (.array .int) true := ⟨_, rfl, by decide, rfl, by decide +kernel, Or.inl ⟨(a_inG 154 (by decide +kernel) rfl), fun _ => rfl⟩⟩
theorem fl_X9_157 : a_fl RX9 157 6 6 := ⟨_, rfl, by decide, Or.inr ⟨"WeWereIn", (a_inN 155 (by decide +kernel) rfl)⟩⟩
theorem fl_X6_34 : a_fl RX6 34 6 7 := ⟨_, rfl, by decide, Or.inl (a_inG 156 (by decide +kernel) rfl)⟩
theorem fp_X6_34 : a_fp RX6 34 6 7 (.array .int) true := ⟨_, rfl, by decide, rfl, by decide +kernel, Or.inl ⟨(a_inG 156 (by decide +kernel) rfl), fun _ => rfl⟩⟩
theorem fl_X9_160 : a_fl RX9 160 6 7 := ⟨_, rfl, by decide, Or.inr ⟨"WeWereIn", (a_inN 157 (by decide +kernel) rfl)⟩⟩
theorem fl_X6_37 : a_fl RX6 37 6 8 := ⟨_, rfl, by decide, Or.inl (a_inG 158 (by decide +kernel) rfl)⟩
theorem fp_X6_37 : a_fp RX6 37 6 8 (.array .int) true := ⟨_, rfl, by decide, rfl, by decide +kernel, Or.inl ⟨(a_inG 158 (by decide +kernel) rfl), fun _ => rfl⟩⟩
theorem fl_X9_166 : a_fl RX9 166 6 8 := ⟨_, rfl, by decide, Or.inr ⟨"WeWereIn", (a_inN 159 (by decide +kernel) rfl)⟩⟩
theorem fl_X7_96 : a_fl RX7 96 6 8 := ⟨_, rfl, by decide, Or.inr ⟨"WeWereIn", (a_inN 160 (by decide +kernel) rfl)⟩⟩
theorem fl_X6_40 : a_fl RX6 40 6 9 := ⟨_, rfl, by decide, Or.inl (a_inG 161 (by decide +kernel) rfl)⟩
theorem fp_X6_40 : a_fp RX6 40 6 9 (.array .int) true := ⟨_, rfl, by decide, rfl, by decide +kernel, Or.inl ⟨(a_inG 161 (by decide +kernel) rfl), fun _ => rfl⟩⟩
theorem fl_X9_169 : a_fl RX9 169 6 9 := ⟨_, rfl, by decide, Or.inr ⟨"WeWereIn", (a_inN 162 (by decide +kernel) rfl)⟩⟩
theorem fl_X7_99 : a_fl RX7 99 6 9 := ⟨_, rfl, by decide, Or.inr ⟨"WeWereIn", (a_inN 163 (by decide +kernel) rfl)⟩⟩
theorem fl_X6_43 : a_fl RX6 43 6 10 := ⟨_, rfl, by decide, Or.inl (a_inG 164 (by decide +kernel) rfl)⟩
theorem fp_X6_43 : a_fp RX6 43 6 10 (.array .int) true := ⟨_, rfl, by decide, rfl, by decide +kernel, Or.inl ⟨(a_inG 164 (by decide +kernel) rfl), fun _ => rfl⟩⟩
theorem fl_X1_9 : a_fl RX1 9 1 0 := ⟨_, rfl, by decide, Or.inl (a_inG 198 (by decide +kernel) rfl)⟩
theorem fp_X1_9 : a_fp RX1 9 1 0 (.array .int) true := ⟨_, rfl, by decide, rfl, by decide +kernel, Or.inl ⟨(a_inG 198 (by decide +kernel) rfl), fun _ => rfl⟩⟩
theorem fl_X0_22 : a_fl RX0 22 1 0 := ⟨_, rfl, by decide, Or.inr ⟨"WeWereIn", (a_inN 199 (by decide +kernel) rfl)⟩⟩
theorem fl_X8_100 : a_fl RX8 100 1 0 := ⟨_, rfl, by decide, Or.inr ⟨"WeWereIn", (a_inN 200 (by decide +kernel) rfl)⟩⟩
theorem fl_X9_163 : a_fl RX9 163 1 0 := ⟨_, rfl, by decide, Or.inr ⟨"WeWereIn", (a_inN 201 (by decide +kernel) rfl)⟩⟩
theorem fl_X1_15 : a_fl RX1 15 1 1 := ⟨_, rfl, by decide, Or.inl (a_inG 202 (by decide +kernel) rfl)⟩
theorem fp_X1_15 : a_fp RX1 15 1 1 (.array .int) true := ⟨_, rfl, by decide, rfl, by decide +kernel, Or.inl ⟨(a_inG 202 (by decide +kernel) rfl), fun _ => rfl⟩⟩
theorem fl_X4_77 : a_fl RX4 77 1 1 := ⟨_, rfl, by decide, Or.inr ⟨"WeWereIn", (a_inN 203 (by decide +kernel) rfl)⟩⟩
theorem fl_X8_89 : a_fl RX8 89 1 1 := ⟨_, rfl, by decide, Or.inr ⟨"WeWereIn", (a_inN 204 (by decide +kernel) rfl)⟩⟩
theorem fl_X9_172 : a_fl RX9 172 1 1 := ⟨_, rfl, by decide, Or.inr ⟨"WeWereIn", (a_inN 205 (by decide +kernel) rfl)⟩⟩
theorem fl_X1_18 : a_fl RX1 18 1 2 := ⟨_, rfl, by decide, Or.inl (a_inG 206 (by decide +kernel) rfl)⟩
theorem fp_X1_18 : a_fp RX1 18 1 2 .int false := ⟨_, rfl, by decide, rfl, by decide +kernel, Or.inl ⟨(a_inG 206 (by decide +kernel) rfl), fun _ => rfl⟩⟩
theorem fl_X8_63 : a_fl RX8 63 1 2 := ⟨_, rfl, by decide, Or.inr ⟨"WeWereIn", (a_inN 207 (by decide +kernel) rfl)⟩⟩
theorem fp_X8_63 : a_fp RX8 63 1 2 .int false := ⟨_, rfl, by decide, rfl, by decide +kernel, Or.inr ⟨rfl, "WeWereIn", (a_inN 207 (by decide +kernel) rfl)⟩⟩
theorem fl_X9_132 : a_fl RX9 132 1 2 := ⟨_, rfl, by decide, Or.inr ⟨"WeWereIn", (a_inN 208 (by decide +kernel) rfl)⟩⟩
theorem fp_X9_132 : a_fp RX9 132 1 2 .int false := ⟨_, rfl, by decide, rfl, by decide +kernel, Or.inr ⟨rfl, "WeWereIn", (a_inN 208 (by decide +kernel) rfl)⟩⟩
theorem fl_X1_22 : a_fl RX1 22 1 3 := ⟨_, rfl, by decide, Or.inl (a_inG 209 (by decide +kernel) rfl)⟩
theorem fp_X1_22 : a_fp RX1 22 1 3 .int false := ⟨_, rfl, by decide, rfl, by decide +kernel, Or.inl ⟨(a_inG 209 (by decide +kernel) rfl), fun _ => rfl⟩⟩
theorem fl_X8_66 : a_fl RX8 66 1 3 := ⟨_, rfl, by decide, Or.inr ⟨"WeWereIn", (a_inN 210 (by decide +kernel) rfl)⟩⟩
theorem fp_X8_66 : a_fp RX8 66 1 3 .int false := ⟨_, rfl, by decide, rfl, by decide +kernel, Or.inr ⟨rfl, "WeWereIn", (a_inN 210 (by decide +kernel) rfl)⟩⟩
theorem fl_X9_135 : a_fl RX9 135 1 3 := ⟨_, rfl, by decide, Or.inr ⟨"WeWereIn", (a_inN 211 (by decide +kernel) rfl)⟩⟩
theorem fp_X9_135 : a_fp RX9 135 1 3 .int false := ⟨_, rfl, by decide, rfl, by decide +kernel, Or.inr ⟨rfl, "WeWereIn", (a_inN 211 (by decide +kernel) rfl)⟩⟩
theorem fl_X1_25 : a_fl RX1 25 1 4 := ⟨_, rfl, by decide, Or.inl (a_inG 212 (by decide +kernel) rfl)⟩
theorem fp_X1_25 : a_fp RX1 25 1 4 .int false := ⟨_, rfl, by decide, rfl, by decide +kernel, Or.inl ⟨(a_inG 212 (by decide +kernel) rfl), fun _ => rfl⟩⟩
theorem fl_X8_69 : a_fl RX8 69 1 4 := ⟨_, rfl, by decide, Or.inr ⟨"WeWereIn", (a_inN 213 (by decide +kernel) rfl)⟩⟩
theorem fp_X8_69 : a_fp RX8 69 1 4 .int false := ⟨_, rfl, by decide, rfl, by decide +kernel, Or.inr ⟨rfl, "WeWereIn", (a_inN 213 (by decide +kernel) rfl)⟩⟩
theorem fl_X9_138 : a_fl RX9 138 1 4 := ⟨_, rfl, by decide, Or.inr ⟨"WeWereIn", (a_inN 214 (by decide +kernel) rfl)⟩⟩
theorem fp_X9_138 : a_fp RX9 138 1 4 .int false := ⟨_, rfl, by decide, rfl, by decide +kernel, Or.inr ⟨rfl, "WeWereIn", (a_inN 214 (by decide +kernel) rfl)⟩⟩
theorem fl_X8_12 : a_fl RX8 12 8 0 := ⟨_, rfl, by decide, Or.inl (a_inG 234 (by decide +kernel) rfl)⟩
theorem fp_X8_12 : a_fp RX8 12 8 0 (.object "WeWereIn$Days") true := ⟨_, rfl, by decide, rfl, by decide +kernel, Or.inl ⟨(a_inG 234 (by decide +kernel) rfl), fun _ => rfl⟩⟩
theorem fl_X9_215 : a_fl RX9 215 8 0 := ⟨_, rfl, by decide, Or.inr ⟨"WeWereIn", (a_inN 235 (by decide +kernel) rfl)⟩⟩
theorem fl_X8_18 : a_fl RX8 18 8 1 := ⟨_, rfl, by decide, Or.inl (a_inG 236 (by decide +kernel) rfl)⟩
theorem fp_X8_18 : a_fp RX8 18 8 1 (.array .int) true := ⟨_, rfl, by decide, rfl, by decide +kernel, Or.inl ⟨(a_inG 236 (by decide +kernel) rfl), fun _ => rfl⟩⟩
theorem fl_X9_212 : a_fl RX9 212 8 1 := ⟨_, rfl, by decide, Or.inr ⟨"WeWereIn", (a_inN 237 (by decide +kernel) rfl)⟩⟩
theorem fl_X8_22 : a_fl RX8 22 8 2 := ⟨_, rfl, by decide, Or.inl (a_inG 238 (by decide +kernel) rfl)⟩
theorem fp_X8_22 : a_fp RX8 22 8 2 .int false := ⟨_, rfl, by decide, rfl, by decide +kernel, Or.inl ⟨(a_inG 238 (by decide +kernel) rfl), fun _ => rfl⟩⟩
theorem fl_X9_190 : a_fl RX9 190 8 2 := ⟨_, rfl, by decide, Or.inr ⟨"WeWereIn", (a_inN 239 (by decide +kernel) rfl)⟩⟩
theorem fp_X9_190 : a_fp RX9 190 8 2 .int false := ⟨_, rfl, by decide, rfl, by decide +kernel, Or.inr ⟨rfl, "WeWereIn", (a_inN 239 (by decide +kernel) rfl)⟩⟩
theorem fl_X8_26 : a_fl RX8 26 8 3 := ⟨_, rfl, by decide, Or.inl (a_inG 240 (by decide +kernel) rfl)⟩
theorem fp_X8_26 : a_fp RX8 26 8 3 .int false := ⟨_, rfl, by decide, rfl, by decide +kernel, Or.inl ⟨(a_inG 240 (by decide +kernel) rfl), fun _ => rfl⟩⟩
theorem fl_X9_236 : a_fl RX9 236 8 3 := ⟨_, rfl, by decide, Or.inr ⟨"WeWereIn", (a_inN 241 (by decide +kernel) rfl)⟩⟩
theorem fp_X9_236 : a_fp RX9 236 8 3 .int false := ⟨_, rfl, by decide, rfl, by decide +kernel, Or.inr ⟨rfl, "WeWereIn", (a_inN 241 (by decide +kernel) rfl)⟩⟩
theorem fl_X8_29 : a_fl RX8 29 8 4 := ⟨_, rfl, by decide, Or.inl (a_inG 242 (by decide +kernel) rfl)⟩
theorem fp_X8_29 : a_fp RX8 29 8 4 .int false := ⟨_, rfl, by decide, rfl, by decide +kernel, Or.inl ⟨(a_inG 242 (by decide +kernel) rfl), fun _ => rfl⟩⟩
theorem fl_X9_237 : a_fl RX9 237 8 4 := ⟨_, rfl, by decide, Or.inr ⟨"WeWereIn", (a_inN 243 (by decide +kernel) rfl)⟩⟩
theorem fp_X9_237 : a_fp RX9 237 8 4 .int false := ⟨_, rfl, by decide, rfl, by decide +kernel, Or.inr ⟨rfl, "WeWereIn", (a_inN 243 (by decide +kernel) rfl)⟩⟩
theorem fl_X8_32 : a_fl RX8 32 8 5 := ⟨_, rfl, by decide, Or.inl (a_inG 244 (by decide +kernel) rfl)⟩
theorem fp_X8_32 : a_fp RX8 32 8 5 .int false := ⟨_, rfl, by decide, rfl, by decide +kernel, Or.inl ⟨(a_inG 244 (by decide +kernel) rfl), fun _ => rfl⟩⟩
theorem fl_X8_35 : a_fl RX8 35 8 6 := ⟨_, rfl, by decide, Or.inl (a_inG 245 (by decide +kernel) rfl)⟩
theorem fp_X8_35 : a_fp RX8 35 8 6 .int false := ⟨_, rfl, by decide, rfl, by decide +kernel, Or.inl ⟨(a_inG 245 (by decide +kernel) rfl), fun _ => rfl⟩⟩
theorem fl_X8_38 : a_fl RX8 38 8 7 := ⟨_, rfl, by decide, Or.inl (a_inG 246 (by decide +kernel) rfl)⟩
theorem fp_X8_38 : a_fp RX8 38 8 7 .int false := ⟨_, rfl, by decide, rfl, by decide +kernel, Or.inl ⟨(a_inG 246 (by decide +kernel) rfl), fun _ => rfl⟩⟩
theorem fl_X3_11 : a_fl RX3 11 3 0 := ⟨_, rfl, by decide, Or.inl (a_inG 273 (by decide +kernel) rfl)⟩
theorem fp_X3_11 : a_fp RX3 11 3 0 (.array (.object "WeWereIn$Days")) true := ⟨_, rfl, by decide, rfl, by decide +kernel, Or.inl ⟨(a_inG 273 (by decide +kernel) rfl), fun _ => rfl⟩⟩
theorem fl_X3_17 : a_fl RX3 17 3 1 := ⟨_, rfl, by decide, Or.inl (a_inG 274 (by decide +kernel) rfl)⟩
theorem fp_X3_17 : a_fp RX3 17 3 1 .int false := ⟨_, rfl, by decide, rfl, by decide +kernel, Or.inl ⟨(a_inG 274 (by decide +kernel) rfl), fun _ => rfl⟩⟩
theorem fl_X3_21 : a_fl RX3 21 3 2 := ⟨_, rfl, by decide, Or.inl (a_inG 275 (by decide +kernel) rfl)⟩
theorem fp_X3_21 : a_fp RX3 21 3 2 .int false := ⟨_, rfl, by decide, rfl, by decide +kernel, Or.inl ⟨(a_inG 275 (by decide +kernel) rfl), fun _ => rfl⟩⟩
theorem fl_X9_149 : a_fl RX9 149 3 2 := ⟨_, rfl, by decide, Or.inr ⟨"WeWereIn", (a_inN 276 (by decide +kernel) rfl)⟩⟩
theorem fp_X9_149 : a_fp RX9 149 3 2 .int false := ⟨_, rfl, by decide, rfl, by decide +kernel, Or.inr ⟨rfl, "WeWereIn", (a_inN 276 (by decide +kernel) rfl)⟩⟩
theorem fl_X5_9 : a_fl RX5 9 5 0 := ⟨_, rfl, by decide, Or.inl (a_inG 290 (by decide +kernel) rfl)⟩
theorem fp_X5_9 : a_fp RX5 9 5 0 (.array .int) true := ⟨_, rfl, by decide, rfl, by decide +kernel, Or.inl ⟨(a_inG 290 (by decide +kernel) rfl), fun _ => rfl⟩⟩
theorem fl_X5_15 : a_fl RX5 15 5 1 := ⟨_, rfl, by decide, Or.inl (a_inG 291 (by decide +kernel) rfl)⟩
theorem fp_X5_15 : a_fp RX5 15 5 1 (.array .boolean) true := ⟨_, rfl, by decide, rfl, by decide +kernel, Or.inl ⟨(a_inG 291 (by decide +kernel) rfl), fun _ => rfl⟩⟩
theorem fl_X5_19 : a_fl RX5 19 5 2 := ⟨_, rfl, by decide, Or.inl (a_inG 292 (by decide +kernel) rfl)⟩
theorem fp_X5_19 : a_fp RX5 19 5 2 .int false := ⟨_, rfl, by decide, rfl, by decide +kernel, Or.inl ⟨(a_inG 292 (by decide +kernel) rfl), fun _ => rfl⟩⟩
theorem fl_X9_145 : a_fl RX9 145 5 2 := ⟨_, rfl, by decide, Or.inr ⟨"WeWereIn", (a_inN 293 (by decide +kernel) rfl)⟩⟩
theorem fp_X9_145 : a_fp RX9 145 5 2 .int false := ⟨_, rfl, by decide, rfl, by decide +kernel, Or.inr ⟨rfl, "WeWereIn", (a_inN 293 (by decide +kernel) rfl)⟩⟩
theorem fl_X0_9 : a_fl RX0 9 0 0 := ⟨_, rfl, by decide, Or.inl (a_inG 308 (by decide +kernel) rfl)⟩
theorem fp_X0_9 : a_fp RX0 9 0 0 (.array .int) true := ⟨_, rfl, by decide, rfl, by decide +kernel, Or.inl ⟨(a_inG 308 (by decide +kernel) rfl), fun _ => rfl⟩⟩
theorem fl_X0_15 : a_fl RX0 15 0 1 := ⟨_, rfl, by decide, Or.inl (a_inG 309 (by decide +kernel) rfl)⟩
theorem fp_X0_15 : a_fp RX0 15 0 1 (.array .int) true := ⟨_, rfl, by decide, rfl, by decide +kernel, Or.inl ⟨(a_inG 309 (by decide +kernel) rfl), fun _ => rfl⟩⟩
theorem fl_X0_18 : a_fl RX0 18 0 2 := ⟨_, rfl, by decide, Or.inl (a_inG 310 (by decide +kernel) rfl)⟩
theorem fp_X0_18 : a_fp RX0 18 0 2 .int false := ⟨_, rfl, by decide, rfl, by decide +kernel, Or.inl ⟨(a_inG 310 (by decide +kernel) rfl), fun _ => rfl⟩⟩
theorem fl_X9_148 : a_fl RX9 148 0 2 := ⟨_, rfl, by decide, Or.inr ⟨"WeWereIn", (a_inN 311 (by decide +kernel) rfl)⟩⟩
theorem fp_X9_148 : a_fp RX9 148 0 2 .int false := ⟨_, rfl, by decide, rfl, by decide +kernel, Or.inr ⟨rfl, "WeWereIn", (a_inN 311 (by decide +kernel) rfl)⟩⟩
theorem fl_X2_10 : a_fl RX2 10 2 0 := ⟨_, rfl, by decide, Or.inl (a_inG 328 (by decide +kernel) rfl)⟩
theorem fp_X2_10 : a_fp RX2 10 2 0 (.object "WeWereIn$Days") true := ⟨_, rfl, by decide, rfl, by decide +kernel, Or.inl ⟨(a_inG 328 (by decide +kernel) rfl), fun _ => rfl⟩⟩
theorem fl_X9_264 : a_fl RX9 264 2 0 := ⟨_, rfl, by decide, Or.inr ⟨"WeWereIn", (a_inN 329 (by decide +kernel) rfl)⟩⟩
theorem fl_X2_16 : a_fl RX2 16 2 1 := ⟨_, rfl, by decide, Or.inl (a_inG 330 (by decide +kernel) rfl)⟩
theorem fp_X2_16 : a_fp RX2 16 2 1 .int false := ⟨_, rfl, by decide, rfl, by decide +kernel, Or.inl ⟨(a_inG 330 (by decide +kernel) rfl), fun _ => rfl⟩⟩
theorem fl_X9_269 : a_fl RX9 269 2 1 := ⟨_, rfl, by decide, Or.inr ⟨"WeWereIn", (a_inN 331 (by decide +kernel) rfl)⟩⟩
theorem fp_X9_269 : a_fp RX9 269 2 1 .int false := ⟨_, rfl, by decide, rfl, by decide +kernel, Or.inr ⟨rfl, "WeWereIn", (a_inN 331 (by decide +kernel) rfl)⟩⟩
theorem fl_X2_20 : a_fl RX2 20 2 2 := ⟨_, rfl, by decide, Or.inl (a_inG 332 (by decide +kernel) rfl)⟩
theorem fp_X2_20 : a_fp RX2 20 2 2 .boolean false := ⟨_, rfl, by decide, rfl, by decide +kernel, Or.inl ⟨(a_inG 332 (by decide +kernel) rfl), fun _ => rfl⟩⟩
theorem fl_X9_113 : a_fl RX9 113 2 2 := ⟨_, rfl, by decide, Or.inr ⟨"WeWereIn", (a_inN 333 (by decide +kernel) rfl)⟩⟩
theorem fp_X9_113 : a_fp RX9 113 2 2 .boolean false := ⟨_, rfl, by decide, rfl, by decide +kernel, Or.inr ⟨rfl, "WeWereIn", (a_inN 333 (by decide +kernel) rfl)⟩⟩
theorem fl_X9_10 : a_fl RX9 10 9 0 := ⟨_, rfl, by decide, Or.inl (a_inG 341 (by decide +kernel) rfl)⟩
theorem fp_X9_10 : a_fp RX9 10 9 0 (.object "WeWereIn$Text") true := ⟨_, rfl, by decide, rfl, by decide +kernel, Or.inl ⟨(a_inG 341 (by decide +kernel) rfl), fun _ => rfl⟩⟩
theorem fl_X9_19 : a_fl RX9 19 9 1 := ⟨_, rfl, by decide, Or.inl (a_inG 342 (by decide +kernel) rfl)⟩
theorem fp_X9_19 : a_fp RX9 19 9 1 (.object "WeWereIn$Street") true := ⟨_, rfl, by decide, rfl, by decide +kernel, Or.inl ⟨(a_inG 342 (by decide +kernel) rfl), fun _ => rfl⟩⟩
theorem fl_X9_23 : a_fl RX9 23 9 2 := ⟨_, rfl, by decide, Or.inl (a_inG 343 (by decide +kernel) rfl)⟩
theorem fp_X9_23 : a_fp RX9 23 9 2 (.object "WeWereIn$Street") true := ⟨_, rfl, by decide, rfl, by decide +kernel, Or.inl ⟨(a_inG 343 (by decide +kernel) rfl), fun _ => rfl⟩⟩
theorem fl_X9_29 : a_fl RX9 29 9 3 := ⟨_, rfl, by decide, Or.inl (a_inG 344 (by decide +kernel) rfl)⟩
theorem fp_X9_29 : a_fp RX9 29 9 3 (.object "WeWereIn$Days") true := ⟨_, rfl, by decide, rfl, by decide +kernel, Or.inl ⟨(a_inG 344 (by decide +kernel) rfl), fun _ => rfl⟩⟩
theorem fl_X9_33 : a_fl RX9 33 9 4 := ⟨_, rfl, by decide, Or.inl (a_inG 345 (by decide +kernel) rfl)⟩
theorem fp_X9_33 : a_fp RX9 33 9 4 (.object "WeWereIn$Days") true := ⟨_, rfl, by decide, rfl, by decide +kernel, Or.inl ⟨(a_inG 345 (by decide +kernel) rfl), fun _ => rfl⟩⟩
theorem fl_X9_39 : a_fl RX9 39 9 5 := ⟨_, rfl, by decide, Or.inl (a_inG 346 (by decide +kernel) rfl)⟩
theorem fp_X9_39 : a_fp RX9 39 9 5 (.object "WeWereIn$Trip") true := ⟨_, rfl, by decide, rfl, by decide +kernel, Or.inl ⟨(a_inG 346 (by decide +kernel) rfl), fun _ => rfl⟩⟩
theorem fl_X9_46 : a_fl RX9 46 9 6 := ⟨_, rfl, by decide, Or.inl (a_inG 347 (by decide +kernel) rfl)⟩
theorem fp_X9_46 : a_fp RX9 46 9 6 (.object "WeWereIn$Past") true := ⟨_, rfl, by decide, rfl, by decide +kernel, Or.inl ⟨(a_inG 347 (by decide +kernel) rfl), fun _ => rfl⟩⟩
theorem fl_X9_53 : a_fl RX9 53 9 7 := ⟨_, rfl, by decide, Or.inl (a_inG 348 (by decide +kernel) rfl)⟩
theorem fp_X9_53 : a_fp RX9 53 9 7 (.object "WeWereIn$Seen") true := ⟨_, rfl, by decide, rfl, by decide +kernel, Or.inl ⟨(a_inG 348 (by decide +kernel) rfl), fun _ => rfl⟩⟩
theorem fl_X9_60 : a_fl RX9 60 9 8 := ⟨_, rfl, by decide, Or.inl (a_inG 349 (by decide +kernel) rfl)⟩
theorem fp_X9_60 : a_fp RX9 60 9 8 (.object "WeWereIn$Book") true := ⟨_, rfl, by decide, rfl, by decide +kernel, Or.inl ⟨(a_inG 349 (by decide +kernel) rfl), fun _ => rfl⟩⟩
theorem fl_X9_67 : a_fl RX9 67 9 9 := ⟨_, rfl, by decide, Or.inl (a_inG 350 (by decide +kernel) rfl)⟩
theorem fp_X9_67 : a_fp RX9 67 9 9 (.array (.object "WeWereIn$Image")) true := ⟨_, rfl, by decide, rfl, by decide +kernel, Or.inl ⟨(a_inG 350 (by decide +kernel) rfl), fun _ => rfl⟩⟩
theorem fl_X9_71 : a_fl RX9 71 9 10 := ⟨_, rfl, by decide, Or.inl (a_inG 351 (by decide +kernel) rfl)⟩
theorem fp_X9_71 : a_fp RX9 71 9 10 (.array .int) true := ⟨_, rfl, by decide, rfl, by decide +kernel, Or.inl ⟨(a_inG 351 (by decide +kernel) rfl), fun _ => rfl⟩⟩
theorem fl_X9_75 : a_fl RX9 75 9 11 := ⟨_, rfl, by decide, Or.inl (a_inG 352 (by decide +kernel) rfl)⟩
theorem fp_X9_75 : a_fp RX9 75 9 11 .int false := ⟨_, rfl, by decide, rfl, by decide +kernel, Or.inl ⟨(a_inG 352 (by decide +kernel) rfl), fun _ => rfl⟩⟩
theorem fl_X4_21 : a_fl RX4 21 4 0 := ⟨_, rfl, by decide, Or.inl (a_inG 656 (by decide +kernel) rfl)⟩
theorem fp_X4_21 : a_fp RX4 21 4 0 (.object "WeWereIn$Street") true := ⟨_, rfl, by decide, rfl, by decide +kernel, Or.inl ⟨(a_inG 656 (by decide +kernel) rfl), fun _ => rfl⟩⟩
theorem fl_X4_25 : a_fl RX4 25 4 1 := ⟨_, rfl, by decide, Or.inl (a_inG 657 (by decide +kernel) rfl)⟩
theorem fp_X4_25 : a_fp RX4 25 4 1 (.object "WeWereIn$Days") true := ⟨_, rfl, by decide, rfl, by decide +kernel, Or.inl ⟨(a_inG 657 (by decide +kernel) rfl), fun _ => rfl⟩⟩
theorem fl_X4_29 : a_fl RX4 29 4 2 := ⟨_, rfl, by decide, Or.inl (a_inG 658 (by decide +kernel) rfl)⟩
theorem fp_X4_29 : a_fp RX4 29 4 2 .int true := ⟨_, rfl, by decide, rfl, by decide +kernel, Or.inl ⟨(a_inG 658 (by decide +kernel) rfl), fun _ => rfl⟩⟩
theorem fl_X4_43 : a_fl RX4 43 4 3 := ⟨_, rfl, by decide, Or.inl (a_inG 659 (by decide +kernel) rfl)⟩
theorem fp_X4_43 : a_fp RX4 43 4 3 .int true := ⟨_, rfl, by decide, rfl, by decide +kernel, Or.inl ⟨(a_inG 659 (by decide +kernel) rfl), fun _ => rfl⟩⟩
theorem fl_X4_52 : a_fl RX4 52 4 4 := ⟨_, rfl, by decide, Or.inl (a_inG 660 (by decide +kernel) rfl)⟩
theorem fp_X4_52 : a_fp RX4 52 4 4 .int true := ⟨_, rfl, by decide, rfl, by decide +kernel, Or.inl ⟨(a_inG 660 (by decide +kernel) rfl), fun _ => rfl⟩⟩
theorem fl_X4_9 : a_fl RX4 9 4 5 := ⟨_, rfl, by decide, Or.inl (a_inG 661 (by decide +kernel) rfl)⟩
theorem fp_X4_9 : a_fp RX4 9 4 5 .int false := ⟨_, rfl, by decide, rfl, by decide +kernel, Or.inl ⟨(a_inG 661 (by decide +kernel) rfl), fun _ => rfl⟩⟩
theorem fl_X9_229 : a_fl RX9 229 4 5 := ⟨_, rfl, by decide, Or.inr ⟨"WeWereIn", (a_inN 662 (by decide +kernel) rfl)⟩⟩
theorem fp_X9_229 : a_fp RX9 229 4 5 .int false := ⟨_, rfl, by decide, rfl, by decide +kernel, Or.inr ⟨rfl, "WeWereIn", (a_inN 662 (by decide +kernel) rfl)⟩⟩
theorem fl_X4_15 : a_fl RX4 15 4 6 := ⟨_, rfl, by decide, Or.inl (a_inG 663 (by decide +kernel) rfl)⟩
theorem fp_X4_15 : a_fp RX4 15 4 6 .int false := ⟨_, rfl, by decide, rfl, by decide +kernel, Or.inl ⟨(a_inG 663 (by decide +kernel) rfl), fun _ => rfl⟩⟩
theorem fl_X9_232 : a_fl RX9 232 4 6 := ⟨_, rfl, by decide, Or.inr ⟨"WeWereIn", (a_inN 664 (by decide +kernel) rfl)⟩⟩
theorem fp_X9_232 : a_fp RX9 232 4 6 .int false := ⟨_, rfl, by decide, rfl, by decide +kernel, Or.inr ⟨rfl, "WeWereIn", (a_inN 664 (by decide +kernel) rfl)⟩⟩
theorem fl_X4_18 : a_fl RX4 18 4 7 := ⟨_, rfl, by decide, Or.inl (a_inG 665 (by decide +kernel) rfl)⟩
theorem fp_X4_18 : a_fp RX4 18 4 7 .int false := ⟨_, rfl, by decide, rfl, by decide +kernel, Or.inl ⟨(a_inG 665 (by decide +kernel) rfl), fun _ => rfl⟩⟩
theorem fl_X9_235 : a_fl RX9 235 4 7 := ⟨_, rfl, by decide, Or.inr ⟨"WeWereIn", (a_inN 666 (by decide +kernel) rfl)⟩⟩
theorem fp_X9_235 : a_fp RX9 235 4 7 .int false := ⟨_, rfl, by decide, rfl, by decide +kernel, Or.inr ⟨rfl, "WeWereIn", (a_inN 666 (by decide +kernel) rfl)⟩⟩
theorem fl_X10_7 : a_fl RX10 7 10 0 := ⟨_, rfl, by decide, Or.inl (a_inG 787 (by decide +kernel) rfl)⟩
theorem fp_X10_7 : a_fp RX10 7 10 0 (.array .int) true := ⟨_, rfl, by decide, rfl, by decide +kernel, Or.inl ⟨(a_inG 787 (by decide +kernel) rfl), fun _ => rfl⟩⟩
theorem fl_X10_13 : a_fl RX10 13 10 1 := ⟨_, rfl, by decide, Or.inl (a_inG 788 (by decide +kernel) rfl)⟩
theorem fp_X10_13 : a_fp RX10 13 10 1 (.array .boolean) true := ⟨_, rfl, by decide, rfl, by decide +kernel, Or.inl ⟨(a_inG 788 (by decide +kernel) rfl), fun _ => rfl⟩⟩
theorem fl_X10_17 : a_fl RX10 17 10 2 := ⟨_, rfl, by decide, Or.inl (a_inG 789 (by decide +kernel) rfl)⟩
theorem fp_X10_17 : a_fp RX10 17 10 2 (.array .int) true := ⟨_, rfl, by decide, rfl, by decide +kernel, Or.inl ⟨(a_inG 789 (by decide +kernel) rfl), fun _ => rfl⟩⟩
theorem fl_X10_20 : a_fl RX10 20 10 3 := ⟨_, rfl, by decide, Or.inl (a_inG 790 (by decide +kernel) rfl)⟩
theorem fp_X10_20 : a_fp RX10 20 10 3 (.array .int) true := ⟨_, rfl, by decide, rfl, by decide +kernel, Or.inl ⟨(a_inG 790 (by decide +kernel) rfl), fun _ => rfl⟩⟩
theorem fl_X10_23 : a_fl RX10 23 10 4 := ⟨_, rfl, by decide, Or.inl (a_inG 791 (by decide +kernel) rfl)⟩
theorem fp_X10_23 : a_fp RX10 23 10 4 (.array .int) true := ⟨_, rfl, by decide, rfl, by decide +kernel, Or.inl ⟨(a_inG 791 (by decide +kernel) rfl), fun _ => rfl⟩⟩
theorem fl_X10_26 : a_fl RX10 26 10 5 := ⟨_, rfl, by decide, Or.inl (a_inG 792 (by decide +kernel) rfl)⟩
theorem fp_X10_26 : a_fp RX10 26 10 5 (.array .int) true := ⟨_, rfl, by decide, rfl, by decide +kernel, Or.inl ⟨(a_inG 792 (by decide +kernel) rfl), fun _ => rfl⟩⟩
theorem fl_X10_29 : a_fl RX10 29 10 6 := ⟨_, rfl, by decide, Or.inl (a_inG 793 (by decide +kernel) rfl)⟩
theorem fp_X10_29 : a_fp RX10 29 10 6 (.array .int) true := ⟨_, rfl, by decide, rfl, by decide +kernel, Or.inl ⟨(a_inG 793 (by decide +kernel) rfl), fun _ => rfl⟩⟩
theorem fl_X10_32 : a_fl RX10 32 10 7 := ⟨_, rfl, by decide, Or.inl (a_inG 794 (by decide +kernel) rfl)⟩
theorem fp_X10_32 : a_fp RX10 32 10 7 (.array .int) true := ⟨_, rfl, by decide, rfl, by decide +kernel, Or.inl ⟨(a_inG 794 (by decide +kernel) rfl), fun _ => rfl⟩⟩
theorem fl_X10_131 : a_fl RX10 131 10 8 := ⟨_, rfl, by decide, Or.inl (a_inG 795 (by decide +kernel) rfl)⟩
theorem fp_X10_131 : a_fp RX10 131 10 8 .int false := ⟨_, rfl, by decide, rfl, by decide +kernel, Or.inl ⟨(a_inG 795 (by decide +kernel) rfl), fun _ => rfl⟩⟩
theorem fl_X10_106 : a_fl RX10 106 10 9 := ⟨_, rfl, by decide, Or.inl (a_inG 796 (by decide +kernel) rfl)⟩
theorem fp_X10_106 : a_fp RX10 106 10 9 .int false := ⟨_, rfl, by decide, rfl, by decide +kernel, Or.inl ⟨(a_inG 796 (by decide +kernel) rfl), fun _ => rfl⟩⟩
theorem fl_X10_35 : a_fl RX10 35 10 10 := ⟨_, rfl, by decide, Or.inl (a_inG 797 (by decide +kernel) rfl)⟩
theorem fp_X10_35 : a_fp RX10 35 10 10 (.array .int) true := ⟨_, rfl, by decide, rfl, by decide +kernel, Or.inl ⟨(a_inG 797 (by decide +kernel) rfl), fun _ => rfl⟩⟩
theorem fl_X10_134 : a_fl RX10 134 10 11 := ⟨_, rfl, by decide, Or.inl (a_inG 798 (by decide +kernel) rfl)⟩
theorem fp_X10_134 : a_fp RX10 134 10 11 .int false := ⟨_, rfl, by decide, rfl, by decide +kernel, Or.inl ⟨(a_inG 798 (by decide +kernel) rfl), fun _ => rfl⟩⟩
theorem fl_X10_109 : a_fl RX10 109 10 12 := ⟨_, rfl, by decide, Or.inl (a_inG 799 (by decide +kernel) rfl)⟩
theorem fp_X10_109 : a_fp RX10 109 10 12 .int false := ⟨_, rfl, by decide, rfl, by decide +kernel, Or.inl ⟨(a_inG 799 (by decide +kernel) rfl), fun _ => rfl⟩⟩
theorem fl_X10_38 : a_fl RX10 38 10 13 := ⟨_, rfl, by decide, Or.inl (a_inG 800 (by decide +kernel) rfl)⟩
theorem fp_X10_38 : a_fp RX10 38 10 13 (.array .int) true := ⟨_, rfl, by decide, rfl, by decide +kernel, Or.inl ⟨(a_inG 800 (by decide +kernel) rfl), fun _ => rfl⟩⟩
theorem fl_X10_73 : a_fl RX10 73 10 14 := ⟨_, rfl, by decide, Or.inl (a_inG 801 (by decide +kernel) rfl)⟩
theorem fp_X10_73 : a_fp RX10 73 10 14 .int false := ⟨_, rfl, by decide, rfl, by decide +kernel, Or.inl ⟨(a_inG 801 (by decide +kernel) rfl), fun _ => rfl⟩⟩
theorem fl_X10_77 : a_fl RX10 77 10 15 := ⟨_, rfl, by decide, Or.inl (a_inG 802 (by decide +kernel) rfl)⟩
theorem fp_X10_77 : a_fp RX10 77 10 15 .int false := ⟨_, rfl, by decide, rfl, by decide +kernel, Or.inl ⟨(a_inG 802 (by decide +kernel) rfl), fun _ => rfl⟩⟩
theorem fl_X10_87 : a_fl RX10 87 10 16 := ⟨_, rfl, by decide, Or.inl (a_inG 803 (by decide +kernel) rfl)⟩
theorem fp_X10_87 : a_fp RX10 87 10 16 .int false := ⟨_, rfl, by decide, rfl, by decide +kernel, Or.inl ⟨(a_inG 803 (by decide +kernel) rfl), fun _ => rfl⟩⟩
theorem fl_X10_80 : a_fl RX10 80 10 17 := ⟨_, rfl, by decide, Or.inl (a_inG 804 (by decide +kernel) rfl)⟩
theorem fp_X10_80 : a_fp RX10 80 10 17 .int false := ⟨_, rfl, by decide, rfl, by decide +kernel, Or.inl ⟨(a_inG 804 (by decide +kernel) rfl), fun _ => rfl⟩⟩
theorem fl_X10_41 : a_fl RX10 41 10 18 := ⟨_, rfl, by decide, Or.inl (a_inG 805 (by decide +kernel) rfl)⟩
theorem fp_X10_41 : a_fp RX10 41 10 18 .int false := ⟨_, rfl, by decide, rfl, by decide +kernel, Or.inl ⟨(a_inG 805 (by decide +kernel) rfl), fun _ => rfl⟩⟩
theorem fl_X10_45 : a_fl RX10 45 10 19 := ⟨_, rfl, by decide, Or.inl (a_inG 806 (by decide +kernel) rfl)⟩
theorem fp_X10_45 : a_fp RX10 45 10 19 (.array .int) true := ⟨_, rfl, by decide, rfl, by decide +kernel, Or.inl ⟨(a_inG 806 (by decide +kernel) rfl), fun _ => rfl⟩⟩
theorem fl_X10_176 : a_fl RX10 176 10 20 := ⟨_, rfl, by decide, Or.inl (a_inG 807 (by decide +kernel) rfl)⟩
theorem fp_X10_176 : a_fp RX10 176 10 20 .int false := ⟨_, rfl, by decide, rfl, by decide +kernel, Or.inl ⟨(a_inG 807 (by decide +kernel) rfl), fun _ => rfl⟩⟩
theorem fl_X10_179 : a_fl RX10 179 10 21 := ⟨_, rfl, by decide, Or.inl (a_inG 808 (by decide +kernel) rfl)⟩
theorem fp_X10_179 : a_fp RX10 179 10 21 .int false := ⟨_, rfl, by decide, rfl, by decide +kernel, Or.inl ⟨(a_inG 808 (by decide +kernel) rfl), fun _ => rfl⟩⟩
theorem fl_X10_143 : a_fl RX10 143 10 22 := ⟨_, rfl, by decide, Or.inl (a_inG 809 (by decide +kernel) rfl)⟩
theorem fp_X10_143 : a_fp RX10 143 10 22 .int false := ⟨_, rfl, by decide, rfl, by decide +kernel, Or.inl ⟨(a_inG 809 (by decide +kernel) rfl), fun _ => rfl⟩⟩
theorem fl_X10_48 : a_fl RX10 48 10 23 := ⟨_, rfl, by decide, Or.inl (a_inG 810 (by decide +kernel) rfl)⟩
theorem fp_X10_48 : a_fp RX10 48 10 23 (.array .int) true := ⟨_, rfl, by decide, rfl, by decide +kernel, Or.inl ⟨(a_inG 810 (by decide +kernel) rfl), fun _ => rfl⟩⟩
theorem fl_X10_51 : a_fl RX10 51 10 24 := ⟨_, rfl, by decide, Or.inl (a_inG 811 (by decide +kernel) rfl)⟩
theorem fp_X10_51 : a_fp RX10 51 10 24 (.array .int) true := ⟨_, rfl, by decide, rfl, by decide +kernel, Or.inl ⟨(a_inG 811 (by decide +kernel) rfl), fun _ => rfl⟩⟩
theorem fl_X10_54 : a_fl RX10 54 10 25 := ⟨_, rfl, by decide, Or.inl (a_inG 812 (by decide +kernel) rfl)⟩
theorem fp_X10_54 : a_fp RX10 54 10 25 (.array .boolean) true := ⟨_, rfl, by decide, rfl, by decide +kernel, Or.inl ⟨(a_inG 812 (by decide +kernel) rfl), fun _ => rfl⟩⟩
theorem fl_X10_137 : a_fl RX10 137 10 26 := ⟨_, rfl, by decide, Or.inl (a_inG 813 (by decide +kernel) rfl)⟩
theorem fp_X10_137 : a_fp RX10 137 10 26 .int false := ⟨_, rfl, by decide, rfl, by decide +kernel, Or.inl ⟨(a_inG 813 (by decide +kernel) rfl), fun _ => rfl⟩⟩
theorem fl_X10_57 : a_fl RX10 57 10 27 := ⟨_, rfl, by decide, Or.inl (a_inG 814 (by decide +kernel) rfl)⟩
theorem fp_X10_57 : a_fp RX10 57 10 27 (.array .int) true := ⟨_, rfl, by decide, rfl, by decide +kernel, Or.inl ⟨(a_inG 814 (by decide +kernel) rfl), fun _ => rfl⟩⟩
theorem fl_X10_60 : a_fl RX10 60 10 28 := ⟨_, rfl, by decide, Or.inl (a_inG 815 (by decide +kernel) rfl)⟩
theorem fp_X10_60 : a_fp RX10 60 10 28 (.array .int) true := ⟨_, rfl, by decide, rfl, by decide +kernel, Or.inl ⟨(a_inG 815 (by decide +kernel) rfl), fun _ => rfl⟩⟩
theorem fl_X10_63 : a_fl RX10 63 10 29 := ⟨_, rfl, by decide, Or.inl (a_inG 816 (by decide +kernel) rfl)⟩
theorem fp_X10_63 : a_fp RX10 63 10 29 (.array .int) true := ⟨_, rfl, by decide, rfl, by decide +kernel, Or.inl ⟨(a_inG 816 (by decide +kernel) rfl), fun _ => rfl⟩⟩
theorem fl_X10_140 : a_fl RX10 140 10 30 := ⟨_, rfl, by decide, Or.inl (a_inG 817 (by decide +kernel) rfl)⟩
theorem fp_X10_140 : a_fp RX10 140 10 30 .int false := ⟨_, rfl, by decide, rfl, by decide +kernel, Or.inl ⟨(a_inG 817 (by decide +kernel) rfl), fun _ => rfl⟩⟩
theorem lk_L_9 : a_lk RL 9 yX9_init := Or.inl (a_inG 94 (by decide +kernel) rfl)
theorem lj_X9_1 : Cond.methodLink RX9 1 objectInit ∈ gT := (a_inG 97 (by decide +kernel) rfl)
theorem lk_X9_9 : a_lk RX9 9 yX7_init := Or.inr ⟨"WeWereIn", (a_inN 102 (by decide +kernel) rfl)⟩
theorem lj_X7_3 : Cond.methodLink RX7 3 objectInit ∈ gT := (a_inG 105 (by decide +kernel) rfl)
theorem lk_X9_18 : a_lk RX9 18 yX6_init := Or.inr ⟨"WeWereIn", (a_inN 131 (by decide +kernel) rfl)⟩
theorem lj_X6_3 : Cond.methodLink RX6 3 objectInit ∈ gT := (a_inG 134 (by decide +kernel) rfl)
theorem lk_X9_28 : a_lk RX9 28 yX1_init := Or.inr ⟨"WeWereIn", (a_inN 190 (by decide +kernel) rfl)⟩
theorem lj_X1_3 : Cond.methodLink RX1 3 objectInit ∈ gT := (a_inG 193 (by decide +kernel) rfl)
theorem lk_X1_28 : a_lk RX1 28 yX1_begin := Or.inl (a_inG 194 (by decide +kernel) rfl)
theorem lk_X9_38 : a_lk RX9 38 yX8_init := Or.inr ⟨"WeWereIn", (a_inN 228 (by decide +kernel) rfl)⟩
theorem lj_X8_3 : Cond.methodLink RX8 3 objectInit ∈ gT := (a_inG 231 (by decide +kernel) rfl)
theorem lk_X8_11 : a_lk RX8 11 yX1_init := Or.inr ⟨"WeWereIn", (a_inN 233 (by decide +kernel) rfl)⟩
theorem lk_X9_45 : a_lk RX9 45 yX3_init := Or.inr ⟨"WeWereIn", (a_inN 266 (by decide +kernel) rfl)⟩
theorem lj_X3_3 : Cond.methodLink RX3 3 objectInit ∈ gT := (a_inG 269 (by decide +kernel) rfl)
theorem lk_X3_24 : a_lk RX3 24 yX1_init := Or.inr ⟨"WeWereIn", (a_inN 272 (by decide +kernel) rfl)⟩
theorem lk_X9_52 : a_lk RX9 52 yX5_init := Or.inr ⟨"WeWereIn", (a_inN 286 (by decide +kernel) rfl)⟩
theorem lj_X5_3 : Cond.methodLink RX5 3 objectInit ∈ gT := (a_inG 289 (by decide +kernel) rfl)
theorem lk_X9_59 : a_lk RX9 59 yX0_init := Or.inr ⟨"WeWereIn", (a_inN 304 (by decide +kernel) rfl)⟩
theorem lj_X0_3 : Cond.methodLink RX0 3 objectInit ∈ gT := (a_inG 307 (by decide +kernel) rfl)
theorem lk_X9_66 : a_lk RX9 66 yX2_init := Or.inr ⟨"WeWereIn", (a_inN 322 (by decide +kernel) rfl)⟩
theorem lj_X2_1 : Cond.methodLink RX2 1 objectInit ∈ gT := (a_inG 325 (by decide +kernel) rfl)
theorem lk_X2_9 : a_lk RX2 9 yX1_init := Or.inr ⟨"WeWereIn", (a_inN 327 (by decide +kernel) rfl)⟩
theorem lk_L_13 : a_lk RL 13 yX9_feed := Or.inl (a_inG 378 (by decide +kernel) rfl)
theorem lk_X9_79 : a_lk RX9 79 yX9_within := Or.inl (a_inG 382 (by decide +kernel) rfl)
theorem lk_X9_84 : a_lk RX9 84 yX7_add := Or.inr ⟨"WeWereIn", (a_inN 386 (by decide +kernel) rfl)⟩
theorem lk_L_18 : a_lk RL 18 yX9_street := Or.inl (a_inG 391 (by decide +kernel) rfl)
theorem lk_X9_92 : a_lk RX9 92 yX7_readInto := Or.inr ⟨"WeWereIn", (a_inN 395 (by decide +kernel) rfl)⟩
theorem lk_X7_31 : a_lk RX7 31 yX6_begin := Or.inr ⟨"WeWereIn", (a_inN 399 (by decide +kernel) rfl)⟩
theorem lk_X7_36 : a_lk RX7 36 yX7_peek := Or.inl (a_inG 403 (by decide +kernel) rfl)
theorem lk_X7_105 : a_lk RX7 105 yX9_within := Or.inr ⟨"WeWereIn", (a_inN 407 (by decide +kernel) rfl)⟩
theorem lk_X7_40 : a_lk RX7 40 yX7_readClause := Or.inl (a_inG 408 (by decide +kernel) rfl)
theorem lk_X7_47 : a_lk RX7 47 yX7_fail := Or.inl (a_inG 412 (by decide +kernel) rfl)
theorem lk_X7_51 : a_lk RX7 51 yX7_readVan := Or.inl (a_inG 416 (by decide +kernel) rfl)
theorem lk_X7_65 : a_lk RX7 65 yX7_number := Or.inl (a_inG 420 (by decide +kernel) rfl)
theorem lk_X7_102 : a_lk RX7 102 yX7_isFigure := Or.inl (a_inG 424 (by decide +kernel) rfl)
theorem lk_X7_75 : a_lk RX7 75 yX7_endClause := Or.inl (a_inG 427 (by decide +kernel) rfl)
theorem lk_X7_55 : a_lk RX7 55 yX7_readStop := Or.inl (a_inG 431 (by decide +kernel) rfl)
theorem lk_X7_81 : a_lk RX7 81 yX6_addStop := Or.inr ⟨"WeWereIn", (a_inN 435 (by decide +kernel) rfl)⟩
theorem lk_X7_59 : a_lk RX7 59 yX7_readDin := Or.inl (a_inG 439 (by decide +kernel) rfl)
theorem lk_X7_88 : a_lk RX7 88 yX6_addDin := Or.inr ⟨"WeWereIn", (a_inN 443 (by decide +kernel) rfl)⟩
theorem lk_X7_62 : a_lk RX7 62 yX7_readNeighbour := Or.inl (a_inG 447 (by decide +kernel) rfl)
theorem lk_X7_92 : a_lk RX7 92 yX6_has := Or.inr ⟨"WeWereIn", (a_inN 451 (by decide +kernel) rfl)⟩
theorem lk_X9_96 : a_lk RX9 96 yX7_empty := Or.inr ⟨"WeWereIn", (a_inN 455 (by decide +kernel) rfl)⟩
theorem lk_X9_102 : a_lk RX9 102 yX6_copy := Or.inr ⟨"WeWereIn", (a_inN 459 (by decide +kernel) rfl)⟩
theorem lj_X6_46 : Cond.methodLink RX6 46 arraycopyName ∈ gT := (a_inG 463 (by decide +kernel) rfl)
theorem lk_X9_105 : a_lk RX9 105 yX1_begin := Or.inr ⟨"WeWereIn", (a_inN 466 (by decide +kernel) rfl)⟩
theorem lk_X9_108 : a_lk RX9 108 yX3_forget := Or.inr ⟨"WeWereIn", (a_inN 467 (by decide +kernel) rfl)⟩
theorem lk_X9_111 : a_lk RX9 111 yX5_forget := Or.inr ⟨"WeWereIn", (a_inN 471 (by decide +kernel) rfl)⟩
theorem lk_X9_112 : a_lk RX9 112 yX0_forget := Or.inr ⟨"WeWereIn", (a_inN 475 (by decide +kernel) rfl)⟩
theorem lk_L_23 : a_lk RL 23 yX9_fault := Or.inl (a_inG 479 (by decide +kernel) rfl)
theorem lk_L_27 : a_lk RL 27 yX9_told := Or.inl (a_inG 483 (by decide +kernel) rfl)
theorem lk_X9_141 : a_lk RX9 141 yX1_which := Or.inr ⟨"WeWereIn", (a_inN 487 (by decide +kernel) rfl)⟩
theorem lk_L_31 : a_lk RL 31 yX9_stop := Or.inl (a_inG 491 (by decide +kernel) rfl)
theorem lk_X9_150 : a_lk RX9 150 yX6_has := Or.inr ⟨"WeWereIn", (a_inN 495 (by decide +kernel) rfl)⟩
theorem lk_L_36 : a_lk RL 36 yX9_din := Or.inl (a_inG 497 (by decide +kernel) rfl)
theorem lk_X9_175 : a_lk RX9 175 yX6_dinOf := Or.inr ⟨"WeWereIn", (a_inN 501 (by decide +kernel) rfl)⟩
theorem lk_L_40 : a_lk RL 40 yX9_round := Or.inl (a_inG 505 (by decide +kernel) rfl)
theorem lk_X9_179 : a_lk RX9 179 yX9_refusalOfTrip := Or.inl (a_inG 509 (by decide +kernel) rfl)
theorem lk_X9_218 : a_lk RX9 218 yX6_isWay := Or.inr ⟨"WeWereIn", (a_inN 513 (by decide +kernel) rfl)⟩
theorem lk_X6_52 : a_lk RX6 52 yX6_has := Or.inl (a_inG 517 (by decide +kernel) rfl)
theorem lk_X9_182 : a_lk RX9 182 yX3_push := Or.inr ⟨"WeWereIn", (a_inN 518 (by decide +kernel) rfl)⟩
theorem lk_X3_25 : a_lk RX3 25 yX1_copy := Or.inr ⟨"WeWereIn", (a_inN 522 (by decide +kernel) rfl)⟩
theorem lj_X1_31 : Cond.methodLink RX1 31 arraycopyName ∈ gT := (a_inG 526 (by decide +kernel) rfl)
theorem lk_X3_29 : a_lk RX3 29 yJ9_min_7cf53 := Or.inl (a_inG 527 (by decide +kernel) rfl)
theorem lk_X9_186 : a_lk RX9 186 yX9_drive := Or.inl (a_inG 530 (by decide +kernel) rfl)
theorem lk_X9_208 : a_lk RX9 208 yX8_run := Or.inr ⟨"WeWereIn", (a_inN 534 (by decide +kernel) rfl)⟩
theorem lk_X8_41 : a_lk RX8 41 yX8_begin := Or.inl (a_inG 538 (by decide +kernel) rfl)
theorem lk_X8_77 : a_lk RX8 77 yX1_copy := Or.inr ⟨"WeWereIn", (a_inN 542 (by decide +kernel) rfl)⟩
theorem lk_X8_45 : a_lk RX8 45 yX8_firstUnit := Or.inl (a_inG 543 (by decide +kernel) rfl)
theorem lk_X8_49 : a_lk RX8 49 yX6_has := Or.inr ⟨"WeWereIn", (a_inN 546 (by decide +kernel) rfl)⟩
theorem lk_X8_55 : a_lk RX8 55 yX8_call := Or.inl (a_inG 547 (by decide +kernel) rfl)
theorem lk_X8_59 : a_lk RX8 59 yX6_secondsBetween := Or.inr ⟨"WeWereIn", (a_inN 551 (by decide +kernel) rfl)⟩
theorem lk_X6_68 : a_lk RX6 68 yJ9_abs_0f7a4 := Or.inl (a_inG 555 (by decide +kernel) rfl)
theorem lk_X8_82 : a_lk RX8 82 yX1_counts := Or.inr ⟨"WeWereIn", (a_inN 558 (by decide +kernel) rfl)⟩
theorem lk_X8_85 : a_lk RX8 85 yX9_ringsAt := Or.inr ⟨"WeWereIn", (a_inN 562 (by decide +kernel) rfl)⟩
theorem lk_X8_92 : a_lk RX8 92 yX6_meets := Or.inr ⟨"WeWereIn", (a_inN 565 (by decide +kernel) rfl)⟩
theorem lk_X6_60 : a_lk RX6 60 yX6_isIn := Or.inl (a_inG 569 (by decide +kernel) rfl)
theorem lk_X6_56 : a_lk RX6 56 yX9_within := Or.inr ⟨"WeWereIn", (a_inN 573 (by decide +kernel) rfl)⟩
theorem lk_X6_64 : a_lk RX6 64 yX6_dinOf := Or.inl (a_inG 574 (by decide +kernel) rfl)
theorem lk_X8_96 : a_lk RX8 96 yX6_secondsAtDoor := Or.inr ⟨"WeWereIn", (a_inN 575 (by decide +kernel) rfl)⟩
theorem lk_X8_72 : a_lk RX8 72 yJ6_bitCount_0f7a4 := Or.inl (a_inG 579 (by decide +kernel) rfl)
theorem lk_X9_267 : a_lk RX9 267 yX1_copy := Or.inr ⟨"WeWereIn", (a_inN 585 (by decide +kernel) rfl)⟩
theorem lk_L_44 : a_lk RL 44 yX9_fetch := Or.inl (a_inG 586 (by decide +kernel) rfl)
theorem lk_L_48 : a_lk RL 48 yX9_order := Or.inl (a_inG 591 (by decide +kernel) rfl)
theorem lk_L_52 : a_lk RL 52 yX9_thank := Or.inl (a_inG 595 (by decide +kernel) rfl)
theorem lk_L_56 : a_lk RL 56 yX9_drift := Or.inl (a_inG 599 (by decide +kernel) rfl)
theorem lk_X9_194 : a_lk RX9 194 yX6_risingWay := Or.inr ⟨"WeWereIn", (a_inN 603 (by decide +kernel) rfl)⟩
theorem lk_X9_198 : a_lk RX9 198 yX9_orderByDraw := Or.inl (a_inG 607 (by decide +kernel) rfl)
theorem lk_X9_201 : a_lk RX9 201 yX9_draw := Or.inl (a_inG 611 (by decide +kernel) rfl)
theorem lk_L_60 : a_lk RL 60 yX9_undo := Or.inl (a_inG 619 (by decide +kernel) rfl)
theorem lk_X9_204 : a_lk RX9 204 yX3_pop := Or.inr ⟨"WeWereIn", (a_inN 623 (by decide +kernel) rfl)⟩
theorem lk_X3_35 : a_lk RX3 35 yX9_within := Or.inr ⟨"WeWereIn", (a_inN 627 (by decide +kernel) rfl)⟩
theorem lk_L_64 : a_lk RL 64 yX9_comes := Or.inl (a_inG 628 (by decide +kernel) rfl)
theorem lk_L_69 : a_lk RL 69 yX9_home := Or.inl (a_inG 632 (by decide +kernel) rfl)
theorem lk_L_73 : a_lk RL 73 yX9_outcome := Or.inl (a_inG 636 (by decide +kernel) rfl)
theorem lk_L_77 : a_lk RL 77 yX9_bath := Or.inl (a_inG 640 (by decide +kernel) rfl)
theorem lk_L_82 : a_lk RL 82 yX9_bestWay := Or.inl (a_inG 644 (by decide +kernel) rfl)
theorem lk_X9_223 : a_lk RX9 223 yX4_init := Or.inr ⟨"WeWereIn", (a_inN 650 (by decide +kernel) rfl)⟩
theorem lj_X4_3 : Cond.methodLink RX4 3 objectInit ∈ gT := (a_inG 653 (by decide +kernel) rfl)
theorem lk_X4_37 : a_lk RX4 37 yX1_which := Or.inr ⟨"WeWereIn", (a_inN 654 (by decide +kernel) rfl)⟩
theorem lk_X4_46 : a_lk RX4 46 yJ6_bitCount_0f7a4 := Or.inl (a_inG 655 (by decide +kernel) rfl)
theorem lk_X9_226 : a_lk RX9 226 yX4_seek := Or.inr ⟨"WeWereIn", (a_inN 684 (by decide +kernel) rfl)⟩
theorem lk_X4_55 : a_lk RX4 55 yX4_extend := Or.inl (a_inG 688 (by decide +kernel) rfl)
theorem lk_X4_59 : a_lk RX4 59 yX6_secondsBetween := Or.inr ⟨"WeWereIn", (a_inN 691 (by decide +kernel) rfl)⟩
theorem lk_X4_62 : a_lk RX4 62 yX4_canBeat := Or.inl (a_inG 692 (by decide +kernel) rfl)
theorem lk_X4_66 : a_lk RX4 66 yX4_settle := Or.inl (a_inG 696 (by decide +kernel) rfl)
theorem lk_X4_70 : a_lk RX4 70 yX9_ringsAt := Or.inr ⟨"WeWereIn", (a_inN 700 (by decide +kernel) rfl)⟩
theorem lk_X4_80 : a_lk RX4 80 yX6_meets := Or.inr ⟨"WeWereIn", (a_inN 701 (by decide +kernel) rfl)⟩
theorem lk_X4_84 : a_lk RX4 84 yX6_secondsAtDoor := Or.inr ⟨"WeWereIn", (a_inN 702 (by decide +kernel) rfl)⟩
theorem lk_L_86 : a_lk RL 86 yX9_pretends := Or.inl (a_inG 703 (by decide +kernel) rfl)
theorem lk_L_90 : a_lk RL 90 yX9_locker := Or.inl (a_inG 707 (by decide +kernel) rfl)
theorem lk_X9_240 : a_lk RX9 240 yX6_countNear := Or.inr ⟨"WeWereIn", (a_inN 711 (by decide +kernel) rfl)⟩
theorem lk_L_94 : a_lk RL 94 yX9_bears := Or.inl (a_inG 715 (by decide +kernel) rfl)
theorem lk_L_98 : a_lk RL 98 yX9_heard := Or.inl (a_inG 719 (by decide +kernel) rfl)
theorem lk_L_102 : a_lk RL 102 yX9_see := Or.inl (a_inG 725 (by decide +kernel) rfl)
theorem lk_X9_248 : a_lk RX9 248 yX5_add := Or.inr ⟨"WeWereIn", (a_inN 729 (by decide +kernel) rfl)⟩
theorem lk_L_107 : a_lk RL 107 yX9_rang := Or.inl (a_inG 733 (by decide +kernel) rfl)
theorem lk_X9_251 : a_lk RX9 251 yX5_fits := Or.inr ⟨"WeWereIn", (a_inN 737 (by decide +kernel) rfl)⟩
theorem lk_X9_254 : a_lk RX9 254 yX9_bestToAsk := Or.inl (a_inG 741 (by decide +kernel) rfl)
theorem lk_X9_277 : a_lk RX9 277 yJ6_bitCount_0f7a4 := Or.inl (a_inG 745 (by decide +kernel) rfl)
theorem lk_X9_282 : a_lk RX9 282 yJ9_max_7cf53 := Or.inl (a_inG 746 (by decide +kernel) rfl)
theorem lk_L_111 : a_lk RL 111 yX9_write := Or.inl (a_inG 749 (by decide +kernel) rfl)
theorem lk_X9_257 : a_lk RX9 257 yX0_add := Or.inr ⟨"WeWereIn", (a_inN 753 (by decide +kernel) rfl)⟩
theorem lk_L_115 : a_lk RL 115 yX9_judge := Or.inl (a_inG 757 (by decide +kernel) rfl)
theorem lk_X9_260 : a_lk RX9 260 yX0_firstWrong := Or.inr ⟨"WeWereIn", (a_inN 761 (by decide +kernel) rfl)⟩
theorem lk_L_119 : a_lk RL 119 yX9_tear := Or.inl (a_inG 765 (by decide +kernel) rfl)
theorem lk_L_123 : a_lk RL 123 yX9_seed := Or.inl (a_inG 769 (by decide +kernel) rfl)
theorem lk_L_127 : a_lk RL 127 yX9_keep := Or.inl (a_inG 773 (by decide +kernel) rfl)
theorem lk_L_131 : a_lk RL 131 yX9_goBack := Or.inl (a_inG 777 (by decide +kernel) rfl)
theorem lk_L_12 : a_lk RL 12 yX10_init := Or.inl (a_inG 783 (by decide +kernel) rfl)
theorem lj_X10_1 : Cond.methodLink RX10 1 objectInit ∈ gT := (a_inG 786 (by decide +kernel) rfl)
theorem lk_L_17 : a_lk RL 17 yX10_feed := Or.inl (a_inG 881 (by decide +kernel) rfl)
theorem lk_X10_68 : a_lk RX10 68 yX10_in := Or.inl (a_inG 886 (by decide +kernel) rfl)
theorem lk_L_22 : a_lk RL 22 yX10_street := Or.inl (a_inG 891 (by decide +kernel) rfl)
theorem lk_X10_83 : a_lk RX10 83 yX10_here := Or.inl (a_inG 895 (by decide +kernel) rfl)
theorem lk_X10_125 : a_lk RX10 125 yX10_takeClause := Or.inl (a_inG 899 (by decide +kernel) rfl)
theorem lk_X10_94 : a_lk RX10 94 yX10_want := Or.inl (a_inG 903 (by decide +kernel) rfl)
theorem lk_X10_112 : a_lk RX10 112 yX10_takeRule := Or.inl (a_inG 907 (by decide +kernel) rfl)
theorem lk_X10_102 : a_lk RX10 102 yX10_takeIn := Or.inl (a_inG 911 (by decide +kernel) rfl)
theorem lk_X10_99 : a_lk RX10 99 yX10_takeNumber := Or.inl (a_inG 915 (by decide +kernel) rfl)
theorem lk_X10_116 : a_lk RX10 116 yX10_takeStop := Or.inl (a_inG 922 (by decide +kernel) rfl)
theorem lk_X10_119 : a_lk RX10 119 yX10_takeDins := Or.inl (a_inG 926 (by decide +kernel) rfl)
theorem lk_X10_122 : a_lk RX10 122 yX10_takeNeighbour := Or.inl (a_inG 930 (by decide +kernel) rfl)
theorem lk_X10_128 : a_lk RX10 128 yX10_take := Or.inl (a_inG 934 (by decide +kernel) rfl)
theorem lk_L_26 : a_lk RL 26 yX10_fault := Or.inl (a_inG 938 (by decide +kernel) rfl)
theorem lk_L_30 : a_lk RL 30 yX10_told := Or.inl (a_inG 942 (by decide +kernel) rfl)
theorem lk_X10_164 : a_lk RX10 164 yX10_which := Or.inl (a_inG 946 (by decide +kernel) rfl)
theorem lk_X10_160 : a_lk RX10 160 yX10_one := Or.inl (a_inG 950 (by decide +kernel) rfl)
theorem lk_L_35 : a_lk RL 35 yX10_stop := Or.inl (a_inG 953 (by decide +kernel) rfl)
theorem lk_X10_150 : a_lk RX10 150 yX10_isStop := Or.inl (a_inG 957 (by decide +kernel) rfl)
theorem lk_L_39 : a_lk RL 39 yX10_din := Or.inl (a_inG 962 (by decide +kernel) rfl)
theorem lk_X10_170 : a_lk RX10 170 yX10_dinAt := Or.inl (a_inG 967 (by decide +kernel) rfl)
theorem lk_L_43 : a_lk RL 43 yX10_round := Or.inl (a_inG 971 (by decide +kernel) rfl)
theorem lk_X10_200 : a_lk RX10 200 yX10_isWay := Or.inl (a_inG 975 (by decide +kernel) rfl)
theorem lk_X10_154 : a_lk RX10 154 yX10_has := Or.inl (a_inG 979 (by decide +kernel) rfl)
theorem lk_X10_203 : a_lk RX10 203 yX10_isHaste := Or.inl (a_inG 982 (by decide +kernel) rfl)
theorem lk_X10_206 : a_lk RX10 206 yX10_remember := Or.inl (a_inG 986 (by decide +kernel) rfl)
theorem lk_X10_192 : a_lk RX10 192 yX10_copy := Or.inl (a_inG 990 (by decide +kernel) rfl)
theorem lk_X10_196 : a_lk RX10 196 yX10_roundIn := Or.inl (a_inG 994 (by decide +kernel) rfl)
theorem lk_X10_146 : a_lk RX10 146 yX10_figures := Or.inl (a_inG 998 (by decide +kernel) rfl)
theorem lk_X10_182 : a_lk RX10 182 yX10_stopOf := Or.inl (a_inG 1001 (by decide +kernel) rfl)
theorem lk_X10_185 : a_lk RX10 185 yX10_far := Or.inl (a_inG 1004 (by decide +kernel) rfl)
theorem lk_X10_188 : a_lk RX10 188 yX10_visit := Or.inl (a_inG 1007 (by decide +kernel) rfl)
theorem lk_X10_173 : a_lk RX10 173 yX10_isInAt := Or.inl (a_inG 1011 (by decide +kernel) rfl)
theorem lk_L_47 : a_lk RL 47 yX10_fetch := Or.inl (a_inG 1015 (by decide +kernel) rfl)
theorem lk_L_51 : a_lk RL 51 yX10_order := Or.inl (a_inG 1020 (by decide +kernel) rfl)
theorem lk_L_55 : a_lk RL 55 yX10_thank := Or.inl (a_inG 1024 (by decide +kernel) rfl)
theorem lk_L_59 : a_lk RL 59 yX10_drift := Or.inl (a_inG 1028 (by decide +kernel) rfl)
theorem lk_X10_219 : a_lk RX10 219 yX10_draw := Or.inl (a_inG 1033 (by decide +kernel) rfl)
theorem lk_L_63 : a_lk RL 63 yX10_undo := Or.inl (a_inG 1041 (by decide +kernel) rfl)
theorem lk_L_68 : a_lk RL 68 yX10_comes := Or.inl (a_inG 1046 (by decide +kernel) rfl)
theorem lk_X10_224 : a_lk RX10 224 yX10_tryRound := Or.inl (a_inG 1050 (by decide +kernel) rfl)
theorem lk_L_72 : a_lk RL 72 yX10_home := Or.inl (a_inG 1054 (by decide +kernel) rfl)
theorem lk_L_76 : a_lk RL 76 yX10_outcome := Or.inl (a_inG 1058 (by decide +kernel) rfl)
theorem lk_L_81 : a_lk RL 81 yX10_bath := Or.inl (a_inG 1062 (by decide +kernel) rfl)
theorem lk_X10_229 : a_lk RX10 229 yX10_comesTo := Or.inl (a_inG 1067 (by decide +kernel) rfl)
theorem lk_L_85 : a_lk RL 85 yX10_bestWay := Or.inl (a_inG 1071 (by decide +kernel) rfl)
theorem lk_X10_237 : a_lk RX10 237 yX10_counting := Or.inl (a_inG 1076 (by decide +kernel) rfl)
theorem lk_X10_241 : a_lk RX10 241 yX10_wayOf := Or.inl (a_inG 1081 (by decide +kernel) rfl)
theorem lk_X10_244 : a_lk RX10 244 yX10_nextRow := Or.inl (a_inG 1085 (by decide +kernel) rfl)
theorem lk_X10_232 : a_lk RX10 232 yX10_exchange := Or.inl (a_inG 1089 (by decide +kernel) rfl)
theorem lk_L_89 : a_lk RL 89 yX10_pretends := Or.inl (a_inG 1093 (by decide +kernel) rfl)
theorem lk_L_93 : a_lk RL 93 yX10_locker := Or.inl (a_inG 1097 (by decide +kernel) rfl)
theorem lk_L_97 : a_lk RL 97 yX10_bears := Or.inl (a_inG 1101 (by decide +kernel) rfl)
theorem lk_L_101 : a_lk RL 101 yX10_heard := Or.inl (a_inG 1105 (by decide +kernel) rfl)
theorem lk_L_106 : a_lk RL 106 yX10_see := Or.inl (a_inG 1112 (by decide +kernel) rfl)
theorem lk_L_110 : a_lk RL 110 yX10_rang := Or.inl (a_inG 1116 (by decide +kernel) rfl)
theorem lk_X10_256 : a_lk RX10 256 yX10_findHastes := Or.inl (a_inG 1120 (by decide +kernel) rfl)
theorem lk_X10_253 : a_lk RX10 253 yX10_slipsBy := Or.inl (a_inG 1124 (by decide +kernel) rfl)
theorem lk_L_114 : a_lk RL 114 yX10_write := Or.inl (a_inG 1128 (by decide +kernel) rfl)
theorem lk_L_118 : a_lk RL 118 yX10_judge := Or.inl (a_inG 1133 (by decide +kernel) rfl)
theorem lk_L_122 : a_lk RL 122 yX10_tear := Or.inl (a_inG 1137 (by decide +kernel) rfl)
theorem lk_L_126 : a_lk RL 126 yX10_seed := Or.inl (a_inG 1141 (by decide +kernel) rfl)
theorem lk_L_130 : a_lk RL 130 yX10_keep := Or.inl (a_inG 1145 (by decide +kernel) rfl)
theorem lk_L_134 : a_lk RL 134 yX10_goBack := Or.inl (a_inG 1149 (by decide +kernel) rfl)
theorem k_mX0_init : a_ci mX0_init 0 := ⟨⟨(a_inG 306 (by decide +kernel) rfl), ini_X0, by decide +kernel, by decide⟩, rfl, rfl, (a_inG 305 (by decide +kernel) rfl)⟩
theorem k_mX0_forget : a_cv mX0_forget 0 := ⟨⟨(a_inG 478 (by decide +kernel) rfl), ini_X0, by decide +kernel, by decide⟩, (a_inG 477 (by decide +kernel) rfl), (a_inG 20 (by decide +kernel) rfl)⟩
theorem k_mX0_add : a_cv mX0_add 2 := ⟨⟨(a_inG 756 (by decide +kernel) rfl), ini_X0, by decide +kernel, by decide⟩, (a_inG 755 (by decide +kernel) rfl), (a_inG 47 (by decide +kernel) rfl)⟩
theorem k_mX0_firstWrong : a_cv mX0_firstWrong 1 := ⟨⟨(a_inG 764 (by decide +kernel) rfl), ini_X0, by decide +kernel, by decide⟩, (a_inG 763 (by decide +kernel) rfl), (a_inG 48 (by decide +kernel) rfl)⟩
theorem k_mX1_init : a_ci mX1_init 0 := ⟨⟨(a_inG 192 (by decide +kernel) rfl), ini_X1, by decide +kernel, by decide⟩, rfl, rfl, (a_inG 191 (by decide +kernel) rfl)⟩
theorem k_mX1_begin : a_cv mX1_begin 0 := ⟨⟨(a_inG 197 (by decide +kernel) rfl), ini_X1, by decide +kernel, by decide⟩, (a_inG 196 (by decide +kernel) rfl), (a_inG 0 (by decide +kernel) rfl)⟩
theorem k_mX1_copy : a_cv mX1_copy 1 := ⟨⟨(a_inG 525 (by decide +kernel) rfl), ini_X1, by decide +kernel, by decide⟩, (a_inG 524 (by decide +kernel) rfl), (a_inG 26 (by decide +kernel) rfl)⟩
theorem k_mX1_counts : a_cv mX1_counts 1 := ⟨⟨(a_inG 561 (by decide +kernel) rfl), ini_X1, by decide +kernel, by decide⟩, (a_inG 560 (by decide +kernel) rfl), (a_inG 32 (by decide +kernel) rfl)⟩
theorem k_mX1_which : a_cv mX1_which 2 := ⟨⟨(a_inG 490 (by decide +kernel) rfl), ini_X1, by decide +kernel, by decide⟩, (a_inG 489 (by decide +kernel) rfl), (a_inG 21 (by decide +kernel) rfl)⟩
theorem k_mX2_init : a_ci mX2_init 0 := ⟨⟨(a_inG 324 (by decide +kernel) rfl), ini_X2, by decide +kernel, by decide⟩, rfl, rfl, (a_inG 323 (by decide +kernel) rfl)⟩
theorem k_mX3_init : a_ci mX3_init 0 := ⟨⟨(a_inG 268 (by decide +kernel) rfl), ini_X3, by decide +kernel, by decide⟩, rfl, rfl, (a_inG 267 (by decide +kernel) rfl)⟩
theorem k_mX3_forget : a_cv mX3_forget 0 := ⟨⟨(a_inG 470 (by decide +kernel) rfl), ini_X3, by decide +kernel, by decide⟩, (a_inG 469 (by decide +kernel) rfl), (a_inG 18 (by decide +kernel) rfl)⟩
theorem k_mX3_push : a_cv mX3_push 1 := ⟨⟨(a_inG 521 (by decide +kernel) rfl), ini_X3, by decide +kernel, by decide⟩, (a_inG 520 (by decide +kernel) rfl), (a_inG 25 (by decide +kernel) rfl)⟩
theorem k_mX3_pop : a_cv mX3_pop 2 := ⟨⟨(a_inG 626 (by decide +kernel) rfl), ini_X3, by decide +kernel, by decide⟩, (a_inG 625 (by decide +kernel) rfl), (a_inG 39 (by decide +kernel) rfl)⟩
theorem k_mX4_init : a_ci mX4_init 3 := ⟨⟨(a_inG 652 (by decide +kernel) rfl), ini_X4, by decide +kernel, by decide⟩, rfl, rfl, (a_inG 651 (by decide +kernel) rfl)⟩
theorem k_mX4_seek : a_cv mX4_seek 0 := ⟨⟨(a_inG 687 (by decide +kernel) rfl), ini_X4, by decide +kernel, by decide⟩, (a_inG 686 (by decide +kernel) rfl), (a_inG 40 (by decide +kernel) rfl)⟩
theorem k_mX4_extend : a_cs mX4_extend 7 := ⟨⟨(a_inG 690 (by decide +kernel) rfl), ini_X4, by decide +kernel, by decide⟩, (a_inG 689 (by decide +kernel) rfl)⟩
theorem k_mX4_canBeat : a_cv mX4_canBeat 2 := ⟨⟨(a_inG 695 (by decide +kernel) rfl), ini_X4, by decide +kernel, by decide⟩, (a_inG 694 (by decide +kernel) rfl), (a_inG 41 (by decide +kernel) rfl)⟩
theorem k_mX4_settle : a_cv mX4_settle 3 := ⟨⟨(a_inG 699 (by decide +kernel) rfl), ini_X4, by decide +kernel, by decide⟩, (a_inG 698 (by decide +kernel) rfl), (a_inG 42 (by decide +kernel) rfl)⟩
theorem k_mX5_init : a_ci mX5_init 0 := ⟨⟨(a_inG 288 (by decide +kernel) rfl), ini_X5, by decide +kernel, by decide⟩, rfl, rfl, (a_inG 287 (by decide +kernel) rfl)⟩
theorem k_mX5_forget : a_cv mX5_forget 0 := ⟨⟨(a_inG 474 (by decide +kernel) rfl), ini_X5, by decide +kernel, by decide⟩, (a_inG 473 (by decide +kernel) rfl), (a_inG 19 (by decide +kernel) rfl)⟩
theorem k_mX5_add : a_cv mX5_add 2 := ⟨⟨(a_inG 732 (by decide +kernel) rfl), ini_X5, by decide +kernel, by decide⟩, (a_inG 731 (by decide +kernel) rfl), (a_inG 44 (by decide +kernel) rfl)⟩
theorem k_mX5_fits : a_cv mX5_fits 1 := ⟨⟨(a_inG 740 (by decide +kernel) rfl), ini_X5, by decide +kernel, by decide⟩, (a_inG 739 (by decide +kernel) rfl), (a_inG 45 (by decide +kernel) rfl)⟩
theorem k_mX6_init : a_ci mX6_init 0 := ⟨⟨(a_inG 133 (by decide +kernel) rfl), ini_X6, by decide +kernel, by decide⟩, rfl, rfl, (a_inG 132 (by decide +kernel) rfl)⟩
theorem k_mX6_begin : a_cv mX6_begin 0 := ⟨⟨(a_inG 402 (by decide +kernel) rfl), ini_X6, by decide +kernel, by decide⟩, (a_inG 401 (by decide +kernel) rfl), (a_inG 3 (by decide +kernel) rfl)⟩
theorem k_mX6_copy : a_cv mX6_copy 1 := ⟨⟨(a_inG 462 (by decide +kernel) rfl), ini_X6, by decide +kernel, by decide⟩, (a_inG 461 (by decide +kernel) rfl), (a_inG 17 (by decide +kernel) rfl)⟩
theorem k_mX6_addStop : a_cv mX6_addStop 3 := ⟨⟨(a_inG 438 (by decide +kernel) rfl), ini_X6, by decide +kernel, by decide⟩, (a_inG 437 (by decide +kernel) rfl), (a_inG 11 (by decide +kernel) rfl)⟩
theorem k_mX6_addDin : a_cv mX6_addDin 1 := ⟨⟨(a_inG 446 (by decide +kernel) rfl), ini_X6, by decide +kernel, by decide⟩, (a_inG 445 (by decide +kernel) rfl), (a_inG 13 (by decide +kernel) rfl)⟩
theorem k_mX6_has : a_cv mX6_has 1 := ⟨⟨(a_inG 454 (by decide +kernel) rfl), ini_X6, by decide +kernel, by decide⟩, (a_inG 453 (by decide +kernel) rfl), (a_inG 15 (by decide +kernel) rfl)⟩
theorem k_mX6_isWay : a_cv mX6_isWay 1 := ⟨⟨(a_inG 516 (by decide +kernel) rfl), ini_X6, by decide +kernel, by decide⟩, (a_inG 515 (by decide +kernel) rfl), (a_inG 24 (by decide +kernel) rfl)⟩
theorem k_mX6_risingWay : a_cv mX6_risingWay 0 := ⟨⟨(a_inG 606 (by decide +kernel) rfl), ini_X6, by decide +kernel, by decide⟩, (a_inG 605 (by decide +kernel) rfl), (a_inG 36 (by decide +kernel) rfl)⟩
theorem k_mX6_dinOf : a_cv mX6_dinOf 1 := ⟨⟨(a_inG 504 (by decide +kernel) rfl), ini_X6, by decide +kernel, by decide⟩, (a_inG 503 (by decide +kernel) rfl), (a_inG 22 (by decide +kernel) rfl)⟩
theorem k_mX6_isIn : a_cv mX6_isIn 2 := ⟨⟨(a_inG 572 (by decide +kernel) rfl), ini_X6, by decide +kernel, by decide⟩, (a_inG 571 (by decide +kernel) rfl), (a_inG 34 (by decide +kernel) rfl)⟩
theorem k_mX6_meets : a_cv mX6_meets 4 := ⟨⟨(a_inG 568 (by decide +kernel) rfl), ini_X6, by decide +kernel, by decide⟩, (a_inG 567 (by decide +kernel) rfl), (a_inG 33 (by decide +kernel) rfl)⟩
theorem k_mX6_secondsAtDoor : a_cv mX6_secondsAtDoor 2 := ⟨⟨(a_inG 578 (by decide +kernel) rfl), ini_X6, by decide +kernel, by decide⟩, (a_inG 577 (by decide +kernel) rfl), (a_inG 35 (by decide +kernel) rfl)⟩
theorem k_mX6_secondsBetween : a_cv mX6_secondsBetween 2 := ⟨⟨(a_inG 554 (by decide +kernel) rfl), ini_X6, by decide +kernel, by decide⟩, (a_inG 553 (by decide +kernel) rfl), (a_inG 31 (by decide +kernel) rfl)⟩
theorem k_mX6_countNear : a_cv mX6_countNear 3 := ⟨⟨(a_inG 714 (by decide +kernel) rfl), ini_X6, by decide +kernel, by decide⟩, (a_inG 713 (by decide +kernel) rfl), (a_inG 43 (by decide +kernel) rfl)⟩
theorem k_mX7_init : a_ci mX7_init 0 := ⟨⟨(a_inG 104 (by decide +kernel) rfl), ini_X7, by decide +kernel, by decide⟩, rfl, rfl, (a_inG 103 (by decide +kernel) rfl)⟩
theorem k_mX7_add : a_cv mX7_add 1 := ⟨⟨(a_inG 389 (by decide +kernel) rfl), ini_X7, by decide +kernel, by decide⟩, (a_inG 388 (by decide +kernel) rfl), (a_inG 1 (by decide +kernel) rfl)⟩
theorem k_mX7_empty : a_cv mX7_empty 0 := ⟨⟨(a_inG 458 (by decide +kernel) rfl), ini_X7, by decide +kernel, by decide⟩, (a_inG 457 (by decide +kernel) rfl), (a_inG 16 (by decide +kernel) rfl)⟩
theorem k_mX7_readInto : a_cv mX7_readInto 1 := ⟨⟨(a_inG 398 (by decide +kernel) rfl), ini_X7, by decide +kernel, by decide⟩, (a_inG 397 (by decide +kernel) rfl), (a_inG 2 (by decide +kernel) rfl)⟩
theorem k_mX7_readClause : a_cv mX7_readClause 2 := ⟨⟨(a_inG 411 (by decide +kernel) rfl), ini_X7, by decide +kernel, by decide⟩, (a_inG 410 (by decide +kernel) rfl), (a_inG 5 (by decide +kernel) rfl)⟩
theorem k_mX7_readVan : a_cv mX7_readVan 2 := ⟨⟨(a_inG 419 (by decide +kernel) rfl), ini_X7, by decide +kernel, by decide⟩, (a_inG 418 (by decide +kernel) rfl), (a_inG 7 (by decide +kernel) rfl)⟩
theorem k_mX7_readStop : a_cv mX7_readStop 1 := ⟨⟨(a_inG 434 (by decide +kernel) rfl), ini_X7, by decide +kernel, by decide⟩, (a_inG 433 (by decide +kernel) rfl), (a_inG 10 (by decide +kernel) rfl)⟩
theorem k_mX7_readDin : a_cv mX7_readDin 1 := ⟨⟨(a_inG 442 (by decide +kernel) rfl), ini_X7, by decide +kernel, by decide⟩, (a_inG 441 (by decide +kernel) rfl), (a_inG 12 (by decide +kernel) rfl)⟩
theorem k_mX7_readNeighbour : a_cv mX7_readNeighbour 1 := ⟨⟨(a_inG 450 (by decide +kernel) rfl), ini_X7, by decide +kernel, by decide⟩, (a_inG 449 (by decide +kernel) rfl), (a_inG 14 (by decide +kernel) rfl)⟩
theorem k_mX7_number : a_cv mX7_number 2 := ⟨⟨(a_inG 423 (by decide +kernel) rfl), ini_X7, by decide +kernel, by decide⟩, (a_inG 422 (by decide +kernel) rfl), (a_inG 8 (by decide +kernel) rfl)⟩
theorem k_mX7_endClause : a_cv mX7_endClause 0 := ⟨⟨(a_inG 430 (by decide +kernel) rfl), ini_X7, by decide +kernel, by decide⟩, (a_inG 429 (by decide +kernel) rfl), (a_inG 9 (by decide +kernel) rfl)⟩
theorem k_mX7_peek : a_cv mX7_peek 0 := ⟨⟨(a_inG 406 (by decide +kernel) rfl), ini_X7, by decide +kernel, by decide⟩, (a_inG 405 (by decide +kernel) rfl), (a_inG 4 (by decide +kernel) rfl)⟩
theorem k_mX7_isFigure : a_cs mX7_isFigure 1 := ⟨⟨(a_inG 426 (by decide +kernel) rfl), ini_X7, by decide +kernel, by decide⟩, (a_inG 425 (by decide +kernel) rfl)⟩
theorem k_mX7_fail : a_cv mX7_fail 2 := ⟨⟨(a_inG 415 (by decide +kernel) rfl), ini_X7, by decide +kernel, by decide⟩, (a_inG 414 (by decide +kernel) rfl), (a_inG 6 (by decide +kernel) rfl)⟩
theorem k_mX8_init : a_ci mX8_init 0 := ⟨⟨(a_inG 230 (by decide +kernel) rfl), ini_X8, by decide +kernel, by decide⟩, rfl, rfl, (a_inG 229 (by decide +kernel) rfl)⟩
theorem k_mX8_run : a_cv mX8_run 4 := ⟨⟨(a_inG 537 (by decide +kernel) rfl), ini_X8, by decide +kernel, by decide⟩, (a_inG 536 (by decide +kernel) rfl), (a_inG 28 (by decide +kernel) rfl)⟩
theorem k_mX8_begin : a_cv mX8_begin 1 := ⟨⟨(a_inG 541 (by decide +kernel) rfl), ini_X8, by decide +kernel, by decide⟩, (a_inG 540 (by decide +kernel) rfl), (a_inG 29 (by decide +kernel) rfl)⟩
theorem k_mX8_firstUnit : a_cs mX8_firstUnit 1 := ⟨⟨(a_inG 545 (by decide +kernel) rfl), ini_X8, by decide +kernel, by decide⟩, (a_inG 544 (by decide +kernel) rfl)⟩
theorem k_mX8_call : a_cv mX8_call 3 := ⟨⟨(a_inG 550 (by decide +kernel) rfl), ini_X8, by decide +kernel, by decide⟩, (a_inG 549 (by decide +kernel) rfl), (a_inG 30 (by decide +kernel) rfl)⟩
theorem k_mX9_init : a_ci mX9_init 0 := ⟨⟨(a_inG 96 (by decide +kernel) rfl), ini_X9, by decide +kernel, by decide⟩, rfl, rfl, (a_inG 95 (by decide +kernel) rfl)⟩
theorem k_mX9_feed : a_cv mX9_feed 1 := ⟨⟨(a_inG 381 (by decide +kernel) rfl), ini_X9, by decide +kernel, by decide⟩, (a_inG 379 (by decide +kernel) rfl), (a_inG 380 (by decide +kernel) rfl)⟩
theorem k_mX9_street : a_cv mX9_street 0 := ⟨⟨(a_inG 394 (by decide +kernel) rfl), ini_X9, by decide +kernel, by decide⟩, (a_inG 392 (by decide +kernel) rfl), (a_inG 393 (by decide +kernel) rfl)⟩
theorem k_mX9_fault : a_cv mX9_fault 0 := ⟨⟨(a_inG 482 (by decide +kernel) rfl), ini_X9, by decide +kernel, by decide⟩, (a_inG 480 (by decide +kernel) rfl), (a_inG 481 (by decide +kernel) rfl)⟩
theorem k_mX9_told : a_cv mX9_told 1 := ⟨⟨(a_inG 486 (by decide +kernel) rfl), ini_X9, by decide +kernel, by decide⟩, (a_inG 484 (by decide +kernel) rfl), (a_inG 485 (by decide +kernel) rfl)⟩
theorem k_mX9_stop : a_cv mX9_stop 2 := ⟨⟨(a_inG 494 (by decide +kernel) rfl), ini_X9, by decide +kernel, by decide⟩, (a_inG 492 (by decide +kernel) rfl), (a_inG 493 (by decide +kernel) rfl)⟩
theorem k_mX9_din : a_cv mX9_din 1 := ⟨⟨(a_inG 500 (by decide +kernel) rfl), ini_X9, by decide +kernel, by decide⟩, (a_inG 498 (by decide +kernel) rfl), (a_inG 499 (by decide +kernel) rfl)⟩
theorem k_mX9_round : a_cv mX9_round 2 := ⟨⟨(a_inG 508 (by decide +kernel) rfl), ini_X9, by decide +kernel, by decide⟩, (a_inG 506 (by decide +kernel) rfl), (a_inG 507 (by decide +kernel) rfl)⟩
theorem k_mX9_fetch : a_cv mX9_fetch 1 := ⟨⟨(a_inG 589 (by decide +kernel) rfl), ini_X9, by decide +kernel, by decide⟩, (a_inG 587 (by decide +kernel) rfl), (a_inG 588 (by decide +kernel) rfl)⟩
theorem k_mX9_order : a_cv mX9_order 1 := ⟨⟨(a_inG 594 (by decide +kernel) rfl), ini_X9, by decide +kernel, by decide⟩, (a_inG 592 (by decide +kernel) rfl), (a_inG 593 (by decide +kernel) rfl)⟩
theorem k_mX9_thank : a_cv mX9_thank 1 := ⟨⟨(a_inG 598 (by decide +kernel) rfl), ini_X9, by decide +kernel, by decide⟩, (a_inG 596 (by decide +kernel) rfl), (a_inG 597 (by decide +kernel) rfl)⟩
theorem k_mX9_drift : a_cv mX9_drift 1 := ⟨⟨(a_inG 602 (by decide +kernel) rfl), ini_X9, by decide +kernel, by decide⟩, (a_inG 600 (by decide +kernel) rfl), (a_inG 601 (by decide +kernel) rfl)⟩
theorem k_mX9_undo : a_cv mX9_undo 1 := ⟨⟨(a_inG 622 (by decide +kernel) rfl), ini_X9, by decide +kernel, by decide⟩, (a_inG 620 (by decide +kernel) rfl), (a_inG 621 (by decide +kernel) rfl)⟩
theorem k_mX9_comes : a_cv mX9_comes 3 := ⟨⟨(a_inG 631 (by decide +kernel) rfl), ini_X9, by decide +kernel, by decide⟩, (a_inG 629 (by decide +kernel) rfl), (a_inG 630 (by decide +kernel) rfl)⟩
theorem k_mX9_home : a_cv mX9_home 2 := ⟨⟨(a_inG 635 (by decide +kernel) rfl), ini_X9, by decide +kernel, by decide⟩, (a_inG 633 (by decide +kernel) rfl), (a_inG 634 (by decide +kernel) rfl)⟩
theorem k_mX9_outcome : a_cv mX9_outcome 2 := ⟨⟨(a_inG 639 (by decide +kernel) rfl), ini_X9, by decide +kernel, by decide⟩, (a_inG 637 (by decide +kernel) rfl), (a_inG 638 (by decide +kernel) rfl)⟩
theorem k_mX9_bath : a_cv mX9_bath 4 := ⟨⟨(a_inG 643 (by decide +kernel) rfl), ini_X9, by decide +kernel, by decide⟩, (a_inG 641 (by decide +kernel) rfl), (a_inG 642 (by decide +kernel) rfl)⟩
theorem k_mX9_bestWay : a_cv mX9_bestWay 2 := ⟨⟨(a_inG 647 (by decide +kernel) rfl), ini_X9, by decide +kernel, by decide⟩, (a_inG 645 (by decide +kernel) rfl), (a_inG 646 (by decide +kernel) rfl)⟩
theorem k_mX9_pretends : a_cv mX9_pretends 3 := ⟨⟨(a_inG 706 (by decide +kernel) rfl), ini_X9, by decide +kernel, by decide⟩, (a_inG 704 (by decide +kernel) rfl), (a_inG 705 (by decide +kernel) rfl)⟩
theorem k_mX9_locker : a_cv mX9_locker 3 := ⟨⟨(a_inG 710 (by decide +kernel) rfl), ini_X9, by decide +kernel, by decide⟩, (a_inG 708 (by decide +kernel) rfl), (a_inG 709 (by decide +kernel) rfl)⟩
theorem k_mX9_bears : a_cv mX9_bears 1 := ⟨⟨(a_inG 718 (by decide +kernel) rfl), ini_X9, by decide +kernel, by decide⟩, (a_inG 716 (by decide +kernel) rfl), (a_inG 717 (by decide +kernel) rfl)⟩
theorem k_mX9_heard : a_cv mX9_heard 2 := ⟨⟨(a_inG 722 (by decide +kernel) rfl), ini_X9, by decide +kernel, by decide⟩, (a_inG 720 (by decide +kernel) rfl), (a_inG 721 (by decide +kernel) rfl)⟩
theorem k_mX9_see : a_cv mX9_see 2 := ⟨⟨(a_inG 728 (by decide +kernel) rfl), ini_X9, by decide +kernel, by decide⟩, (a_inG 726 (by decide +kernel) rfl), (a_inG 727 (by decide +kernel) rfl)⟩
theorem k_mX9_rang : a_cv mX9_rang 2 := ⟨⟨(a_inG 736 (by decide +kernel) rfl), ini_X9, by decide +kernel, by decide⟩, (a_inG 734 (by decide +kernel) rfl), (a_inG 735 (by decide +kernel) rfl)⟩
theorem k_mX9_write : a_cv mX9_write 2 := ⟨⟨(a_inG 752 (by decide +kernel) rfl), ini_X9, by decide +kernel, by decide⟩, (a_inG 750 (by decide +kernel) rfl), (a_inG 751 (by decide +kernel) rfl)⟩
theorem k_mX9_judge : a_cv mX9_judge 0 := ⟨⟨(a_inG 760 (by decide +kernel) rfl), ini_X9, by decide +kernel, by decide⟩, (a_inG 758 (by decide +kernel) rfl), (a_inG 759 (by decide +kernel) rfl)⟩
theorem k_mX9_tear : a_cv mX9_tear 0 := ⟨⟨(a_inG 768 (by decide +kernel) rfl), ini_X9, by decide +kernel, by decide⟩, (a_inG 766 (by decide +kernel) rfl), (a_inG 767 (by decide +kernel) rfl)⟩
theorem k_mX9_seed : a_cv mX9_seed 1 := ⟨⟨(a_inG 772 (by decide +kernel) rfl), ini_X9, by decide +kernel, by decide⟩, (a_inG 770 (by decide +kernel) rfl), (a_inG 771 (by decide +kernel) rfl)⟩
theorem k_mX9_keep : a_cv mX9_keep 1 := ⟨⟨(a_inG 776 (by decide +kernel) rfl), ini_X9, by decide +kernel, by decide⟩, (a_inG 774 (by decide +kernel) rfl), (a_inG 775 (by decide +kernel) rfl)⟩
theorem k_mX9_goBack : a_cv mX9_goBack 1 := ⟨⟨(a_inG 780 (by decide +kernel) rfl), ini_X9, by decide +kernel, by decide⟩, (a_inG 778 (by decide +kernel) rfl), (a_inG 779 (by decide +kernel) rfl)⟩
theorem k_mX9_within : a_cs mX9_within 3 := ⟨⟨(a_inG 384 (by decide +kernel) rfl), ini_X9, by decide +kernel, by decide⟩, (a_inG 383 (by decide +kernel) rfl)⟩
theorem k_mX9_ringsAt : a_cs mX9_ringsAt 2 := ⟨⟨(a_inG 564 (by decide +kernel) rfl), ini_X9, by decide +kernel, by decide⟩, (a_inG 563 (by decide +kernel) rfl)⟩
theorem k_mX9_refusalOfTrip : a_cv mX9_refusalOfTrip 2 := ⟨⟨(a_inG 512 (by decide +kernel) rfl), ini_X9, by decide +kernel, by decide⟩, (a_inG 511 (by decide +kernel) rfl), (a_inG 23 (by decide +kernel) rfl)⟩
theorem k_mX9_drive : a_cv mX9_drive 2 := ⟨⟨(a_inG 533 (by decide +kernel) rfl), ini_X9, by decide +kernel, by decide⟩, (a_inG 532 (by decide +kernel) rfl), (a_inG 27 (by decide +kernel) rfl)⟩
theorem k_mX9_draw : a_cv mX9_draw 1 := ⟨⟨(a_inG 614 (by decide +kernel) rfl), ini_X9, by decide +kernel, by decide⟩, (a_inG 613 (by decide +kernel) rfl), (a_inG 38 (by decide +kernel) rfl)⟩
theorem k_mX9_orderByDraw : a_cv mX9_orderByDraw 0 := ⟨⟨(a_inG 610 (by decide +kernel) rfl), ini_X9, by decide +kernel, by decide⟩, (a_inG 609 (by decide +kernel) rfl), (a_inG 37 (by decide +kernel) rfl)⟩
theorem k_mX9_bestToAsk : a_cv mX9_bestToAsk 1 := ⟨⟨(a_inG 744 (by decide +kernel) rfl), ini_X9, by decide +kernel, by decide⟩, (a_inG 743 (by decide +kernel) rfl), (a_inG 46 (by decide +kernel) rfl)⟩
theorem k_mX10_init : a_ci mX10_init 0 := ⟨⟨(a_inG 785 (by decide +kernel) rfl), ini_X10, by decide +kernel, by decide⟩, rfl, rfl, (a_inG 784 (by decide +kernel) rfl)⟩
theorem k_mX10_in : a_cs mX10_in 3 := ⟨⟨(a_inG 888 (by decide +kernel) rfl), ini_X10, by decide +kernel, by decide⟩, (a_inG 887 (by decide +kernel) rfl)⟩
theorem k_mX10_one : a_cs mX10_one 1 := ⟨⟨(a_inG 952 (by decide +kernel) rfl), ini_X10, by decide +kernel, by decide⟩, (a_inG 951 (by decide +kernel) rfl)⟩
theorem k_mX10_has : a_cs mX10_has 2 := ⟨⟨(a_inG 981 (by decide +kernel) rfl), ini_X10, by decide +kernel, by decide⟩, (a_inG 980 (by decide +kernel) rfl)⟩
theorem k_mX10_far : a_cs mX10_far 2 := ⟨⟨(a_inG 1006 (by decide +kernel) rfl), ini_X10, by decide +kernel, by decide⟩, (a_inG 1005 (by decide +kernel) rfl)⟩
theorem k_mX10_feed : a_cv mX10_feed 1 := ⟨⟨(a_inG 884 (by decide +kernel) rfl), ini_X10, by decide +kernel, by decide⟩, (a_inG 882 (by decide +kernel) rfl), (a_inG 883 (by decide +kernel) rfl)⟩
theorem k_mX10_here : a_cv mX10_here 0 := ⟨⟨(a_inG 898 (by decide +kernel) rfl), ini_X10, by decide +kernel, by decide⟩, (a_inG 897 (by decide +kernel) rfl), (a_inG 49 (by decide +kernel) rfl)⟩
theorem k_mX10_want : a_cv mX10_want 3 := ⟨⟨(a_inG 906 (by decide +kernel) rfl), ini_X10, by decide +kernel, by decide⟩, (a_inG 905 (by decide +kernel) rfl), (a_inG 51 (by decide +kernel) rfl)⟩
theorem k_mX10_takeNumber : a_cv mX10_takeNumber 0 := ⟨⟨(a_inG 918 (by decide +kernel) rfl), ini_X10, by decide +kernel, by decide⟩, (a_inG 917 (by decide +kernel) rfl), (a_inG 54 (by decide +kernel) rfl)⟩
theorem k_mX10_takeIn : a_cv mX10_takeIn 2 := ⟨⟨(a_inG 914 (by decide +kernel) rfl), ini_X10, by decide +kernel, by decide⟩, (a_inG 913 (by decide +kernel) rfl), (a_inG 53 (by decide +kernel) rfl)⟩
theorem k_mX10_takeRule : a_cv mX10_takeRule 1 := ⟨⟨(a_inG 910 (by decide +kernel) rfl), ini_X10, by decide +kernel, by decide⟩, (a_inG 909 (by decide +kernel) rfl), (a_inG 52 (by decide +kernel) rfl)⟩
theorem k_mX10_takeStop : a_cv mX10_takeStop 1 := ⟨⟨(a_inG 925 (by decide +kernel) rfl), ini_X10, by decide +kernel, by decide⟩, (a_inG 924 (by decide +kernel) rfl), (a_inG 55 (by decide +kernel) rfl)⟩
theorem k_mX10_takeDins : a_cv mX10_takeDins 1 := ⟨⟨(a_inG 929 (by decide +kernel) rfl), ini_X10, by decide +kernel, by decide⟩, (a_inG 928 (by decide +kernel) rfl), (a_inG 56 (by decide +kernel) rfl)⟩
theorem k_mX10_takeNeighbour : a_cv mX10_takeNeighbour 0 := ⟨⟨(a_inG 933 (by decide +kernel) rfl), ini_X10, by decide +kernel, by decide⟩, (a_inG 932 (by decide +kernel) rfl), (a_inG 57 (by decide +kernel) rfl)⟩
theorem k_mX10_takeClause : a_cv mX10_takeClause 0 := ⟨⟨(a_inG 902 (by decide +kernel) rfl), ini_X10, by decide +kernel, by decide⟩, (a_inG 901 (by decide +kernel) rfl), (a_inG 50 (by decide +kernel) rfl)⟩
theorem k_mX10_street : a_cv mX10_street 0 := ⟨⟨(a_inG 894 (by decide +kernel) rfl), ini_X10, by decide +kernel, by decide⟩, (a_inG 892 (by decide +kernel) rfl), (a_inG 893 (by decide +kernel) rfl)⟩
theorem k_mX10_take : a_cv mX10_take 0 := ⟨⟨(a_inG 937 (by decide +kernel) rfl), ini_X10, by decide +kernel, by decide⟩, (a_inG 936 (by decide +kernel) rfl), (a_inG 58 (by decide +kernel) rfl)⟩
theorem k_mX10_fault : a_cv mX10_fault 0 := ⟨⟨(a_inG 941 (by decide +kernel) rfl), ini_X10, by decide +kernel, by decide⟩, (a_inG 939 (by decide +kernel) rfl), (a_inG 940 (by decide +kernel) rfl)⟩
theorem k_mX10_isStop : a_cv mX10_isStop 1 := ⟨⟨(a_inG 960 (by decide +kernel) rfl), ini_X10, by decide +kernel, by decide⟩, (a_inG 959 (by decide +kernel) rfl), (a_inG 60 (by decide +kernel) rfl)⟩
theorem k_mX10_figures : a_cs mX10_figures 1 := ⟨⟨(a_inG 1000 (by decide +kernel) rfl), ini_X10, by decide +kernel, by decide⟩, (a_inG 999 (by decide +kernel) rfl)⟩
theorem k_mX10_stopOf : a_cs mX10_stopOf 2 := ⟨⟨(a_inG 1003 (by decide +kernel) rfl), ini_X10, by decide +kernel, by decide⟩, (a_inG 1002 (by decide +kernel) rfl)⟩
theorem k_mX10_isWay : a_cv mX10_isWay 1 := ⟨⟨(a_inG 978 (by decide +kernel) rfl), ini_X10, by decide +kernel, by decide⟩, (a_inG 977 (by decide +kernel) rfl), (a_inG 62 (by decide +kernel) rfl)⟩
theorem k_mX10_isHaste : a_cs mX10_isHaste 1 := ⟨⟨(a_inG 984 (by decide +kernel) rfl), ini_X10, by decide +kernel, by decide⟩, (a_inG 983 (by decide +kernel) rfl)⟩
theorem k_mX10_which : a_cv mX10_which 1 := ⟨⟨(a_inG 949 (by decide +kernel) rfl), ini_X10, by decide +kernel, by decide⟩, (a_inG 948 (by decide +kernel) rfl), (a_inG 59 (by decide +kernel) rfl)⟩
theorem k_mX10_told : a_cv mX10_told 1 := ⟨⟨(a_inG 945 (by decide +kernel) rfl), ini_X10, by decide +kernel, by decide⟩, (a_inG 943 (by decide +kernel) rfl), (a_inG 944 (by decide +kernel) rfl)⟩
theorem k_mX10_stop : a_cv mX10_stop 2 := ⟨⟨(a_inG 956 (by decide +kernel) rfl), ini_X10, by decide +kernel, by decide⟩, (a_inG 954 (by decide +kernel) rfl), (a_inG 955 (by decide +kernel) rfl)⟩
theorem k_mX10_dinAt : a_cv mX10_dinAt 1 := ⟨⟨(a_inG 970 (by decide +kernel) rfl), ini_X10, by decide +kernel, by decide⟩, (a_inG 969 (by decide +kernel) rfl), (a_inG 61 (by decide +kernel) rfl)⟩
theorem k_mX10_din : a_cv mX10_din 1 := ⟨⟨(a_inG 965 (by decide +kernel) rfl), ini_X10, by decide +kernel, by decide⟩, (a_inG 963 (by decide +kernel) rfl), (a_inG 964 (by decide +kernel) rfl)⟩
theorem k_mX10_isInAt : a_cv mX10_isInAt 2 := ⟨⟨(a_inG 1014 (by decide +kernel) rfl), ini_X10, by decide +kernel, by decide⟩, (a_inG 1013 (by decide +kernel) rfl), (a_inG 67 (by decide +kernel) rfl)⟩
theorem k_mX10_visit : a_cv mX10_visit 4 := ⟨⟨(a_inG 1010 (by decide +kernel) rfl), ini_X10, by decide +kernel, by decide⟩, (a_inG 1009 (by decide +kernel) rfl), (a_inG 66 (by decide +kernel) rfl)⟩
theorem k_mX10_roundIn : a_cv mX10_roundIn 3 := ⟨⟨(a_inG 997 (by decide +kernel) rfl), ini_X10, by decide +kernel, by decide⟩, (a_inG 996 (by decide +kernel) rfl), (a_inG 65 (by decide +kernel) rfl)⟩
theorem k_mX10_tryRound : a_cv mX10_tryRound 2 := ⟨⟨(a_inG 1053 (by decide +kernel) rfl), ini_X10, by decide +kernel, by decide⟩, (a_inG 1052 (by decide +kernel) rfl), (a_inG 69 (by decide +kernel) rfl)⟩
theorem k_mX10_copy : a_cv mX10_copy 2 := ⟨⟨(a_inG 993 (by decide +kernel) rfl), ini_X10, by decide +kernel, by decide⟩, (a_inG 992 (by decide +kernel) rfl), (a_inG 64 (by decide +kernel) rfl)⟩
theorem k_mX10_remember : a_cv mX10_remember 0 := ⟨⟨(a_inG 989 (by decide +kernel) rfl), ini_X10, by decide +kernel, by decide⟩, (a_inG 988 (by decide +kernel) rfl), (a_inG 63 (by decide +kernel) rfl)⟩
theorem k_mX10_round : a_cv mX10_round 2 := ⟨⟨(a_inG 974 (by decide +kernel) rfl), ini_X10, by decide +kernel, by decide⟩, (a_inG 972 (by decide +kernel) rfl), (a_inG 973 (by decide +kernel) rfl)⟩
theorem k_mX10_fetch : a_cv mX10_fetch 1 := ⟨⟨(a_inG 1018 (by decide +kernel) rfl), ini_X10, by decide +kernel, by decide⟩, (a_inG 1016 (by decide +kernel) rfl), (a_inG 1017 (by decide +kernel) rfl)⟩
theorem k_mX10_order : a_cv mX10_order 1 := ⟨⟨(a_inG 1023 (by decide +kernel) rfl), ini_X10, by decide +kernel, by decide⟩, (a_inG 1021 (by decide +kernel) rfl), (a_inG 1022 (by decide +kernel) rfl)⟩
theorem k_mX10_thank : a_cv mX10_thank 1 := ⟨⟨(a_inG 1027 (by decide +kernel) rfl), ini_X10, by decide +kernel, by decide⟩, (a_inG 1025 (by decide +kernel) rfl), (a_inG 1026 (by decide +kernel) rfl)⟩
theorem k_mX10_draw : a_cv mX10_draw 1 := ⟨⟨(a_inG 1036 (by decide +kernel) rfl), ini_X10, by decide +kernel, by decide⟩, (a_inG 1035 (by decide +kernel) rfl), (a_inG 68 (by decide +kernel) rfl)⟩
theorem k_mX10_drift : a_cv mX10_drift 1 := ⟨⟨(a_inG 1031 (by decide +kernel) rfl), ini_X10, by decide +kernel, by decide⟩, (a_inG 1029 (by decide +kernel) rfl), (a_inG 1030 (by decide +kernel) rfl)⟩
theorem k_mX10_undo : a_cv mX10_undo 1 := ⟨⟨(a_inG 1044 (by decide +kernel) rfl), ini_X10, by decide +kernel, by decide⟩, (a_inG 1042 (by decide +kernel) rfl), (a_inG 1043 (by decide +kernel) rfl)⟩
theorem k_mX10_comes : a_cv mX10_comes 3 := ⟨⟨(a_inG 1049 (by decide +kernel) rfl), ini_X10, by decide +kernel, by decide⟩, (a_inG 1047 (by decide +kernel) rfl), (a_inG 1048 (by decide +kernel) rfl)⟩
theorem k_mX10_home : a_cv mX10_home 2 := ⟨⟨(a_inG 1057 (by decide +kernel) rfl), ini_X10, by decide +kernel, by decide⟩, (a_inG 1055 (by decide +kernel) rfl), (a_inG 1056 (by decide +kernel) rfl)⟩
theorem k_mX10_outcome : a_cv mX10_outcome 2 := ⟨⟨(a_inG 1061 (by decide +kernel) rfl), ini_X10, by decide +kernel, by decide⟩, (a_inG 1059 (by decide +kernel) rfl), (a_inG 1060 (by decide +kernel) rfl)⟩
theorem k_mX10_comesTo : a_cv mX10_comesTo 2 := ⟨⟨(a_inG 1070 (by decide +kernel) rfl), ini_X10, by decide +kernel, by decide⟩, (a_inG 1069 (by decide +kernel) rfl), (a_inG 70 (by decide +kernel) rfl)⟩
theorem k_mX10_bath : a_cv mX10_bath 4 := ⟨⟨(a_inG 1065 (by decide +kernel) rfl), ini_X10, by decide +kernel, by decide⟩, (a_inG 1063 (by decide +kernel) rfl), (a_inG 1064 (by decide +kernel) rfl)⟩
theorem k_mX10_counting : a_cv mX10_counting 0 := ⟨⟨(a_inG 1079 (by decide +kernel) rfl), ini_X10, by decide +kernel, by decide⟩, (a_inG 1078 (by decide +kernel) rfl), (a_inG 71 (by decide +kernel) rfl)⟩
theorem k_mX10_wayOf : a_cv mX10_wayOf 1 := ⟨⟨(a_inG 1084 (by decide +kernel) rfl), ini_X10, by decide +kernel, by decide⟩, (a_inG 1083 (by decide +kernel) rfl), (a_inG 72 (by decide +kernel) rfl)⟩
theorem k_mX10_exchange : a_cv mX10_exchange 2 := ⟨⟨(a_inG 1092 (by decide +kernel) rfl), ini_X10, by decide +kernel, by decide⟩, (a_inG 1091 (by decide +kernel) rfl), (a_inG 74 (by decide +kernel) rfl)⟩
theorem k_mX10_nextRow : a_cv mX10_nextRow 1 := ⟨⟨(a_inG 1088 (by decide +kernel) rfl), ini_X10, by decide +kernel, by decide⟩, (a_inG 1087 (by decide +kernel) rfl), (a_inG 73 (by decide +kernel) rfl)⟩
theorem k_mX10_bestWay : a_cv mX10_bestWay 2 := ⟨⟨(a_inG 1074 (by decide +kernel) rfl), ini_X10, by decide +kernel, by decide⟩, (a_inG 1072 (by decide +kernel) rfl), (a_inG 1073 (by decide +kernel) rfl)⟩
theorem k_mX10_pretends : a_cv mX10_pretends 3 := ⟨⟨(a_inG 1096 (by decide +kernel) rfl), ini_X10, by decide +kernel, by decide⟩, (a_inG 1094 (by decide +kernel) rfl), (a_inG 1095 (by decide +kernel) rfl)⟩
theorem k_mX10_locker : a_cv mX10_locker 3 := ⟨⟨(a_inG 1100 (by decide +kernel) rfl), ini_X10, by decide +kernel, by decide⟩, (a_inG 1098 (by decide +kernel) rfl), (a_inG 1099 (by decide +kernel) rfl)⟩
theorem k_mX10_bears : a_cv mX10_bears 1 := ⟨⟨(a_inG 1104 (by decide +kernel) rfl), ini_X10, by decide +kernel, by decide⟩, (a_inG 1102 (by decide +kernel) rfl), (a_inG 1103 (by decide +kernel) rfl)⟩
theorem k_mX10_heard : a_cv mX10_heard 2 := ⟨⟨(a_inG 1108 (by decide +kernel) rfl), ini_X10, by decide +kernel, by decide⟩, (a_inG 1106 (by decide +kernel) rfl), (a_inG 1107 (by decide +kernel) rfl)⟩
theorem k_mX10_see : a_cv mX10_see 2 := ⟨⟨(a_inG 1115 (by decide +kernel) rfl), ini_X10, by decide +kernel, by decide⟩, (a_inG 1113 (by decide +kernel) rfl), (a_inG 1114 (by decide +kernel) rfl)⟩
theorem k_mX10_slipsBy : a_cv mX10_slipsBy 2 := ⟨⟨(a_inG 1127 (by decide +kernel) rfl), ini_X10, by decide +kernel, by decide⟩, (a_inG 1126 (by decide +kernel) rfl), (a_inG 76 (by decide +kernel) rfl)⟩
theorem k_mX10_findHastes : a_cv mX10_findHastes 1 := ⟨⟨(a_inG 1123 (by decide +kernel) rfl), ini_X10, by decide +kernel, by decide⟩, (a_inG 1122 (by decide +kernel) rfl), (a_inG 75 (by decide +kernel) rfl)⟩
theorem k_mX10_rang : a_cv mX10_rang 2 := ⟨⟨(a_inG 1119 (by decide +kernel) rfl), ini_X10, by decide +kernel, by decide⟩, (a_inG 1117 (by decide +kernel) rfl), (a_inG 1118 (by decide +kernel) rfl)⟩
theorem k_mX10_write : a_cv mX10_write 2 := ⟨⟨(a_inG 1131 (by decide +kernel) rfl), ini_X10, by decide +kernel, by decide⟩, (a_inG 1129 (by decide +kernel) rfl), (a_inG 1130 (by decide +kernel) rfl)⟩
theorem k_mX10_judge : a_cv mX10_judge 0 := ⟨⟨(a_inG 1136 (by decide +kernel) rfl), ini_X10, by decide +kernel, by decide⟩, (a_inG 1134 (by decide +kernel) rfl), (a_inG 1135 (by decide +kernel) rfl)⟩
theorem k_mX10_tear : a_cv mX10_tear 0 := ⟨⟨(a_inG 1140 (by decide +kernel) rfl), ini_X10, by decide +kernel, by decide⟩, (a_inG 1138 (by decide +kernel) rfl), (a_inG 1139 (by decide +kernel) rfl)⟩
theorem k_mX10_seed : a_cv mX10_seed 1 := ⟨⟨(a_inG 1144 (by decide +kernel) rfl), ini_X10, by decide +kernel, by decide⟩, (a_inG 1142 (by decide +kernel) rfl), (a_inG 1143 (by decide +kernel) rfl)⟩
theorem k_mX10_keep : a_cv mX10_keep 1 := ⟨⟨(a_inG 1148 (by decide +kernel) rfl), ini_X10, by decide +kernel, by decide⟩, (a_inG 1146 (by decide +kernel) rfl), (a_inG 1147 (by decide +kernel) rfl)⟩
theorem k_mX10_goBack : a_cv mX10_goBack 1 := ⟨⟨(a_inG 1152 (by decide +kernel) rfl), ini_X10, by decide +kernel, by decide⟩, (a_inG 1150 (by decide +kernel) rfl), (a_inG 1151 (by decide +kernel) rfl)⟩
theorem k_mJ6_bitCount_0f7a4 : a_cs mJ6_bitCount_0f7a4 1 := ⟨⟨(a_inG 581 (by decide +kernel) rfl), ini_J6, by decide +kernel, by decide⟩, (a_inG 580 (by decide +kernel) rfl)⟩
theorem k_mJ9_abs_0f7a4 : a_cs mJ9_abs_0f7a4 1 := ⟨⟨(a_inG 557 (by decide +kernel) rfl), ini_J9, by decide +kernel, by decide⟩, (a_inG 556 (by decide +kernel) rfl)⟩
theorem k_mJ9_max_7cf53 : a_cs mJ9_max_7cf53 2 := ⟨⟨(a_inG 748 (by decide +kernel) rfl), ini_J9, by decide +kernel, by decide⟩, (a_inG 747 (by decide +kernel) rfl)⟩
theorem k_mJ9_min_7cf53 : a_cs mJ9_min_7cf53 2 := ⟨⟨(a_inG 529 (by decide +kernel) rfl), ini_J9, by decide +kernel, by decide⟩, (a_inG 528 (by decide +kernel) rfl)⟩
theorem oi_in : Cond.instanceMethod objectInit ∈ gT := (a_inG 98 (by decide +kernel) rfl)
theorem oi_code : Cond.code objectInit ⟨#[0xb1]⟩ 1 none ∈ gT := (a_inG 99 (by decide +kernel) rfl)
theorem jm_abs_s : Cond.static Lib.Math.abs.name ∈ gT := (a_inG 556 (by decide +kernel) rfl)
theorem jm_abs_c : Cond.code Lib.Math.abs.name Lib.Math.abs.code 1 (some .int) ∈ gT := (a_inG 557 (by decide +kernel) rfl)
theorem jm_max_s : Cond.static Lib.Math.max.name ∈ gT := (a_inG 747 (by decide +kernel) rfl)
theorem jm_max_c : Cond.code Lib.Math.max.name Lib.Math.max.code 2 (some .int) ∈ gT := (a_inG 748 (by decide +kernel) rfl)
theorem jm_min_s : Cond.static Lib.Math.min.name ∈ gT := (a_inG 528 (by decide +kernel) rfl)
theorem jm_min_c : Cond.code Lib.Math.min.name Lib.Math.min.code 2 (some .int) ∈ gT := (a_inG 529 (by decide +kernel) rfl)
theorem jm_i : Cond.initialized "java/lang/Math" ∈ gT := (a_inG 89 (by decide +kernel) rfl)
theorem js_i : Cond.initialized "java/lang/System" ∈ gT := (a_inG 88 (by decide +kernel) rfl)
theorem js_n : Cond.native arraycopyName ∈ gT := (a_inG 465 (by decide +kernel) rfl)
theorem js_s : Cond.static arraycopyName ∈ gT := (a_inG 464 (by decide +kernel) rfl)
theorem cl_L_7 : Cond.classLink RL 7 RX9 ∈ gT := (a_inG 92 (by decide +kernel) rfl)
theorem cl_X9_7 : Cond.classLink RX9 7 RX7 ∈ gT := (a_inG 100 (by decide +kernel) rfl)
theorem cl_X9_16 : Cond.classLink RX9 16 RX6 ∈ gT := (a_inG 129 (by decide +kernel) rfl)
theorem cl_X9_26 : Cond.classLink RX9 26 RX1 ∈ gT := (a_inG 188 (by decide +kernel) rfl)
theorem cl_X9_36 : Cond.classLink RX9 36 RX8 ∈ gT := (a_inG 226 (by decide +kernel) rfl)
theorem cl_X8_9 : Cond.classLink RX8 9 RX1 ∈ gT := (a_inG 232 (by decide +kernel) rfl)
theorem cl_X9_43 : Cond.classLink RX9 43 RX3 ∈ gT := (a_inG 264 (by decide +kernel) rfl)
theorem cl_X3_9 : Cond.classLink RX3 9 RX1 ∈ gT := (a_inG 270 (by decide +kernel) rfl)
theorem cl_X9_50 : Cond.classLink RX9 50 RX5 ∈ gT := (a_inG 284 (by decide +kernel) rfl)
theorem cl_X9_57 : Cond.classLink RX9 57 RX0 ∈ gT := (a_inG 302 (by decide +kernel) rfl)
theorem cl_X9_64 : Cond.classLink RX9 64 RX2 ∈ gT := (a_inG 319 (by decide +kernel) rfl)
theorem cl_X2_7 : Cond.classLink RX2 7 RX1 ∈ gT := (a_inG 326 (by decide +kernel) rfl)
theorem cl_X9_221 : Cond.classLink RX9 221 RX4 ∈ gT := (a_inG 648 (by decide +kernel) rfl)
theorem cl_L_10 : Cond.classLink RL 10 RX10 ∈ gT := (a_inG 781 (by decide +kernel) rfl)
theorem ins_X9 : Cond.instantiable RX9 12 ∈ gT := (a_inG 93 (by decide +kernel) rfl)
theorem ins_X7 : Cond.instantiable RX7 6 ∈ gT := (a_inG 101 (by decide +kernel) rfl)
theorem ins_X6 : Cond.instantiable RX6 11 ∈ gT := (a_inG 130 (by decide +kernel) rfl)
theorem ins_X1 : Cond.instantiable RX1 5 ∈ gT := (a_inG 189 (by decide +kernel) rfl)
theorem ins_X8 : Cond.instantiable RX8 8 ∈ gT := (a_inG 227 (by decide +kernel) rfl)
theorem ins_X3 : Cond.instantiable RX3 3 ∈ gT := (a_inG 265 (by decide +kernel) rfl)
theorem ins_X5 : Cond.instantiable RX5 3 ∈ gT := (a_inG 285 (by decide +kernel) rfl)
theorem ins_X0 : Cond.instantiable RX0 3 ∈ gT := (a_inG 303 (by decide +kernel) rfl)
theorem ins_X2 : Cond.instantiable RX2 3 ∈ gT := (a_inG 321 (by decide +kernel) rfl)
theorem ins_X4 : Cond.instantiable RX4 8 ∈ gT := (a_inG 649 (by decide +kernel) rfl)
theorem ins_X10 : Cond.instantiable RX10 31 ∈ gT := (a_inG 782 (by decide +kernel) rfl)
theorem ac_int : Cond.arrayClass .int ∈ gT := (a_inG 128 (by decide +kernel) rfl)
theorem ac_boolean : Cond.arrayClass .boolean ∈ gT := (a_inG 301 (by decide +kernel) rfl)
end
