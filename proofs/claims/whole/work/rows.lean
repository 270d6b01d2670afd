section
-- ===== PART A: goes FIRST, ahead of the names: the tables' words, and 'selects' of the private methods out of them =====
/-- a private method of a class that the tables say can be made, by its rows of tables_1 -/
def lw_okq (q : MethodName × Nat) : Prop := (q.1.cls ≠ "java/lang/invoke/MethodHandle" ∧ q.1.cls ≠ "java/lang/invoke/VarHandle") ∧ Cond.instantiable q.1.cls q.2 ∈ tables_1 ∧ Cond.privateMethod q.1 ∈ tables_1 ∧ Cond.instanceMethod q.1 ∈ tables_1
theorem lw_p0 : lw_okq (⟨"WeWereIn$Days", "begin", "()V"⟩, 5) := ⟨⟨by decide +kernel, by decide +kernel⟩, List.mem_of_getElem? (i := 112) (by decide +kernel), List.mem_of_getElem? (i := 118) (by decide +kernel), List.mem_of_getElem? (i := 119) (by decide +kernel)⟩
theorem lw_p1 : lw_okq (⟨"WeWereIn$Text", "add", "(I)Z"⟩, 6) := ⟨⟨by decide +kernel, by decide +kernel⟩, List.mem_of_getElem? (i := 24) (by decide +kernel), List.mem_of_getElem? (i := 310) (by decide +kernel), List.mem_of_getElem? (i := 311) (by decide +kernel)⟩
theorem lw_p2 : lw_okq (⟨"WeWereIn$Text", "readInto", "(LWeWereIn$Street;)V"⟩, 6) := ⟨⟨by decide +kernel, by decide +kernel⟩, List.mem_of_getElem? (i := 24) (by decide +kernel), List.mem_of_getElem? (i := 319) (by decide +kernel), List.mem_of_getElem? (i := 320) (by decide +kernel)⟩
theorem lw_p3 : lw_okq (⟨"WeWereIn$Street", "begin", "()V"⟩, 11) := ⟨⟨by decide +kernel, by decide +kernel⟩, List.mem_of_getElem? (i := 53) (by decide +kernel), List.mem_of_getElem? (i := 323) (by decide +kernel), List.mem_of_getElem? (i := 324) (by decide +kernel)⟩
theorem lw_p4 : lw_okq (⟨"WeWereIn$Text", "peek", "()I"⟩, 6) := ⟨⟨by decide +kernel, by decide +kernel⟩, List.mem_of_getElem? (i := 24) (by decide +kernel), List.mem_of_getElem? (i := 327) (by decide +kernel), List.mem_of_getElem? (i := 328) (by decide +kernel)⟩
theorem lw_p5 : lw_okq (⟨"WeWereIn$Text", "readClause", "(LWeWereIn$Street;I)V"⟩, 6) := ⟨⟨by decide +kernel, by decide +kernel⟩, List.mem_of_getElem? (i := 24) (by decide +kernel), List.mem_of_getElem? (i := 332) (by decide +kernel), List.mem_of_getElem? (i := 333) (by decide +kernel)⟩
theorem lw_p6 : lw_okq (⟨"WeWereIn$Text", "fail", "(II)V"⟩, 6) := ⟨⟨by decide +kernel, by decide +kernel⟩, List.mem_of_getElem? (i := 24) (by decide +kernel), List.mem_of_getElem? (i := 336) (by decide +kernel), List.mem_of_getElem? (i := 337) (by decide +kernel)⟩
theorem lw_p7 : lw_okq (⟨"WeWereIn$Text", "readVan", "(LWeWereIn$Street;Z)V"⟩, 6) := ⟨⟨by decide +kernel, by decide +kernel⟩, List.mem_of_getElem? (i := 24) (by decide +kernel), List.mem_of_getElem? (i := 340) (by decide +kernel), List.mem_of_getElem? (i := 341) (by decide +kernel)⟩
theorem lw_p8 : lw_okq (⟨"WeWereIn$Text", "number", "(II)I"⟩, 6) := ⟨⟨by decide +kernel, by decide +kernel⟩, List.mem_of_getElem? (i := 24) (by decide +kernel), List.mem_of_getElem? (i := 344) (by decide +kernel), List.mem_of_getElem? (i := 345) (by decide +kernel)⟩
theorem lw_p9 : lw_okq (⟨"WeWereIn$Text", "endClause", "()V"⟩, 6) := ⟨⟨by decide +kernel, by decide +kernel⟩, List.mem_of_getElem? (i := 24) (by decide +kernel), List.mem_of_getElem? (i := 351) (by decide +kernel), List.mem_of_getElem? (i := 352) (by decide +kernel)⟩
theorem lw_p10 : lw_okq (⟨"WeWereIn$Text", "readStop", "(LWeWereIn$Street;)V"⟩, 6) := ⟨⟨by decide +kernel, by decide +kernel⟩, List.mem_of_getElem? (i := 24) (by decide +kernel), List.mem_of_getElem? (i := 355) (by decide +kernel), List.mem_of_getElem? (i := 356) (by decide +kernel)⟩
theorem lw_p11 : lw_okq (⟨"WeWereIn$Street", "addStop", "(III)V"⟩, 11) := ⟨⟨by decide +kernel, by decide +kernel⟩, List.mem_of_getElem? (i := 53) (by decide +kernel), List.mem_of_getElem? (i := 359) (by decide +kernel), List.mem_of_getElem? (i := 360) (by decide +kernel)⟩
theorem lw_p12 : lw_okq (⟨"WeWereIn$Text", "readDin", "(LWeWereIn$Street;)V"⟩, 6) := ⟨⟨by decide +kernel, by decide +kernel⟩, List.mem_of_getElem? (i := 24) (by decide +kernel), List.mem_of_getElem? (i := 363) (by decide +kernel), List.mem_of_getElem? (i := 364) (by decide +kernel)⟩
theorem lw_p13 : lw_okq (⟨"WeWereIn$Street", "addDin", "(I)V"⟩, 11) := ⟨⟨by decide +kernel, by decide +kernel⟩, List.mem_of_getElem? (i := 53) (by decide +kernel), List.mem_of_getElem? (i := 367) (by decide +kernel), List.mem_of_getElem? (i := 368) (by decide +kernel)⟩
theorem lw_p14 : lw_okq (⟨"WeWereIn$Text", "readNeighbour", "(LWeWereIn$Street;)V"⟩, 6) := ⟨⟨by decide +kernel, by decide +kernel⟩, List.mem_of_getElem? (i := 24) (by decide +kernel), List.mem_of_getElem? (i := 371) (by decide +kernel), List.mem_of_getElem? (i := 372) (by decide +kernel)⟩
theorem lw_p15 : lw_okq (⟨"WeWereIn$Street", "has", "(I)Z"⟩, 11) := ⟨⟨by decide +kernel, by decide +kernel⟩, List.mem_of_getElem? (i := 53) (by decide +kernel), List.mem_of_getElem? (i := 375) (by decide +kernel), List.mem_of_getElem? (i := 376) (by decide +kernel)⟩
def lw_privs_1 : List (MethodName × Nat) := [(⟨"WeWereIn$Days", "begin", "()V"⟩, 5), (⟨"WeWereIn$Text", "add", "(I)Z"⟩, 6), (⟨"WeWereIn$Text", "readInto", "(LWeWereIn$Street;)V"⟩, 6), (⟨"WeWereIn$Street", "begin", "()V"⟩, 11), (⟨"WeWereIn$Text", "peek", "()I"⟩, 6), (⟨"WeWereIn$Text", "readClause", "(LWeWereIn$Street;I)V"⟩, 6), (⟨"WeWereIn$Text", "fail", "(II)V"⟩, 6), (⟨"WeWereIn$Text", "readVan", "(LWeWereIn$Street;Z)V"⟩, 6), (⟨"WeWereIn$Text", "number", "(II)I"⟩, 6), (⟨"WeWereIn$Text", "endClause", "()V"⟩, 6), (⟨"WeWereIn$Text", "readStop", "(LWeWereIn$Street;)V"⟩, 6), (⟨"WeWereIn$Street", "addStop", "(III)V"⟩, 11), (⟨"WeWereIn$Text", "readDin", "(LWeWereIn$Street;)V"⟩, 6), (⟨"WeWereIn$Street", "addDin", "(I)V"⟩, 11), (⟨"WeWereIn$Text", "readNeighbour", "(LWeWereIn$Street;)V"⟩, 6), (⟨"WeWereIn$Street", "has", "(I)Z"⟩, 11)]
theorem lw_r1 : ∀ q ∈ lw_privs_1, lw_okq q := List.forall_mem_cons.mpr ⟨lw_p0, List.forall_mem_cons.mpr ⟨lw_p1, List.forall_mem_cons.mpr ⟨lw_p2, List.forall_mem_cons.mpr ⟨lw_p3, List.forall_mem_cons.mpr ⟨lw_p4, List.forall_mem_cons.mpr ⟨lw_p5, List.forall_mem_cons.mpr ⟨lw_p6, List.forall_mem_cons.mpr ⟨lw_p7, List.forall_mem_cons.mpr ⟨lw_p8, List.forall_mem_cons.mpr ⟨lw_p9, List.forall_mem_cons.mpr ⟨lw_p10, List.forall_mem_cons.mpr ⟨lw_p11, List.forall_mem_cons.mpr ⟨lw_p12, List.forall_mem_cons.mpr ⟨lw_p13, List.forall_mem_cons.mpr ⟨lw_p14, List.forall_mem_cons.mpr ⟨lw_p15, fun _ h => absurd h List.not_mem_nil⟩⟩⟩⟩⟩⟩⟩⟩⟩⟩⟩⟩⟩⟩⟩⟩
theorem lw_p16 : lw_okq (⟨"WeWereIn$Text", "empty", "()V"⟩, 6) := ⟨⟨by decide +kernel, by decide +kernel⟩, List.mem_of_getElem? (i := 24) (by decide +kernel), List.mem_of_getElem? (i := 379) (by decide +kernel), List.mem_of_getElem? (i := 380) (by decide +kernel)⟩
theorem lw_p17 : lw_okq (⟨"WeWereIn$Street", "copy", "(LWeWereIn$Street;)V"⟩, 11) := ⟨⟨by decide +kernel, by decide +kernel⟩, List.mem_of_getElem? (i := 53) (by decide +kernel), List.mem_of_getElem? (i := 383) (by decide +kernel), List.mem_of_getElem? (i := 384) (by decide +kernel)⟩
theorem lw_p18 : lw_okq (⟨"WeWereIn$Past", "forget", "()V"⟩, 3) := ⟨⟨by decide +kernel, by decide +kernel⟩, List.mem_of_getElem? (i := 188) (by decide +kernel), List.mem_of_getElem? (i := 391) (by decide +kernel), List.mem_of_getElem? (i := 392) (by decide +kernel)⟩
theorem lw_p19 : lw_okq (⟨"WeWereIn$Seen", "forget", "()V"⟩, 3) := ⟨⟨by decide +kernel, by decide +kernel⟩, List.mem_of_getElem? (i := 208) (by decide +kernel), List.mem_of_getElem? (i := 395) (by decide +kernel), List.mem_of_getElem? (i := 396) (by decide +kernel)⟩
theorem lw_p20 : lw_okq (⟨"WeWereIn$Book", "forget", "()V"⟩, 3) := ⟨⟨by decide +kernel, by decide +kernel⟩, List.mem_of_getElem? (i := 226) (by decide +kernel), List.mem_of_getElem? (i := 399) (by decide +kernel), List.mem_of_getElem? (i := 400) (by decide +kernel)⟩
theorem lw_p21 : lw_okq (⟨"WeWereIn$Days", "which", "(II)I"⟩, 5) := ⟨⟨by decide +kernel, by decide +kernel⟩, List.mem_of_getElem? (i := 112) (by decide +kernel), List.mem_of_getElem? (i := 411) (by decide +kernel), List.mem_of_getElem? (i := 412) (by decide +kernel)⟩
theorem lw_p22 : lw_okq (⟨"WeWereIn$Street", "dinOf", "(I)I"⟩, 11) := ⟨⟨by decide +kernel, by decide +kernel⟩, List.mem_of_getElem? (i := 53) (by decide +kernel), List.mem_of_getElem? (i := 425) (by decide +kernel), List.mem_of_getElem? (i := 426) (by decide +kernel)⟩
theorem lw_p23 : lw_okq (⟨"WeWereIn", "refusalOfTrip", "(II)I"⟩, 12) := ⟨⟨by decide +kernel, by decide +kernel⟩, List.mem_of_getElem? (i := 16) (by decide +kernel), List.mem_of_getElem? (i := 433) (by decide +kernel), List.mem_of_getElem? (i := 434) (by decide +kernel)⟩
theorem lw_p24 : lw_okq (⟨"WeWereIn$Street", "isWay", "(I)Z"⟩, 11) := ⟨⟨by decide +kernel, by decide +kernel⟩, List.mem_of_getElem? (i := 53) (by decide +kernel), List.mem_of_getElem? (i := 437) (by decide +kernel), List.mem_of_getElem? (i := 438) (by decide +kernel)⟩
theorem lw_p25 : lw_okq (⟨"WeWereIn$Past", "push", "(LWeWereIn$Days;)V"⟩, 3) := ⟨⟨by decide +kernel, by decide +kernel⟩, List.mem_of_getElem? (i := 188) (by decide +kernel), List.mem_of_getElem? (i := 442) (by decide +kernel), List.mem_of_getElem? (i := 443) (by decide +kernel)⟩
theorem lw_p26 : lw_okq (⟨"WeWereIn$Days", "copy", "(LWeWereIn$Days;)V"⟩, 5) := ⟨⟨by decide +kernel, by decide +kernel⟩, List.mem_of_getElem? (i := 112) (by decide +kernel), List.mem_of_getElem? (i := 446) (by decide +kernel), List.mem_of_getElem? (i := 447) (by decide +kernel)⟩
theorem lw_p27 : lw_okq (⟨"WeWereIn", "drive", "(II)V"⟩, 12) := ⟨⟨by decide +kernel, by decide +kernel⟩, List.mem_of_getElem? (i := 16) (by decide +kernel), List.mem_of_getElem? (i := 454) (by decide +kernel), List.mem_of_getElem? (i := 455) (by decide +kernel)⟩
theorem lw_p28 : lw_okq (⟨"WeWereIn$Trip", "run", "(LWeWereIn$Street;ILWeWereIn$Days;I)V"⟩, 8) := ⟨⟨by decide +kernel, by decide +kernel⟩, List.mem_of_getElem? (i := 150) (by decide +kernel), List.mem_of_getElem? (i := 458) (by decide +kernel), List.mem_of_getElem? (i := 459) (by decide +kernel)⟩
theorem lw_p29 : lw_okq (⟨"WeWereIn$Trip", "begin", "(LWeWereIn$Days;)V"⟩, 8) := ⟨⟨by decide +kernel, by decide +kernel⟩, List.mem_of_getElem? (i := 150) (by decide +kernel), List.mem_of_getElem? (i := 462) (by decide +kernel), List.mem_of_getElem? (i := 463) (by decide +kernel)⟩
theorem lw_p30 : lw_okq (⟨"WeWereIn$Trip", "call", "(LWeWereIn$Street;II)V"⟩, 8) := ⟨⟨by decide +kernel, by decide +kernel⟩, List.mem_of_getElem? (i := 150) (by decide +kernel), List.mem_of_getElem? (i := 471) (by decide +kernel), List.mem_of_getElem? (i := 472) (by decide +kernel)⟩
theorem lw_p31 : lw_okq (⟨"WeWereIn$Street", "secondsBetween", "(II)I"⟩, 11) := ⟨⟨by decide +kernel, by decide +kernel⟩, List.mem_of_getElem? (i := 53) (by decide +kernel), List.mem_of_getElem? (i := 475) (by decide +kernel), List.mem_of_getElem? (i := 476) (by decide +kernel)⟩
def lw_privs_2 : List (MethodName × Nat) := [(⟨"WeWereIn$Text", "empty", "()V"⟩, 6), (⟨"WeWereIn$Street", "copy", "(LWeWereIn$Street;)V"⟩, 11), (⟨"WeWereIn$Past", "forget", "()V"⟩, 3), (⟨"WeWereIn$Seen", "forget", "()V"⟩, 3), (⟨"WeWereIn$Book", "forget", "()V"⟩, 3), (⟨"WeWereIn$Days", "which", "(II)I"⟩, 5), (⟨"WeWereIn$Street", "dinOf", "(I)I"⟩, 11), (⟨"WeWereIn", "refusalOfTrip", "(II)I"⟩, 12), (⟨"WeWereIn$Street", "isWay", "(I)Z"⟩, 11), (⟨"WeWereIn$Past", "push", "(LWeWereIn$Days;)V"⟩, 3), (⟨"WeWereIn$Days", "copy", "(LWeWereIn$Days;)V"⟩, 5), (⟨"WeWereIn", "drive", "(II)V"⟩, 12), (⟨"WeWereIn$Trip", "run", "(LWeWereIn$Street;ILWeWereIn$Days;I)V"⟩, 8), (⟨"WeWereIn$Trip", "begin", "(LWeWereIn$Days;)V"⟩, 8), (⟨"WeWereIn$Trip", "call", "(LWeWereIn$Street;II)V"⟩, 8), (⟨"WeWereIn$Street", "secondsBetween", "(II)I"⟩, 11)]
theorem lw_r2 : ∀ q ∈ lw_privs_2, lw_okq q := List.forall_mem_cons.mpr ⟨lw_p16, List.forall_mem_cons.mpr ⟨lw_p17, List.forall_mem_cons.mpr ⟨lw_p18, List.forall_mem_cons.mpr ⟨lw_p19, List.forall_mem_cons.mpr ⟨lw_p20, List.forall_mem_cons.mpr ⟨lw_p21, List.forall_mem_cons.mpr ⟨lw_p22, List.forall_mem_cons.mpr ⟨lw_p23, List.forall_mem_cons.mpr ⟨lw_p24, List.forall_mem_cons.mpr ⟨lw_p25, List.forall_mem_cons.mpr ⟨lw_p26, List.forall_mem_cons.mpr ⟨lw_p27, List.forall_mem_cons.mpr ⟨lw_p28, List.forall_mem_cons.mpr ⟨lw_p29, List.forall_mem_cons.mpr ⟨lw_p30, List.forall_mem_cons.mpr ⟨lw_p31, fun _ h => absurd h List.not_mem_nil⟩⟩⟩⟩⟩⟩⟩⟩⟩⟩⟩⟩⟩⟩⟩⟩
theorem lw_p32 : lw_okq (⟨"WeWereIn$Days", "counts", "(I)Z"⟩, 5) := ⟨⟨by decide +kernel, by decide +kernel⟩, List.mem_of_getElem? (i := 112) (by decide +kernel), List.mem_of_getElem? (i := 482) (by decide +kernel), List.mem_of_getElem? (i := 483) (by decide +kernel)⟩
theorem lw_p33 : lw_okq (⟨"WeWereIn$Street", "meets", "(IIZI)I"⟩, 11) := ⟨⟨by decide +kernel, by decide +kernel⟩, List.mem_of_getElem? (i := 53) (by decide +kernel), List.mem_of_getElem? (i := 489) (by decide +kernel), List.mem_of_getElem? (i := 490) (by decide +kernel)⟩
theorem lw_p34 : lw_okq (⟨"WeWereIn$Street", "isIn", "(II)Z"⟩, 11) := ⟨⟨by decide +kernel, by decide +kernel⟩, List.mem_of_getElem? (i := 53) (by decide +kernel), List.mem_of_getElem? (i := 493) (by decide +kernel), List.mem_of_getElem? (i := 494) (by decide +kernel)⟩
theorem lw_p35 : lw_okq (⟨"WeWereIn$Street", "secondsAtDoor", "(ZI)I"⟩, 11) := ⟨⟨by decide +kernel, by decide +kernel⟩, List.mem_of_getElem? (i := 53) (by decide +kernel), List.mem_of_getElem? (i := 499) (by decide +kernel), List.mem_of_getElem? (i := 500) (by decide +kernel)⟩
theorem lw_p36 : lw_okq (⟨"WeWereIn$Street", "risingWay", "()I"⟩, 11) := ⟨⟨by decide +kernel, by decide +kernel⟩, List.mem_of_getElem? (i := 53) (by decide +kernel), List.mem_of_getElem? (i := 527) (by decide +kernel), List.mem_of_getElem? (i := 528) (by decide +kernel)⟩
theorem lw_p37 : lw_okq (⟨"WeWereIn", "orderByDraw", "()V"⟩, 12) := ⟨⟨by decide +kernel, by decide +kernel⟩, List.mem_of_getElem? (i := 16) (by decide +kernel), List.mem_of_getElem? (i := 531) (by decide +kernel), List.mem_of_getElem? (i := 532) (by decide +kernel)⟩
theorem lw_p38 : lw_okq (⟨"WeWereIn", "draw", "(I)I"⟩, 12) := ⟨⟨by decide +kernel, by decide +kernel⟩, List.mem_of_getElem? (i := 16) (by decide +kernel), List.mem_of_getElem? (i := 535) (by decide +kernel), List.mem_of_getElem? (i := 536) (by decide +kernel)⟩
theorem lw_p39 : lw_okq (⟨"WeWereIn$Past", "pop", "(ILWeWereIn$Days;)V"⟩, 3) := ⟨⟨by decide +kernel, by decide +kernel⟩, List.mem_of_getElem? (i := 188) (by decide +kernel), List.mem_of_getElem? (i := 547) (by decide +kernel), List.mem_of_getElem? (i := 548) (by decide +kernel)⟩
theorem lw_p40 : lw_okq (⟨"WeWereIn$Search", "seek", "()V"⟩, 8) := ⟨⟨by decide +kernel, by decide +kernel⟩, List.mem_of_getElem? (i := 572) (by decide +kernel), List.mem_of_getElem? (i := 608) (by decide +kernel), List.mem_of_getElem? (i := 609) (by decide +kernel)⟩
theorem lw_p41 : lw_okq (⟨"WeWereIn$Search", "canBeat", "(II)Z"⟩, 8) := ⟨⟨by decide +kernel, by decide +kernel⟩, List.mem_of_getElem? (i := 572) (by decide +kernel), List.mem_of_getElem? (i := 616) (by decide +kernel), List.mem_of_getElem? (i := 617) (by decide +kernel)⟩
theorem lw_p42 : lw_okq (⟨"WeWereIn$Search", "settle", "(III)V"⟩, 8) := ⟨⟨by decide +kernel, by decide +kernel⟩, List.mem_of_getElem? (i := 572) (by decide +kernel), List.mem_of_getElem? (i := 620) (by decide +kernel), List.mem_of_getElem? (i := 621) (by decide +kernel)⟩
theorem lw_p43 : lw_okq (⟨"WeWereIn$Street", "countNear", "(III)I"⟩, 11) := ⟨⟨by decide +kernel, by decide +kernel⟩, List.mem_of_getElem? (i := 53) (by decide +kernel), List.mem_of_getElem? (i := 635) (by decide +kernel), List.mem_of_getElem? (i := 636) (by decide +kernel)⟩
theorem lw_p44 : lw_okq (⟨"WeWereIn$Seen", "add", "(IZ)Z"⟩, 3) := ⟨⟨by decide +kernel, by decide +kernel⟩, List.mem_of_getElem? (i := 208) (by decide +kernel), List.mem_of_getElem? (i := 653) (by decide +kernel), List.mem_of_getElem? (i := 654) (by decide +kernel)⟩
theorem lw_p45 : lw_okq (⟨"WeWereIn$Seen", "fits", "(I)Z"⟩, 3) := ⟨⟨by decide +kernel, by decide +kernel⟩, List.mem_of_getElem? (i := 208) (by decide +kernel), List.mem_of_getElem? (i := 661) (by decide +kernel), List.mem_of_getElem? (i := 662) (by decide +kernel)⟩
theorem lw_p46 : lw_okq (⟨"WeWereIn", "bestToAsk", "(I)I"⟩, 12) := ⟨⟨by decide +kernel, by decide +kernel⟩, List.mem_of_getElem? (i := 16) (by decide +kernel), List.mem_of_getElem? (i := 665) (by decide +kernel), List.mem_of_getElem? (i := 666) (by decide +kernel)⟩
theorem lw_p47 : lw_okq (⟨"WeWereIn$Book", "add", "(II)Z"⟩, 3) := ⟨⟨by decide +kernel, by decide +kernel⟩, List.mem_of_getElem? (i := 226) (by decide +kernel), List.mem_of_getElem? (i := 677) (by decide +kernel), List.mem_of_getElem? (i := 678) (by decide +kernel)⟩
def lw_privs_3 : List (MethodName × Nat) := [(⟨"WeWereIn$Days", "counts", "(I)Z"⟩, 5), (⟨"WeWereIn$Street", "meets", "(IIZI)I"⟩, 11), (⟨"WeWereIn$Street", "isIn", "(II)Z"⟩, 11), (⟨"WeWereIn$Street", "secondsAtDoor", "(ZI)I"⟩, 11), (⟨"WeWereIn$Street", "risingWay", "()I"⟩, 11), (⟨"WeWereIn", "orderByDraw", "()V"⟩, 12), (⟨"WeWereIn", "draw", "(I)I"⟩, 12), (⟨"WeWereIn$Past", "pop", "(ILWeWereIn$Days;)V"⟩, 3), (⟨"WeWereIn$Search", "seek", "()V"⟩, 8), (⟨"WeWereIn$Search", "canBeat", "(II)Z"⟩, 8), (⟨"WeWereIn$Search", "settle", "(III)V"⟩, 8), (⟨"WeWereIn$Street", "countNear", "(III)I"⟩, 11), (⟨"WeWereIn$Seen", "add", "(IZ)Z"⟩, 3), (⟨"WeWereIn$Seen", "fits", "(I)Z"⟩, 3), (⟨"WeWereIn", "bestToAsk", "(I)I"⟩, 12), (⟨"WeWereIn$Book", "add", "(II)Z"⟩, 3)]
theorem lw_r3 : ∀ q ∈ lw_privs_3, lw_okq q := List.forall_mem_cons.mpr ⟨lw_p32, List.forall_mem_cons.mpr ⟨lw_p33, List.forall_mem_cons.mpr ⟨lw_p34, List.forall_mem_cons.mpr ⟨lw_p35, List.forall_mem_cons.mpr ⟨lw_p36, List.forall_mem_cons.mpr ⟨lw_p37, List.forall_mem_cons.mpr ⟨lw_p38, List.forall_mem_cons.mpr ⟨lw_p39, List.forall_mem_cons.mpr ⟨lw_p40, List.forall_mem_cons.mpr ⟨lw_p41, List.forall_mem_cons.mpr ⟨lw_p42, List.forall_mem_cons.mpr ⟨lw_p43, List.forall_mem_cons.mpr ⟨lw_p44, List.forall_mem_cons.mpr ⟨lw_p45, List.forall_mem_cons.mpr ⟨lw_p46, List.forall_mem_cons.mpr ⟨lw_p47, fun _ h => absurd h List.not_mem_nil⟩⟩⟩⟩⟩⟩⟩⟩⟩⟩⟩⟩⟩⟩⟩⟩
theorem lw_p48 : lw_okq (⟨"WeWereIn$Book", "firstWrong", "(LWeWereIn$Days;)I"⟩, 3) := ⟨⟨by decide +kernel, by decide +kernel⟩, List.mem_of_getElem? (i := 226) (by decide +kernel), List.mem_of_getElem? (i := 685) (by decide +kernel), List.mem_of_getElem? (i := 686) (by decide +kernel)⟩
theorem lw_p49 : lw_okq (⟨"WeWereInModel", "here", "()I"⟩, 31) := ⟨⟨by decide +kernel, by decide +kernel⟩, List.mem_of_getElem? (i := 705) (by decide +kernel), List.mem_of_getElem? (i := 819) (by decide +kernel), List.mem_of_getElem? (i := 820) (by decide +kernel)⟩
theorem lw_p50 : lw_okq (⟨"WeWereInModel", "takeClause", "()V"⟩, 31) := ⟨⟨by decide +kernel, by decide +kernel⟩, List.mem_of_getElem? (i := 705) (by decide +kernel), List.mem_of_getElem? (i := 823) (by decide +kernel), List.mem_of_getElem? (i := 824) (by decide +kernel)⟩
theorem lw_p51 : lw_okq (⟨"WeWereInModel", "want", "(ZII)Z"⟩, 31) := ⟨⟨by decide +kernel, by decide +kernel⟩, List.mem_of_getElem? (i := 705) (by decide +kernel), List.mem_of_getElem? (i := 827) (by decide +kernel), List.mem_of_getElem? (i := 828) (by decide +kernel)⟩
theorem lw_p52 : lw_okq (⟨"WeWereInModel", "takeRule", "(I)V"⟩, 31) := ⟨⟨by decide +kernel, by decide +kernel⟩, List.mem_of_getElem? (i := 705) (by decide +kernel), List.mem_of_getElem? (i := 831) (by decide +kernel), List.mem_of_getElem? (i := 832) (by decide +kernel)⟩
theorem lw_p53 : lw_okq (⟨"WeWereInModel", "takeIn", "(II)I"⟩, 31) := ⟨⟨by decide +kernel, by decide +kernel⟩, List.mem_of_getElem? (i := 705) (by decide +kernel), List.mem_of_getElem? (i := 835) (by decide +kernel), List.mem_of_getElem? (i := 836) (by decide +kernel)⟩
theorem lw_p54 : lw_okq (⟨"WeWereInModel", "takeNumber", "()I"⟩, 31) := ⟨⟨by decide +kernel, by decide +kernel⟩, List.mem_of_getElem? (i := 705) (by decide +kernel), List.mem_of_getElem? (i := 839) (by decide +kernel), List.mem_of_getElem? (i := 840) (by decide +kernel)⟩
theorem lw_p55 : lw_okq (⟨"WeWereInModel", "takeStop", "(I)V"⟩, 31) := ⟨⟨by decide +kernel, by decide +kernel⟩, List.mem_of_getElem? (i := 705) (by decide +kernel), List.mem_of_getElem? (i := 846) (by decide +kernel), List.mem_of_getElem? (i := 847) (by decide +kernel)⟩
theorem lw_p56 : lw_okq (⟨"WeWereInModel", "takeDins", "(I)V"⟩, 31) := ⟨⟨by decide +kernel, by decide +kernel⟩, List.mem_of_getElem? (i := 705) (by decide +kernel), List.mem_of_getElem? (i := 850) (by decide +kernel), List.mem_of_getElem? (i := 851) (by decide +kernel)⟩
theorem lw_p57 : lw_okq (⟨"WeWereInModel", "takeNeighbour", "()V"⟩, 31) := ⟨⟨by decide +kernel, by decide +kernel⟩, List.mem_of_getElem? (i := 705) (by decide +kernel), List.mem_of_getElem? (i := 854) (by decide +kernel), List.mem_of_getElem? (i := 855) (by decide +kernel)⟩
theorem lw_p58 : lw_okq (⟨"WeWereInModel", "take", "()V"⟩, 31) := ⟨⟨by decide +kernel, by decide +kernel⟩, List.mem_of_getElem? (i := 705) (by decide +kernel), List.mem_of_getElem? (i := 858) (by decide +kernel), List.mem_of_getElem? (i := 859) (by decide +kernel)⟩
theorem lw_p59 : lw_okq (⟨"WeWereInModel", "which", "(I)I"⟩, 31) := ⟨⟨by decide +kernel, by decide +kernel⟩, List.mem_of_getElem? (i := 705) (by decide +kernel), List.mem_of_getElem? (i := 870) (by decide +kernel), List.mem_of_getElem? (i := 871) (by decide +kernel)⟩
theorem lw_p60 : lw_okq (⟨"WeWereInModel", "isStop", "(I)Z"⟩, 31) := ⟨⟨by decide +kernel, by decide +kernel⟩, List.mem_of_getElem? (i := 705) (by decide +kernel), List.mem_of_getElem? (i := 881) (by decide +kernel), List.mem_of_getElem? (i := 882) (by decide +kernel)⟩
theorem lw_p61 : lw_okq (⟨"WeWereInModel", "dinAt", "(I)I"⟩, 31) := ⟨⟨by decide +kernel, by decide +kernel⟩, List.mem_of_getElem? (i := 705) (by decide +kernel), List.mem_of_getElem? (i := 891) (by decide +kernel), List.mem_of_getElem? (i := 892) (by decide +kernel)⟩
theorem lw_p62 : lw_okq (⟨"WeWereInModel", "isWay", "(I)Z"⟩, 31) := ⟨⟨by decide +kernel, by decide +kernel⟩, List.mem_of_getElem? (i := 705) (by decide +kernel), List.mem_of_getElem? (i := 899) (by decide +kernel), List.mem_of_getElem? (i := 900) (by decide +kernel)⟩
theorem lw_p63 : lw_okq (⟨"WeWereInModel", "remember", "()V"⟩, 31) := ⟨⟨by decide +kernel, by decide +kernel⟩, List.mem_of_getElem? (i := 705) (by decide +kernel), List.mem_of_getElem? (i := 910) (by decide +kernel), List.mem_of_getElem? (i := 911) (by decide +kernel)⟩
def lw_privs_4 : List (MethodName × Nat) := [(⟨"WeWereIn$Book", "firstWrong", "(LWeWereIn$Days;)I"⟩, 3), (⟨"WeWereInModel", "here", "()I"⟩, 31), (⟨"WeWereInModel", "takeClause", "()V"⟩, 31), (⟨"WeWereInModel", "want", "(ZII)Z"⟩, 31), (⟨"WeWereInModel", "takeRule", "(I)V"⟩, 31), (⟨"WeWereInModel", "takeIn", "(II)I"⟩, 31), (⟨"WeWereInModel", "takeNumber", "()I"⟩, 31), (⟨"WeWereInModel", "takeStop", "(I)V"⟩, 31), (⟨"WeWereInModel", "takeDins", "(I)V"⟩, 31), (⟨"WeWereInModel", "takeNeighbour", "()V"⟩, 31), (⟨"WeWereInModel", "take", "()V"⟩, 31), (⟨"WeWereInModel", "which", "(I)I"⟩, 31), (⟨"WeWereInModel", "isStop", "(I)Z"⟩, 31), (⟨"WeWereInModel", "dinAt", "(I)I"⟩, 31), (⟨"WeWereInModel", "isWay", "(I)Z"⟩, 31), (⟨"WeWereInModel", "remember", "()V"⟩, 31)]
theorem lw_r4 : ∀ q ∈ lw_privs_4, lw_okq q := List.forall_mem_cons.mpr ⟨lw_p48, List.forall_mem_cons.mpr ⟨lw_p49, List.forall_mem_cons.mpr ⟨lw_p50, List.forall_mem_cons.mpr ⟨lw_p51, List.forall_mem_cons.mpr ⟨lw_p52, List.forall_mem_cons.mpr ⟨lw_p53, List.forall_mem_cons.mpr ⟨lw_p54, List.forall_mem_cons.mpr ⟨lw_p55, List.forall_mem_cons.mpr ⟨lw_p56, List.forall_mem_cons.mpr ⟨lw_p57, List.forall_mem_cons.mpr ⟨lw_p58, List.forall_mem_cons.mpr ⟨lw_p59, List.forall_mem_cons.mpr ⟨lw_p60, List.forall_mem_cons.mpr ⟨lw_p61, List.forall_mem_cons.mpr ⟨lw_p62, List.forall_mem_cons.mpr ⟨lw_p63, fun _ h => absurd h List.not_mem_nil⟩⟩⟩⟩⟩⟩⟩⟩⟩⟩⟩⟩⟩⟩⟩⟩
theorem lw_p64 : lw_okq (⟨"WeWereInModel", "copy", "(II)V"⟩, 31) := ⟨⟨by decide +kernel, by decide +kernel⟩, List.mem_of_getElem? (i := 705) (by decide +kernel), List.mem_of_getElem? (i := 914) (by decide +kernel), List.mem_of_getElem? (i := 915) (by decide +kernel)⟩
theorem lw_p65 : lw_okq (⟨"WeWereInModel", "roundIn", "(III)I"⟩, 31) := ⟨⟨by decide +kernel, by decide +kernel⟩, List.mem_of_getElem? (i := 705) (by decide +kernel), List.mem_of_getElem? (i := 918) (by decide +kernel), List.mem_of_getElem? (i := 919) (by decide +kernel)⟩
theorem lw_p66 : lw_okq (⟨"WeWereInModel", "visit", "(IIIZ)I"⟩, 31) := ⟨⟨by decide +kernel, by decide +kernel⟩, List.mem_of_getElem? (i := 705) (by decide +kernel), List.mem_of_getElem? (i := 931) (by decide +kernel), List.mem_of_getElem? (i := 932) (by decide +kernel)⟩
theorem lw_p67 : lw_okq (⟨"WeWereInModel", "isInAt", "(II)Z"⟩, 31) := ⟨⟨by decide +kernel, by decide +kernel⟩, List.mem_of_getElem? (i := 705) (by decide +kernel), List.mem_of_getElem? (i := 935) (by decide +kernel), List.mem_of_getElem? (i := 936) (by decide +kernel)⟩
theorem lw_p68 : lw_okq (⟨"WeWereInModel", "draw", "(I)I"⟩, 31) := ⟨⟨by decide +kernel, by decide +kernel⟩, List.mem_of_getElem? (i := 705) (by decide +kernel), List.mem_of_getElem? (i := 957) (by decide +kernel), List.mem_of_getElem? (i := 958) (by decide +kernel)⟩
theorem lw_p69 : lw_okq (⟨"WeWereInModel", "tryRound", "(II)I"⟩, 31) := ⟨⟨by decide +kernel, by decide +kernel⟩, List.mem_of_getElem? (i := 705) (by decide +kernel), List.mem_of_getElem? (i := 974) (by decide +kernel), List.mem_of_getElem? (i := 975) (by decide +kernel)⟩
theorem lw_p70 : lw_okq (⟨"WeWereInModel", "comesTo", "(II)I"⟩, 31) := ⟨⟨by decide +kernel, by decide +kernel⟩, List.mem_of_getElem? (i := 705) (by decide +kernel), List.mem_of_getElem? (i := 991) (by decide +kernel), List.mem_of_getElem? (i := 992) (by decide +kernel)⟩
theorem lw_p71 : lw_okq (⟨"WeWereInModel", "counting", "()I"⟩, 31) := ⟨⟨by decide +kernel, by decide +kernel⟩, List.mem_of_getElem? (i := 705) (by decide +kernel), List.mem_of_getElem? (i := 1000) (by decide +kernel), List.mem_of_getElem? (i := 1001) (by decide +kernel)⟩
theorem lw_p72 : lw_okq (⟨"WeWereInModel", "wayOf", "(I)I"⟩, 31) := ⟨⟨by decide +kernel, by decide +kernel⟩, List.mem_of_getElem? (i := 705) (by decide +kernel), List.mem_of_getElem? (i := 1005) (by decide +kernel), List.mem_of_getElem? (i := 1006) (by decide +kernel)⟩
theorem lw_p73 : lw_okq (⟨"WeWereInModel", "nextRow", "(I)Z"⟩, 31) := ⟨⟨by decide +kernel, by decide +kernel⟩, List.mem_of_getElem? (i := 705) (by decide +kernel), List.mem_of_getElem? (i := 1009) (by decide +kernel), List.mem_of_getElem? (i := 1010) (by decide +kernel)⟩
theorem lw_p74 : lw_okq (⟨"WeWereInModel", "exchange", "(II)V"⟩, 31) := ⟨⟨by decide +kernel, by decide +kernel⟩, List.mem_of_getElem? (i := 705) (by decide +kernel), List.mem_of_getElem? (i := 1013) (by decide +kernel), List.mem_of_getElem? (i := 1014) (by decide +kernel)⟩
theorem lw_p75 : lw_okq (⟨"WeWereInModel", "findHastes", "(I)I"⟩, 31) := ⟨⟨by decide +kernel, by decide +kernel⟩, List.mem_of_getElem? (i := 705) (by decide +kernel), List.mem_of_getElem? (i := 1044) (by decide +kernel), List.mem_of_getElem? (i := 1045) (by decide +kernel)⟩
theorem lw_p76 : lw_okq (⟨"WeWereInModel", "slipsBy", "(II)I"⟩, 31) := ⟨⟨by decide +kernel, by decide +kernel⟩, List.mem_of_getElem? (i := 705) (by decide +kernel), List.mem_of_getElem? (i := 1048) (by decide +kernel), List.mem_of_getElem? (i := 1049) (by decide +kernel)⟩
def lw_privs_5 : List (MethodName × Nat) := [(⟨"WeWereInModel", "copy", "(II)V"⟩, 31), (⟨"WeWereInModel", "roundIn", "(III)I"⟩, 31), (⟨"WeWereInModel", "visit", "(IIIZ)I"⟩, 31), (⟨"WeWereInModel", "isInAt", "(II)Z"⟩, 31), (⟨"WeWereInModel", "draw", "(I)I"⟩, 31), (⟨"WeWereInModel", "tryRound", "(II)I"⟩, 31), (⟨"WeWereInModel", "comesTo", "(II)I"⟩, 31), (⟨"WeWereInModel", "counting", "()I"⟩, 31), (⟨"WeWereInModel", "wayOf", "(I)I"⟩, 31), (⟨"WeWereInModel", "nextRow", "(I)Z"⟩, 31), (⟨"WeWereInModel", "exchange", "(II)V"⟩, 31), (⟨"WeWereInModel", "findHastes", "(I)I"⟩, 31), (⟨"WeWereInModel", "slipsBy", "(II)I"⟩, 31)]
theorem lw_r5 : ∀ q ∈ lw_privs_5, lw_okq q := List.forall_mem_cons.mpr ⟨lw_p64, List.forall_mem_cons.mpr ⟨lw_p65, List.forall_mem_cons.mpr ⟨lw_p66, List.forall_mem_cons.mpr ⟨lw_p67, List.forall_mem_cons.mpr ⟨lw_p68, List.forall_mem_cons.mpr ⟨lw_p69, List.forall_mem_cons.mpr ⟨lw_p70, List.forall_mem_cons.mpr ⟨lw_p71, List.forall_mem_cons.mpr ⟨lw_p72, List.forall_mem_cons.mpr ⟨lw_p73, List.forall_mem_cons.mpr ⟨lw_p74, List.forall_mem_cons.mpr ⟨lw_p75, List.forall_mem_cons.mpr ⟨lw_p76, fun _ h => absurd h List.not_mem_nil⟩⟩⟩⟩⟩⟩⟩⟩⟩⟩⟩⟩⟩
def lw_privs : List (MethodName × Nat) := lw_privs_1 ++ (lw_privs_2 ++ (lw_privs_3 ++ (lw_privs_4 ++ (lw_privs_5))))
def lw_tbl : List Cond := k2_sels lw_privs ++ tables_1
theorem lw_privs_ok : ∀ q ∈ lw_privs, lw_okq q := by
  show ∀ q ∈ lw_privs_1 ++ (lw_privs_2 ++ (lw_privs_3 ++ (lw_privs_4 ++ (lw_privs_5)))), lw_okq q
  exact List.forall_mem_append.mpr ⟨lw_r1, List.forall_mem_append.mpr ⟨lw_r2, List.forall_mem_append.mpr ⟨lw_r3, List.forall_mem_append.mpr ⟨lw_r4, lw_r5⟩⟩⟩⟩
end
section
theorem goodIn_r {big : List Cond} (ws : List Cond) (ps : List Nat) (hp : ws = ps.filterMap (fun i => big[i]?)) (h : ws.all goodWord = true) : GoodIn big ws := by
  intro w hw
  have h1 := List.all_eq_true.mp h w hw
  rw [hp] at hw
  obtain ⟨i, -, hi⟩ := List.mem_filterMap.mp hw
  have hm : w ∈ big := by first | exact List.mem_of_getElem? hi | exact List.getElem?_mem hi
  exact ⟨hm, good_of_word h1⟩
theorem goodIn_app {big a b : List Cond} (ha : GoodIn big a) (hb : GoodIn big b) : GoodIn big (a ++ b) := fun w h => (List.mem_append.mp h).elim (ha w) (hb w)
theorem goodIn_ca {big a b : List Cond} {c : Cond} (ha : GoodIn big (c :: a)) (hb : GoodIn big b) : GoodIn big (c :: (a ++ b)) := fun w h => (List.mem_cons.mp h).elim (fun e => ha w (List.mem_cons.mpr (Or.inl e))) (fun h => (List.mem_append.mp h).elim (fun h => ha w (List.mem_cons.mpr (Or.inr h))) (hb w))
theorem goodIn_sub {big ws : List Cond} (hm : ∀ w ∈ ws, w ∈ big) (h : ws.all goodWord = true) : GoodIn big ws := fun w hw => ⟨hm w hw, good_of_word (List.all_eq_true.mp h w hw)⟩
def RX0 : String := "WeWereIn$Book"
def TX0 : u_T := fun k => match k with
  | 0 => ("WeWereIn$Book", "stop", "[I", true)
  | 1 => ("WeWereIn$Book", "is", "[I", true)
  | _ => ("WeWereIn$Book", "size", "I", false)
def tyX0 : Nat → FieldType := fun k => match k with
  | 0 => .array .int
  | 1 => .array .int
  | _ => .int
abbrev wsX00 : List Cond := u_ws RX0 TX0 3
theorem nmX0 : ∀ a, a < 3 → ∀ b, b < 3 → a ≠ b → (TX0 a).2.1 ≠ (TX0 b).2.1 := by decide +kernel
theorem tyX0_ok : ∀ k, k < 3 → parseFieldDescriptor (TX0 k).2.2.1 = some (tyX0 k) := by decide +kernel
abbrev cX0_init : ByteArray := prog_2_method_1_code
def yX0_init : MethodName := ⟨RX0, "<init>", "()V"⟩
abbrev cX0_forget : ByteArray := prog_2_method_2_code
def yX0_forget : MethodName := ⟨RX0, "forget", "()V"⟩
abbrev cX0_add : ByteArray := prog_2_method_3_code
def yX0_add : MethodName := ⟨RX0, "add", "(II)Z"⟩
abbrev cX0_firstWrong : ByteArray := prog_2_method_4_code
def yX0_firstWrong : MethodName := ⟨RX0, "firstWrong", "(LWeWereIn$Days;)I"⟩
def RX1 : String := "WeWereIn$Days"
def TX1 : u_T := fun k => match k with
  | 0 => ("WeWereIn$Days", "is", "[I", true)
  | 1 => ("WeWereIn$Days", "took", "[I", true)
  | 2 => ("WeWereIn$Days", "rounds", "I", false)
  | 3 => ("WeWereIn$Days", "seconds", "I", false)
  | _ => ("WeWereIn$Days", "slips", "I", false)
def tyX1 : Nat → FieldType := fun k => match k with
  | 0 => .array .int
  | 1 => .array .int
  | 2 => .int
  | 3 => .int
  | _ => .int
abbrev wsX10 : List Cond := u_ws RX1 TX1 5
theorem nmX1 : ∀ a, a < 5 → ∀ b, b < 5 → a ≠ b → (TX1 a).2.1 ≠ (TX1 b).2.1 := by decide +kernel
theorem tyX1_ok : ∀ k, k < 5 → parseFieldDescriptor (TX1 k).2.2.1 = some (tyX1 k) := by decide +kernel
abbrev cX1_init : ByteArray := prog_3_method_1_code
def yX1_init : MethodName := ⟨RX1, "<init>", "()V"⟩
abbrev cX1_begin : ByteArray := prog_3_method_2_code
def yX1_begin : MethodName := ⟨RX1, "begin", "()V"⟩
abbrev cX1_copy : ByteArray := prog_3_method_3_code
def yX1_copy : MethodName := ⟨RX1, "copy", "(LWeWereIn$Days;)V"⟩
abbrev cX1_counts : ByteArray := prog_3_method_4_code
def yX1_counts : MethodName := ⟨RX1, "counts", "(I)Z"⟩
abbrev cX1_which : ByteArray := prog_3_method_5_code
def yX1_which : MethodName := ⟨RX1, "which", "(II)I"⟩
def RX2 : String := "WeWereIn$Image"
def TX2 : u_T := fun k => match k with
  | 0 => ("WeWereIn$Image", "days", "LWeWereIn$Days;", true)
  | 1 => ("WeWereIn$Image", "dice", "I", false)
  | _ => ("WeWereIn$Image", "kept", "Z", false)
def tyX2 : Nat → FieldType := fun k => match k with
  | 0 => .object "WeWereIn$Days"
  | 1 => .int
  | _ => .boolean
abbrev wsX20 : List Cond := u_ws RX2 TX2 3
theorem nmX2 : ∀ a, a < 3 → ∀ b, b < 3 → a ≠ b → (TX2 a).2.1 ≠ (TX2 b).2.1 := by decide +kernel
theorem tyX2_ok : ∀ k, k < 3 → parseFieldDescriptor (TX2 k).2.2.1 = some (tyX2 k) := by decide +kernel
abbrev cX2_init : ByteArray := prog_4_method_1_code
def yX2_init : MethodName := ⟨RX2, "<init>", "()V"⟩
def RX3 : String := "WeWereIn$Past"
def TX3 : u_T := fun k => match k with
  | 0 => ("WeWereIn$Past", "ahead", "[LWeWereIn$Days;", true)
  | 1 => ("WeWereIn$Past", "next", "I", false)
  | _ => ("WeWereIn$Past", "size", "I", false)
def tyX3 : Nat → FieldType := fun k => match k with
  | 0 => .array (.object "WeWereIn$Days")
  | 1 => .int
  | _ => .int
abbrev wsX30 : List Cond := u_ws RX3 TX3 3
theorem nmX3 : ∀ a, a < 3 → ∀ b, b < 3 → a ≠ b → (TX3 a).2.1 ≠ (TX3 b).2.1 := by decide +kernel
theorem tyX3_ok : ∀ k, k < 3 → parseFieldDescriptor (TX3 k).2.2.1 = some (tyX3 k) := by decide +kernel
abbrev cX3_init : ByteArray := prog_5_method_1_code
def yX3_init : MethodName := ⟨RX3, "<init>", "()V"⟩
abbrev cX3_forget : ByteArray := prog_5_method_2_code
def yX3_forget : MethodName := ⟨RX3, "forget", "()V"⟩
abbrev cX3_push : ByteArray := prog_5_method_3_code
def yX3_push : MethodName := ⟨RX3, "push", "(LWeWereIn$Days;)V"⟩
abbrev cX3_pop : ByteArray := prog_5_method_4_code
def yX3_pop : MethodName := ⟨RX3, "pop", "(ILWeWereIn$Days;)V"⟩
def RX4 : String := "WeWereIn$Search"
def TX4 : u_T := fun k => match k with
  | 0 => ("WeWereIn$Search", "lane", "LWeWereIn$Street;", true)
  | 1 => ("WeWereIn$Search", "now", "LWeWereIn$Days;", true)
  | 2 => ("WeWereIn$Search", "haste", "I", true)
  | 3 => ("WeWereIn$Search", "open", "I", true)
  | 4 => ("WeWereIn$Search", "size", "I", true)
  | 5 => ("WeWereIn$Search", "way", "I", false)
  | 6 => ("WeWereIn$Search", "handed", "I", false)
  | _ => ("WeWereIn$Search", "back", "I", false)
def tyX4 : Nat → FieldType := fun k => match k with
  | 0 => .object "WeWereIn$Street"
  | 1 => .object "WeWereIn$Days"
  | 2 => .int
  | 3 => .int
  | 4 => .int
  | 5 => .int
  | 6 => .int
  | _ => .int
abbrev wsX40 : List Cond := u_ws RX4 TX4 8
theorem nmX4 : ∀ a, a < 8 → ∀ b, b < 8 → a ≠ b → (TX4 a).2.1 ≠ (TX4 b).2.1 := by decide +kernel
theorem tyX4_ok : ∀ k, k < 8 → parseFieldDescriptor (TX4 k).2.2.1 = some (tyX4 k) := by decide +kernel
abbrev cX4_init : ByteArray := prog_6_method_1_code
def yX4_init : MethodName := ⟨RX4, "<init>", "(LWeWereIn$Street;LWeWereIn$Days;I)V"⟩
abbrev cX4_seek : ByteArray := prog_6_method_2_code
def yX4_seek : MethodName := ⟨RX4, "seek", "()V"⟩
abbrev cX4_extend : ByteArray := prog_6_method_3_code
def yX4_extend : MethodName := ⟨RX4, "extend", "(LWeWereIn$Search;IIIIII)V"⟩
abbrev cX4_canBeat : ByteArray := prog_6_method_4_code
def yX4_canBeat : MethodName := ⟨RX4, "canBeat", "(II)Z"⟩
abbrev cX4_settle : ByteArray := prog_6_method_5_code
def yX4_settle : MethodName := ⟨RX4, "settle", "(III)V"⟩
def RX5 : String := "WeWereIn$Seen"
def TX5 : u_T := fun k => match k with
  | 0 => ("WeWereIn$Seen", "stop", "[I", true)
  | 1 => ("WeWereIn$Seen", "slip", "[Z", true)
  | _ => ("WeWereIn$Seen", "size", "I", false)
def tyX5 : Nat → FieldType := fun k => match k with
  | 0 => .array .int
  | 1 => .array .boolean
  | _ => .int
abbrev wsX50 : List Cond := u_ws RX5 TX5 3
theorem nmX5 : ∀ a, a < 3 → ∀ b, b < 3 → a ≠ b → (TX5 a).2.1 ≠ (TX5 b).2.1 := by decide +kernel
theorem tyX5_ok : ∀ k, k < 3 → parseFieldDescriptor (TX5 k).2.2.1 = some (tyX5 k) := by decide +kernel
abbrev cX5_init : ByteArray := prog_7_method_1_code
def yX5_init : MethodName := ⟨RX5, "<init>", "()V"⟩
abbrev cX5_forget : ByteArray := prog_7_method_2_code
def yX5_forget : MethodName := ⟨RX5, "forget", "()V"⟩
abbrev cX5_add : ByteArray := prog_7_method_3_code
def yX5_add : MethodName := ⟨RX5, "add", "(IZ)Z"⟩
abbrev cX5_fits : ByteArray := prog_7_method_4_code
def yX5_fits : MethodName := ⟨RX5, "fits", "(I)Z"⟩
def RX6 : String := "WeWereIn$Street"
def TX6 : u_T := fun k => match k with
  | 0 => ("WeWereIn$Street", "ringSeconds", "I", false)
  | 1 => ("WeWereIn$Street", "yardSeconds", "I", false)
  | 2 => ("WeWereIn$Street", "slipSeconds", "I", false)
  | 3 => ("WeWereIn$Street", "stops", "I", false)
  | 4 => ("WeWereIn$Street", "dins", "I", false)
  | 5 => ("WeWereIn$Street", "yard", "[I", true)
  | 6 => ("WeWereIn$Street", "hoursIn", "[I", true)
  | 7 => ("WeWereIn$Street", "bell", "[I", true)
  | 8 => ("WeWereIn$Street", "neighbour", "[I", true)
  | 9 => ("WeWereIn$Street", "most", "[I", true)
  | _ => ("WeWereIn$Street", "din", "[I", true)
def tyX6 : Nat → FieldType := fun k => match k with
  | 0 => .int
  | 1 => .int
  | 2 => .int
  | 3 => .int
  | 4 => .int
  | 5 => .array .int
  | 6 => .array .int
  | 7 => .array .int
  | 8 => .array .int
  | 9 => .array .int
  | _ => .array .int
abbrev wsX60 : List Cond := u_ws RX6 TX6 11
theorem nmX6 : ∀ a, a < 11 → ∀ b, b < 11 → a ≠ b → (TX6 a).2.1 ≠ (TX6 b).2.1 := by decide +kernel
theorem tyX6_ok : ∀ k, k < 11 → parseFieldDescriptor (TX6 k).2.2.1 = some (tyX6 k) := by decide +kernel
abbrev cX6_init : ByteArray := prog_8_method_1_code
def yX6_init : MethodName := ⟨RX6, "<init>", "()V"⟩
abbrev cX6_begin : ByteArray := prog_8_method_2_code
def yX6_begin : MethodName := ⟨RX6, "begin", "()V"⟩
abbrev cX6_copy : ByteArray := prog_8_method_3_code
def yX6_copy : MethodName := ⟨RX6, "copy", "(LWeWereIn$Street;)V"⟩
abbrev cX6_addStop : ByteArray := prog_8_method_4_code
def yX6_addStop : MethodName := ⟨RX6, "addStop", "(III)V"⟩
abbrev cX6_addDin : ByteArray := prog_8_method_5_code
def yX6_addDin : MethodName := ⟨RX6, "addDin", "(I)V"⟩
abbrev cX6_has : ByteArray := prog_8_method_6_code
def yX6_has : MethodName := ⟨RX6, "has", "(I)Z"⟩
abbrev cX6_isWay : ByteArray := prog_8_method_7_code
def yX6_isWay : MethodName := ⟨RX6, "isWay", "(I)Z"⟩
abbrev cX6_risingWay : ByteArray := prog_8_method_8_code
def yX6_risingWay : MethodName := ⟨RX6, "risingWay", "()I"⟩
abbrev cX6_dinOf : ByteArray := prog_8_method_9_code
def yX6_dinOf : MethodName := ⟨RX6, "dinOf", "(I)I"⟩
abbrev cX6_isIn : ByteArray := prog_8_method_10_code
def yX6_isIn : MethodName := ⟨RX6, "isIn", "(II)Z"⟩
abbrev cX6_meets : ByteArray := prog_8_method_11_code
def yX6_meets : MethodName := ⟨RX6, "meets", "(IIZI)I"⟩
abbrev cX6_secondsAtDoor : ByteArray := prog_8_method_12_code
def yX6_secondsAtDoor : MethodName := ⟨RX6, "secondsAtDoor", "(ZI)I"⟩
abbrev cX6_secondsBetween : ByteArray := prog_8_method_13_code
def yX6_secondsBetween : MethodName := ⟨RX6, "secondsBetween", "(II)I"⟩
abbrev cX6_countNear : ByteArray := prog_8_method_14_code
def yX6_countNear : MethodName := ⟨RX6, "countNear", "(III)I"⟩
def RX7 : String := "WeWereIn$Text"
def TX7 : u_T := fun k => match k with
  | 0 => ("WeWereIn$Text", "letters", "[I", true)
  | 1 => ("WeWereIn$Text", "length", "I", false)
  | 2 => ("WeWereIn$Text", "fault", "I", false)
  | 3 => ("WeWereIn$Text", "faultAt", "I", false)
  | 4 => ("WeWereIn$Text", "at", "I", false)
  | _ => ("WeWereIn$Text", "numberAt", "I", false)
def tyX7 : Nat → FieldType := fun k => match k with
  | 0 => .array .int
  | 1 => .int
  | 2 => .int
  | 3 => .int
  | 4 => .int
  | _ => .int
abbrev wsX70 : List Cond := u_ws RX7 TX7 6
theorem nmX7 : ∀ a, a < 6 → ∀ b, b < 6 → a ≠ b → (TX7 a).2.1 ≠ (TX7 b).2.1 := by decide +kernel
theorem tyX7_ok : ∀ k, k < 6 → parseFieldDescriptor (TX7 k).2.2.1 = some (tyX7 k) := by decide +kernel
abbrev cX7_init : ByteArray := prog_9_method_1_code
def yX7_init : MethodName := ⟨RX7, "<init>", "()V"⟩
abbrev cX7_add : ByteArray := prog_9_method_2_code
def yX7_add : MethodName := ⟨RX7, "add", "(I)Z"⟩
abbrev cX7_empty : ByteArray := prog_9_method_3_code
def yX7_empty : MethodName := ⟨RX7, "empty", "()V"⟩
abbrev cX7_readInto : ByteArray := prog_9_method_4_code
def yX7_readInto : MethodName := ⟨RX7, "readInto", "(LWeWereIn$Street;)V"⟩
abbrev cX7_readClause : ByteArray := prog_9_method_5_code
def yX7_readClause : MethodName := ⟨RX7, "readClause", "(LWeWereIn$Street;I)V"⟩
abbrev cX7_readVan : ByteArray := prog_9_method_6_code
def yX7_readVan : MethodName := ⟨RX7, "readVan", "(LWeWereIn$Street;Z)V"⟩
abbrev cX7_readStop : ByteArray := prog_9_method_7_code
def yX7_readStop : MethodName := ⟨RX7, "readStop", "(LWeWereIn$Street;)V"⟩
abbrev cX7_readDin : ByteArray := prog_9_method_8_code
def yX7_readDin : MethodName := ⟨RX7, "readDin", "(LWeWereIn$Street;)V"⟩
abbrev cX7_readNeighbour : ByteArray := prog_9_method_9_code
def yX7_readNeighbour : MethodName := ⟨RX7, "readNeighbour", "(LWeWereIn$Street;)V"⟩
abbrev cX7_number : ByteArray := prog_9_method_10_code
def yX7_number : MethodName := ⟨RX7, "number", "(II)I"⟩
abbrev cX7_endClause : ByteArray := prog_9_method_11_code
def yX7_endClause : MethodName := ⟨RX7, "endClause", "()V"⟩
abbrev cX7_peek : ByteArray := prog_9_method_12_code
def yX7_peek : MethodName := ⟨RX7, "peek", "()I"⟩
abbrev cX7_isFigure : ByteArray := prog_9_method_13_code
def yX7_isFigure : MethodName := ⟨RX7, "isFigure", "(I)Z"⟩
abbrev cX7_fail : ByteArray := prog_9_method_14_code
def yX7_fail : MethodName := ⟨RX7, "fail", "(II)V"⟩
def RX8 : String := "WeWereIn$Trip"
def TX8 : u_T := fun k => match k with
  | 0 => ("WeWereIn$Trip", "after", "LWeWereIn$Days;", true)
  | 1 => ("WeWereIn$Trip", "there", "[I", true)
  | 2 => ("WeWereIn$Trip", "back", "I", false)
  | 3 => ("WeWereIn$Trip", "handed", "I", false)
  | 4 => ("WeWereIn$Trip", "slipped", "I", false)
  | 5 => ("WeWereIn$Trip", "turn", "I", false)
  | 6 => ("WeWereIn$Trip", "second", "I", false)
  | _ => ("WeWereIn$Trip", "yard", "I", false)
def tyX8 : Nat → FieldType := fun k => match k with
  | 0 => .object "WeWereIn$Days"
  | 1 => .array .int
  | 2 => .int
  | 3 => .int
  | 4 => .int
  | 5 => .int
  | 6 => .int
  | _ => .int
abbrev wsX80 : List Cond := u_ws RX8 TX8 8
theorem nmX8 : ∀ a, a < 8 → ∀ b, b < 8 → a ≠ b → (TX8 a).2.1 ≠ (TX8 b).2.1 := by decide +kernel
theorem tyX8_ok : ∀ k, k < 8 → parseFieldDescriptor (TX8 k).2.2.1 = some (tyX8 k) := by decide +kernel
abbrev cX8_init : ByteArray := prog_10_method_1_code
def yX8_init : MethodName := ⟨RX8, "<init>", "()V"⟩
abbrev cX8_run : ByteArray := prog_10_method_2_code
def yX8_run : MethodName := ⟨RX8, "run", "(LWeWereIn$Street;ILWeWereIn$Days;I)V"⟩
abbrev cX8_begin : ByteArray := prog_10_method_3_code
def yX8_begin : MethodName := ⟨RX8, "begin", "(LWeWereIn$Days;)V"⟩
abbrev cX8_firstUnit : ByteArray := prog_10_method_4_code
def yX8_firstUnit : MethodName := ⟨RX8, "firstUnit", "(I)I"⟩
abbrev cX8_call : ByteArray := prog_10_method_5_code
def yX8_call : MethodName := ⟨RX8, "call", "(LWeWereIn$Street;II)V"⟩
def RX9 : String := "WeWereIn"
def TX9 : u_T := fun k => match k with
  | 0 => ("WeWereIn", "text", "LWeWereIn$Text;", true)
  | 1 => ("WeWereIn", "draft", "LWeWereIn$Street;", true)
  | 2 => ("WeWereIn", "lane", "LWeWereIn$Street;", true)
  | 3 => ("WeWereIn", "now", "LWeWereIn$Days;", true)
  | 4 => ("WeWereIn", "untouched", "LWeWereIn$Days;", true)
  | 5 => ("WeWereIn", "trip", "LWeWereIn$Trip;", true)
  | 6 => ("WeWereIn", "past", "LWeWereIn$Past;", true)
  | 7 => ("WeWereIn", "seen", "LWeWereIn$Seen;", true)
  | 8 => ("WeWereIn", "book", "LWeWereIn$Book;", true)
  | 9 => ("WeWereIn", "images", "[LWeWereIn$Image;", true)
  | 10 => ("WeWereIn", "slipsByHaste", "[I", true)
  | _ => ("WeWereIn", "dice", "I", false)
def tyX9 : Nat → FieldType := fun k => match k with
  | 0 => .object "WeWereIn$Text"
  | 1 => .object "WeWereIn$Street"
  | 2 => .object "WeWereIn$Street"
  | 3 => .object "WeWereIn$Days"
  | 4 => .object "WeWereIn$Days"
  | 5 => .object "WeWereIn$Trip"
  | 6 => .object "WeWereIn$Past"
  | 7 => .object "WeWereIn$Seen"
  | 8 => .object "WeWereIn$Book"
  | 9 => .array (.object "WeWereIn$Image")
  | 10 => .array .int
  | _ => .int
abbrev wsX90 : List Cond := u_ws RX9 TX9 12
theorem nmX9 : ∀ a, a < 12 → ∀ b, b < 12 → a ≠ b → (TX9 a).2.1 ≠ (TX9 b).2.1 := by decide +kernel
theorem tyX9_ok : ∀ k, k < 12 → parseFieldDescriptor (TX9 k).2.2.1 = some (tyX9 k) := by decide +kernel
abbrev cX9_init : ByteArray := prog_1_method_1_code
def yX9_init : MethodName := ⟨RX9, "<init>", "()V"⟩
abbrev cX9_feed : ByteArray := prog_1_method_2_code
def yX9_feed : MethodName := ⟨RX9, "feed", "(I)I"⟩
abbrev cX9_street : ByteArray := prog_1_method_3_code
def yX9_street : MethodName := ⟨RX9, "street", "()I"⟩
abbrev cX9_fault : ByteArray := prog_1_method_4_code
def yX9_fault : MethodName := ⟨RX9, "fault", "()I"⟩
abbrev cX9_told : ByteArray := prog_1_method_5_code
def yX9_told : MethodName := ⟨RX9, "told", "(I)I"⟩
abbrev cX9_stop : ByteArray := prog_1_method_6_code
def yX9_stop : MethodName := ⟨RX9, "stop", "(II)I"⟩
abbrev cX9_din : ByteArray := prog_1_method_7_code
def yX9_din : MethodName := ⟨RX9, "din", "(I)I"⟩
abbrev cX9_round : ByteArray := prog_1_method_8_code
def yX9_round : MethodName := ⟨RX9, "round", "(II)I"⟩
abbrev cX9_fetch : ByteArray := prog_1_method_9_code
def yX9_fetch : MethodName := ⟨RX9, "fetch", "(I)I"⟩
abbrev cX9_order : ByteArray := prog_1_method_10_code
def yX9_order : MethodName := ⟨RX9, "order", "(I)I"⟩
abbrev cX9_thank : ByteArray := prog_1_method_11_code
def yX9_thank : MethodName := ⟨RX9, "thank", "(I)I"⟩
abbrev cX9_drift : ByteArray := prog_1_method_12_code
def yX9_drift : MethodName := ⟨RX9, "drift", "(I)I"⟩
abbrev cX9_undo : ByteArray := prog_1_method_13_code
def yX9_undo : MethodName := ⟨RX9, "undo", "(I)I"⟩
abbrev cX9_comes : ByteArray := prog_1_method_14_code
def yX9_comes : MethodName := ⟨RX9, "comes", "(III)I"⟩
abbrev cX9_home : ByteArray := prog_1_method_15_code
def yX9_home : MethodName := ⟨RX9, "home", "(II)I"⟩
abbrev cX9_outcome : ByteArray := prog_1_method_16_code
def yX9_outcome : MethodName := ⟨RX9, "outcome", "(II)I"⟩
abbrev cX9_bath : ByteArray := prog_1_method_17_code
def yX9_bath : MethodName := ⟨RX9, "bath", "(IIII)I"⟩
abbrev cX9_bestWay : ByteArray := prog_1_method_18_code
def yX9_bestWay : MethodName := ⟨RX9, "bestWay", "(II)I"⟩
abbrev cX9_pretends : ByteArray := prog_1_method_19_code
def yX9_pretends : MethodName := ⟨RX9, "pretends", "(III)I"⟩
abbrev cX9_locker : ByteArray := prog_1_method_20_code
def yX9_locker : MethodName := ⟨RX9, "locker", "(III)I"⟩
abbrev cX9_bears : ByteArray := prog_1_method_21_code
def yX9_bears : MethodName := ⟨RX9, "bears", "(I)I"⟩
abbrev cX9_heard : ByteArray := prog_1_method_22_code
def yX9_heard : MethodName := ⟨RX9, "heard", "(II)I"⟩
abbrev cX9_see : ByteArray := prog_1_method_23_code
def yX9_see : MethodName := ⟨RX9, "see", "(IZ)I"⟩
abbrev cX9_rang : ByteArray := prog_1_method_24_code
def yX9_rang : MethodName := ⟨RX9, "rang", "(II)I"⟩
abbrev cX9_write : ByteArray := prog_1_method_25_code
def yX9_write : MethodName := ⟨RX9, "write", "(II)I"⟩
abbrev cX9_judge : ByteArray := prog_1_method_26_code
def yX9_judge : MethodName := ⟨RX9, "judge", "()I"⟩
abbrev cX9_tear : ByteArray := prog_1_method_27_code
def yX9_tear : MethodName := ⟨RX9, "tear", "()I"⟩
abbrev cX9_seed : ByteArray := prog_1_method_28_code
def yX9_seed : MethodName := ⟨RX9, "seed", "(I)I"⟩
abbrev cX9_keep : ByteArray := prog_1_method_29_code
def yX9_keep : MethodName := ⟨RX9, "keep", "(I)I"⟩
abbrev cX9_goBack : ByteArray := prog_1_method_30_code
def yX9_goBack : MethodName := ⟨RX9, "goBack", "(I)I"⟩
abbrev cX9_within : ByteArray := prog_1_method_31_code
def yX9_within : MethodName := ⟨RX9, "within", "(III)Z"⟩
abbrev cX9_ringsAt : ByteArray := prog_1_method_32_code
def yX9_ringsAt : MethodName := ⟨RX9, "ringsAt", "(II)Z"⟩
abbrev cX9_refusalOfTrip : ByteArray := prog_1_method_33_code
def yX9_refusalOfTrip : MethodName := ⟨RX9, "refusalOfTrip", "(II)I"⟩
abbrev cX9_drive : ByteArray := prog_1_method_34_code
def yX9_drive : MethodName := ⟨RX9, "drive", "(II)V"⟩
abbrev cX9_draw : ByteArray := prog_1_method_35_code
def yX9_draw : MethodName := ⟨RX9, "draw", "(I)I"⟩
abbrev cX9_orderByDraw : ByteArray := prog_1_method_36_code
def yX9_orderByDraw : MethodName := ⟨RX9, "orderByDraw", "()V"⟩
abbrev cX9_bestToAsk : ByteArray := prog_1_method_37_code
def yX9_bestToAsk : MethodName := ⟨RX9, "bestToAsk", "(I)I"⟩
def RX10 : String := "WeWereInModel"
def TX10 : u_T := fun k => match k with
  | 0 => ("WeWereInModel", "w", "[I", true)
  | 1 => ("WeWereInModel", "isKept", "[Z", true)
  | 2 => ("WeWereInModel", "rule", "[I", true)
  | 3 => ("WeWereInModel", "yard", "[I", true)
  | 4 => ("WeWereInModel", "isIn", "[I", true)
  | 5 => ("WeWereInModel", "bell", "[I", true)
  | 6 => ("WeWereInModel", "neighbour", "[I", true)
  | 7 => ("WeWereInModel", "bears", "[I", true)
  | 8 => ("WeWereInModel", "stops", "I", false)
  | 9 => ("WeWereInModel", "newStops", "I", false)
  | 10 => ("WeWereInModel", "dins", "[I", true)
  | 11 => ("WeWereInModel", "dinMany", "I", false)
  | 12 => ("WeWereInModel", "newDins", "I", false)
  | 13 => ("WeWereInModel", "text", "[I", true)
  | 14 => ("WeWereInModel", "textSize", "I", false)
  | 15 => ("WeWereInModel", "at", "I", false)
  | 16 => ("WeWereInModel", "first", "I", false)
  | 17 => ("WeWereInModel", "faultOf", "I", false)
  | 18 => ("WeWereInModel", "fault", "I", false)
  | 19 => ("WeWereInModel", "came", "[I", true)
  | 20 => ("WeWereInModel", "handedNow", "I", false)
  | 21 => ("WeWereInModel", "slippedNow", "I", false)
  | 22 => ("WeWereInModel", "undoMany", "I", false)
  | 23 => ("WeWereInModel", "row", "[I", true)
  | 24 => ("WeWereInModel", "seenAt", "[I", true)
  | 25 => ("WeWereInModel", "seenSlip", "[Z", true)
  | 26 => ("WeWereInModel", "seen", "I", false)
  | 27 => ("WeWereInModel", "slips", "[I", true)
  | 28 => ("WeWereInModel", "bookOf", "[I", true)
  | 29 => ("WeWereInModel", "bookIs", "[I", true)
  | _ => ("WeWereInModel", "written", "I", false)
def tyX10 : Nat → FieldType := fun k => match k with
  | 0 => .array .int
  | 1 => .array .boolean
  | 2 => .array .int
  | 3 => .array .int
  | 4 => .array .int
  | 5 => .array .int
  | 6 => .array .int
  | 7 => .array .int
  | 8 => .int
  | 9 => .int
  | 10 => .array .int
  | 11 => .int
  | 12 => .int
  | 13 => .array .int
  | 14 => .int
  | 15 => .int
  | 16 => .int
  | 17 => .int
  | 18 => .int
  | 19 => .array .int
  | 20 => .int
  | 21 => .int
  | 22 => .int
  | 23 => .array .int
  | 24 => .array .int
  | 25 => .array .boolean
  | 26 => .int
  | 27 => .array .int
  | 28 => .array .int
  | 29 => .array .int
  | _ => .int
abbrev wsX100 : List Cond := u_ws RX10 TX10 31
theorem nmX10 : ∀ a, a < 31 → ∀ b, b < 31 → a ≠ b → (TX10 a).2.1 ≠ (TX10 b).2.1 := by decide +kernel
theorem tyX10_ok : ∀ k, k < 31 → parseFieldDescriptor (TX10 k).2.2.1 = some (tyX10 k) := by decide +kernel
abbrev cX10_init : ByteArray := prog_12_method_1_code
def yX10_init : MethodName := ⟨RX10, "<init>", "()V"⟩
abbrev cX10_in : ByteArray := prog_12_method_3_code
def yX10_in : MethodName := ⟨RX10, "in", "(JJJ)Z"⟩
abbrev cX10_one : ByteArray := prog_12_method_4_code
def yX10_one : MethodName := ⟨RX10, "one", "(Z)I"⟩
abbrev cX10_has : ByteArray := prog_12_method_5_code
def yX10_has : MethodName := ⟨RX10, "has", "(II)Z"⟩
abbrev cX10_far : ByteArray := prog_12_method_6_code
def yX10_far : MethodName := ⟨RX10, "far", "(II)I"⟩
abbrev cX10_feed : ByteArray := prog_12_method_7_code
def yX10_feed : MethodName := ⟨RX10, "feed", "(I)I"⟩
abbrev cX10_here : ByteArray := prog_12_method_8_code
def yX10_here : MethodName := ⟨RX10, "here", "()I"⟩
abbrev cX10_want : ByteArray := prog_12_method_9_code
def yX10_want : MethodName := ⟨RX10, "want", "(ZII)Z"⟩
abbrev cX10_takeNumber : ByteArray := prog_12_method_10_code
def yX10_takeNumber : MethodName := ⟨RX10, "takeNumber", "()I"⟩
abbrev cX10_takeIn : ByteArray := prog_12_method_11_code
def yX10_takeIn : MethodName := ⟨RX10, "takeIn", "(II)I"⟩
abbrev cX10_takeRule : ByteArray := prog_12_method_12_code
def yX10_takeRule : MethodName := ⟨RX10, "takeRule", "(I)V"⟩
abbrev cX10_takeStop : ByteArray := prog_12_method_13_code
def yX10_takeStop : MethodName := ⟨RX10, "takeStop", "(I)V"⟩
abbrev cX10_takeDins : ByteArray := prog_12_method_14_code
def yX10_takeDins : MethodName := ⟨RX10, "takeDins", "(I)V"⟩
abbrev cX10_takeNeighbour : ByteArray := prog_12_method_15_code
def yX10_takeNeighbour : MethodName := ⟨RX10, "takeNeighbour", "()V"⟩
abbrev cX10_takeClause : ByteArray := prog_12_method_16_code
def yX10_takeClause : MethodName := ⟨RX10, "takeClause", "()V"⟩
abbrev cX10_street : ByteArray := prog_12_method_17_code
def yX10_street : MethodName := ⟨RX10, "street", "()I"⟩
abbrev cX10_take : ByteArray := prog_12_method_18_code
def yX10_take : MethodName := ⟨RX10, "take", "()V"⟩
abbrev cX10_fault : ByteArray := prog_12_method_19_code
def yX10_fault : MethodName := ⟨RX10, "fault", "()I"⟩
abbrev cX10_isStop : ByteArray := prog_12_method_20_code
def yX10_isStop : MethodName := ⟨RX10, "isStop", "(I)Z"⟩
abbrev cX10_figures : ByteArray := prog_12_method_21_code
def yX10_figures : MethodName := ⟨RX10, "figures", "(I)I"⟩
abbrev cX10_stopOf : ByteArray := prog_12_method_22_code
def yX10_stopOf : MethodName := ⟨RX10, "stopOf", "(II)I"⟩
abbrev cX10_isWay : ByteArray := prog_12_method_23_code
def yX10_isWay : MethodName := ⟨RX10, "isWay", "(I)Z"⟩
abbrev cX10_isHaste : ByteArray := prog_12_method_24_code
def yX10_isHaste : MethodName := ⟨RX10, "isHaste", "(I)Z"⟩
abbrev cX10_which : ByteArray := prog_12_method_25_code
def yX10_which : MethodName := ⟨RX10, "which", "(I)I"⟩
abbrev cX10_told : ByteArray := prog_12_method_26_code
def yX10_told : MethodName := ⟨RX10, "told", "(I)I"⟩
abbrev cX10_stop : ByteArray := prog_12_method_27_code
def yX10_stop : MethodName := ⟨RX10, "stop", "(II)I"⟩
abbrev cX10_dinAt : ByteArray := prog_12_method_28_code
def yX10_dinAt : MethodName := ⟨RX10, "dinAt", "(I)I"⟩
abbrev cX10_din : ByteArray := prog_12_method_29_code
def yX10_din : MethodName := ⟨RX10, "din", "(I)I"⟩
abbrev cX10_isInAt : ByteArray := prog_12_method_30_code
def yX10_isInAt : MethodName := ⟨RX10, "isInAt", "(II)Z"⟩
abbrev cX10_visit : ByteArray := prog_12_method_31_code
def yX10_visit : MethodName := ⟨RX10, "visit", "(IIIZ)I"⟩
abbrev cX10_roundIn : ByteArray := prog_12_method_32_code
def yX10_roundIn : MethodName := ⟨RX10, "roundIn", "(III)I"⟩
abbrev cX10_tryRound : ByteArray := prog_12_method_33_code
def yX10_tryRound : MethodName := ⟨RX10, "tryRound", "(II)I"⟩
abbrev cX10_copy : ByteArray := prog_12_method_34_code
def yX10_copy : MethodName := ⟨RX10, "copy", "(II)V"⟩
abbrev cX10_remember : ByteArray := prog_12_method_35_code
def yX10_remember : MethodName := ⟨RX10, "remember", "()V"⟩
abbrev cX10_round : ByteArray := prog_12_method_36_code
def yX10_round : MethodName := ⟨RX10, "round", "(II)I"⟩
abbrev cX10_fetch : ByteArray := prog_12_method_37_code
def yX10_fetch : MethodName := ⟨RX10, "fetch", "(I)I"⟩
abbrev cX10_order : ByteArray := prog_12_method_38_code
def yX10_order : MethodName := ⟨RX10, "order", "(I)I"⟩
abbrev cX10_thank : ByteArray := prog_12_method_39_code
def yX10_thank : MethodName := ⟨RX10, "thank", "(I)I"⟩
abbrev cX10_draw : ByteArray := prog_12_method_40_code
def yX10_draw : MethodName := ⟨RX10, "draw", "(I)I"⟩
abbrev cX10_drift : ByteArray := prog_12_method_41_code
def yX10_drift : MethodName := ⟨RX10, "drift", "(I)I"⟩
abbrev cX10_undo : ByteArray := prog_12_method_42_code
def yX10_undo : MethodName := ⟨RX10, "undo", "(I)I"⟩
abbrev cX10_comes : ByteArray := prog_12_method_43_code
def yX10_comes : MethodName := ⟨RX10, "comes", "(III)I"⟩
abbrev cX10_home : ByteArray := prog_12_method_44_code
def yX10_home : MethodName := ⟨RX10, "home", "(II)I"⟩
abbrev cX10_outcome : ByteArray := prog_12_method_45_code
def yX10_outcome : MethodName := ⟨RX10, "outcome", "(II)I"⟩
abbrev cX10_comesTo : ByteArray := prog_12_method_46_code
def yX10_comesTo : MethodName := ⟨RX10, "comesTo", "(II)I"⟩
abbrev cX10_bath : ByteArray := prog_12_method_47_code
def yX10_bath : MethodName := ⟨RX10, "bath", "(IIII)I"⟩
abbrev cX10_counting : ByteArray := prog_12_method_48_code
def yX10_counting : MethodName := ⟨RX10, "counting", "()I"⟩
abbrev cX10_wayOf : ByteArray := prog_12_method_49_code
def yX10_wayOf : MethodName := ⟨RX10, "wayOf", "(I)I"⟩
abbrev cX10_exchange : ByteArray := prog_12_method_50_code
def yX10_exchange : MethodName := ⟨RX10, "exchange", "(II)V"⟩
abbrev cX10_nextRow : ByteArray := prog_12_method_51_code
def yX10_nextRow : MethodName := ⟨RX10, "nextRow", "(I)Z"⟩
abbrev cX10_bestWay : ByteArray := prog_12_method_52_code
def yX10_bestWay : MethodName := ⟨RX10, "bestWay", "(II)I"⟩
abbrev cX10_pretends : ByteArray := prog_12_method_53_code
def yX10_pretends : MethodName := ⟨RX10, "pretends", "(III)I"⟩
abbrev cX10_locker : ByteArray := prog_12_method_54_code
def yX10_locker : MethodName := ⟨RX10, "locker", "(III)I"⟩
abbrev cX10_bears : ByteArray := prog_12_method_55_code
def yX10_bears : MethodName := ⟨RX10, "bears", "(I)I"⟩
abbrev cX10_heard : ByteArray := prog_12_method_56_code
def yX10_heard : MethodName := ⟨RX10, "heard", "(II)I"⟩
abbrev cX10_see : ByteArray := prog_12_method_57_code
def yX10_see : MethodName := ⟨RX10, "see", "(IZ)I"⟩
abbrev cX10_slipsBy : ByteArray := prog_12_method_58_code
def yX10_slipsBy : MethodName := ⟨RX10, "slipsBy", "(II)I"⟩
abbrev cX10_findHastes : ByteArray := prog_12_method_59_code
def yX10_findHastes : MethodName := ⟨RX10, "findHastes", "(I)I"⟩
abbrev cX10_rang : ByteArray := prog_12_method_60_code
def yX10_rang : MethodName := ⟨RX10, "rang", "(II)I"⟩
abbrev cX10_write : ByteArray := prog_12_method_61_code
def yX10_write : MethodName := ⟨RX10, "write", "(II)I"⟩
abbrev cX10_judge : ByteArray := prog_12_method_62_code
def yX10_judge : MethodName := ⟨RX10, "judge", "()I"⟩
abbrev cX10_tear : ByteArray := prog_12_method_63_code
def yX10_tear : MethodName := ⟨RX10, "tear", "()I"⟩
abbrev cX10_seed : ByteArray := prog_12_method_64_code
def yX10_seed : MethodName := ⟨RX10, "seed", "(I)I"⟩
abbrev cX10_keep : ByteArray := prog_12_method_65_code
def yX10_keep : MethodName := ⟨RX10, "keep", "(I)I"⟩
abbrev cX10_goBack : ByteArray := prog_12_method_66_code
def yX10_goBack : MethodName := ⟨RX10, "goBack", "(I)I"⟩
def RJ6 : String := "java/lang/Integer"
abbrev cJ6_bitCount_0f7a4 : ByteArray := prog_13_method_49_code
def yJ6_bitCount_0f7a4 : MethodName := ⟨RJ6, "bitCount", "(I)I"⟩
def RJ9 : String := "java/lang/Math"
abbrev cJ9_abs_0f7a4 : ByteArray := prog_14_method_59_code
def yJ9_abs_0f7a4 : MethodName := ⟨RJ9, "abs", "(I)I"⟩
abbrev cJ9_max_7cf53 : ByteArray := prog_14_method_65_code
def yJ9_max_7cf53 : MethodName := ⟨RJ9, "max", "(II)I"⟩
abbrev cJ9_min_7cf53 : ByteArray := prog_14_method_69_code
def yJ9_min_7cf53 : MethodName := ⟨RJ9, "min", "(II)I"⟩
def RJ10 : String := "java/lang/System"
def RL : String := "WeWereInLaw"
abbrev cL_law : ByteArray := code
def yL_law : MethodName := ⟨RL, "law", "([I)Z"⟩
abbrev vwCl : List vw_C := [(RX0, TX0, 3), (RX1, TX1, 5), (RX2, TX2, 3), (RX3, TX3, 3), (RX4, TX4, 8), (RX5, TX5, 3), (RX6, TX6, 11), (RX7, TX7, 6), (RX8, TX8, 8), (RX9, TX9, 12), (RX10, TX10, 31)]
end
section

abbrev aC : Type := (Nat × vp_A) ⊕ (Nat × List Value)
abbrev aS : Type := Nat × (Nat → aC)
abbrev aG : Type := va_G × (Nat → ClassId) × Nat × Nat
abbrev aM : Type := MethodName × ByteArray × Nat × Option FieldType
def a_v (G : aG) (v : Value) : Value := match v with
  | .ref n => .ref (G.2.2.1 + n)
  | .retAddr _ => .ref G.2.2.2
  | .int x => .int x
  | .long x => .long x
  | .float x => .float x
  | .double x => .double x
  | .null => .null
theorem a_v_cat (G : aG) (v : Value) : (a_v G v).category = v.category := by cases v <;> rfl
def a_st (G : aG) (l : List Value) : List Value := l.map (a_v G)
def a_f (G : aG) (f : Nat → Option Nat) : Nat → Option Nat := fun j => (f j).map (fun n => G.2.2.1 + n)
def a_arr (G : aG) (a : vp_A) : vp_A := match a.2 with
  | .inr (.inr (.inr (.inr f))) => (a.1, .inr (.inr (.inr (.inr (a_f G f)))))
  | .inl f => (a.1, .inl f)
  | .inr (.inl f) => (a.1, .inr (.inl f))
  | .inr (.inr (.inl f)) => (a.1, .inr (.inr (.inl f)))
  | .inr (.inr (.inr (.inl f))) => (a.1, .inr (.inr (.inr (.inl f))))
def a_E (G : aG) (c : aC) : va_E := match c with
  | .inl a => .inl (G.2.1 a.1, a_arr G a.2)
  | .inr o => .inr (o.1, o.2.map (a_v G))
def a_ws (G : aG) (σ : aS) : va_W := (List.range σ.1).map (fun i => (G.2.2.1 + i, a_E G (σ.2 i)))
def a_up (h : Nat → aC) (i : Nat) (c : aC) : Nat → aC := fun j => if j = i then c else h j
theorem a_ws_get (G : aG) (σ : aS) {i : Nat} (h : i < σ.1) : (a_ws G σ)[i]? = some (G.2.2.1 + i, a_E G (σ.2 i)) := by
  simp [a_ws, h]
theorem a_ws_inv {G : aG} {σ : aS} {i : Nat} {q : Nat × va_E} (h : (a_ws G σ)[i]? = some q) : i < σ.1 ∧ q = (G.2.2.1 + i, a_E G (σ.2 i)) := by
  have hi : i < σ.1 := by
    have := (List.getElem?_eq_some_iff.mp h).1
    simpa [a_ws] using this
  rw [a_ws_get G σ hi] at h
  exact ⟨hi, (Option.some.inj h).symm⟩
theorem a_ws_set (G : aG) (σ : aS) {i : Nat} (c : aC) : (a_ws G σ).set i (G.2.2.1 + i, a_E G c) = a_ws G (σ.1, a_up σ.2 i c) := by
  apply List.ext_getElem?
  intro j
  by_cases hj : j < σ.1
  · rw [a_ws_get G (σ.1, a_up σ.2 i c) hj, List.getElem?_set]
    by_cases hij : i = j
    · subst hij
      simp [a_ws, hj, a_up]
    · rw [if_neg hij, a_ws_get G σ hj]
      simp [a_up, Ne.symm hij]
  · have h1 : (a_ws G (σ.1, a_up σ.2 i c))[j]? = none := by simp [a_ws]; omega
    rw [h1]
    simp [a_ws]
    omega
theorem a_ws_push (G : aG) (σ : aS) (c : aC) : a_ws G σ ++ [(G.2.2.1 + σ.1, a_E G c)] = a_ws G (σ.1 + 1, a_up σ.2 σ.1 c) := by
  apply List.ext_getElem?
  intro j
  have hlen : (a_ws G σ).length = σ.1 := by simp [a_ws]
  by_cases hj : j < σ.1
  · rw [List.getElem?_append_left (by omega), a_ws_get G σ hj, a_ws_get G (σ.1 + 1, a_up σ.2 σ.1 c) (i := j) (by show j < σ.1 + 1; omega)]
    simp [a_up, Nat.ne_of_lt hj]
  · by_cases hj2 : j = σ.1
    · subst hj2
      rw [List.getElem?_append_right (by omega), a_ws_get G (σ.1 + 1, a_up σ.2 σ.1 c) (i := σ.1) (by show σ.1 < σ.1 + 1; omega)]
      simp [a_up, hlen]
    · rw [List.getElem?_append_right (by omega)]
      have h1 : (a_ws G (σ.1 + 1, a_up σ.2 σ.1 c))[j]? = none := by simp [a_ws]; omega
      rw [h1, hlen]
      simp
      omega
theorem a_D (G : aG) (σ : aS) : va_D (fun q => G.2.2.1 ≤ q) (a_ws G σ) := by
  refine ⟨fun i j p q hp hq he => ?_, fun k q hq => ?_⟩
  · obtain ⟨h1, rfl⟩ := a_ws_inv hp
    obtain ⟨h2, rfl⟩ := a_ws_inv hq
    have he : G.2.2.1 + i = G.2.2.1 + j := he
    omega
  · obtain ⟨h2, rfl⟩ := a_ws_inv hq
    exact Nat.le_add_right _ _
def a_R (G : aG) (σ : aS) (H : Heap) : Prop := H.size = G.2.2.1 + σ.1 ∧ va_P G.1 vwCl (a_ws G σ) H
def a_tys (G : aG) : List (ClassId × FieldType) := [(G.2.1 0, .int), (G.2.1 1, .boolean), (G.2.1 2, .object "WeWereIn$Days"), (G.2.1 3, .object "WeWereIn$Image")]
def a_isN (w : Cond) : Bool := match w with
  | .fieldLinkNest _ _ _ _ _ _ => true
  | .methodLinkNest _ _ _ _ => true
  | _ => false
def gT : List Cond := lw_tbl.filter goodWord
def nT : List Cond := lw_tbl.filter a_isN
theorem gT_good : GoodIn gT gT := fun w h => ⟨h, good_of_word (List.mem_filter.mp h).2⟩
theorem nT_warm {w : Cond} (hw : w ∈ nT) {s U : State} (hW : s.WarmedH U.vm) (h : va_Nw w s) : va_Nw w U := by
  have h2 := (List.mem_filter.mp hw).2
  cases w <;> first | (simp [a_isN] at h2; done) | exact va_Nw.warmF hW h | exact va_Nw.warmM hW h
theorem nT_same {w : Cond} (hw : w ∈ nT) {u U : State} (hv : u.vm = U.vm) (h : va_Nw w u) : va_Nw w U := by
  have h2 := (List.mem_filter.mp hw).2
  cases w <;> first | (simp [a_isN] at h2; done) | exact va_Nw.same rfl hv h
def a_Kn (G : aG) (U : State) : Prop := va_K G.1 vwCl (a_tys G) U ∧ (∀ w ∈ nT, va_Nw w U) ∧ va_AO "WeWereIn$Days" U ∧ va_AO "WeWereIn$Image" U
theorem a_Kn.warm {G : aG} {s U : State} (hW : s.WarmedH U.vm) (h : a_Kn G s) : a_Kn G U :=
  ⟨va_K.moved hW.alike h.1, fun w hw => nT_warm hw hW (h.2.1 w hw), va_AO.moved hW.alike h.2.2.1, va_AO.moved hW.alike h.2.2.2⟩
theorem a_Kn.same {G : aG} {s U : State} (hv : s.vm = U.vm) (h : a_Kn G s) : a_Kn G U :=
  ⟨va_K.moved (by rw [hv]; exact Vm.Alike.refl U.vm) h.1, fun w hw => nT_same hw hv (h.2.1 w hw), va_AO.moved (by rw [hv]; exact Vm.Alike.refl U.vm) h.2.2.1, va_AO.moved (by rw [hv]; exact Vm.Alike.refl U.vm) h.2.2.2⟩
def a_L (G : aG) (nL : Nat) (L : List (Option Value)) (ls : Array Slot) : Prop := ls.size = nL ∧ lv_wf ls ∧ ∀ (i : Nat) (v : Value), L[i]? = some (some v) → ls[i]? = some (.val (a_v G v))
def a_pairs (G : aG) (L : List (Option Value)) : List (Nat × Value) := (List.range L.length).filterMap (fun i => match L[i]? with | some (some v) => some (i, a_v G v) | _ => none)
theorem a_pairs_mem {G : aG} {L : List (Option Value)} {q : Nat × Value} : q ∈ a_pairs G L ↔ ∃ v, L[q.1]? = some (some v) ∧ q.2 = a_v G v := by
  unfold a_pairs
  rw [List.mem_filterMap]
  constructor
  · rintro ⟨i, -, h⟩
    split at h
    · next v hv =>
      cases h
      exact ⟨v, hv, rfl⟩
    · cases h
  · rintro ⟨v, h1, h2⟩
    refine ⟨q.1, List.mem_range.mpr (List.getElem?_eq_some_iff.mp h1).1, ?_⟩
    rw [h1]
    show some (q.1, a_v G v) = some q
    rw [← h2]
theorem a_L.has {G : aG} {nL : Nat} {L : List (Option Value)} {ls : Array Slot} (h : a_L G nL L ls) : lv_has ls nL (a_pairs G L) :=
  ⟨h.1, h.2.1, fun q hq => by obtain ⟨v, h1, h2⟩ := a_pairs_mem.mp hq; rw [h2]; exact h.2.2 _ _ h1⟩
/-- no long lies in the place ahead of i -/
def a_ok (L : List (Option Value)) (i : Nat) : Bool := match i with
  | 0 => true
  | j + 1 => match L[j]? with
    | some (some (.long _)) => false
    | some (some (.double _)) => false
    | _ => true
theorem a_ok_cat {L : List (Option Value)} {i : Nat} (h : a_ok L i = true) {j : Nat} {w : Value} (hj : j + 1 = i) (hw : L[j]? = some (some w)) : ¬ w.category = 2 := by
  subst hj
  simp only [a_ok, hw] at h
  cases w <;> simp [Value.category] at h ⊢
theorem a_L.st1 {G : aG} {nL : Nat} {L : List (Option Value)} {ls : Array Slot} {i : Nat} {v : Value} (hc : a_ok L i = true) {ls' : Array Slot}
    (h' : lv_has ls' nL ((i, a_v G v) :: (a_pairs G L).filter (fun q => !(q.1 == i) && !(q.1 + 1 == i && q.2.category == 2)))) : a_L G nL (L.set i (some v)) ls' := by
  refine ⟨h'.1, h'.2.1, fun j w hj => ?_⟩
  rw [List.getElem?_set] at hj
  by_cases hij : i = j
  · subst hij
    rw [if_pos rfl] at hj
    split at hj
    · cases hj
      exact h'.2.2 _ List.mem_cons_self
    · cases hj
  · rw [if_neg hij] at hj
    refine h'.2.2 (j, a_v G w) (List.mem_cons_of_mem _ (List.mem_filter.mpr ⟨a_pairs_mem.mpr ⟨w, hj, rfl⟩, ?_⟩))
    have h1 : (j == i) = false := by simpa using Ne.symm hij
    show (!(j == i) && !(j + 1 == i && (a_v G w).category == 2)) = true
    rw [h1, a_v_cat]
    by_cases h2 : j + 1 = i
    · have h3 := a_ok_cat hc h2 hj
      simp [h3]
    · simp [h2]
theorem a_L.st2 {G : aG} {nL : Nat} {L : List (Option Value)} {ls : Array Slot} {i : Nat} {v : Value} (hc : a_ok L i = true) {ls' : Array Slot}
    (h' : lv_has ls' nL ((i, a_v G v) :: (a_pairs G L).filter (fun q => !(q.1 == i) && (!(q.1 == i + 1) && !(q.1 + 1 == i && q.2.category == 2))))) : a_L G nL ((L.set i (some v)).set (i + 1) none) ls' := by
  refine ⟨h'.1, h'.2.1, fun j w hj => ?_⟩
  rw [List.getElem?_set] at hj
  by_cases hij2 : i + 1 = j
  · rw [if_pos hij2] at hj
    split at hj <;> cases hj
  rw [if_neg hij2, List.getElem?_set] at hj
  by_cases hij : i = j
  · subst hij
    rw [if_pos rfl] at hj
    split at hj
    · cases hj
      exact h'.2.2 _ List.mem_cons_self
    · cases hj
  · rw [if_neg hij] at hj
    refine h'.2.2 (j, a_v G w) (List.mem_cons_of_mem _ (List.mem_filter.mpr ⟨a_pairs_mem.mpr ⟨w, hj, rfl⟩, ?_⟩))
    have h1 : (j == i) = false := by simpa using Ne.symm hij
    have h1b : (j == i + 1) = false := by simpa using Ne.symm hij2
    show (!(j == i) && (!(j == i + 1) && !(j + 1 == i && (a_v G w).category == 2))) = true
    rw [h1, h1b, a_v_cat]
    by_cases h2 : j + 1 = i
    · have h3 := a_ok_cat hc h2 hj
      simp [h3]
    · simp [h2]
def a_rt (M : aM) (pc : Nat) (r : Option Value) : Prop := match r with
  | none => decode M.2.1 pc = .ok (.return_, 1) ∧ M.2.2.2 = none
  | some (.int v) => decode M.2.1 pc = .ok (.ireturn, 1) ∧ ∃ ty, M.2.2.2 = some ty ∧ narrow ty (.int v) = .int v
  | _ => False
def a_Cx (scr : Option (Nat × (Nat → Int32))) (k mc ms : Nat) (M : aM) (G : aG) (p : Program) (R : Room) (s : State) (m : MethodId) (args : Array Value) (meth : Method) (c : Code) : Prop :=
  p.tables.exec = Jvm.exec ∧ c.code = M.2.1 ∧ c.maxLocals = M.2.2.1 ∧ s.vm.findClass M.1.cls = some m.cls ∧ (∀ w ∈ gT, w.before args s = true) ∧ a_Kn G s ∧ meth.name = M.1.name ∧ (k ≤ R.frames ∧ 64 * k ≤ R.locals ∧ mc ≤ R.cells ∧ ms ≤ R.slots) ∧ G.2.2.1 ≤ s.heap.size ∧ (∀ q, scr = some q → va_X G.2.2.2 q.1 q.2 s s.heap ∧ G.2.2.2 < G.2.2.1)
def AW (scr : Option (Nat × (Nat → Int32))) (k mc ms : Nat) (M : aM) (c0 s0 pc : Nat) (L : List (Option Value)) (st : List Value) (σ : aS) (P : Option Value → aS → Prop) : Prop :=
  ∀ (p : Program) (l : Launch) (e : Env) (R : Room) (s : State) (m : MethodId) (args : Array Value) (below : List Frame) (meth : Method) (c : Code) (H : Heap) (locs : List Loc) (Q : State → Prop) (ls : Array Slot) (G : aG),
    a_Cx scr k mc ms M G p R s m args meth c → a_R G σ H → va_S (fun q => G.2.2.1 ≤ q) s.heap H locs → a_L G M.2.2.1 L ls →
    (∀ (r : Option Value) (σ' : aS) (H' : Heap) (locs' : List Loc) (c1 s1 pc' : Nat) (ls' : Array Slot), P r σ' → a_R G σ' H' → va_S (fun q => G.2.2.1 ≤ q) s.heap H' locs' → c1 ≤ mc → s1 ≤ ms → a_rt M pc' r → W p l e R s m args below meth c H' locs' c1 s1 Q (F0 m pc' ls' (a_st G r.toList))) →
    W p l e R s m args below meth c H locs c0 s0 Q (F0 m pc ls (a_st G st))
def a_rm (k mc ms : Nat) : Room := { frames := k, cells := mc, slots := ms, locals := 64 * k }
def a_Pc (G : aG) (av : List Value) (σ : aS) : Array Value → State → Prop := va_Pc (a_st G av) (fun U => a_R G σ U.heap ∧ a_Kn G U)
def a_Qc (G : aG) (P : Option Value → aS → Prop) : Array Value → State → Outcome → State → Prop := fun _ st oc t => (∃ (r : Option Value) (σ' : aS), oc = .returned (r.map (a_v G)) ∧ P r σ' ∧ a_R G σ' t.heap) ∧ va_F (fun q => G.2.2.1 ≤ q) st t
def a_wl (M : aM) : List Cond := .code M.1 M.2.1 M.2.2.1 M.2.2.2 :: gT
def AC (k mc ms : Nat) (M : aM) (av : List Value) (σ : aS) (P : Option Value → aS → Prop) : Prop :=
  ∀ (l : Launch) (G : aG), Met l M.1 (a_wl M) (a_rm k mc ms) (a_Pc G av σ) (a_Qc G P) mc ms (fun q => G.2.2.1 ≤ q)
def a_eq (r : Option Value) (σ : aS) : Option Value → aS → Prop := fun r' σ' => r' = r ∧ σ' = σ
/-- the locals at a method's entry -/
def a_ents (l : List Value) : List (Option Value) := match l with
  | [] => []
  | .long x :: t => some (.long x) :: none :: a_ents t
  | .double x :: t => some (.double x) :: none :: a_ents t
  | v :: t => some v :: a_ents t
theorem a_ents_ok (G : aG) (l : List Value) : ∀ (n i : Nat) (v : Value), (a_ents l)[i]? = some (some v) → (n + i, a_v G v) ∈ lv_args n (a_st G l) := by
  induction l with
  | nil => intro n i v h; simp [a_ents] at h
  | cons w t ih =>
    intro n i v h
    have one : w.category = 1 → a_ents (w :: t) = some w :: a_ents t → (n + i, a_v G v) ∈ lv_args n (a_st G (w :: t)) := by
      intro hc he
      rw [he] at h
      show (n + i, a_v G v) ∈ (n, a_v G w) :: lv_args (if (a_v G w).category = 2 then n + 2 else n + 1) (a_st G t)
      rw [a_v_cat, if_neg (by omega)]
      cases i with
      | zero => simp at h; subst h; exact List.mem_cons_self
      | succ i =>
        have := ih (n + 1) i v (by simpa using h)
        rw [show n + 1 + i = n + (i + 1) by omega] at this
        exact List.mem_cons_of_mem _ this
    have two : w.category = 2 → a_ents (w :: t) = some w :: none :: a_ents t → (n + i, a_v G v) ∈ lv_args n (a_st G (w :: t)) := by
      intro hc he
      rw [he] at h
      show (n + i, a_v G v) ∈ (n, a_v G w) :: lv_args (if (a_v G w).category = 2 then n + 2 else n + 1) (a_st G t)
      rw [a_v_cat, if_pos hc]
      match i, h with
      | 0, h => simp at h; subst h; exact List.mem_cons_self
      | 1, h => simp at h
      | i + 2, h =>
        have := ih (n + 2) i v (by simpa using h)
        rw [show n + 2 + i = n + (i + 2) by omega] at this
        exact List.mem_cons_of_mem _ this
    cases w <;> first | exact one rfl rfl | exact two rfl rfl

section AWR
variable {scr : Option (Nat × (Nat → Int32))} {k mc ms : Nat} {M : aM} {c0 s0 pc n : Nat} {L : List (Option Value)} {st : List Value} {σ : aS} {P : Option Value → aS → Prop}
theorem AW.iconst {i : Int} {v : Int32} (hd : decode M.2.1 pc = .ok (.iconst i, 1)) (hv : Int32.ofInt i = v) (hn : pc + 1 = n) (h : AW scr k mc ms M c0 s0 n L (.int v :: st) σ P) : AW scr k mc ms M c0 s0 pc L (st) σ P := by
  subst hn
  intro p l e R s m args below meth c H locs Q ls G C hR hS hL K
  exact lv_iconst C.1 C.2.1 hd hv (h p l e R s m args below meth c H locs Q ls G C hR hS hL K)
theorem AW.bipush {i : Int} {v : Int32} (hd : decode M.2.1 pc = .ok (.bipush i, 2)) (hv : (Int8.ofInt i).toInt32 = v) (hn : pc + 2 = n) (h : AW scr k mc ms M c0 s0 n L (.int v :: st) σ P) : AW scr k mc ms M c0 s0 pc L (st) σ P := by
  subst hn
  intro p l e R s m args below meth c H locs Q ls G C hR hS hL K
  exact lv_bipush C.1 C.2.1 hd hv (h p l e R s m args below meth c H locs Q ls G C hR hS hL K)
theorem AW.sipush {i : Int} {v : Int32} (hd : decode M.2.1 pc = .ok (.sipush i, 3)) (hv : (Int16.ofInt i).toInt32 = v) (hn : pc + 3 = n) (h : AW scr k mc ms M c0 s0 n L (.int v :: st) σ P) : AW scr k mc ms M c0 s0 pc L (st) σ P := by
  subst hn
  intro p l e R s m args below meth c H locs Q ls G C hR hS hL K
  exact lv_sipush C.1 C.2.1 hd hv (h p l e R s m args below meth c H locs Q ls G C hR hS hL K)
theorem AW.lconst {i : Fin 2} {v : Int64} (hd : decode M.2.1 pc = .ok (.lconst i, 1)) (hv : Int64.ofNat (i : Nat) = v) (hn : pc + 1 = n) (h : AW scr k mc ms M c0 s0 n L (.long v :: st) σ P) : AW scr k mc ms M c0 s0 pc L (st) σ P := by
  subst hn
  intro p l e R s m args below meth c H locs Q ls G C hR hS hL K
  exact lv_lconst C.1 C.2.1 hd hv (h p l e R s m args below meth c H locs Q ls G C hR hS hL K)
theorem AW.ldc {i : Nat} {v : Int32} (hd : decode M.2.1 pc = .ok (.ldc i, 2)) (hv : Cond.constant M.1.cls i v ∈ gT) (hn : pc + 2 = n) (h : AW scr k mc ms M c0 s0 n L (.int v :: st) σ P) : AW scr k mc ms M c0 s0 pc L (st) σ P := by
  subst hn
  intro p l e R s m args below meth c H locs Q ls G C hR hS hL K
  exact lv_ldc C.1 C.2.1 C.2.2.2.1 (C.2.2.2.2.1 _ hv) hd (h p l e R s m args below meth c H locs Q ls G C hR hS hL K)
theorem AW.ldcw {i : Nat} {v : Int32} (hd : decode M.2.1 pc = .ok (.ldc_w i, 3)) (hv : Cond.constant M.1.cls i v ∈ gT) (hn : pc + 3 = n) (h : AW scr k mc ms M c0 s0 n L (.int v :: st) σ P) : AW scr k mc ms M c0 s0 pc L (st) σ P := by
  subst hn
  intro p l e R s m args below meth c H locs Q ls G C hR hS hL K
  exact lv_ldcw C.1 C.2.1 C.2.2.2.1 (C.2.2.2.2.1 _ hv) hd (h p l e R s m args below meth c H locs Q ls G C hR hS hL K)
theorem AW.ldc2 {i : Nat} {v : Int64} (hd : decode M.2.1 pc = .ok (.ldc2_w i, 3)) (hv : Cond.constantLong M.1.cls i v ∈ gT) (hn : pc + 3 = n) (h : AW scr k mc ms M c0 s0 n L (.long v :: st) σ P) : AW scr k mc ms M c0 s0 pc L (st) σ P := by
  subst hn
  intro p l e R s m args below meth c H locs Q ls G C hR hS hL K
  exact lv_ldc2 C.1 C.2.1 C.2.2.2.1 (C.2.2.2.2.1 _ hv) hd (h p l e R s m args below meth c H locs Q ls G C hR hS hL K)
theorem AW.iload_n {i : Fin 4} {x : Int32} (hd : decode M.2.1 pc = .ok (.iload_n i, 1)) (hl : L[(i : Nat)]? = some (some (.int x))) (hn : pc + 1 = n) (h : AW scr k mc ms M c0 s0 n L (.int x :: st) σ P) : AW scr k mc ms M c0 s0 pc L (st) σ P := by
  subst hn
  intro p l e R s m args below meth c H locs Q ls G C hR hS hL K
  exact lv_iload_n C.1 C.2.1 hd rfl (hL.2.2 _ _ hl) (h p l e R s m args below meth c H locs Q ls G C hR hS hL K)
theorem AW.iload {i : Nat} {x : Int32} (hd : decode M.2.1 pc = .ok (.iload i, 2)) (hl : L[i]? = some (some (.int x))) (hn : pc + 2 = n) (h : AW scr k mc ms M c0 s0 n L (.int x :: st) σ P) : AW scr k mc ms M c0 s0 pc L (st) σ P := by
  subst hn
  intro p l e R s m args below meth c H locs Q ls G C hR hS hL K
  exact lv_iload C.1 C.2.1 hd (hL.2.2 _ _ hl) (h p l e R s m args below meth c H locs Q ls G C hR hS hL K)
theorem AW.lload_n {i : Fin 4} {x : Int64} (hd : decode M.2.1 pc = .ok (.lload_n i, 1)) (hl : L[(i : Nat)]? = some (some (.long x))) (hn : pc + 1 = n) (h : AW scr k mc ms M c0 s0 n L (.long x :: st) σ P) : AW scr k mc ms M c0 s0 pc L (st) σ P := by
  subst hn
  intro p l e R s m args below meth c H locs Q ls G C hR hS hL K
  exact lv_lload_n C.1 C.2.1 hd rfl (hL.2.2 _ _ hl) (h p l e R s m args below meth c H locs Q ls G C hR hS hL K)
theorem AW.lload {i : Nat} {x : Int64} (hd : decode M.2.1 pc = .ok (.lload i, 2)) (hl : L[i]? = some (some (.long x))) (hn : pc + 2 = n) (h : AW scr k mc ms M c0 s0 n L (.long x :: st) σ P) : AW scr k mc ms M c0 s0 pc L (st) σ P := by
  subst hn
  intro p l e R s m args below meth c H locs Q ls G C hR hS hL K
  exact lv_lload C.1 C.2.1 hd (hL.2.2 _ _ hl) (h p l e R s m args below meth c H locs Q ls G C hR hS hL K)
theorem AW.aload_n {i : Fin 4} {x : Nat} (hd : decode M.2.1 pc = .ok (.aload_n i, 1)) (hl : L[(i : Nat)]? = some (some (.ref x))) (hn : pc + 1 = n) (h : AW scr k mc ms M c0 s0 n L (.ref x :: st) σ P) : AW scr k mc ms M c0 s0 pc L (st) σ P := by
  subst hn
  intro p l e R s m args below meth c H locs Q ls G C hR hS hL K
  exact lv_aload_n C.1 C.2.1 hd rfl (hL.2.2 _ _ hl) (h p l e R s m args below meth c H locs Q ls G C hR hS hL K)
theorem AW.aload {i : Nat} {x : Nat} (hd : decode M.2.1 pc = .ok (.aload i, 2)) (hl : L[i]? = some (some (.ref x))) (hn : pc + 2 = n) (h : AW scr k mc ms M c0 s0 n L (.ref x :: st) σ P) : AW scr k mc ms M c0 s0 pc L (st) σ P := by
  subst hn
  intro p l e R s m args below meth c H locs Q ls G C hR hS hL K
  exact lv_aload C.1 C.2.1 hd (hL.2.2 _ _ hl) (h p l e R s m args below meth c H locs Q ls G C hR hS hL K)
theorem AW.sload_n {i : Fin 4} {x : Nat} (hd : decode M.2.1 pc = .ok (.aload_n i, 1)) (hl : L[(i : Nat)]? = some (some (.retAddr x))) (hn : pc + 1 = n) (h : AW scr k mc ms M c0 s0 n L (.retAddr x :: st) σ P) : AW scr k mc ms M c0 s0 pc L (st) σ P := by
  subst hn
  intro p l e R s m args below meth c H locs Q ls G C hR hS hL K
  exact lv_aload_n C.1 C.2.1 hd rfl (hL.2.2 _ _ hl) (h p l e R s m args below meth c H locs Q ls G C hR hS hL K)
theorem AW.istore_n {i : Fin 4} {x : Int32} {L' : List (Option Value)} (hd : decode M.2.1 pc = .ok (.istore_n i, 1)) (hi : (i : Nat) < M.2.2.1) (hc : a_ok L (i : Nat) = true) (hl : L.set (i : Nat) (some (.int x)) = L') (hn : pc + 1 = n) (h : AW scr k mc ms M c0 s0 n L' st σ P) : AW scr k mc ms M c0 s0 pc L (.int x :: st) σ P := by
  subst hn; subst hl
  intro p l e R s m args below meth c H locs Q ls G C hR hS hL K
  exact lv_istore_n C.1 C.2.1 hd rfl hL.has hi rfl (fun ls1 h1 => h p l e R s m args below meth c H locs Q ls1 G C hR hS (a_L.st1 (ls := ls) hc h1) K)
theorem AW.istore {i : Nat} {x : Int32} {L' : List (Option Value)} (hd : decode M.2.1 pc = .ok (.istore i, 2)) (hi : i < M.2.2.1) (hc : a_ok L i = true) (hl : L.set i (some (.int x)) = L') (hn : pc + 2 = n) (h : AW scr k mc ms M c0 s0 n L' st σ P) : AW scr k mc ms M c0 s0 pc L (.int x :: st) σ P := by
  subst hn; subst hl
  intro p l e R s m args below meth c H locs Q ls G C hR hS hL K
  exact lv_istore C.1 C.2.1 hd hL.has hi rfl (fun ls1 h1 => h p l e R s m args below meth c H locs Q ls1 G C hR hS (a_L.st1 (ls := ls) hc h1) K)
theorem AW.astore_n {i : Fin 4} {x : Nat} {L' : List (Option Value)} (hd : decode M.2.1 pc = .ok (.astore_n i, 1)) (hi : (i : Nat) < M.2.2.1) (hc : a_ok L (i : Nat) = true) (hl : L.set (i : Nat) (some (.ref x)) = L') (hn : pc + 1 = n) (h : AW scr k mc ms M c0 s0 n L' st σ P) : AW scr k mc ms M c0 s0 pc L (.ref x :: st) σ P := by
  subst hn; subst hl
  intro p l e R s m args below meth c H locs Q ls G C hR hS hL K
  exact lv_astore_n C.1 C.2.1 hd rfl hL.has hi rfl (fun ls1 h1 => h p l e R s m args below meth c H locs Q ls1 G C hR hS (a_L.st1 (ls := ls) hc h1) K)
theorem AW.astore {i : Nat} {x : Nat} {L' : List (Option Value)} (hd : decode M.2.1 pc = .ok (.astore i, 2)) (hi : i < M.2.2.1) (hc : a_ok L i = true) (hl : L.set i (some (.ref x)) = L') (hn : pc + 2 = n) (h : AW scr k mc ms M c0 s0 n L' st σ P) : AW scr k mc ms M c0 s0 pc L (.ref x :: st) σ P := by
  subst hn; subst hl
  intro p l e R s m args below meth c H locs Q ls G C hR hS hL K
  exact lv_astore C.1 C.2.1 hd hL.has hi rfl (fun ls1 h1 => h p l e R s m args below meth c H locs Q ls1 G C hR hS (a_L.st1 (ls := ls) hc h1) K)
theorem AW.lstore_n {i : Fin 4} {x : Int64} {L' : List (Option Value)} (hd : decode M.2.1 pc = .ok (.lstore_n i, 1)) (hi : (i : Nat) + 1 < M.2.2.1) (hc : a_ok L (i : Nat) = true) (hl : (L.set (i : Nat) (some (.long x))).set ((i : Nat) + 1) none = L') (hn : pc + 1 = n) (h : AW scr k mc ms M c0 s0 n L' st σ P) : AW scr k mc ms M c0 s0 pc L (.long x :: st) σ P := by
  subst hn; subst hl
  intro p l e R s m args below meth c H locs Q ls G C hR hS hL K
  exact lv_lstore_n C.1 C.2.1 hd rfl hL.has hi rfl (fun ls1 h1 => h p l e R s m args below meth c H locs Q ls1 G C hR hS (a_L.st2 (ls := ls) hc h1) K)
theorem AW.iinc {i : Nat} {x v : Int32} {d : Int} {L' : List (Option Value)} (hd : decode M.2.1 pc = .ok (.iinc i d, 3)) (hx : L[i]? = some (some (.int x))) (hv : x + Int32.ofInt d = v) (hi : i < M.2.2.1) (hc : a_ok L i = true) (hl : L.set i (some (.int v)) = L') (hn : pc + 3 = n) (h : AW scr k mc ms M c0 s0 n L' st σ P) : AW scr k mc ms M c0 s0 pc L st σ P := by
  subst hn; subst hl
  intro p l e R s m args below meth c H locs Q ls G C hR hS hL K
  obtain ⟨kk, hkk⟩ := List.getElem?_of_mem (a_pairs_mem (G := G) (q := (i, .int x)) |>.mpr ⟨.int x, hx, rfl⟩)
  exact lv_iinc C.1 C.2.1 hd hL.has hkk hv hi rfl (fun ls1 h1 => h p l e R s m args below meth c H locs Q ls1 G C hR hS (a_L.st1 (ls := ls) (v := .int v) hc h1) K)
theorem AW.iadd {x y : Int32} (hd : decode M.2.1 pc = .ok (.iadd, 1)) (hn : pc + 1 = n) (h : AW scr k mc ms M c0 s0 n L (.int (x + y) :: st) σ P) : AW scr k mc ms M c0 s0 pc L (.int y :: .int x :: st) σ P := by
  subst hn
  intro p l e R s m args below meth c H locs Q ls G C hR hS hL K
  exact lv_iadd C.1 C.2.1 hd (h p l e R s m args below meth c H locs Q ls G C hR hS hL K)
theorem AW.isub {x y : Int32} (hd : decode M.2.1 pc = .ok (.isub, 1)) (hn : pc + 1 = n) (h : AW scr k mc ms M c0 s0 n L (.int (x - y) :: st) σ P) : AW scr k mc ms M c0 s0 pc L (.int y :: .int x :: st) σ P := by
  subst hn
  intro p l e R s m args below meth c H locs Q ls G C hR hS hL K
  exact lv_isub C.1 C.2.1 hd (h p l e R s m args below meth c H locs Q ls G C hR hS hL K)
theorem AW.imul {x y : Int32} (hd : decode M.2.1 pc = .ok (.imul, 1)) (hn : pc + 1 = n) (h : AW scr k mc ms M c0 s0 n L (.int (x * y) :: st) σ P) : AW scr k mc ms M c0 s0 pc L (.int y :: .int x :: st) σ P := by
  subst hn
  intro p l e R s m args below meth c H locs Q ls G C hR hS hL K
  exact lv_imul C.1 C.2.1 hd (h p l e R s m args below meth c H locs Q ls G C hR hS hL K)
theorem AW.iand {x y : Int32} (hd : decode M.2.1 pc = .ok (.iand, 1)) (hn : pc + 1 = n) (h : AW scr k mc ms M c0 s0 n L (.int (x &&& y) :: st) σ P) : AW scr k mc ms M c0 s0 pc L (.int y :: .int x :: st) σ P := by
  subst hn
  intro p l e R s m args below meth c H locs Q ls G C hR hS hL K
  exact lv_iand C.1 C.2.1 hd (h p l e R s m args below meth c H locs Q ls G C hR hS hL K)
theorem AW.ior {x y : Int32} (hd : decode M.2.1 pc = .ok (.ior, 1)) (hn : pc + 1 = n) (h : AW scr k mc ms M c0 s0 n L (.int (x ||| y) :: st) σ P) : AW scr k mc ms M c0 s0 pc L (.int y :: .int x :: st) σ P := by
  subst hn
  intro p l e R s m args below meth c H locs Q ls G C hR hS hL K
  exact lv_ior C.1 C.2.1 hd (h p l e R s m args below meth c H locs Q ls G C hR hS hL K)
theorem AW.ixor {x y : Int32} (hd : decode M.2.1 pc = .ok (.ixor, 1)) (hn : pc + 1 = n) (h : AW scr k mc ms M c0 s0 n L (.int (x ^^^ y) :: st) σ P) : AW scr k mc ms M c0 s0 pc L (.int y :: .int x :: st) σ P := by
  subst hn
  intro p l e R s m args below meth c H locs Q ls G C hR hS hL K
  exact lv_ixor C.1 C.2.1 hd (h p l e R s m args below meth c H locs Q ls G C hR hS hL K)
theorem AW.ishl {x y : Int32} (hd : decode M.2.1 pc = .ok (.ishl, 1)) (hn : pc + 1 = n) (h : AW scr k mc ms M c0 s0 n L (.int (x <<< (y &&& 31)) :: st) σ P) : AW scr k mc ms M c0 s0 pc L (.int y :: .int x :: st) σ P := by
  subst hn
  intro p l e R s m args below meth c H locs Q ls G C hR hS hL K
  exact lv_ishl C.1 C.2.1 hd (h p l e R s m args below meth c H locs Q ls G C hR hS hL K)
theorem AW.ishr {x y : Int32} (hd : decode M.2.1 pc = .ok (.ishr, 1)) (hn : pc + 1 = n) (h : AW scr k mc ms M c0 s0 n L (.int (x >>> (y &&& 31)) :: st) σ P) : AW scr k mc ms M c0 s0 pc L (.int y :: .int x :: st) σ P := by
  subst hn
  intro p l e R s m args below meth c H locs Q ls G C hR hS hL K
  exact lv_ishr C.1 C.2.1 hd (h p l e R s m args below meth c H locs Q ls G C hR hS hL K)
theorem AW.iushr {x y : Int32} (hd : decode M.2.1 pc = .ok (.iushr, 1)) (hn : pc + 1 = n) (h : AW scr k mc ms M c0 s0 n L (.int ((x.toUInt32 >>> (y.toUInt32 &&& Int32.toUInt32 31)).toInt32) :: st) σ P) : AW scr k mc ms M c0 s0 pc L (.int y :: .int x :: st) σ P := by
  subst hn
  intro p l e R s m args below meth c H locs Q ls G C hR hS hL K
  exact lv_iushr C.1 C.2.1 hd rfl (h p l e R s m args below meth c H locs Q ls G C hR hS hL K)
theorem AW.idiv {x y : Int32} (hd : decode M.2.1 pc = .ok (.idiv, 1)) (hne : ¬ y = 0) (hn : pc + 1 = n) (h : AW scr k mc ms M c0 s0 n L (.int (x / y) :: st) σ P) : AW scr k mc ms M c0 s0 pc L (.int y :: .int x :: st) σ P := by
  subst hn
  intro p l e R s m args below meth c H locs Q ls G C hR hS hL K
  exact lv_idiv C.1 C.2.1 hd hne (h p l e R s m args below meth c H locs Q ls G C hR hS hL K)
theorem AW.irem {x y : Int32} (hd : decode M.2.1 pc = .ok (.irem, 1)) (hne : ¬ y = 0) (hn : pc + 1 = n) (h : AW scr k mc ms M c0 s0 n L (.int (x - x / y * y) :: st) σ P) : AW scr k mc ms M c0 s0 pc L (.int y :: .int x :: st) σ P := by
  subst hn
  intro p l e R s m args below meth c H locs Q ls G C hR hS hL K
  exact lv_irem C.1 C.2.1 hd hne (h p l e R s m args below meth c H locs Q ls G C hR hS hL K)
theorem AW.ladd {x y : Int64} (hd : decode M.2.1 pc = .ok (.ladd, 1)) (hn : pc + 1 = n) (h : AW scr k mc ms M c0 s0 n L (.long (x + y) :: st) σ P) : AW scr k mc ms M c0 s0 pc L (.long y :: .long x :: st) σ P := by
  subst hn
  intro p l e R s m args below meth c H locs Q ls G C hR hS hL K
  exact lv_ladd C.1 C.2.1 hd (h p l e R s m args below meth c H locs Q ls G C hR hS hL K)
theorem AW.lsub {x y : Int64} (hd : decode M.2.1 pc = .ok (.lsub, 1)) (hn : pc + 1 = n) (h : AW scr k mc ms M c0 s0 n L (.long (x - y) :: st) σ P) : AW scr k mc ms M c0 s0 pc L (.long y :: .long x :: st) σ P := by
  subst hn
  intro p l e R s m args below meth c H locs Q ls G C hR hS hL K
  exact lv_lsub C.1 C.2.1 hd (h p l e R s m args below meth c H locs Q ls G C hR hS hL K)
theorem AW.lmul {x y : Int64} (hd : decode M.2.1 pc = .ok (.lmul, 1)) (hn : pc + 1 = n) (h : AW scr k mc ms M c0 s0 n L (.long (x * y) :: st) σ P) : AW scr k mc ms M c0 s0 pc L (.long y :: .long x :: st) σ P := by
  subst hn
  intro p l e R s m args below meth c H locs Q ls G C hR hS hL K
  exact lv_lmul C.1 C.2.1 hd (h p l e R s m args below meth c H locs Q ls G C hR hS hL K)
theorem AW.land {x y : Int64} (hd : decode M.2.1 pc = .ok (.land, 1)) (hn : pc + 1 = n) (h : AW scr k mc ms M c0 s0 n L (.long (x &&& y) :: st) σ P) : AW scr k mc ms M c0 s0 pc L (.long y :: .long x :: st) σ P := by
  subst hn
  intro p l e R s m args below meth c H locs Q ls G C hR hS hL K
  exact lv_land C.1 C.2.1 hd (h p l e R s m args below meth c H locs Q ls G C hR hS hL K)
theorem AW.ldiv {x y : Int64} (hd : decode M.2.1 pc = .ok (.ldiv, 1)) (hne : ¬ y = 0) (hn : pc + 1 = n) (h : AW scr k mc ms M c0 s0 n L (.long (x / y) :: st) σ P) : AW scr k mc ms M c0 s0 pc L (.long y :: .long x :: st) σ P := by
  subst hn
  intro p l e R s m args below meth c H locs Q ls G C hR hS hL K
  exact lv_ldiv C.1 C.2.1 hd hne (h p l e R s m args below meth c H locs Q ls G C hR hS hL K)
theorem AW.lrem {x y : Int64} (hd : decode M.2.1 pc = .ok (.lrem, 1)) (hne : ¬ y = 0) (hn : pc + 1 = n) (h : AW scr k mc ms M c0 s0 n L (.long (x - x / y * y) :: st) σ P) : AW scr k mc ms M c0 s0 pc L (.long y :: .long x :: st) σ P := by
  subst hn
  intro p l e R s m args below meth c H locs Q ls G C hR hS hL K
  exact lv_lrem C.1 C.2.1 hd hne (h p l e R s m args below meth c H locs Q ls G C hR hS hL K)
theorem AW.lcmp {x y : Int64} (hd : decode M.2.1 pc = .ok (.lcmp, 1)) (hn : pc + 1 = n) (h : AW scr k mc ms M c0 s0 n L (.int (lg_cmp x y) :: st) σ P) : AW scr k mc ms M c0 s0 pc L (.long y :: .long x :: st) σ P := by
  subst hn
  intro p l e R s m args below meth c H locs Q ls G C hR hS hL K
  exact W.lcmp C.1 C.2.1 hd (h p l e R s m args below meth c H locs Q ls G C hR hS hL K)
theorem AW.i2l {x : Int32} (hd : decode M.2.1 pc = .ok (.i2l, 1)) (hn : pc + 1 = n) (h : AW scr k mc ms M c0 s0 n L (.long x.toInt64 :: st) σ P) : AW scr k mc ms M c0 s0 pc L (.int x :: st) σ P := by
  subst hn
  intro p l e R s m args below meth c H locs Q ls G C hR hS hL K
  exact lv_i2l C.1 C.2.1 hd rfl (h p l e R s m args below meth c H locs Q ls G C hR hS hL K)
theorem AW.l2i {x : Int64} (hd : decode M.2.1 pc = .ok (.l2i, 1)) (hn : pc + 1 = n) (h : AW scr k mc ms M c0 s0 n L (.int x.toInt32 :: st) σ P) : AW scr k mc ms M c0 s0 pc L (.long x :: st) σ P := by
  subst hn
  intro p l e R s m args below meth c H locs Q ls G C hR hS hL K
  exact lv_l2i C.1 C.2.1 hd rfl (h p l e R s m args below meth c H locs Q ls G C hR hS hL K)
theorem AW.dup {v : Value} (hd : decode M.2.1 pc = .ok (.dup, 1)) (hc : v.category = 1) (hn : pc + 1 = n) (h : AW scr k mc ms M c0 s0 n L (v :: v :: st) σ P) : AW scr k mc ms M c0 s0 pc L (v :: st) σ P := by
  subst hn
  intro p l e R s m args below meth c H locs Q ls G C hR hS hL K
  exact lv_dup C.1 C.2.1 hd ((a_v_cat G v).trans hc) (h p l e R s m args below meth c H locs Q ls G C hR hS hL K)
theorem AW.dup2 {v u : Value} (hd : decode M.2.1 pc = .ok (.dup2, 1)) (hc : v.category = 1) (hu : u.category = 1) (hn : pc + 1 = n) (h : AW scr k mc ms M c0 s0 n L (v :: u :: v :: u :: st) σ P) : AW scr k mc ms M c0 s0 pc L (v :: u :: st) σ P := by
  subst hn
  intro p l e R s m args below meth c H locs Q ls G C hR hS hL K
  exact lv_dup2_11 C.1 C.2.1 hd ((a_v_cat G v).trans hc) ((a_v_cat G u).trans hu) (h p l e R s m args below meth c H locs Q ls G C hR hS hL K)
theorem AW.if_eq {x : Int32} {o : Int} {t : Nat} (hd : decode M.2.1 pc = .ok (.ifCond .eq o, 3)) (ht : (pc : Int) + o = (t : Int)) (hn : pc + 3 = n) (h1 : x = 0 → AW scr k mc ms M c0 s0 t L st σ P) (h2 : ¬ (x = 0) → AW scr k mc ms M c0 s0 n L st σ P) : AW scr k mc ms M c0 s0 pc L (.int x :: st) σ P := by
  subst hn
  intro p l e R s m args below meth c H locs Q ls G C hR hS hL K
  exact lv_if_eq C.1 C.2.1 hd ht (fun q => h1 q p l e R s m args below meth c H locs Q ls G C hR hS hL K) (fun q => h2 q p l e R s m args below meth c H locs Q ls G C hR hS hL K)
theorem AW.if_ne {x : Int32} {o : Int} {t : Nat} (hd : decode M.2.1 pc = .ok (.ifCond .ne o, 3)) (ht : (pc : Int) + o = (t : Int)) (hn : pc + 3 = n) (h1 : ¬ x = 0 → AW scr k mc ms M c0 s0 t L st σ P) (h2 : x = 0 → AW scr k mc ms M c0 s0 n L st σ P) : AW scr k mc ms M c0 s0 pc L (.int x :: st) σ P := by
  subst hn
  intro p l e R s m args below meth c H locs Q ls G C hR hS hL K
  exact lv_if_ne C.1 C.2.1 hd ht (fun q => h1 q p l e R s m args below meth c H locs Q ls G C hR hS hL K) (fun q => h2 q p l e R s m args below meth c H locs Q ls G C hR hS hL K)
theorem AW.if_lt {x : Int32} {o : Int} {t : Nat} (hd : decode M.2.1 pc = .ok (.ifCond .lt o, 3)) (ht : (pc : Int) + o = (t : Int)) (hn : pc + 3 = n) (h1 : x < 0 → AW scr k mc ms M c0 s0 t L st σ P) (h2 : ¬ (x < 0) → AW scr k mc ms M c0 s0 n L st σ P) : AW scr k mc ms M c0 s0 pc L (.int x :: st) σ P := by
  subst hn
  intro p l e R s m args below meth c H locs Q ls G C hR hS hL K
  exact lv_if_lt C.1 C.2.1 hd ht (fun q => h1 q p l e R s m args below meth c H locs Q ls G C hR hS hL K) (fun q => h2 q p l e R s m args below meth c H locs Q ls G C hR hS hL K)
theorem AW.if_ge {x : Int32} {o : Int} {t : Nat} (hd : decode M.2.1 pc = .ok (.ifCond .ge o, 3)) (ht : (pc : Int) + o = (t : Int)) (hn : pc + 3 = n) (h1 : 0 ≤ x → AW scr k mc ms M c0 s0 t L st σ P) (h2 : ¬ (0 ≤ x) → AW scr k mc ms M c0 s0 n L st σ P) : AW scr k mc ms M c0 s0 pc L (.int x :: st) σ P := by
  subst hn
  intro p l e R s m args below meth c H locs Q ls G C hR hS hL K
  exact lv_if_ge C.1 C.2.1 hd ht (fun q => h1 q p l e R s m args below meth c H locs Q ls G C hR hS hL K) (fun q => h2 q p l e R s m args below meth c H locs Q ls G C hR hS hL K)
theorem AW.if_gt {x : Int32} {o : Int} {t : Nat} (hd : decode M.2.1 pc = .ok (.ifCond .gt o, 3)) (ht : (pc : Int) + o = (t : Int)) (hn : pc + 3 = n) (h1 : 0 < x → AW scr k mc ms M c0 s0 t L st σ P) (h2 : ¬ (0 < x) → AW scr k mc ms M c0 s0 n L st σ P) : AW scr k mc ms M c0 s0 pc L (.int x :: st) σ P := by
  subst hn
  intro p l e R s m args below meth c H locs Q ls G C hR hS hL K
  exact lv_if_gt C.1 C.2.1 hd ht (fun q => h1 q p l e R s m args below meth c H locs Q ls G C hR hS hL K) (fun q => h2 q p l e R s m args below meth c H locs Q ls G C hR hS hL K)
theorem AW.if_le {x : Int32} {o : Int} {t : Nat} (hd : decode M.2.1 pc = .ok (.ifCond .le o, 3)) (ht : (pc : Int) + o = (t : Int)) (hn : pc + 3 = n) (h1 : x ≤ 0 → AW scr k mc ms M c0 s0 t L st σ P) (h2 : ¬ (x ≤ 0) → AW scr k mc ms M c0 s0 n L st σ P) : AW scr k mc ms M c0 s0 pc L (.int x :: st) σ P := by
  subst hn
  intro p l e R s m args below meth c H locs Q ls G C hR hS hL K
  exact lv_if_le C.1 C.2.1 hd ht (fun q => h1 q p l e R s m args below meth c H locs Q ls G C hR hS hL K) (fun q => h2 q p l e R s m args below meth c H locs Q ls G C hR hS hL K)
theorem AW.icmp_eq {x y : Int32} {o : Int} {t : Nat} (hd : decode M.2.1 pc = .ok (.if_icmp .eq o, 3)) (ht : (pc : Int) + o = (t : Int)) (hn : pc + 3 = n) (h1 : x = y → AW scr k mc ms M c0 s0 t L st σ P) (h2 : ¬ (x = y) → AW scr k mc ms M c0 s0 n L st σ P) : AW scr k mc ms M c0 s0 pc L (.int y :: .int x :: st) σ P := by
  subst hn
  intro p l e R s m args below meth c H locs Q ls G C hR hS hL K
  exact lv_icmp_eq C.1 C.2.1 hd ht (fun q => h1 q p l e R s m args below meth c H locs Q ls G C hR hS hL K) (fun q => h2 q p l e R s m args below meth c H locs Q ls G C hR hS hL K)
theorem AW.icmp_ne {x y : Int32} {o : Int} {t : Nat} (hd : decode M.2.1 pc = .ok (.if_icmp .ne o, 3)) (ht : (pc : Int) + o = (t : Int)) (hn : pc + 3 = n) (h1 : ¬ x = y → AW scr k mc ms M c0 s0 t L st σ P) (h2 : x = y → AW scr k mc ms M c0 s0 n L st σ P) : AW scr k mc ms M c0 s0 pc L (.int y :: .int x :: st) σ P := by
  subst hn
  intro p l e R s m args below meth c H locs Q ls G C hR hS hL K
  exact lv_icmp_ne C.1 C.2.1 hd ht (fun q => h1 q p l e R s m args below meth c H locs Q ls G C hR hS hL K) (fun q => h2 q p l e R s m args below meth c H locs Q ls G C hR hS hL K)
theorem AW.icmp_lt {x y : Int32} {o : Int} {t : Nat} (hd : decode M.2.1 pc = .ok (.if_icmp .lt o, 3)) (ht : (pc : Int) + o = (t : Int)) (hn : pc + 3 = n) (h1 : x < y → AW scr k mc ms M c0 s0 t L st σ P) (h2 : ¬ (x < y) → AW scr k mc ms M c0 s0 n L st σ P) : AW scr k mc ms M c0 s0 pc L (.int y :: .int x :: st) σ P := by
  subst hn
  intro p l e R s m args below meth c H locs Q ls G C hR hS hL K
  exact lv_icmp_lt C.1 C.2.1 hd ht (fun q => h1 q p l e R s m args below meth c H locs Q ls G C hR hS hL K) (fun q => h2 q p l e R s m args below meth c H locs Q ls G C hR hS hL K)
theorem AW.icmp_ge {x y : Int32} {o : Int} {t : Nat} (hd : decode M.2.1 pc = .ok (.if_icmp .ge o, 3)) (ht : (pc : Int) + o = (t : Int)) (hn : pc + 3 = n) (h1 : y ≤ x → AW scr k mc ms M c0 s0 t L st σ P) (h2 : ¬ (y ≤ x) → AW scr k mc ms M c0 s0 n L st σ P) : AW scr k mc ms M c0 s0 pc L (.int y :: .int x :: st) σ P := by
  subst hn
  intro p l e R s m args below meth c H locs Q ls G C hR hS hL K
  exact lv_icmp_ge C.1 C.2.1 hd ht (fun q => h1 q p l e R s m args below meth c H locs Q ls G C hR hS hL K) (fun q => h2 q p l e R s m args below meth c H locs Q ls G C hR hS hL K)
theorem AW.icmp_gt {x y : Int32} {o : Int} {t : Nat} (hd : decode M.2.1 pc = .ok (.if_icmp .gt o, 3)) (ht : (pc : Int) + o = (t : Int)) (hn : pc + 3 = n) (h1 : y < x → AW scr k mc ms M c0 s0 t L st σ P) (h2 : ¬ (y < x) → AW scr k mc ms M c0 s0 n L st σ P) : AW scr k mc ms M c0 s0 pc L (.int y :: .int x :: st) σ P := by
  subst hn
  intro p l e R s m args below meth c H locs Q ls G C hR hS hL K
  exact lv_icmp_gt C.1 C.2.1 hd ht (fun q => h1 q p l e R s m args below meth c H locs Q ls G C hR hS hL K) (fun q => h2 q p l e R s m args below meth c H locs Q ls G C hR hS hL K)
theorem AW.icmp_le {x y : Int32} {o : Int} {t : Nat} (hd : decode M.2.1 pc = .ok (.if_icmp .le o, 3)) (ht : (pc : Int) + o = (t : Int)) (hn : pc + 3 = n) (h1 : x ≤ y → AW scr k mc ms M c0 s0 t L st σ P) (h2 : ¬ (x ≤ y) → AW scr k mc ms M c0 s0 n L st σ P) : AW scr k mc ms M c0 s0 pc L (.int y :: .int x :: st) σ P := by
  subst hn
  intro p l e R s m args below meth c H locs Q ls G C hR hS hL K
  exact lv_icmp_le C.1 C.2.1 hd ht (fun q => h1 q p l e R s m args below meth c H locs Q ls G C hR hS hL K) (fun q => h2 q p l e R s m args below meth c H locs Q ls G C hR hS hL K)
theorem AW.goto {o : Int} {t : Nat} (hd : decode M.2.1 pc = .ok (.goto o, 3)) (ht : (pc : Int) + o = (t : Int)) (h : AW scr k mc ms M c0 s0 t L st σ P) : AW scr k mc ms M c0 s0 pc L st σ P := by
  intro p l e R s m args below meth c H locs Q ls G C hR hS hL K
  exact lv_goto C.1 C.2.1 hd ht (h p l e R s m args below meth c H locs Q ls G C hR hS hL K)
theorem AW.tsOut {x : Int32} {df lo hi : Int} {offs : Array Int} {ln t : Nat} (hd : decode M.2.1 pc = .ok (.tableswitch df lo hi offs, ln)) (hx : x.toInt < lo ∨ hi < x.toInt) (ht : (pc : Int) + df = (t : Int)) (h : AW scr k mc ms M c0 s0 t L st σ P) : AW scr k mc ms M c0 s0 pc L (.int x :: st) σ P := by
  intro p l e R s m args below meth c H locs Q ls G C hR hS hL K
  exact lv_tableOut C.1 C.2.1 hd hx ht (h p l e R s m args below meth c H locs Q ls G C hR hS hL K)
theorem AW.tsIn {x : Int32} {df lo hi o : Int} {offs : Array Int} {ln t : Nat} (hd : decode M.2.1 pc = .ok (.tableswitch df lo hi offs, ln)) (h1 : ¬ x.toInt < lo) (h2 : ¬ hi < x.toInt) (ho : offs[(x.toInt - lo).toNat]? = some o) (ht : (pc : Int) + o = (t : Int)) (h : AW scr k mc ms M c0 s0 t L st σ P) : AW scr k mc ms M c0 s0 pc L (.int x :: st) σ P := by
  intro p l e R s m args below meth c H locs Q ls G C hR hS hL K
  exact lv_tableIn C.1 C.2.1 hd h1 h2 ho ht (h p l e R s m args below meth c H locs Q ls G C hR hS hL K)
theorem AW.lsw {x : Int32} {df o : Int} {ps : Array (Int × Int)} {ln t : Nat} (hd : decode M.2.1 pc = .ok (.lookupswitch df ps, ln)) (hp : (ps.toList.zip (ps.toList.drop 1)).all (fun (a, next) => a.1 < next.1) = true) (ho : Op.lookupswitch.offset ps.toList df x.toInt = o) (ht : (pc : Int) + o = (t : Int)) (h : AW scr k mc ms M c0 s0 t L st σ P) : AW scr k mc ms M c0 s0 pc L (.int x :: st) σ P := by
  intro p l e R s m args below meth c H locs Q ls G C hR hS hL K
  exact lv_lookup C.1 C.2.1 hd hp ho ht (h p l e R s m args below meth c H locs Q ls G C hR hS hL K)
theorem AW.ret (hd : decode M.2.1 pc = .ok (.return_, 1)) (hr : M.2.2.2 = none) (hc : c0 ≤ mc) (hs : s0 ≤ ms) (hP : P none σ) : AW scr k mc ms M c0 s0 pc L [] σ P := by
  intro p l e R s m args below meth c H locs Q ls G C hR hS hL K
  exact K none σ H locs c0 s0 pc ls hP hR hS hc hs ⟨hd, hr⟩
theorem AW.iret {x : Int32} {ty : FieldType} (hd : decode M.2.1 pc = .ok (.ireturn, 1)) (hr : M.2.2.2 = some ty) (hn : narrow ty (.int x) = .int x) (hc : c0 ≤ mc) (hs : s0 ≤ ms) (hP : P (some (.int x)) σ) : AW scr k mc ms M c0 s0 pc L [.int x] σ P := by
  intro p l e R s m args below meth c H locs Q ls G C hR hS hL K
  exact K (some (.int x)) σ H locs c0 s0 pc ls hP hR hS hc hs ⟨hd, ty, hr, hn⟩
theorem AW.mono {P' : Option Value → aS → Prop} (hP : ∀ r τ, P' r τ → P r τ) (h : AW scr k mc ms M c0 s0 pc L st σ P') : AW scr k mc ms M c0 s0 pc L st σ P := by
  intro p l e R s m args below meth c H locs Q ls G C hR hS hL K
  exact h p l e R s m args below meth c H locs Q ls G C hR hS hL (fun r τ H' locs' c1 s1 pc' ls' h1 => K r τ H' locs' c1 s1 pc' ls' (hP r τ h1))
theorem AW.wide {c1 s1 : Nat} (h1 : c0 ≤ c1) (h2 : s0 ≤ s1) (h : AW scr k mc ms M c1 s1 pc L st σ P) : AW scr k mc ms M c0 s0 pc L st σ P := by
  intro p l e R s m args below meth c H locs Q ls G C hR hS hL K
  exact W.widen h1 h2 (h p l e R s m args below meth c H locs Q ls G C hR hS hL K)
end AWR
end
section

theorem a_R.up {G : aG} {σ : aS} {H H1 : Heap} {a : Nat} {c : aC} (hR : a_R G σ H) (ha : a < σ.1) (z : H1.size = H.size) (oq : ∀ q : Nat, q ≠ G.2.2.1 + a → H1[q]? = H[q]?) (he : va_at G.1 vwCl (G.2.2.1 + a, a_E G c) H1) : a_R G (σ.1, a_up σ.2 a c) H1 := by
  refine ⟨by rw [z]; exact hR.1, ?_⟩
  rw [← a_ws_set]
  exact hR.2.set (a_D G σ) (a_ws_get G σ ha) he oq
theorem a_R.push {G : aG} {σ : aS} {H H1 : Heap} {c : aC} (hR : a_R G σ H) (z : H1.size = H.size + 1) (oq : ∀ q : Nat, q < H.size → H1[q]? = H[q]?) (he : va_at G.1 vwCl (G.2.2.1 + σ.1, a_E G c) H1) : a_R G (σ.1 + 1, a_up σ.2 σ.1 c) H1 := by
  refine ⟨by show _ = _ + (σ.1 + 1); rw [z, hR.1]; omega, ?_⟩
  rw [← a_ws_push]
  refine (hR.2.kept (fun k q hk => oq _ (hR.2 k q hk).lt)).app ?_
  intro k x hx
  have hz : k < 1 := (List.getElem?_eq_some_iff.mp hx).1
  rw [show k = 0 by omega] at hx
  cases hx
  exact he
theorem a_R.at {G : aG} {σ : aS} {H : Heap} (hR : a_R G σ H) {a : Nat} (ha : a < σ.1) {c : aC} (hc : σ.2 a = c) : va_at G.1 vwCl (G.2.2.1 + a, a_E G c) H := by
  subst hc
  exact hR.2 a _ (a_ws_get G σ ha)
theorem a_S.push {A : Nat → Prop} {H0 H H1 : Heap} {locs : List Loc} (hS : va_S A H0 H locs) (z : H1.size = H.size + 1) (oq : ∀ q : Nat, q < H.size → H1[q]? = H[q]?) : va_S A H0 H1 locs :=
  ⟨Nat.le_trans hS.1 (by omega), fun x h1 h2 => (oq x (Nat.lt_of_lt_of_le h1 hS.1)).trans (hS.2.1 x h1 h2), hS.2.2⟩
/-- what the tables say of a class of the world -/
def a_cl (q : vw_C) : Prop := ∃ ty0 : Nat → FieldType, (∀ k, k < q.2.2 → parseFieldDescriptor (q.2.1 k).2.2.1 = some (ty0 k)) ∧ (∀ a, a < q.2.2 → ∀ b, b < q.2.2 → a ≠ b → (q.2.1 a).2.1 ≠ (q.2.1 b).2.1) ∧ (∀ w ∈ u_ws q.1 q.2.1 q.2.2, w ∈ gT)
def a_inT (l : List Cond) : Bool := l.all (fun w => decide (w ∈ lw_tbl) && goodWord w)
theorem a_inT_ok {l : List Cond} (h : a_inT l = true) : ∀ w ∈ l, w ∈ gT := by
  intro w hw
  have h1 := List.all_eq_true.mp h w hw
  rw [Bool.and_eq_true] at h1
  exact List.mem_filter.mpr ⟨of_decide_eq_true h1.1, h1.2⟩
theorem a_inG {w : Cond} (i : Nat) (h : lw_tbl[i]? = some w) (hg : goodWord w = true) : w ∈ gT := List.mem_filter.mpr ⟨List.mem_of_getElem? h, hg⟩
theorem a_inN {w : Cond} (i : Nat) (h : lw_tbl[i]? = some w) (hg : a_isN w = true) : w ∈ nT := List.mem_filter.mpr ⟨List.mem_of_getElem? h, hg⟩
theorem a_clT (ci : Nat) (q : vw_C) (h : vwCl[ci]? = some q) : a_cl q := by
  match ci, h with
  | 0, h => cases h; exact ⟨tyX0, tyX0_ok, nmX0, a_inT_ok (by decide +kernel)⟩
  | 1, h => cases h; exact ⟨tyX1, tyX1_ok, nmX1, a_inT_ok (by decide +kernel)⟩
  | 2, h => cases h; exact ⟨tyX2, tyX2_ok, nmX2, a_inT_ok (by decide +kernel)⟩
  | 3, h => cases h; exact ⟨tyX3, tyX3_ok, nmX3, a_inT_ok (by decide +kernel)⟩
  | 4, h => cases h; exact ⟨tyX4, tyX4_ok, nmX4, a_inT_ok (by decide +kernel)⟩
  | 5, h => cases h; exact ⟨tyX5, tyX5_ok, nmX5, a_inT_ok (by decide +kernel)⟩
  | 6, h => cases h; exact ⟨tyX6, tyX6_ok, nmX6, a_inT_ok (by decide +kernel)⟩
  | 7, h => cases h; exact ⟨tyX7, tyX7_ok, nmX7, a_inT_ok (by decide +kernel)⟩
  | 8, h => cases h; exact ⟨tyX8, tyX8_ok, nmX8, a_inT_ok (by decide +kernel)⟩
  | 9, h => cases h; exact ⟨tyX9, tyX9_ok, nmX9, a_inT_ok (by decide +kernel)⟩
  | 10, h => cases h; exact ⟨tyX10, tyX10_ok, nmX10, a_inT_ok (by decide +kernel)⟩
  | n + 11, h => simp [vwCl] at h
def a_fl (own : String) (idx ci j : Nat) : Prop := ∃ q : vw_C, vwCl[ci]? = some q ∧ j < q.2.2 ∧ (Cond.fieldLink own idx (q.2.1 j).1 (q.2.1 j).2.1 (q.2.1 j).2.2.1 ∈ gT ∨ ∃ host, Cond.fieldLinkNest own idx (q.2.1 j).1 (q.2.1 j).2.1 (q.2.1 j).2.2.1 host ∈ nT)
def a_fp (own : String) (idx ci j : Nat) (ty : FieldType) (fin : Bool) : Prop := ∃ q : vw_C, vwCl[ci]? = some q ∧ j < q.2.2 ∧ (q.2.1 j).2.2.2 = fin ∧ parseFieldDescriptor (q.2.1 j).2.2.1 = some ty ∧ ((Cond.fieldLink own idx (q.2.1 j).1 (q.2.1 j).2.1 (q.2.1 j).2.2.1 ∈ gT ∧ (fin = true → (q.2.1 j).1 = own)) ∨ (fin = false ∧ ∃ host, Cond.fieldLinkNest own idx (q.2.1 j).1 (q.2.1 j).2.1 (q.2.1 j).2.2.1 host ∈ nT))

section AWH
variable {scr : Option (Nat × (Nat → Int32))} {k mc ms : Nat} {M : aM} {c0 s0 pc n : Nat} {L : List (Option Value)} {st : List Value} {σ : aS} {P : Option Value → aS → Prop}
theorem AW.getf0 {idx ci j a : Nat} {fs : List Value} {v : Value} (hd : decode M.2.1 pc = .ok (.getfield idx, 3)) (hf : a_fl M.1.cls idx ci j) (ha : a < σ.1) (hc : σ.2 a = .inr (ci, fs)) (hv : fs[j]? = some v) (hn : pc + 3 = n) (h : AW scr k mc ms M c0 s0 n L (v :: st) σ P) : AW scr k mc ms M c0 s0 pc L (.ref a :: st) σ P := by
  subst hn
  intro p l e R s m args below meth c H locs Q ls G C hR hS hL K
  obtain ⟨⟨Cn, T, N⟩, hq, hk, hlk⟩ := hf
  obtain ⟨ty0, hty, hnm, hin⟩ := a_clT ci _ hq
  have he := a_ws_get G σ ha
  rw [hc] at he
  have hv' : (fs.map (a_v G))[j]? = some (a_v G v) := by rw [List.getElem?_map, hv]; rfl
  have h' := h p l e R s m args below meth c H locs Q ls G C hR hS hL K
  obtain ⟨hx, hb, hml, hown, hts, hK, -⟩ := C
  rcases hlk with hl | ⟨host, hl⟩
  · exact va_get hx hb hts hin hown hK.1 hR.2 a he hq j hk (hts _ hl) (fun _ h9 => h9) hv' hd h'
  · exact va_getN hx hb hts hin hown hK.1 hR.2 a he hq j hk (va_Nw.use rfl (hK.2.1 _ hl)) (fun _ h9 => h9) hv' hd h'
theorem AW.put0 {idx ci j a : Nat} {fs : List Value} {v : Value} {ty : FieldType} {fin : Bool} (hd : decode M.2.1 pc = .ok (.putfield idx, 3)) (hf : a_fp M.1.cls idx ci j ty fin) (hfi : fin = true → M.1.name = "<init>") (ha : a < σ.1) (hc : σ.2 a = .inr (ci, fs)) (hj : j < fs.length) (hv : ∀ G : aG, narrow ty (a_v G v) = a_v G v ∧ fits ty (a_v G v) = true) (hn : pc + 3 = n) (h : AW scr k mc ms M c0 s0 n L st (σ.1, a_up σ.2 a (.inr (ci, fs.set j v))) P) : AW scr k mc ms M c0 s0 pc L (v :: .ref a :: st) σ P := by
  subst hn
  intro p l e R s m args below meth c H locs Q ls G C hR hS hL K
  obtain ⟨⟨Cn, T, N⟩, hq, hk, hfin, hty1, hlk⟩ := hf
  obtain ⟨ty0, hty, hnm, hin⟩ := a_clT ci _ hq
  have h' := fun H1 locs1 hR1 hS1 => h p l e R s m args below meth c H1 locs1 Q ls G C hR1 hS1 hL K
  obtain ⟨hx, hb, hml, hown, hts, hK, hnam, -⟩ := C
  have hap := va_apart (own := M.1.cls) hts hin ty0 hty hnm hK.1 hq
  obtain ⟨r, h1, cell, q1, q2, q3, q4⟩ := hR.at ha hc
  have hr : r = (Cn, T, N) := Option.some.inj (h1.symm.trans hq)
  subst hr
  obtain ⟨hSl, hfc, kC, hkC, hkind⟩ := hK.1.1 ci _ hq
  obtain ⟨cf, kf, fi, f, hi, hsl⟩ := hSl j hk
  have hlay := hts _ (hin _ (u_in_lay hk))
  unfold u_lay at hlay
  have hst := (u_facts hfc hkC (u_lays hts hin hk) hi).1
  have fin9 : ∀ H' : Heap, H'[G.2.2.1 + a]? = some (cell.setSlot f.slot (a_v G v)) → H'.size = H.size → (∀ q : Nat, q ≠ G.2.2.1 + a → H'[q]? = H[q]?) → W p l e R s m args below meth c H' (locs ++ [⟨G.2.2.1 + a, f.slot⟩]) c0 s0 Q (F0 m (pc + 3) ls (a_st G st)) := by
    intro H' e1 e2 e3
    rw [hsl] at e1 ⊢
    refine h' H' _ (hR.up ha e2 e3 ?_) (hS.put e2 e3 (Nat.le_add_right _ _))
    refine ⟨_, hq, t_OB.to (V := updV (vp_V (fs.map (a_v G))) j (a_v G v)) ⟨_, e1, q2, q3, t_set q4 hap hk (a_v G v)⟩ (fun i _ => ?_)⟩
    rw [vp_updV_set (by rw [List.length_map]; exact hj)]
    show _ = vp_V ((fs.set j v).map (a_v G)) i
    rw [List.map_set]
  cases fin with
  | false =>
    rw [if_neg (by rw [hfin]; decide)] at hlay
    have h6 := u_store hfc hkC hkind hlay hi hty1 (hv G).1 (hv G).2
    rcases hlk with ⟨hl, -⟩ | ⟨-, host, hl⟩
    · exact W.putK hx hb (f := f) ⟨hown, hts _ hl, ⟨_, _, _, hi⟩, hst⟩ (by rw [q2]; exact h6) q1 q3 (by rw [hsl]; exact k2_hasslot (q4 j hk)) rfl rfl hd fin9
    · exact va_WputK hx hb (f := f) hown (va_Nw.use rfl (hK.2.1 _ hl)) hi hst (by rw [q2]; exact h6) q1 q3 (by rw [hsl]; exact k2_hasslot (q4 j hk)) rfl rfl hd fin9
  | true =>
    rw [if_pos hfin] at hlay
    rcases hlk with ⟨hl, hdecl⟩ | ⟨hff, -⟩
    · have hcf : m.cls = cf := by
        obtain ⟨_, _, c', _, _, _, -, -, hf', -, -, -, hown2, -⟩ := Cond.laysFinal_spec hlay
        have e1 : c' = cf := by have := hi.symm.trans hf'; simp at this; exact this.1.symm
        rw [hdecl rfl] at hown2
        rw [← e1]; exact Option.some.inj (hown.symm.trans hown2)
      have h6 := u_fits hfc hkC hkind (Or.inr hlay) hi hty1 (hv G).1 (hv G).2
      exact W.putFinK hx hb hown (hts _ hl) hi hst hcf (hnam.trans (hfi rfl)) (by rw [q2]; exact h6) q1 q3 (by rw [hsl]; exact k2_hasslot (q4 j hk)) rfl rfl hd fin9
    · cases hff
theorem AW.new0 {idx ci : Nat} {fs : List Value} {q : vw_C} (hd : decode M.2.1 pc = .ok (.new idx, 3)) (hq : vwCl[ci]? = some q) (hl : Cond.classLink M.1.cls idx q.1 ∈ gT) (hi : Cond.instantiable q.1 q.2.2 ∈ gT) (hz : Cond.initialized q.1 ∈ gT) (hfs : ∀ (ty : Nat → FieldType), (∀ j, j < q.2.2 → parseFieldDescriptor (q.2.1 j).2.2.1 = some (ty j)) → ∀ j, j < q.2.2 → ∀ G : aG, defaultValue (ty j) = vp_V (fs.map (a_v G)) j) (hc0 : c0 + 1 ≤ mc) (hs0 : s0 + q.2.2 ≤ ms) (hn : pc + 3 = n) (h : AW scr k mc ms M (c0 + 1) (s0 + q.2.2) n L (.ref σ.1 :: st) (σ.1 + 1, a_up σ.2 σ.1 (.inr (ci, fs))) P) : AW scr k mc ms M c0 s0 pc L st σ P := by
  subst hn
  intro p l e R s m args below meth c H locs Q ls G C hR hS hL K
  obtain ⟨ty0, hty, hnm, hin⟩ := a_clT ci _ hq
  have h' := fun H1 hR1 hS1 => h p l e R s m args below meth c H1 locs Q ls G C hR1 hS1 hL K
  obtain ⟨hx, hb, hml, hown, hts, hK, hnam, hRm, -⟩ := C
  have hKn := hK.1.1 ci _ hq
  refine W.newcK hx hb hown (hts _ hl) (hts _ hi) (hts _ hz) rfl hd (Nat.le_trans hc0 hRm.2.2.1) (Nat.le_trans hs0 hRm.2.2.2) hKn.2.1 hR.1 fun H1 kC hkC e1 z1 o1 => ?_
  rw [← hR.1] at z1 o1
  exact h' H1 (hR.push z1 o1 ⟨_, hq, (u_born ty0 hts hin hKn hkC e1 hty).to (fun j hj => hfs ty0 hty j hj G)⟩) (a_S.push hS z1 o1)
theorem AW.iald {a N : Nat} {i : Int32} {f : Nat → Int32} (hd : decode M.2.1 pc = .ok (.iaload, 1)) (ha : a < σ.1) (hc : σ.2 a = .inl (0, N, .inl f)) (hi : vp_in i N) (hn : pc + 1 = n) (h : AW scr k mc ms M c0 s0 n L (.int (f i.toNatClampNeg) :: st) σ P) : AW scr k mc ms M c0 s0 pc L (.int i :: .ref a :: st) σ P := by
  subst hn
  intro p l e R s m args below meth c H locs Q ls G C hR hS hL K
  have he := a_ws_get G σ ha
  rw [hc] at he
  exact va_iald C.1 C.2.1 C.2.2.2.2.2.1.1 hR.2 a 0 he rfl hi hd (h p l e R s m args below meth c H locs Q ls G C hR hS hL K)
theorem AW.zald {a N : Nat} {i : Int32} {f : Nat → Int32} (hd : decode M.2.1 pc = .ok (.baload, 1)) (ha : a < σ.1) (hc : σ.2 a = .inl (1, N, .inl f)) (hi : vp_in i N) (hn : pc + 1 = n) (h : AW scr k mc ms M c0 s0 n L (.int (f i.toNatClampNeg) :: st) σ P) : AW scr k mc ms M c0 s0 pc L (.int i :: .ref a :: st) σ P := by
  subst hn
  intro p l e R s m args below meth c H locs Q ls G C hR hS hL K
  have he := a_ws_get G σ ha
  rw [hc] at he
  exact va_zald C.1 C.2.1 C.2.2.2.2.2.1.1 hR.2 a 1 he rfl hi hd (h p l e R s m args below meth c H locs Q ls G C hR hS hL K)
theorem AW.aald {a N t b : Nat} {i : Int32} {f : Nat → Option Nat} (hd : decode M.2.1 pc = .ok (.aaload, 1)) (ha : a < σ.1) (ht : t = 2 ∨ t = 3) (hc : σ.2 a = .inl (t, N, .inr (.inr (.inr (.inr f))))) (hi : vp_in i N) (hb : f i.toNatClampNeg = some b) (hn : pc + 1 = n) (h : AW scr k mc ms M c0 s0 n L (.ref b :: st) σ P) : AW scr k mc ms M c0 s0 pc L (.int i :: .ref a :: st) σ P := by
  subst hn
  intro p l e R s m args below meth c H locs Q ls G C hR hS hL K
  have he := a_ws_get G σ ha
  rw [hc] at he
  have h' := h p l e R s m args below meth c H locs Q ls G C hR hS hL K
  have hv : va_rf (a_f G f i.toNatClampNeg) = .ref (G.2.2.1 + b) := by unfold a_f; rw [hb]; rfl
  rcases ht with rfl | rfl
  · exact va_aldq C.1 C.2.1 C.2.2.2.2.2.1.1 hR.2 a 2 he rfl hi hd (by rw [hv]; exact h')
  · exact va_aldq C.1 C.2.1 C.2.2.2.2.2.1.1 hR.2 a 3 he rfl hi hd (by rw [hv]; exact h')
theorem AW.sald {i : Int32} {q : Nat × (Nat → Int32)} {x : Nat} (hd : decode M.2.1 pc = .ok (.iaload, 1)) (hq : scr = some q) (hi : vp_in i q.1) (hn : pc + 1 = n) (h : AW scr k mc ms M c0 s0 n L (.int (q.2 i.toNatClampNeg) :: st) σ P) : AW scr k mc ms M c0 s0 pc L (.int i :: .retAddr x :: st) σ P := by
  subst hn
  intro p l e R s m args below meth c H locs Q ls G C hR hS hL K
  have h' := h p l e R s m args below meth c H locs Q ls G C hR hS hL K
  obtain ⟨hx, hb, hml, hown, hts, hK, hnam, hRm, ho, hs⟩ := C
  obtain ⟨h1, h2⟩ := hs q hq
  exact va_sld hx hb h1 (Nat.lt_of_lt_of_le h2 ho) (Nat.not_le.mpr h2) hS hi hd h'
theorem AW.slen {q : Nat × (Nat → Int32)} {x : Nat} (hd : decode M.2.1 pc = .ok (.arraylength, 1)) (hq : scr = some q) (hn : pc + 1 = n) (h : AW scr k mc ms M c0 s0 n L (.int (Int32.ofNat q.1) :: st) σ P) : AW scr k mc ms M c0 s0 pc L (.retAddr x :: st) σ P := by
  subst hn
  intro p l e R s m args below meth c H locs Q ls G C hR hS hL K
  have h' := h p l e R s m args below meth c H locs Q ls G C hR hS hL K
  obtain ⟨hx, hb, hml, hown, hts, hK, hnam, hRm, ho, hs⟩ := C
  obtain ⟨h1, h2⟩ := hs q hq
  exact va_slen hx hb h1 (Nat.lt_of_lt_of_le h2 ho) (Nat.not_le.mpr h2) hS hd h'
theorem AW.iast {a N : Nat} {i x : Int32} {f : Nat → Int32} (hd : decode M.2.1 pc = .ok (.iastore, 1)) (ha : a < σ.1) (hc : σ.2 a = .inl (0, N, .inl f)) (hi : vp_in i N) (hn : pc + 1 = n) (h : AW scr k mc ms M c0 s0 n L st (σ.1, a_up σ.2 a (.inl (0, N, .inl (upd f i.toNatClampNeg x)))) P) : AW scr k mc ms M c0 s0 pc L (.int x :: .int i :: .ref a :: st) σ P := by
  subst hn
  intro p l e R s m args below meth c H locs Q ls G C hR hS hL K
  have h' := fun H1 locs1 hR1 hS1 => h p l e R s m args below meth c H1 locs1 Q ls G C hR1 hS1 hL K
  refine W.iast C.1 C.2.1 (hR.at ha hc) ((C.2.2.2.2.2.1.1.2 0 _ rfl).1 N (fun j => .int (f j))) (fun q => by cases q) (by show ¬ (i < 0 ∨ (arrV _ _ _).slots.size ≤ _); rw [arrV_size]; exact hi) rfl rfl hd fun H1 e z oq => ?_
  refine h' H1 _ (hR.up ha z oq ?_) (hS.put z oq (Nat.le_add_right _ _))
  show H1[_]? = some (vp_cell _ (N, .inl _))
  rw [e]
  show some ((vp_cell _ (N, .inl f)).setSlot _ _) = _
  rw [vp_cell_i, vp_cell_i, arrV_store]
  congr 2
  funext q
  by_cases hq : q = i.toNatClampNeg
  · subst hq
    simp [updV, upd]
  · simp [updV, upd, hq]
theorem AW.zast {a N : Nat} {i x : Int32} {f : Nat → Int32} (hd : decode M.2.1 pc = .ok (.bastore, 1)) (ha : a < σ.1) (hc : σ.2 a = .inl (1, N, .inl f)) (hi : vp_in i N) (hx : narrow .boolean (.int x) = .int x) (hn : pc + 1 = n) (h : AW scr k mc ms M c0 s0 n L st (σ.1, a_up σ.2 a (.inl (1, N, .inl (upd f i.toNatClampNeg x)))) P) : AW scr k mc ms M c0 s0 pc L (.int x :: .int i :: .ref a :: st) σ P := by
  subst hn
  intro p l e R s m args below meth c H locs Q ls G C hR hS hL K
  have h' := fun H1 locs1 hR1 hS1 => h p l e R s m args below meth c H1 locs1 Q ls G C hR1 hS1 hL K
  refine W.zast C.1 C.2.1 (hR.at ha hc) ((C.2.2.2.2.2.1.1.2 1 _ rfl).1 N (fun j => .int (f j))) (fun q => by cases q) (by show ¬ (i < 0 ∨ (arrV _ _ _).slots.size ≤ _); rw [arrV_size]; exact hi) rfl rfl hd fun H1 e z oq => ?_
  rw [hx] at e
  refine h' H1 _ (hR.up ha z oq ?_) (hS.put z oq (Nat.le_add_right _ _))
  show H1[_]? = some (vp_cell _ (N, .inl _))
  rw [e]
  show some ((vp_cell _ (N, .inl f)).setSlot _ _) = _
  rw [vp_cell_i, vp_cell_i, arrV_store]
  congr 2
  funext q
  by_cases hq : q = i.toNatClampNeg
  · subst hq
    simp [updV, upd]
  · simp [updV, upd, hq]
theorem AW.aast {a N t b ci : Nat} {i : Int32} {f : Nat → Option Nat} {fs : List Value} {q : vw_C} (hd : decode M.2.1 pc = .ok (.aastore, 1)) (ha : a < σ.1) (hc : σ.2 a = .inl (t, N, .inr (.inr (.inr (.inr f))))) (hb : b < σ.1) (hbc : σ.2 b = .inr (ci, fs)) (hq : vwCl[ci]? = some q) (ht : ∀ G : aG, (a_tys G)[t]? = some (G.2.1 t, .object q.1)) (hi : vp_in i N) (hn : pc + 1 = n) (h : AW scr k mc ms M c0 s0 n L st (σ.1, a_up σ.2 a (.inl (t, N, .inr (.inr (.inr (.inr (va_up f i.toNatClampNeg (some b)))))))) P) : AW scr k mc ms M c0 s0 pc L (.ref b :: .int i :: .ref a :: st) σ P := by
  subst hn
  intro p l e R s m args below meth c H locs Q ls G C hR hS hL K
  have h' := fun H1 locs1 hR1 hS1 => h p l e R s m args below meth c H1 locs1 Q ls G C hR1 hS1 hL K
  obtain ⟨hx, hbb, hml, hown, hts, hK, -⟩ := C
  have hlt : i.toNatClampNeg < N := Nat.not_le.mp fun q => hi (Or.inr q)
  have h0 : ¬ i < 0 := fun q => hi (Or.inl q)
  obtain ⟨r', hr', cellV, g1, g2, g3, -⟩ := hR.at hb hbc
  have hcls := (hK.1.1 ci q hq).2
  obtain ⟨kA, comp, k1, k2, k3, -⟩ := (hK.1.2 t _ (ht G)).2
  have hcomp : comp = G.1.1 ci := Option.some.inj (k3.symm.trans hcls.1)
  subst hcomp
  have hcls' := hcls
  obtain ⟨kC, hkC, -⟩ := hcls.2
  refine W.aast hx hbb (hR.at ha hc) (fun q h => by cases h) (fun h => by cases h) k1 k2 rfl hkC ⟨h0, by show _ < (arrV _ _ _).slots.size; rw [arrV_size]; exact hlt⟩ g1 (fun q h => by rw [g3] at h; cases h) (by rw [g2]; exact hkC) (by rw [g2]; exact va_assign hcls') rfl rfl hd fun H1 e z oq => ?_
  refine h' H1 _ (hR.up ha z oq ?_) (hS.put z oq (Nat.le_add_right _ _))
  show H1[_]? = some (vp_cell _ (N, .inr (.inr (.inr (.inr _)))))
  rw [e]
  show some ((vp_cell _ (N, .inr (.inr (.inr (.inr (a_f G f)))))).setSlot _ _) = _
  rw [vp_cell_q, vp_cell_q, arrV_store]
  congr 2
  funext q
  by_cases hq : q = i.toNatClampNeg
  · subst hq
    simp [updV, va_up, va_rf, a_f]
  · simp [updV, va_up, hq, a_f]
theorem AW.newi {x : Int32} {t N : Nat} {at0 : ArrayType} {ty : FieldType} (hd : decode M.2.1 pc = .ok (.newarray at0, 2)) (hty : newarray.typeOf at0 = ty) (ht : ∀ G : aG, (a_tys G)[t]? = some (G.2.1 t, ty)) (hdv : defaultValue ty = .int 0) (hnr : ∀ C, ty ≠ .object C) (ha : Cond.arrayClass ty ∈ gT) (hx0 : ¬ x < 0) (hN : x.toNatClampNeg = N) (hby : N * componentBytes ty ≤ 536870912) (hc0 : c0 + 1 ≤ mc) (hs0 : s0 + N ≤ ms) (hn : pc + 2 = n) (h : AW scr k mc ms M (c0 + 1) (s0 + N) n L (.ref σ.1 :: st) (σ.1 + 1, a_up σ.2 σ.1 (.inl (t, N, .inl (fun _ => 0)))) P) : AW scr k mc ms M c0 s0 pc L (.int x :: st) σ P := by
  subst hn; subst hty
  intro p l e R s m args below meth c H locs Q ls G C hR hS hL K
  have h' := fun H1 hR1 hS1 => h p l e R s m args below meth c H1 locs Q ls G C hR1 hS1 hL K
  obtain ⟨hx, hbb, hml, hown, hts, hK, hnam, hRm, -⟩ := C
  refine va_newaK hx hbb (hts _ ha) rfl hd rfl hx0 hN hby (Nat.le_trans hc0 hRm.2.2.1) (Nat.le_trans hs0 hRm.2.2.2) hR.1 fun H1 cA e1 z1 o1 hAr hNm => ?_
  rw [← hR.1] at z1 o1
  refine h' H1 (hR.push z1 o1 ?_) (a_S.push hS z1 o1)
  have hcA : cA = G.2.1 t := by
    have h2 := (hK.1.2 t _ (ht G)).2
    have h3 : s.vm.findClass ("[" ++ (newarray.typeOf at0).toString) = some (G.2.1 t) := by
      unfold va_RA at h2
      cases hh : newarray.typeOf at0 <;> first | (exact absurd hh (hnr _); done) | (simp only [hh] at h2; exact h2)
    exact Option.some.inj (hNm.symm.trans h3)
  subst hcA
  show H1[_]? = some (vp_cell _ (N, .inl (fun _ => 0)))
  rw [vp_cell_i, e1, hdv]
theorem AW.newq {x : Int32} {t N idx : Nat} {Cn : String} (hd : decode M.2.1 pc = .ok (.anewarray idx, 3)) (hl : Cond.classLink M.1.cls idx Cn ∈ gT) (ht : ∀ G : aG, (a_tys G)[t]? = some (G.2.1 t, .object Cn)) (hao : ∀ (G : aG) (U : State), a_Kn G U → va_AO Cn U) (hx0 : ¬ x < 0) (hN : x.toNatClampNeg = N) (hby : N * 4 ≤ 536870912) (hc0 : c0 + 1 ≤ mc) (hs0 : s0 + N ≤ ms) (hn : pc + 3 = n) (h : AW scr k mc ms M (c0 + 1) (s0 + N) n L (.ref σ.1 :: st) (σ.1 + 1, a_up σ.2 σ.1 (.inl (t, N, .inr (.inr (.inr (.inr (fun _ => none))))))) P) : AW scr k mc ms M c0 s0 pc L (.int x :: st) σ P := by
  subst hn; subst hN
  intro p l e R s m args below meth c H locs Q ls G C hR hS hL K
  have h' := fun H1 hR1 hS1 => h p l e R s m args below meth c H1 locs Q ls G C hR1 hS1 hL K
  obtain ⟨hx, hbb, hml, hown, hts, hK, hnam, hRm, -⟩ := C
  refine W.anew hx hbb hown (hts _ hl) (va_AO.use (hao G s hK)) rfl hd rfl hx0 hby (Nat.le_trans hc0 hRm.2.2.1) (Nat.le_trans hs0 hRm.2.2.2) fun cA kA comp f1 f2 f3 f4 => ?_
  generalize hH1 : H.push ({ cls := cA, slots := Array.replicate x.toNatClampNeg .null, vm := .none } : Cell) = H1
  have z1 : H1.size = H.size + 1 := by rw [← hH1, Array.size_push]
  have e1 : H1[H.size]? = some (arrV cA x.toNatClampNeg (fun _ => .null)) := by rw [← hH1, Array.getElem?_push_size, ← arrV_new]
  have o1 : ∀ q : Nat, q < H.size → H1[q]? = H[q]? := fun q hq => by rw [← hH1, Array.getElem?_push, if_neg (Nat.ne_of_lt hq)]
  have hcA : cA = G.2.1 t := by
    obtain ⟨kA', comp', -, -, -, h4⟩ := (hK.1.2 t _ (ht G)).2
    exact Option.some.inj (f1.symm.trans h4)
  subst hcA
  have h9 := h' H1 (hR.push (c := .inl (t, x.toNatClampNeg, .inr (.inr (.inr (.inr (fun _ => none)))))) z1 o1 ?_) (a_S.push hS z1 o1)
  · rw [hR.1]
    exact h9
  · show H1[_]? = some (vp_cell _ (x.toNatClampNeg, .inr (.inr (.inr (.inr _)))))
    rw [vp_cell_q, ← hR.1, e1]
    rfl
end AWH
end
section

def a_lk (own : String) (idx : Nat) (y : MethodName) : Prop := Cond.methodLink own idx y ∈ gT ∨ ∃ host, Cond.methodLinkNest own idx y host ∈ nT
/-- what the tables say of a callee of np parameters (the receiver apart) -/
def a_cb (Mc : aM) (np : Nat) : Prop := Cond.code Mc.1 Mc.2.1 Mc.2.2.1 Mc.2.2.2 ∈ gT ∧ Cond.initialized Mc.1.cls ∈ gT ∧ (Mc.1.cls ≠ "java/lang/invoke/MethodHandle" ∧ Mc.1.cls ≠ "java/lang/invoke/VarHandle" ∧ (parseMethodDescriptor Mc.1.desc).map (fun d => d.parameters.length) = some np) ∧ Mc.2.2.1 ≤ 40
def a_cv (Mc : aM) (np : Nat) : Prop := a_cb Mc np ∧ Cond.instanceMethod Mc.1 ∈ gT ∧ Cond.selects Mc.1.cls Mc.1 Mc.1 ∈ gT
def a_cs (Mc : aM) (np : Nat) : Prop := a_cb Mc np ∧ Cond.static Mc.1 ∈ gT
def a_ci (Mc : aM) (np : Nat) : Prop := a_cb Mc np ∧ Mc.1.name = "<init>" ∧ Mc.2.2.2 = none ∧ Cond.instanceMethod Mc.1 ∈ gT
theorem a_wl_good {Mc : aM} (h : Cond.code Mc.1 Mc.2.1 Mc.2.2.1 Mc.2.2.2 ∈ gT) : GoodIn gT (a_wl Mc) := by
  intro w hw
  rcases List.mem_cons.mp hw with rfl | hw
  · exact gT_good _ h
  · exact gT_good _ hw
theorem a_blind (G : aG) (av : List Value) (σ : aS) : FrameBlind (a_Pc G av σ) := by
  intro a U g mk q
  obtain ⟨q0, q1, q2⟩ := q
  exact ⟨q0, q1, a_Kn.same (s := U) rfl q2⟩
theorem a_restsum : ∀ (l : List Value), (l.map fun v => v.category).sum ≤ 2 * l.length := by
  intro l
  induction l with
  | nil => simp
  | cons v t ih =>
    have : v.category ≤ 2 := by rcases lv_cat v with h | h <;> omega
    simp only [List.map_cons, List.sum_cons, List.length_cons]
    omega
theorem a_st_len (G : aG) (l : List Value) : (a_st G l).length = l.length := List.length_map _
theorem a_restW {G : aG} {l : List Value} (h : l.length ≤ 4) {g : JFrame} (hg : g.monitorRoom = 0) : 2 * g.monitorRoom + ((a_st G l).map fun v => v.category).sum ≤ 8 := by
  have := a_restsum (a_st G l)
  rw [a_st_len] at this
  omega
theorem a_st_rev (G : aG) (As rest : List Value) : a_st G (As.reverse ++ rest) = (a_st G As).reverse ++ a_st G rest := by
  unfold a_st
  rw [List.map_append, List.map_reverse]
section AWCr
variable {p : Program} {l : Launch} {e : Env} {R : Room} {s : State} {m : MethodId} {args : Array Value} {below : List Frame} {meth : Method} {c : Code} {H : Heap} {locs : List Loc} {Q : State → Prop}
theorem a_went {G : aG} {P1 : Option Value → aS → Prop} {c0 s0 mc' ms' pc : Nat} {ls : Array Slot} {st0 rest : List Value} {a : Array Value} {H0 : Heap}
    (hr : va_Run p l e R s m args below meth c H locs c0 s0 mc' ms' (F0 m pc ls st0) (a_st G rest) (a_Qc G P1 a) (fun q => G.2.2.1 ≤ q)) (hS : va_S (fun q => G.2.2.1 ≤ q) H0 H locs)
    (kk : ∀ (r : Option Value) (σ' : aS) (H1 : Heap) (locs1 : List Loc), P1 r σ' → a_R G σ' H1 → va_S (fun q => G.2.2.1 ≤ q) H0 H1 locs1 → W p l e R s m args below meth c H1 locs1 (c0 + mc') (s0 + ms') Q (F0 m (pc + 3) ls (a_st G (r.toList ++ rest)))) : W p l e R s m args below meth c H locs c0 s0 Q (F0 m pc ls st0) := by
  intro T hT X
  obtain ⟨v, st₀, t, T', L, h0, X', hL, e1, e2, ⟨⟨r, σ', hv, hp, hR1⟩, hz, hk⟩, st⟩ := hr T hT X
  cases hv
  rw [h0] at hz hk
  obtain ⟨t2, a1, b1⟩ := kk r σ' T'.heap (locs ++ L) hp (by rw [e1]; exact hR1)
    ⟨Nat.le_trans hS.1 (by rw [e1]; exact hz), fun q h1 h2 => by rw [e1, hk q (Nat.lt_of_lt_of_le h1 hS.1) h2]; exact hS.2.1 q h1 h2, fun q hq => by
      rcases List.mem_append.mp hq with h | h
      · exact hS.2.2 q h
      · exact hL q h⟩ T' rfl X'
  have e9 : a_st G (r.toList ++ rest) = (r.map (a_v G)).toList ++ a_st G rest := by cases r <;> rfl
  rw [e9] at a1
  exact ⟨t2, st t2 a1, b1⟩
end AWCr
section AWC
variable {scr : Option (Nat × (Nat → Int32))} {k mc ms : Nat} {M : aM} {c0 s0 pc n : Nat} {L : List (Option Value)} {st : List Value} {σ : aS} {P : Option Value → aS → Prop}
theorem AW.callv0 {idx kc mc' ms' np : Nat} {a : Nat} {Mc : aM} {As rest : List Value} {P1 : Option Value → aS → Prop} (hd : decode M.2.1 pc = .ok (.invokevirtual idx, 3)) (hl : a_lk M.1.cls idx Mc.1) (hcb : a_cv Mc np) (hM : AC kc mc' ms' Mc (.ref a :: As) σ P1) (hnp : As.length = np) (hst : st = As.reverse ++ .ref a :: rest) (hrs : rest.length ≤ 4) (hk : kc + 1 ≤ k) (hc0 : c0 + mc' ≤ mc) (hs0 : s0 + ms' ≤ ms) (ha : a < σ.1) {ci : Nat} {fs : List Value} {q : vw_C} (hc : σ.2 a = .inr (ci, fs)) (hq : vwCl[ci]? = some q) (hqn : q.1 = Mc.1.cls) (hn : pc + 3 = n) (h : ∀ (r : Option Value) (σ' : aS), P1 r σ' → AW scr k mc ms M (c0 + mc') (s0 + ms') n L (r.toList ++ rest) σ' P) : AW scr k mc ms M c0 s0 pc L st σ P := by
  subst hn; subst hst
  intro p l e R s m args below meth c H locs Q ls G C hR hS hL K
  have h' := fun r σ' H1 locs1 hp hR1 hS1 => h r σ' hp p l e R s m args below meth c H1 locs1 Q ls G C hR1 hS1 hL K
  obtain ⟨hx, hb, hml, hown, hts, hK, hnam, ⟨hR1, hR2, hR3, hR4⟩, -⟩ := C
  obtain ⟨⟨hcode, hini, hdd, hm40⟩, hin, hsel⟩ := hcb
  have hRm : (a_rm kc mc' ms').frames + 1 ≤ R.frames ∧ 8 + (Mc.2.2.1 + 11) + (a_rm kc mc' ms').locals ≤ R.locals := ⟨by show kc + 1 ≤ _; omega, by show 8 + (Mc.2.2.1 + 11) + 64 * kc ≤ _; omega⟩
  have hg := a_wl_good hcode
  have hnp' : (a_st G As).length = np := by rw [a_st_len]; exact hnp
  have hpre : ∀ U : State, U.heap = H → s.WarmedH U.vm → a_Pc G (.ref a :: As) σ (a_st G (.ref a :: As)).toArray U := fun U hU hW => ⟨rfl, by rw [hU]; exact hR, a_Kn.warm hW hK⟩
  have hrecv : ∃ cell : Cell, H[G.2.2.1 + a]? = some cell ∧ cell.vm.isStatics = false ∧ s.vm.findClass Mc.1.cls = some cell.cls := by
    have he := a_ws_get G σ ha
    rw [hc] at he
    rw [← hqn]
    exact va_recv hK.1 hR.2 hq he
  rw [a_st_rev]
  rcases hl with hl | ⟨host, hl⟩
  · exact a_went (va_runV (As := a_st G As) (rest := a_st G rest) ⟨hx, hb, hml, hown, hts⟩ (hM l G) ⟨callB_of np hts hg rfl rfl rfl (hts _ hini) (hts _ hl) hdd hRm, hts _ hin, hts _ hsel⟩ ⟨a_blind G _ σ, hrecv, hpre⟩ rfl hnp' hL.1 rfl (a_restW hrs rfl) hd ⟨by omega, by omega⟩) hS h'
  · exact a_went (va_runVN (As := a_st G As) (rest := a_st G rest) ⟨hx, hb, hml, hown, hts⟩ (hM l G) ⟨va_cnB np hts hg rfl rfl rfl (hK.2.1 _ hl) (hts _ hini) hdd hRm, hts _ hin, hts _ hsel⟩ ⟨a_blind G _ σ, hrecv, hpre⟩ rfl hnp' hL.1 rfl (a_restW hrs rfl) hd ⟨by omega, by omega⟩) hS h'
theorem AW.calls0 {idx kc mc' ms' np : Nat} {Mc : aM} {As rest : List Value} {P1 : Option Value → aS → Prop} (hd : decode M.2.1 pc = .ok (.invokestatic idx, 3)) (hl : a_lk M.1.cls idx Mc.1) (hcb : a_cs Mc np) (hM : AC kc mc' ms' Mc As σ P1) (hnp : As.length = np) (hst : st = As.reverse ++ rest) (hrs : rest.length ≤ 4) (hk : kc + 1 ≤ k) (hc0 : c0 + mc' ≤ mc) (hs0 : s0 + ms' ≤ ms) (hn : pc + 3 = n) (h : ∀ (r : Option Value) (σ' : aS), P1 r σ' → AW scr k mc ms M (c0 + mc') (s0 + ms') n L (r.toList ++ rest) σ' P) : AW scr k mc ms M c0 s0 pc L st σ P := by
  subst hn; subst hst
  intro p l e R s m args below meth c H locs Q ls G C hR hS hL K
  have h' := fun r σ' H1 locs1 hp hR1 hS1 => h r σ' hp p l e R s m args below meth c H1 locs1 Q ls G C hR1 hS1 hL K
  obtain ⟨hx, hb, hml, hown, hts, hK, hnam, ⟨hR1, hR2, hR3, hR4⟩, -⟩ := C
  obtain ⟨⟨hcode, hini, hdd, hm40⟩, hstat⟩ := hcb
  have hRm : (a_rm kc mc' ms').frames + 1 ≤ R.frames ∧ 8 + (Mc.2.2.1 + 11) + (a_rm kc mc' ms').locals ≤ R.locals := ⟨by show kc + 1 ≤ _; omega, by show 8 + (Mc.2.2.1 + 11) + 64 * kc ≤ _; omega⟩
  have hg := a_wl_good hcode
  have hnp' : (a_st G As).length = np := by rw [a_st_len]; exact hnp
  have hpre : ∀ U : State, U.heap = H → s.WarmedH U.vm → a_Pc G As σ (a_st G As).toArray U := fun U hU hW => ⟨rfl, by rw [hU]; exact hR, a_Kn.warm hW hK⟩
  rw [a_st_rev]
  rcases hl with hl | ⟨host, hl⟩
  · exact a_went (va_runS (As := a_st G As) (rest := a_st G rest) ⟨hx, hb, hml, hown, hts⟩ (hM l G) ⟨callB_of np hts hg rfl rfl rfl (hts _ hini) (hts _ hl) hdd hRm, hts _ hstat⟩ ⟨a_blind G _ σ, hpre⟩ rfl hnp' hL.1 rfl (a_restW hrs rfl) hd ⟨by omega, by omega⟩) hS h'
  · exact a_went (va_runSN (As := a_st G As) (rest := a_st G rest) ⟨hx, hb, hml, hown, hts⟩ (hM l G) ⟨va_cnB np hts hg rfl rfl rfl (hK.2.1 _ hl) (hts _ hini) hdd hRm, hts _ hstat, trivial⟩ ⟨a_blind G _ σ, hpre⟩ rfl hnp' hL.1 rfl (a_restW hrs rfl) hd ⟨by omega, by omega⟩) hS h'
theorem AW.calli0 {idx kc mc' ms' np : Nat} {a : Nat} {Mc : aM} {As rest : List Value} {P1 : Option Value → aS → Prop} (hd : decode M.2.1 pc = .ok (.invokespecial idx, 3)) (hl : a_lk M.1.cls idx Mc.1) (hcb : a_ci Mc np) (hM : AC kc mc' ms' Mc (.ref a :: As) σ P1) (hnp : As.length = np) (hst : st = As.reverse ++ .ref a :: rest) (hrs : rest.length ≤ 4) (hk : kc + 1 ≤ k) (hc0 : c0 + mc' ≤ mc) (hs0 : s0 + ms' ≤ ms) (hn : pc + 3 = n) (h : ∀ (r : Option Value) (σ' : aS), P1 r σ' → AW scr k mc ms M (c0 + mc') (s0 + ms') n L (r.toList ++ rest) σ' P) : AW scr k mc ms M c0 s0 pc L st σ P := by
  subst hn; subst hst
  intro p l e R s m args below meth c H locs Q ls G C hR hS hL K
  have h' := fun r σ' H1 locs1 hp hR1 hS1 => h r σ' hp p l e R s m args below meth c H1 locs1 Q ls G C hR1 hS1 hL K
  obtain ⟨hx, hb, hml, hown, hts, hK, hnam, ⟨hR1, hR2, hR3, hR4⟩, -⟩ := C
  obtain ⟨⟨hcode, hini, hdd, hm40⟩, hy1, hrt, hin⟩ := hcb
  have hRm : (a_rm kc mc' ms').frames + 1 ≤ R.frames ∧ 8 + (Mc.2.2.1 + 11) + (a_rm kc mc' ms').locals ≤ R.locals := ⟨by show kc + 1 ≤ _; omega, by show 8 + (Mc.2.2.1 + 11) + 64 * kc ≤ _; omega⟩
  have hg := a_wl_good hcode
  have hnp' : (a_st G As).length = np := by rw [a_st_len]; exact hnp
  have hpre : ∀ U : State, U.heap = H → s.WarmedH U.vm → a_Pc G (.ref a :: As) σ (a_st G (.ref a :: As)).toArray U := fun U hU hW => ⟨rfl, by rw [hU]; exact hR, a_Kn.warm hW hK⟩
  rw [a_st_rev]
  obtain ⟨y, cc, ml, rt⟩ := Mc
  subst hrt
  rcases hl with hl | ⟨host, hl⟩
  · exact a_went (va_runI (As := a_st G As) (rest := a_st G rest) ⟨hx, hb, hml, hown, hts⟩ (hM l G) ⟨callB_of np hts hg rfl rfl rfl (hts _ hini) (hts _ hl) hdd hRm, hy1, hts _ hin⟩ ⟨a_blind G _ σ, hpre⟩ rfl hnp' hL.1 rfl (a_restW hrs rfl) hd ⟨by omega, by omega⟩) hS h'
  · exact a_went (va_runIN (As := a_st G As) (rest := a_st G rest) ⟨hx, hb, hml, hown, hts⟩ (hM l G) ⟨va_cnB np hts hg rfl rfl rfl (hK.2.1 _ hl) (hts _ hini) hdd hRm, hy1, hts _ hin⟩ ⟨a_blind G _ σ, hpre⟩ rfl hnp' hL.1 rfl (a_restW hrs rfl) hd ⟨by omega, by omega⟩) hS h'
theorem AW.objInit {idx a : Nat} {cc : ByteArray} (hd : decode M.2.1 pc = .ok (.invokespecial idx, 3)) (hl : Cond.methodLink M.1.cls idx objectInit ∈ gT) (hin : Cond.instanceMethod objectInit ∈ gT) (hcode : Cond.code objectInit ⟨#[0xb1]⟩ 1 none ∈ gT) (hrs : st.length ≤ 4) (hk : 1 ≤ k) (hn : pc + 3 = n) (h : AW scr k mc ms M c0 s0 n L st σ P) : AW scr k mc ms M c0 s0 pc L (.ref a :: st) σ P := by
  subst hn
  intro p l e R s m args below meth c H locs Q ls G C hR hS hL K
  have h' := h p l e R s m args below meth c H locs Q ls G C hR hS hL K
  obtain ⟨hx, hb, hml, hown, hts, hK, hnam, ⟨hR1, hR2, hR3, hR4⟩, -⟩ := C
  have hs := a_restW (G := G) (l := st) hrs (g := F0 m pc ls []) rfl
  exact W.objInit hx hb hown (hts _ hl) (hts _ hin) (hts _ hcode) (g := F0 m pc ls (a_st G (.ref a :: st))) rfl (by rw [hml]; exact hL.1) (rest := a_st G st) rfl hd (by omega) (by show 2 * 0 + _ + 12 ≤ _; have hs : 2 * 0 + ((a_st G st).map fun v => v.category).sum ≤ 8 := hs; omega) h'
theorem AW.mabs {idx : Nat} {x : Int32} (hd : decode M.2.1 pc = .ok (.invokestatic idx, 3)) (hl : Cond.methodLink M.1.cls idx Lib.Math.abs.name ∈ gT) (h2 : Cond.static Lib.Math.abs.name ∈ gT) (h3 : Cond.initialized "java/lang/Math" ∈ gT) (h4 : Cond.code Lib.Math.abs.name Lib.Math.abs.code 1 (some .int) ∈ gT) (hrs : st.length ≤ 4) (hk : 1 ≤ k) (hc0 : c0 ≤ mc) (hs0 : s0 ≤ ms) (hn : pc + 3 = n) (h : AW scr k mc ms M c0 s0 n L (.int (if 0 ≤ x then x else 0 - x) :: st) σ P) : AW scr k mc ms M c0 s0 pc L (.int x :: st) σ P := by
  subst hn
  intro p l e R s m args below meth c H locs Q ls G C hR hS hL K
  have h' := h p l e R s m args below meth c H locs Q ls G C hR hS hL K
  obtain ⟨hx, hb, hml, hown, hts, hK, hnam, ⟨hR1, hR2, hR3, hR4⟩, -⟩ := C
  have hs := a_restsum (a_st G st)
  rw [a_st_len] at hs
  exact va_mabs (rest := a_st G st) hx hb (hml.trans hL.1.symm) hown (hts _ hl) (hts _ h2) (hts _ h3) (hts _ h4) (by omega) (by omega) (by omega) (by omega) hd h'
theorem AW.mmax {idx : Nat} {x y : Int32} (hd : decode M.2.1 pc = .ok (.invokestatic idx, 3)) (hl : Cond.methodLink M.1.cls idx Lib.Math.max.name ∈ gT) (h2 : Cond.static Lib.Math.max.name ∈ gT) (h3 : Cond.initialized "java/lang/Math" ∈ gT) (h4 : Cond.code Lib.Math.max.name Lib.Math.max.code 2 (some .int) ∈ gT) (hrs : st.length ≤ 4) (hk : 1 ≤ k) (hc0 : c0 ≤ mc) (hs0 : s0 ≤ ms) (hn : pc + 3 = n) (h : AW scr k mc ms M c0 s0 n L (.int (if x < y then y else x) :: st) σ P) : AW scr k mc ms M c0 s0 pc L (.int y :: .int x :: st) σ P := by
  subst hn
  intro p l e R s m args below meth c H locs Q ls G C hR hS hL K
  have h' := h p l e R s m args below meth c H locs Q ls G C hR hS hL K
  obtain ⟨hx, hb, hml, hown, hts, hK, hnam, ⟨hR1, hR2, hR3, hR4⟩, -⟩ := C
  have hs := a_restsum (a_st G st)
  rw [a_st_len] at hs
  exact va_mmax (rest := a_st G st) hx hb (hml.trans hL.1.symm) hown (hts _ hl) (hts _ h2) (hts _ h3) (hts _ h4) (by omega) (by omega) (by omega) (by omega) hd h'
theorem AW.mmin {idx : Nat} {x y : Int32} (hd : decode M.2.1 pc = .ok (.invokestatic idx, 3)) (hl : Cond.methodLink M.1.cls idx Lib.Math.min.name ∈ gT) (h2 : Cond.static Lib.Math.min.name ∈ gT) (h3 : Cond.initialized "java/lang/Math" ∈ gT) (h4 : Cond.code Lib.Math.min.name Lib.Math.min.code 2 (some .int) ∈ gT) (hrs : st.length ≤ 4) (hk : 1 ≤ k) (hc0 : c0 ≤ mc) (hs0 : s0 ≤ ms) (hn : pc + 3 = n) (h : AW scr k mc ms M c0 s0 n L (.int (if y < x then y else x) :: st) σ P) : AW scr k mc ms M c0 s0 pc L (.int y :: .int x :: st) σ P := by
  subst hn
  intro p l e R s m args below meth c H locs Q ls G C hR hS hL K
  have h' := h p l e R s m args below meth c H locs Q ls G C hR hS hL K
  obtain ⟨hx, hb, hml, hown, hts, hK, hnam, ⟨hR1, hR2, hR3, hR4⟩, -⟩ := C
  have hs := a_restsum (a_st G st)
  rw [a_st_len] at hs
  exact va_mmin (rest := a_st G st) hx hb (hml.trans hL.1.symm) hown (hts _ hl) (hts _ h2) (hts _ h3) (hts _ h4) (by omega) (by omega) (by omega) (by omega) hd h'
theorem AW.acopy {idx a b N0 N1 : Nat} {sp dp x : Int32} {f g : Nat → Int32} (hd : decode M.2.1 pc = .ok (.invokestatic idx, 3)) (hl : Cond.methodLink M.1.cls idx arraycopyName ∈ gT) (h2 : Cond.native arraycopyName ∈ gT) (h3 : Cond.static arraycopyName ∈ gT) (h4 : Cond.initialized "java/lang/System" ∈ gT) (ha : a < σ.1) (hb : b < σ.1) (hca : σ.2 a = .inl (0, N0, .inl f)) (hcb : σ.2 b = .inl (0, N1, .inl g)) (g1 : ¬ sp < 0) (g2 : ¬ dp < 0) (g3 : ¬ x < 0) (g4 : sp.toNatClampNeg + x.toNatClampNeg ≤ N0) (g5 : dp.toNatClampNeg + x.toNatClampNeg ≤ N1) (hrs : st.length ≤ 4) (hk : 1 ≤ k) (hn : pc + 3 = n) (h : AW scr k mc ms M c0 s0 n L st (σ.1, a_up σ.2 b (.inl (0, N1, .inl (va_cpy f g sp.toNatClampNeg dp.toNatClampNeg x.toNatClampNeg)))) P) : AW scr k mc ms M c0 s0 pc L (.int x :: .int dp :: .ref b :: .int sp :: .ref a :: st) σ P := by
  subst hn
  intro p l e R s m args below meth c H locs Q ls G C hR hS hL K
  have h' := fun H1 locs1 hR1 hS1 => h p l e R s m args below meth c H1 locs1 Q ls G C hR1 hS1 hL K
  obtain ⟨hx, hbb, hml, hown, hts, hK, hnam, ⟨hR1, hR2, hR3, hR4⟩, -⟩ := C
  have hs := a_restsum (a_st G st)
  rw [a_st_len] at hs
  have nn : ∀ z : Int32, ¬ z < 0 → z.toInt = (z.toNatClampNeg : Int) := by
    intro z hz
    have hz0 : (0 : Int) ≤ z.toInt := by
      have := Int32.not_lt.mp hz
      simpa using Int32.le_iff_toInt_le.mp this
    show z.toInt = ((z.toInt.toNat : Nat) : Int)
    omega
  have he0 := a_ws_get G σ ha
  rw [hca] at he0
  have he1 := a_ws_get G σ hb
  rw [hcb] at he1
  intro T hT X
  have hc0 : H[G.2.2.1 + a]? = some (vp_cell (G.2.1 0) (N0, .inl f)) := hR.at ha hca
  have hc1 : H[G.2.2.1 + b]? = some (vp_cell (G.2.1 0) (N1, .inl g)) := hR.at hb hcb
  obtain ⟨-, k0, hk0, cm0, hkk0⟩ := (hK.1.2 0 _ rfl).1 N0 (fun j => .int (f j))
  obtain ⟨-, k1, hk1, cm1, hkk1⟩ := (hK.1.2 0 _ rfl).1 N1 (fun j => .int (g j))
  obtain ⟨vm', X', step⟩ := X.arraycopy hx hown (hts _ hl) (hts _ h2) (hts _ h3) (hts _ h4) (src := G.2.2.1 + a) (dst := G.2.2.1 + b) (cs := vp_cell (G.2.1 0) (N0, .inl f)) (cd := vp_cell (G.2.1 0) (N1, .inl g)) (srcPos := sp) (destPos := dp) (n := x) (by rw [hT]; exact hc0) (by rw [hT]; exact hc1)
    (fun _ h => by cases h) (fun _ h => by cases h) (fun h => by cases h) (fun h => by cases h) hk0 hk1 hkk0 hkk1 (by rfl) g1 g2 g3
    (by rw [nn sp g1, nn x g3]; show ¬ _ > ((arrV (G.2.1 0) N0 (fun j => .int (f j))).slots.size : Int); rw [arrV_size]; omega)
    (by rw [nn dp g2, nn x g3]; show ¬ _ > ((arrV (G.2.1 0) N1 (fun j => .int (g j))).slots.size : Int); rw [arrV_size]; omega)
    (fun vm₁ _ i hi => by
      have e : (vp_cell (G.2.1 0) (N0, .inl f)).slots.getD (sp.toNatClampNeg + i) .null = .int (f (sp.toNatClampNeg + i)) := by
        show (arrV (G.2.1 0) N0 (fun j => .int (f j))).slots.getD _ _ = _
        rw [Array.getD_eq_getD_getElem?, arrV_read _ _ (by omega)]
        rfl
      refine ⟨?_, ?_⟩
      · rw [e]
        rfl
      · rw [e]
        exact trivial)
    (g := F0 m pc ls (a_st G (.int x :: .int dp :: .ref b :: .int sp :: .ref a :: st))) rfl (by rw [hml]; exact hL.1) (rest := a_st G st) rfl (by rw [hbb]; exact hd) (by omega) (by
      have e5 : nativeFrameWords "java/lang/System" "arraycopy" 5 ≤ 40 := by decide +kernel
      show 2 * 0 + _ + _ ≤ _
      omega)
  have e1 : copied (vp_cell (G.2.1 0) (N0, .inl f)) (vp_cell (G.2.1 0) (N1, .inl g)) sp dp x = vp_cell (G.2.1 0) (N1, .inl (va_cpy f g sp.toNatClampNeg dp.toNatClampNeg x.toNatClampNeg)) := va_copied (fun z => .int z) (G.2.1 0) (G.2.1 0) f g g4
  rw [e1] at X' step
  have hlb : G.2.2.1 + b < H.size := (Array.getElem?_eq_some_iff.mp hc1).1
  have hheap : ((T.setVm vm').setCell (G.2.2.1 + b) (vp_cell (G.2.1 0) (N1, .inl (va_cpy f g sp.toNatClampNeg dp.toNatClampNeg x.toNatClampNeg)))).heap = H.setIfInBounds (G.2.2.1 + b) (vp_cell (G.2.1 0) (N1, .inl (va_cpy f g sp.toNatClampNeg dp.toNatClampNeg x.toNatClampNeg))) := by rw [← hT]; rfl
  have oq : ∀ q : Nat, q ≠ G.2.2.1 + b → (H.setIfInBounds (G.2.2.1 + b) (vp_cell (G.2.1 0) (N1, .inl (va_cpy f g sp.toNatClampNeg dp.toNatClampNeg x.toNatClampNeg))))[q]? = H[q]? := fun q hq => by simp [Array.getElem?_setIfInBounds, Ne.symm hq]
  have hR9 := hR.up (c := .inl (0, N1, .inl (va_cpy f g sp.toNatClampNeg dp.toNatClampNeg x.toNatClampNeg))) hb (by simp) oq (show (H.setIfInBounds (G.2.2.1 + b) _)[G.2.2.1 + b]? = some _ by simp [Array.getElem?_setIfInBounds, hlb]; rfl)
  obtain ⟨t, a1, b1⟩ := h' _ _ hR9 ⟨by simp; exact hS.1, fun q u1 u2 => by
      rw [oq q (fun e => u2 (by rw [e]; exact Nat.le_add_right _ _))]
      exact hS.2.1 q u1 u2, fun q hq => by
      rcases List.mem_append.mp hq with h | h
      · exact hS.2.2 q h
      · obtain ⟨z, -, hz⟩ := List.mem_map.mp h
        rw [← hz]
        exact Nat.le_add_right _ _⟩ _ hheap X'
  exact ⟨t, step t a1, b1⟩
end AWC

theorem a_L_ent {G : aG} {av : List Value} {L : List (Option Value)} {nL j : Nat} (hL : a_ents av ++ List.replicate j none = L) {ls : Array Slot} (h : lv_has ls nL (lv_args 0 (a_st G av))) : a_L G nL L ls := by
  subst hL
  refine ⟨h.1, h.2.1, fun i v hv => ?_⟩
  by_cases hi : i < (a_ents av).length
  · rw [List.getElem?_append_left hi] at hv
    have := a_ents_ok G av 0 i v hv
    rw [Nat.zero_add] at this
    exact h.2.2 _ this
  · rw [List.getElem?_append_right (by omega)] at hv
    have := List.mem_of_getElem? hv
    rw [List.mem_replicate] at this
    cases this.2
theorem AC.of {k mc ms : Nat} {M : aM} {av : List Value} {σ : aS} {P : Option Value → aS → Prop} {L : List (Option Value)} {j : Nat} (hy : plainName M.1.cls = true) (hL : a_ents av ++ List.replicate j none = L) (hml : (a_ents av).length ≤ M.2.2.1) (h : AW none k mc ms M 0 0 0 L [] σ P) : AC k mc ms M av σ P := by
  intro l G
  refine Met.ofW (cc := M.2.1) (maxL := M.2.2.1) (ret := M.2.2.2) hy rfl ?_
  intro p e s m args below meth c s₁ B hmlc hv
  obtain ⟨rfl, hR, hK⟩ := hv
  have hts0 := atoms_spec (ws := a_wl M) B.pre
  have hts : ∀ w ∈ gT, w.before (a_st G av).toArray s = true := fun w hw => hts0 w (List.mem_cons_of_mem _ hw)
  have hown : s.vm.findClass M.1.cls = some m.cls := findClass_of_methodNamed B.named
  have hnam : meth.name = M.1.name := (name_of_methodNamed B.named B.method).1
  have hlocks := B.notSynchronized
  have hlen : (lg_sl (a_st G av)).length ≤ M.2.2.1 := by
    refine Nat.le_trans (Nat.le_of_eq ?_) hml
    unfold lg_sl a_st
    clear hR hts0 hts B hL hml h
    induction av with
    | nil => rfl
    | cons v t ih => cases v <;> simp [a_ents, a_v, Value.category] at ih ⊢ <;> omega
  have hl := lv_entry (a_st G av) (n := M.2.2.1) hlen
  rw [lg_entry_eq]
  generalize (lg_sl (a_st G av) ++ List.replicate (M.2.2.1 - (lg_sl (a_st G av)).length) Slot.unset).toArray = ls at hl ⊢
  have hS : va_S (fun q => G.2.2.1 ≤ q) s.heap s.heap [] := va_S.rf
  refine h p l e _ s m _ below meth c s.heap [] _ ls G ⟨B.exec, B.bytes, hmlc, hown, hts, hK, hnam, ⟨Nat.le_refl _, Nat.le_refl _, Nat.le_refl _, Nat.le_refl _⟩, by rw [hR.1]; exact Nat.le_add_right _ _, fun q hq => by cases hq⟩ hR hS (a_L_ent hL hl) ?_
  intro r σ' H' locs' c1 s1 pc' ls' hP hR' hS' hc1 hs1 hrt
  refine W.widen hc1 hs1 ?_
  have hret := B.returns
  match r, hrt with
  | none, hrt =>
    obtain ⟨hd, hr⟩ := hrt
    exact W.vret B.exec B.bytes (hret.trans hr) (fun t ht hW => ⟨⟨none, σ', rfl, hP, by rw [ht]; exact hR'⟩, hS'.F ht⟩) hS'.2.2 hd
  | some (.int v), hrt =>
    obtain ⟨hd, ty, hr, hn⟩ := hrt
    exact W.zret B.exec B.bytes (hret.trans hr) hn (fun t ht hW => ⟨⟨some (.int v), σ', rfl, hP, by rw [ht]; exact hR'⟩, hS'.F ht⟩) hS'.2.2 hd
end
section
abbrev sC : Type := (Nat × Nat) ⊕ (Nat × Nat × (Nat → Option Nat)) ⊕ (Nat × List (Option Nat))
def skA : List sC := [.inr (.inr (9, [some 1, some 3, some 10, some 17, some 20, some 23, some 28, some 120, some 123, some 126, some 135, none])), .inr (.inr (7, [some 2, none, none, none, none, none])), .inl (0, 240), .inr (.inr (6, [none, none, none, none, none, some 4, some 5, some 6, some 7, some 8, some 9])), .inl (0, 7), .inl (0, 7), .inl (0, 7), .inl (0, 7), .inl (0, 7), .inl (0, 12), .inr (.inr (6, [none, none, none, none, none, some 11, some 12, some 13, some 14, some 15, some 16])), .inl (0, 7), .inl (0, 7), .inl (0, 7), .inl (0, 7), .inl (0, 7), .inl (0, 12), .inr (.inr (1, [some 18, some 19, none, none, none])), .inl (0, 7), .inl (0, 7), .inr (.inr (1, [some 21, some 22, none, none, none])), .inl (0, 7), .inl (0, 7), .inr (.inr (8, [some 24, some 27, none, none, none, none, none, none])), .inr (.inr (1, [some 25, some 26, none, none, none])), .inl (0, 7), .inl (0, 7), .inl (0, 7), .inr (.inr (3, [some 29, none, none])), .inr (.inl (2, 30, fun j => some (30 + 3 * j)))]
def skB : List sC := [.inr (.inr (5, [some 121, some 122, none])), .inl (0, 6), .inl (1, 6), .inr (.inr (0, [some 124, some 125, none])), .inl (0, 20), .inl (0, 20), .inr (.inl (3, 2, fun j => some (127 + 4 * j))), .inr (.inr (2, [some 128, none, none])), .inr (.inr (1, [some 129, some 130, none, none, none])), .inl (0, 7), .inl (0, 7), .inr (.inr (2, [some 132, none, none])), .inr (.inr (1, [some 133, some 134, none, none, none])), .inl (0, 7), .inl (0, 7), .inl (0, 4), .inr (.inr (10, [some 137, some 138, some 139, some 140, some 141, some 142, some 143, some 144, none, none, some 145, none, none, some 146, none, none, none, none, none, some 147, none, none, none, some 148, some 149, some 150, none, some 151, some 152, some 153, none])), .inl (0, 612), .inl (1, 2), .inl (0, 6), .inl (0, 14), .inl (0, 14), .inl (0, 14), .inl (0, 14), .inl (0, 14), .inl (0, 24), .inl (0, 240), .inl (0, 7), .inl (0, 7), .inl (0, 6), .inl (1, 6), .inl (0, 4), .inl (0, 20), .inl (0, 20)]
def sk (i : Nat) : Option sC := if i < 30 then skA[i]? else if i < 120 then some (if (i - 30) % 3 = 0 then .inr (.inr (1, [some (i + 1), some (i + 2), none, none, none])) else .inl (0, 7)) else skB[i - 120]?
abbrev Me : Type := Nat → Nat → Int32
def mr (μ : Me) (a : Nat) (f : Nat → Int32) : Me := fun i => if i = a then f else μ i
def mu (μ : Me) (a j : Nat) (x : Int32) : Me := mr μ a (upd (μ a) j x)
theorem mr_same (μ : Me) (a : Nat) (f : Nat → Int32) : mr μ a f a = f := if_pos rfl
theorem mr_ne {μ : Me} {a b : Nat} {f : Nat → Int32} (h : b ≠ a) : mr μ a f b = μ b := if_neg h
theorem mu_same (μ : Me) (a j : Nat) (x : Int32) : mu μ a j x a j = x := by unfold mu; rw [mr_same]; exact if_pos rfl
theorem mu_ne {μ : Me} {a b j : Nat} {x : Int32} (h : b ≠ a) : mu μ a j x b = μ b := mr_ne h
theorem mu_nj {μ : Me} {a i j : Nat} {x : Int32} (h : i ≠ j) : mu μ a j x a i = μ a i := by unfold mu; rw [mr_same]; exact if_neg h
theorem mu_at (μ : Me) (a b i j : Nat) (x : Int32) : mu μ a j x b i = if b = a ∧ i = j then x else μ b i := by
  by_cases h : b = a
  · subst h
    by_cases h2 : i = j
    · subst h2; simp [mu_same]
    · simp [mu_nj h2, h2]
  · simp [mu_ne h, h]
theorem mr_at (μ : Me) (a b i : Nat) (f : Nat → Int32) : mr μ a f b i = if b = a then f i else μ b i := by
  by_cases h : b = a
  · subst h; simp [mr_same]
  · simp [mr_ne h, h]
def wval (μ : Me) (a j : Nat) (o : Option Nat) : Value := match o with
  | some r => .ref r
  | none => .int (μ a j)
def wfs (μ : Me) (a : Nat) (fs : List (Option Nat)) : List Value := fs.mapIdx (fun j o => wval μ a j o)
def wcell (μ : Me) (a : Nat) (s : sC) : aC := match s with
  | .inl (t, N) => .inl (t, N, .inl (μ a))
  | .inr (.inl (t, N, f)) => .inl (t, N, .inr (.inr (.inr (.inr f))))
  | .inr (.inr (ci, fs)) => .inr (ci, wfs μ a fs)
def wd (μ : Me) (g : Nat → aC) : Nat → aC := fun i => match sk i with
  | some s => wcell μ i s
  | none => g i
def wS (μ : Me) (e : Nat × (Nat → aC)) : aS := (154 + e.1, wd μ e.2)
theorem sk_lt {a : Nat} {s : sC} (h : sk a = some s) : a < 154 := by
  unfold sk at h
  split at h
  · omega
  · split at h
    · omega
    · have := (List.getElem?_eq_some_iff.mp h).1
      have e : skB.length = 34 := rfl
      omega
theorem wd_at {μ : Me} {g : Nat → aC} {a : Nat} {s : sC} (h : sk a = some s) : wd μ g a = wcell μ a s := by unfold wd; rw [h]
theorem wfs_get {μ : Me} {a j : Nat} {fs : List (Option Nat)} {o : Option Nat} (h : fs[j]? = some o) : (wfs μ a fs)[j]? = some (wval μ a j o) := by
  unfold wfs
  rw [List.getElem?_mapIdx, h]
  rfl
theorem wd_obj {μ : Me} {g : Nat → aC} {a ci j : Nat} {fs : List (Option Nat)} {x : Int32} (h : sk a = some (.inr (.inr (ci, fs)))) (hj : fs[j]? = some none) : a_up (wd μ g) a (.inr (ci, (wfs μ a fs).set j (.int x))) = wd (mu μ a j x) g := by
  funext i
  by_cases hi : i = a
  · subst hi
    simp only [a_up, if_true]
    rw [wd_at h]
    show _ = Sum.inr (ci, wfs (mu μ i j x) i fs)
    congr 2
    apply List.ext_getElem?
    intro q
    rw [List.getElem?_set]
    unfold wfs
    rw [List.getElem?_mapIdx, List.getElem?_mapIdx, List.length_mapIdx]
    by_cases hq : j = q
    · subst hq
      rw [if_pos rfl, if_pos (List.getElem?_eq_some_iff.mp hj).1, hj]
      simp [mu_same, wval]
    · rw [if_neg hq]
      cases fs[q]? with
      | none => rfl
      | some o => cases o <;> simp [wval, mu_nj (Ne.symm hq)]
  · simp only [a_up, if_neg hi]
    unfold wd
    cases hs : sk i with
    | none => rfl
    | some s => rcases s with ⟨t, N⟩ | ⟨t, N, f⟩ | ⟨c2, f2⟩ <;> simp [wcell, wfs, wval, mu_ne hi]
theorem wd_arr {μ : Me} {g : Nat → aC} {a t N : Nat} {f : Nat → Int32} (h : sk a = some (.inl (t, N))) : a_up (wd μ g) a (.inl (t, N, .inl f)) = wd (mr μ a f) g := by
  funext i
  by_cases hi : i = a
  · subst hi
    simp only [a_up, if_true]
    rw [wd_at h]
    show _ = Sum.inl (t, N, Sum.inl (mr μ i f i))
    rw [mr_same]
  · simp only [a_up, if_neg hi]
    unfold wd
    cases hs : sk i with
    | none => rfl
    | some s => rcases s with ⟨t, N⟩ | ⟨t, N, f⟩ | ⟨c2, f2⟩ <;> simp [wcell, wfs, wval, mr_ne hi]
section WRows
variable {scr : Option (Nat × (Nat → Int32))} {k mc ms : Nat} {M : aM} {c0 s0 pc n : Nat} {L : List (Option Value)} {st : List Value} {μ : Me} {e : Nat × (Nat → aC)} {P : Option Value → aS → Prop}
theorem AW.gi {idx ci j a : Nat} {fs : List (Option Nat)} (hd : decode M.2.1 pc = .ok (.getfield idx, 3)) (hf : a_fl M.1.cls idx ci j) (hs : sk a = some (.inr (.inr (ci, fs)))) (hj : fs[j]? = some none) (hn : pc + 3 = n) (h : AW scr k mc ms M c0 s0 n L (.int (μ a j) :: st) (wS μ e) P) : AW scr k mc ms M c0 s0 pc L (.ref a :: st) (wS μ e) P :=
  AW.getf0 hd hf (Nat.lt_of_lt_of_le (sk_lt hs) (Nat.le_add_right _ _)) (wd_at hs) (wfs_get hj) hn h
theorem AW.gr {idx ci j a r : Nat} {fs : List (Option Nat)} (hd : decode M.2.1 pc = .ok (.getfield idx, 3)) (hf : a_fl M.1.cls idx ci j) (hs : sk a = some (.inr (.inr (ci, fs)))) (hj : fs[j]? = some (some r)) (hn : pc + 3 = n) (h : AW scr k mc ms M c0 s0 n L (.ref r :: st) (wS μ e) P) : AW scr k mc ms M c0 s0 pc L (.ref a :: st) (wS μ e) P :=
  AW.getf0 hd hf (Nat.lt_of_lt_of_le (sk_lt hs) (Nat.le_add_right _ _)) (wd_at hs) (wfs_get hj) hn h
theorem AW.pi {idx ci j a : Nat} {x : Int32} {fs : List (Option Nat)} {ty : FieldType} (hd : decode M.2.1 pc = .ok (.putfield idx, 3)) (hf : a_fp M.1.cls idx ci j ty false) (hs : sk a = some (.inr (.inr (ci, fs)))) (hj : fs[j]? = some none) (hv : narrow ty (.int x) = .int x ∧ fits ty (.int x) = true) (hn : pc + 3 = n) (h : AW scr k mc ms M c0 s0 n L st (wS (mu μ a j x) e) P) : AW scr k mc ms M c0 s0 pc L (.int x :: .ref a :: st) (wS μ e) P := by
  refine AW.put0 hd hf (fun q => by cases q) (Nat.lt_of_lt_of_le (sk_lt hs) (Nat.le_add_right _ _)) (wd_at hs) (by unfold wfs; rw [List.length_mapIdx]; exact (List.getElem?_eq_some_iff.mp hj).1) (fun G => hv) hn ?_
  show AW _ _ _ _ _ _ _ _ _ _ (154 + e.1, a_up (wd μ e.2) a _) _
  rw [wd_obj hs hj]
  exact h
theorem AW.ia {a N : Nat} {i : Int32} (j : Nat) (hd : decode M.2.1 pc = .ok (.iaload, 1)) (hs : sk a = some (.inl (0, N))) (hi : i = nI j) (hj : j < N) (hN : N < 2147483648) (hn : pc + 1 = n) (h : AW scr k mc ms M c0 s0 n L (.int (μ a j) :: st) (wS μ e) P) : AW scr k mc ms M c0 s0 pc L (.int i :: .ref a :: st) (wS μ e) P := by
  subst hi
  refine AW.iald hd (Nat.lt_of_lt_of_le (sk_lt hs) (Nat.le_add_right _ _)) (wd_at hs) (vp_in_nI hj hN) hn ?_
  rw [nI_clamp (Nat.lt_trans hj hN)]
  exact h
theorem AW.za {a N : Nat} {i : Int32} (j : Nat) (hd : decode M.2.1 pc = .ok (.baload, 1)) (hs : sk a = some (.inl (1, N))) (hi : i = nI j) (hj : j < N) (hN : N < 2147483648) (hn : pc + 1 = n) (h : AW scr k mc ms M c0 s0 n L (.int (μ a j) :: st) (wS μ e) P) : AW scr k mc ms M c0 s0 pc L (.int i :: .ref a :: st) (wS μ e) P := by
  subst hi
  refine AW.zald hd (Nat.lt_of_lt_of_le (sk_lt hs) (Nat.le_add_right _ _)) (wd_at hs) (vp_in_nI hj hN) hn ?_
  rw [nI_clamp (Nat.lt_trans hj hN)]
  exact h
theorem AW.ra {a N t b : Nat} {i : Int32} {f : Nat → Option Nat} (j : Nat) (hd : decode M.2.1 pc = .ok (.aaload, 1)) (ht : t = 2 ∨ t = 3) (hs : sk a = some (.inr (.inl (t, N, f)))) (hi : i = nI j) (hj : j < N) (hN : N < 2147483648) (hb : f j = some b) (hn : pc + 1 = n) (h : AW scr k mc ms M c0 s0 n L (.ref b :: st) (wS μ e) P) : AW scr k mc ms M c0 s0 pc L (.int i :: .ref a :: st) (wS μ e) P := by
  subst hi
  refine AW.aald hd (Nat.lt_of_lt_of_le (sk_lt hs) (Nat.le_add_right _ _)) ht (wd_at hs) (vp_in_nI hj hN) (by rw [nI_clamp (Nat.lt_trans hj hN)]; exact hb) hn h
theorem AW.is {a N : Nat} {i x : Int32} (j : Nat) (hd : decode M.2.1 pc = .ok (.iastore, 1)) (hs : sk a = some (.inl (0, N))) (hi : i = nI j) (hj : j < N) (hN : N < 2147483648) (hn : pc + 1 = n) (h : AW scr k mc ms M c0 s0 n L st (wS (mu μ a j x) e) P) : AW scr k mc ms M c0 s0 pc L (.int x :: .int i :: .ref a :: st) (wS μ e) P := by
  subst hi
  refine AW.iast hd (Nat.lt_of_lt_of_le (sk_lt hs) (Nat.le_add_right _ _)) (wd_at hs) (vp_in_nI hj hN) hn ?_
  show AW _ _ _ _ _ _ _ _ _ _ (154 + e.1, a_up (wd μ e.2) a _) _
  rw [wd_arr hs, nI_clamp (Nat.lt_trans hj hN)]
  exact h
theorem AW.zs {a N : Nat} {i x : Int32} (j : Nat) (hd : decode M.2.1 pc = .ok (.bastore, 1)) (hs : sk a = some (.inl (1, N))) (hi : i = nI j) (hj : j < N) (hN : N < 2147483648) (hx : narrow .boolean (.int x) = .int x) (hn : pc + 1 = n) (h : AW scr k mc ms M c0 s0 n L st (wS (mu μ a j x) e) P) : AW scr k mc ms M c0 s0 pc L (.int x :: .int i :: .ref a :: st) (wS μ e) P := by
  subst hi
  refine AW.zast hd (Nat.lt_of_lt_of_le (sk_lt hs) (Nat.le_add_right _ _)) (wd_at hs) (vp_in_nI hj hN) hx hn ?_
  show AW _ _ _ _ _ _ _ _ _ _ (154 + e.1, a_up (wd μ e.2) a _) _
  rw [wd_arr hs, nI_clamp (Nat.lt_trans hj hN)]
  exact h
theorem AW.cp {idx a b N0 N1 : Nat} {x : Int32} (q : Nat) (hd : decode M.2.1 pc = .ok (.invokestatic idx, 3)) (hl : Cond.methodLink M.1.cls idx arraycopyName ∈ gT) (h2 : Cond.native arraycopyName ∈ gT) (h3 : Cond.static arraycopyName ∈ gT) (h4 : Cond.initialized "java/lang/System" ∈ gT) (hsa : sk a = some (.inl (0, N0))) (hsb : sk b = some (.inl (0, N1))) (hx : x = nI q) (hq : q < 2147483648) (g4 : q ≤ N0) (g5 : q ≤ N1) (hrs : st.length ≤ 4) (hk : 1 ≤ k) (hn : pc + 3 = n) (h : AW scr k mc ms M c0 s0 n L st (wS (mr μ b (va_cpy (μ a) (μ b) 0 0 q)) e) P) : AW scr k mc ms M c0 s0 pc L (.int x :: .int 0 :: .ref b :: .int 0 :: .ref a :: st) (wS μ e) P := by
  subst hx
  have e0 : (0 : Int32).toNatClampNeg = 0 := by decide +kernel
  refine AW.acopy hd hl h2 h3 h4 (Nat.lt_of_lt_of_le (sk_lt hsa) (Nat.le_add_right _ _)) (Nat.lt_of_lt_of_le (sk_lt hsb) (Nat.le_add_right _ _)) (wd_at hsa) (wd_at hsb) (by decide) (by decide) (nI_pos hq) (by rw [e0, nI_clamp hq]; omega) (by rw [e0, nI_clamp hq]; omega) hrs hk hn ?_
  show AW _ _ _ _ _ _ _ _ _ _ (154 + e.1, a_up (wd μ e.2) b _) _
  rw [wd_arr hsb, e0, nI_clamp hq]
  exact h
theorem AW.cv {idx kc np a ci : Nat} {Mc : aM} {fs : List (Option Nat)} {q : vw_C} {As rest : List Value} {P1 : Option Value → aS → Prop} (hd : decode M.2.1 pc = .ok (.invokevirtual idx, 3)) (hl : a_lk M.1.cls idx Mc.1) (hcb : a_cv Mc np) (hs : sk a = some (.inr (.inr (ci, fs)))) (hq : vwCl[ci]? = some q) (hqn : q.1 = Mc.1.cls) (hM : AC kc 0 0 Mc (.ref a :: As) (wS μ e) P1) (hnp : As.length = np) (hst : st = As.reverse ++ .ref a :: rest) (hrs : rest.length ≤ 4) (hk : kc + 1 ≤ k) (hc0 : c0 ≤ mc) (hs0 : s0 ≤ ms) (hn : pc + 3 = n) (h : ∀ (r : Option Value) (σ' : aS), P1 r σ' → AW scr k mc ms M c0 s0 n L (r.toList ++ rest) σ' P) : AW scr k mc ms M c0 s0 pc L st (wS μ e) P :=
  AW.callv0 hd hl hcb hM hnp hst hrs hk hc0 hs0 (Nat.lt_of_lt_of_le (sk_lt hs) (Nat.le_add_right _ _)) (wd_at hs) hq hqn hn h
end WRows
section Pat
variable {scr : Option (Nat × (Nat → Int32))} {k mc ms : Nat} {M : aM} {c0 s0 pc n : Nat} {L : List (Option Value)} {st : List Value} {σ : aS} {P : Option Value → aS → Prop}
theorem AW.ist0 {a0 : Option Value} {x : Int32} (hd : decode M.2.1 pc = .ok (.istore_n 0, 1)) (hi : 0 < M.2.2.1) (hc : a_ok (a0 :: L) 0 = true) (hn : pc + 1 = n) (h : AW scr k mc ms M c0 s0 n (some (.int x) :: L) st σ P) : AW scr k mc ms M c0 s0 pc (a0 :: L) (.int x :: st) σ P := AW.istore_n hd hi hc rfl hn h
theorem AW.ast0 {a0 : Option Value} {x : Nat} (hd : decode M.2.1 pc = .ok (.astore_n 0, 1)) (hi : 0 < M.2.2.1) (hc : a_ok (a0 :: L) 0 = true) (hn : pc + 1 = n) (h : AW scr k mc ms M c0 s0 n (some (.ref x) :: L) st σ P) : AW scr k mc ms M c0 s0 pc (a0 :: L) (.ref x :: st) σ P := AW.astore_n hd hi hc rfl hn h
theorem AW.inc0 {x : Int32} (w : Int32) {d : Int} (hd : decode M.2.1 pc = .ok (.iinc 0 d, 3)) (hw : Int32.ofInt d = w) (hi : 0 < M.2.2.1) (hc : a_ok (some (.int x) :: L) 0 = true) (hn : pc + 3 = n) (h : AW scr k mc ms M c0 s0 n (some (.int (x + w)) :: L) st σ P) : AW scr k mc ms M c0 s0 pc (some (.int x) :: L) st σ P := AW.iinc hd rfl (by rw [hw]) hi hc rfl hn h
theorem AW.ist1 {a0 a1 : Option Value} {x : Int32} (hd : decode M.2.1 pc = .ok (.istore_n 1, 1)) (hi : 1 < M.2.2.1) (hc : a_ok (a0 :: a1 :: L) 1 = true) (hn : pc + 1 = n) (h : AW scr k mc ms M c0 s0 n (a0 :: some (.int x) :: L) st σ P) : AW scr k mc ms M c0 s0 pc (a0 :: a1 :: L) (.int x :: st) σ P := AW.istore_n hd hi hc rfl hn h
theorem AW.ast1 {a0 a1 : Option Value} {x : Nat} (hd : decode M.2.1 pc = .ok (.astore_n 1, 1)) (hi : 1 < M.2.2.1) (hc : a_ok (a0 :: a1 :: L) 1 = true) (hn : pc + 1 = n) (h : AW scr k mc ms M c0 s0 n (a0 :: some (.ref x) :: L) st σ P) : AW scr k mc ms M c0 s0 pc (a0 :: a1 :: L) (.ref x :: st) σ P := AW.astore_n hd hi hc rfl hn h
theorem AW.inc1 {a0 : Option Value} {x : Int32} (w : Int32) {d : Int} (hd : decode M.2.1 pc = .ok (.iinc 1 d, 3)) (hw : Int32.ofInt d = w) (hi : 1 < M.2.2.1) (hc : a_ok (a0 :: some (.int x) :: L) 1 = true) (hn : pc + 3 = n) (h : AW scr k mc ms M c0 s0 n (a0 :: some (.int (x + w)) :: L) st σ P) : AW scr k mc ms M c0 s0 pc (a0 :: some (.int x) :: L) st σ P := AW.iinc hd rfl (by rw [hw]) hi hc rfl hn h
theorem AW.ist2 {a0 a1 a2 : Option Value} {x : Int32} (hd : decode M.2.1 pc = .ok (.istore_n 2, 1)) (hi : 2 < M.2.2.1) (hc : a_ok (a0 :: a1 :: a2 :: L) 2 = true) (hn : pc + 1 = n) (h : AW scr k mc ms M c0 s0 n (a0 :: a1 :: some (.int x) :: L) st σ P) : AW scr k mc ms M c0 s0 pc (a0 :: a1 :: a2 :: L) (.int x :: st) σ P := AW.istore_n hd hi hc rfl hn h
theorem AW.ast2 {a0 a1 a2 : Option Value} {x : Nat} (hd : decode M.2.1 pc = .ok (.astore_n 2, 1)) (hi : 2 < M.2.2.1) (hc : a_ok (a0 :: a1 :: a2 :: L) 2 = true) (hn : pc + 1 = n) (h : AW scr k mc ms M c0 s0 n (a0 :: a1 :: some (.ref x) :: L) st σ P) : AW scr k mc ms M c0 s0 pc (a0 :: a1 :: a2 :: L) (.ref x :: st) σ P := AW.astore_n hd hi hc rfl hn h
theorem AW.inc2 {a0 a1 : Option Value} {x : Int32} (w : Int32) {d : Int} (hd : decode M.2.1 pc = .ok (.iinc 2 d, 3)) (hw : Int32.ofInt d = w) (hi : 2 < M.2.2.1) (hc : a_ok (a0 :: a1 :: some (.int x) :: L) 2 = true) (hn : pc + 3 = n) (h : AW scr k mc ms M c0 s0 n (a0 :: a1 :: some (.int (x + w)) :: L) st σ P) : AW scr k mc ms M c0 s0 pc (a0 :: a1 :: some (.int x) :: L) st σ P := AW.iinc hd rfl (by rw [hw]) hi hc rfl hn h
theorem AW.ist3 {a0 a1 a2 a3 : Option Value} {x : Int32} (hd : decode M.2.1 pc = .ok (.istore_n 3, 1)) (hi : 3 < M.2.2.1) (hc : a_ok (a0 :: a1 :: a2 :: a3 :: L) 3 = true) (hn : pc + 1 = n) (h : AW scr k mc ms M c0 s0 n (a0 :: a1 :: a2 :: some (.int x) :: L) st σ P) : AW scr k mc ms M c0 s0 pc (a0 :: a1 :: a2 :: a3 :: L) (.int x :: st) σ P := AW.istore_n hd hi hc rfl hn h
theorem AW.ast3 {a0 a1 a2 a3 : Option Value} {x : Nat} (hd : decode M.2.1 pc = .ok (.astore_n 3, 1)) (hi : 3 < M.2.2.1) (hc : a_ok (a0 :: a1 :: a2 :: a3 :: L) 3 = true) (hn : pc + 1 = n) (h : AW scr k mc ms M c0 s0 n (a0 :: a1 :: a2 :: some (.ref x) :: L) st σ P) : AW scr k mc ms M c0 s0 pc (a0 :: a1 :: a2 :: a3 :: L) (.ref x :: st) σ P := AW.astore_n hd hi hc rfl hn h
theorem AW.inc3 {a0 a1 a2 : Option Value} {x : Int32} (w : Int32) {d : Int} (hd : decode M.2.1 pc = .ok (.iinc 3 d, 3)) (hw : Int32.ofInt d = w) (hi : 3 < M.2.2.1) (hc : a_ok (a0 :: a1 :: a2 :: some (.int x) :: L) 3 = true) (hn : pc + 3 = n) (h : AW scr k mc ms M c0 s0 n (a0 :: a1 :: a2 :: some (.int (x + w)) :: L) st σ P) : AW scr k mc ms M c0 s0 pc (a0 :: a1 :: a2 :: some (.int x) :: L) st σ P := AW.iinc hd rfl (by rw [hw]) hi hc rfl hn h
theorem AW.ist4 {a0 a1 a2 a3 a4 : Option Value} {x : Int32} (hd : decode M.2.1 pc = .ok (.istore 4, 2)) (hi : 4 < M.2.2.1) (hc : a_ok (a0 :: a1 :: a2 :: a3 :: a4 :: L) 4 = true) (hn : pc + 2 = n) (h : AW scr k mc ms M c0 s0 n (a0 :: a1 :: a2 :: a3 :: some (.int x) :: L) st σ P) : AW scr k mc ms M c0 s0 pc (a0 :: a1 :: a2 :: a3 :: a4 :: L) (.int x :: st) σ P := AW.istore hd hi hc rfl hn h
theorem AW.ast4 {a0 a1 a2 a3 a4 : Option Value} {x : Nat} (hd : decode M.2.1 pc = .ok (.astore 4, 2)) (hi : 4 < M.2.2.1) (hc : a_ok (a0 :: a1 :: a2 :: a3 :: a4 :: L) 4 = true) (hn : pc + 2 = n) (h : AW scr k mc ms M c0 s0 n (a0 :: a1 :: a2 :: a3 :: some (.ref x) :: L) st σ P) : AW scr k mc ms M c0 s0 pc (a0 :: a1 :: a2 :: a3 :: a4 :: L) (.ref x :: st) σ P := AW.astore hd hi hc rfl hn h
theorem AW.inc4 {a0 a1 a2 a3 : Option Value} {x : Int32} (w : Int32) {d : Int} (hd : decode M.2.1 pc = .ok (.iinc 4 d, 3)) (hw : Int32.ofInt d = w) (hi : 4 < M.2.2.1) (hc : a_ok (a0 :: a1 :: a2 :: a3 :: some (.int x) :: L) 4 = true) (hn : pc + 3 = n) (h : AW scr k mc ms M c0 s0 n (a0 :: a1 :: a2 :: a3 :: some (.int (x + w)) :: L) st σ P) : AW scr k mc ms M c0 s0 pc (a0 :: a1 :: a2 :: a3 :: some (.int x) :: L) st σ P := AW.iinc hd rfl (by rw [hw]) hi hc rfl hn h
theorem AW.ist5 {a0 a1 a2 a3 a4 a5 : Option Value} {x : Int32} (hd : decode M.2.1 pc = .ok (.istore 5, 2)) (hi : 5 < M.2.2.1) (hc : a_ok (a0 :: a1 :: a2 :: a3 :: a4 :: a5 :: L) 5 = true) (hn : pc + 2 = n) (h : AW scr k mc ms M c0 s0 n (a0 :: a1 :: a2 :: a3 :: a4 :: some (.int x) :: L) st σ P) : AW scr k mc ms M c0 s0 pc (a0 :: a1 :: a2 :: a3 :: a4 :: a5 :: L) (.int x :: st) σ P := AW.istore hd hi hc rfl hn h
theorem AW.ast5 {a0 a1 a2 a3 a4 a5 : Option Value} {x : Nat} (hd : decode M.2.1 pc = .ok (.astore 5, 2)) (hi : 5 < M.2.2.1) (hc : a_ok (a0 :: a1 :: a2 :: a3 :: a4 :: a5 :: L) 5 = true) (hn : pc + 2 = n) (h : AW scr k mc ms M c0 s0 n (a0 :: a1 :: a2 :: a3 :: a4 :: some (.ref x) :: L) st σ P) : AW scr k mc ms M c0 s0 pc (a0 :: a1 :: a2 :: a3 :: a4 :: a5 :: L) (.ref x :: st) σ P := AW.astore hd hi hc rfl hn h
theorem AW.inc5 {a0 a1 a2 a3 a4 : Option Value} {x : Int32} (w : Int32) {d : Int} (hd : decode M.2.1 pc = .ok (.iinc 5 d, 3)) (hw : Int32.ofInt d = w) (hi : 5 < M.2.2.1) (hc : a_ok (a0 :: a1 :: a2 :: a3 :: a4 :: some (.int x) :: L) 5 = true) (hn : pc + 3 = n) (h : AW scr k mc ms M c0 s0 n (a0 :: a1 :: a2 :: a3 :: a4 :: some (.int (x + w)) :: L) st σ P) : AW scr k mc ms M c0 s0 pc (a0 :: a1 :: a2 :: a3 :: a4 :: some (.int x) :: L) st σ P := AW.iinc hd rfl (by rw [hw]) hi hc rfl hn h
theorem AW.ist6 {a0 a1 a2 a3 a4 a5 a6 : Option Value} {x : Int32} (hd : decode M.2.1 pc = .ok (.istore 6, 2)) (hi : 6 < M.2.2.1) (hc : a_ok (a0 :: a1 :: a2 :: a3 :: a4 :: a5 :: a6 :: L) 6 = true) (hn : pc + 2 = n) (h : AW scr k mc ms M c0 s0 n (a0 :: a1 :: a2 :: a3 :: a4 :: a5 :: some (.int x) :: L) st σ P) : AW scr k mc ms M c0 s0 pc (a0 :: a1 :: a2 :: a3 :: a4 :: a5 :: a6 :: L) (.int x :: st) σ P := AW.istore hd hi hc rfl hn h
theorem AW.ast6 {a0 a1 a2 a3 a4 a5 a6 : Option Value} {x : Nat} (hd : decode M.2.1 pc = .ok (.astore 6, 2)) (hi : 6 < M.2.2.1) (hc : a_ok (a0 :: a1 :: a2 :: a3 :: a4 :: a5 :: a6 :: L) 6 = true) (hn : pc + 2 = n) (h : AW scr k mc ms M c0 s0 n (a0 :: a1 :: a2 :: a3 :: a4 :: a5 :: some (.ref x) :: L) st σ P) : AW scr k mc ms M c0 s0 pc (a0 :: a1 :: a2 :: a3 :: a4 :: a5 :: a6 :: L) (.ref x :: st) σ P := AW.astore hd hi hc rfl hn h
theorem AW.inc6 {a0 a1 a2 a3 a4 a5 : Option Value} {x : Int32} (w : Int32) {d : Int} (hd : decode M.2.1 pc = .ok (.iinc 6 d, 3)) (hw : Int32.ofInt d = w) (hi : 6 < M.2.2.1) (hc : a_ok (a0 :: a1 :: a2 :: a3 :: a4 :: a5 :: some (.int x) :: L) 6 = true) (hn : pc + 3 = n) (h : AW scr k mc ms M c0 s0 n (a0 :: a1 :: a2 :: a3 :: a4 :: a5 :: some (.int (x + w)) :: L) st σ P) : AW scr k mc ms M c0 s0 pc (a0 :: a1 :: a2 :: a3 :: a4 :: a5 :: some (.int x) :: L) st σ P := AW.iinc hd rfl (by rw [hw]) hi hc rfl hn h
theorem AW.ist7 {a0 a1 a2 a3 a4 a5 a6 a7 : Option Value} {x : Int32} (hd : decode M.2.1 pc = .ok (.istore 7, 2)) (hi : 7 < M.2.2.1) (hc : a_ok (a0 :: a1 :: a2 :: a3 :: a4 :: a5 :: a6 :: a7 :: L) 7 = true) (hn : pc + 2 = n) (h : AW scr k mc ms M c0 s0 n (a0 :: a1 :: a2 :: a3 :: a4 :: a5 :: a6 :: some (.int x) :: L) st σ P) : AW scr k mc ms M c0 s0 pc (a0 :: a1 :: a2 :: a3 :: a4 :: a5 :: a6 :: a7 :: L) (.int x :: st) σ P := AW.istore hd hi hc rfl hn h
theorem AW.ast7 {a0 a1 a2 a3 a4 a5 a6 a7 : Option Value} {x : Nat} (hd : decode M.2.1 pc = .ok (.astore 7, 2)) (hi : 7 < M.2.2.1) (hc : a_ok (a0 :: a1 :: a2 :: a3 :: a4 :: a5 :: a6 :: a7 :: L) 7 = true) (hn : pc + 2 = n) (h : AW scr k mc ms M c0 s0 n (a0 :: a1 :: a2 :: a3 :: a4 :: a5 :: a6 :: some (.ref x) :: L) st σ P) : AW scr k mc ms M c0 s0 pc (a0 :: a1 :: a2 :: a3 :: a4 :: a5 :: a6 :: a7 :: L) (.ref x :: st) σ P := AW.astore hd hi hc rfl hn h
theorem AW.inc7 {a0 a1 a2 a3 a4 a5 a6 : Option Value} {x : Int32} (w : Int32) {d : Int} (hd : decode M.2.1 pc = .ok (.iinc 7 d, 3)) (hw : Int32.ofInt d = w) (hi : 7 < M.2.2.1) (hc : a_ok (a0 :: a1 :: a2 :: a3 :: a4 :: a5 :: a6 :: some (.int x) :: L) 7 = true) (hn : pc + 3 = n) (h : AW scr k mc ms M c0 s0 n (a0 :: a1 :: a2 :: a3 :: a4 :: a5 :: a6 :: some (.int (x + w)) :: L) st σ P) : AW scr k mc ms M c0 s0 pc (a0 :: a1 :: a2 :: a3 :: a4 :: a5 :: a6 :: some (.int x) :: L) st σ P := AW.iinc hd rfl (by rw [hw]) hi hc rfl hn h
theorem AW.ist8 {a0 a1 a2 a3 a4 a5 a6 a7 a8 : Option Value} {x : Int32} (hd : decode M.2.1 pc = .ok (.istore 8, 2)) (hi : 8 < M.2.2.1) (hc : a_ok (a0 :: a1 :: a2 :: a3 :: a4 :: a5 :: a6 :: a7 :: a8 :: L) 8 = true) (hn : pc + 2 = n) (h : AW scr k mc ms M c0 s0 n (a0 :: a1 :: a2 :: a3 :: a4 :: a5 :: a6 :: a7 :: some (.int x) :: L) st σ P) : AW scr k mc ms M c0 s0 pc (a0 :: a1 :: a2 :: a3 :: a4 :: a5 :: a6 :: a7 :: a8 :: L) (.int x :: st) σ P := AW.istore hd hi hc rfl hn h
theorem AW.ast8 {a0 a1 a2 a3 a4 a5 a6 a7 a8 : Option Value} {x : Nat} (hd : decode M.2.1 pc = .ok (.astore 8, 2)) (hi : 8 < M.2.2.1) (hc : a_ok (a0 :: a1 :: a2 :: a3 :: a4 :: a5 :: a6 :: a7 :: a8 :: L) 8 = true) (hn : pc + 2 = n) (h : AW scr k mc ms M c0 s0 n (a0 :: a1 :: a2 :: a3 :: a4 :: a5 :: a6 :: a7 :: some (.ref x) :: L) st σ P) : AW scr k mc ms M c0 s0 pc (a0 :: a1 :: a2 :: a3 :: a4 :: a5 :: a6 :: a7 :: a8 :: L) (.ref x :: st) σ P := AW.astore hd hi hc rfl hn h
theorem AW.inc8 {a0 a1 a2 a3 a4 a5 a6 a7 : Option Value} {x : Int32} (w : Int32) {d : Int} (hd : decode M.2.1 pc = .ok (.iinc 8 d, 3)) (hw : Int32.ofInt d = w) (hi : 8 < M.2.2.1) (hc : a_ok (a0 :: a1 :: a2 :: a3 :: a4 :: a5 :: a6 :: a7 :: some (.int x) :: L) 8 = true) (hn : pc + 3 = n) (h : AW scr k mc ms M c0 s0 n (a0 :: a1 :: a2 :: a3 :: a4 :: a5 :: a6 :: a7 :: some (.int (x + w)) :: L) st σ P) : AW scr k mc ms M c0 s0 pc (a0 :: a1 :: a2 :: a3 :: a4 :: a5 :: a6 :: a7 :: some (.int x) :: L) st σ P := AW.iinc hd rfl (by rw [hw]) hi hc rfl hn h
theorem AW.ist9 {a0 a1 a2 a3 a4 a5 a6 a7 a8 a9 : Option Value} {x : Int32} (hd : decode M.2.1 pc = .ok (.istore 9, 2)) (hi : 9 < M.2.2.1) (hc : a_ok (a0 :: a1 :: a2 :: a3 :: a4 :: a5 :: a6 :: a7 :: a8 :: a9 :: L) 9 = true) (hn : pc + 2 = n) (h : AW scr k mc ms M c0 s0 n (a0 :: a1 :: a2 :: a3 :: a4 :: a5 :: a6 :: a7 :: a8 :: some (.int x) :: L) st σ P) : AW scr k mc ms M c0 s0 pc (a0 :: a1 :: a2 :: a3 :: a4 :: a5 :: a6 :: a7 :: a8 :: a9 :: L) (.int x :: st) σ P := AW.istore hd hi hc rfl hn h
theorem AW.ast9 {a0 a1 a2 a3 a4 a5 a6 a7 a8 a9 : Option Value} {x : Nat} (hd : decode M.2.1 pc = .ok (.astore 9, 2)) (hi : 9 < M.2.2.1) (hc : a_ok (a0 :: a1 :: a2 :: a3 :: a4 :: a5 :: a6 :: a7 :: a8 :: a9 :: L) 9 = true) (hn : pc + 2 = n) (h : AW scr k mc ms M c0 s0 n (a0 :: a1 :: a2 :: a3 :: a4 :: a5 :: a6 :: a7 :: a8 :: some (.ref x) :: L) st σ P) : AW scr k mc ms M c0 s0 pc (a0 :: a1 :: a2 :: a3 :: a4 :: a5 :: a6 :: a7 :: a8 :: a9 :: L) (.ref x :: st) σ P := AW.astore hd hi hc rfl hn h
theorem AW.inc9 {a0 a1 a2 a3 a4 a5 a6 a7 a8 : Option Value} {x : Int32} (w : Int32) {d : Int} (hd : decode M.2.1 pc = .ok (.iinc 9 d, 3)) (hw : Int32.ofInt d = w) (hi : 9 < M.2.2.1) (hc : a_ok (a0 :: a1 :: a2 :: a3 :: a4 :: a5 :: a6 :: a7 :: a8 :: some (.int x) :: L) 9 = true) (hn : pc + 3 = n) (h : AW scr k mc ms M c0 s0 n (a0 :: a1 :: a2 :: a3 :: a4 :: a5 :: a6 :: a7 :: a8 :: some (.int (x + w)) :: L) st σ P) : AW scr k mc ms M c0 s0 pc (a0 :: a1 :: a2 :: a3 :: a4 :: a5 :: a6 :: a7 :: a8 :: some (.int x) :: L) st σ P := AW.iinc hd rfl (by rw [hw]) hi hc rfl hn h
theorem AW.ist10 {a0 a1 a2 a3 a4 a5 a6 a7 a8 a9 a10 : Option Value} {x : Int32} (hd : decode M.2.1 pc = .ok (.istore 10, 2)) (hi : 10 < M.2.2.1) (hc : a_ok (a0 :: a1 :: a2 :: a3 :: a4 :: a5 :: a6 :: a7 :: a8 :: a9 :: a10 :: L) 10 = true) (hn : pc + 2 = n) (h : AW scr k mc ms M c0 s0 n (a0 :: a1 :: a2 :: a3 :: a4 :: a5 :: a6 :: a7 :: a8 :: a9 :: some (.int x) :: L) st σ P) : AW scr k mc ms M c0 s0 pc (a0 :: a1 :: a2 :: a3 :: a4 :: a5 :: a6 :: a7 :: a8 :: a9 :: a10 :: L) (.int x :: st) σ P := AW.istore hd hi hc rfl hn h
theorem AW.ast10 {a0 a1 a2 a3 a4 a5 a6 a7 a8 a9 a10 : Option Value} {x : Nat} (hd : decode M.2.1 pc = .ok (.astore 10, 2)) (hi : 10 < M.2.2.1) (hc : a_ok (a0 :: a1 :: a2 :: a3 :: a4 :: a5 :: a6 :: a7 :: a8 :: a9 :: a10 :: L) 10 = true) (hn : pc + 2 = n) (h : AW scr k mc ms M c0 s0 n (a0 :: a1 :: a2 :: a3 :: a4 :: a5 :: a6 :: a7 :: a8 :: a9 :: some (.ref x) :: L) st σ P) : AW scr k mc ms M c0 s0 pc (a0 :: a1 :: a2 :: a3 :: a4 :: a5 :: a6 :: a7 :: a8 :: a9 :: a10 :: L) (.ref x :: st) σ P := AW.astore hd hi hc rfl hn h
theorem AW.inc10 {a0 a1 a2 a3 a4 a5 a6 a7 a8 a9 : Option Value} {x : Int32} (w : Int32) {d : Int} (hd : decode M.2.1 pc = .ok (.iinc 10 d, 3)) (hw : Int32.ofInt d = w) (hi : 10 < M.2.2.1) (hc : a_ok (a0 :: a1 :: a2 :: a3 :: a4 :: a5 :: a6 :: a7 :: a8 :: a9 :: some (.int x) :: L) 10 = true) (hn : pc + 3 = n) (h : AW scr k mc ms M c0 s0 n (a0 :: a1 :: a2 :: a3 :: a4 :: a5 :: a6 :: a7 :: a8 :: a9 :: some (.int (x + w)) :: L) st σ P) : AW scr k mc ms M c0 s0 pc (a0 :: a1 :: a2 :: a3 :: a4 :: a5 :: a6 :: a7 :: a8 :: a9 :: some (.int x) :: L) st σ P := AW.iinc hd rfl (by rw [hw]) hi hc rfl hn h
theorem AW.ist11 {a0 a1 a2 a3 a4 a5 a6 a7 a8 a9 a10 a11 : Option Value} {x : Int32} (hd : decode M.2.1 pc = .ok (.istore 11, 2)) (hi : 11 < M.2.2.1) (hc : a_ok (a0 :: a1 :: a2 :: a3 :: a4 :: a5 :: a6 :: a7 :: a8 :: a9 :: a10 :: a11 :: L) 11 = true) (hn : pc + 2 = n) (h : AW scr k mc ms M c0 s0 n (a0 :: a1 :: a2 :: a3 :: a4 :: a5 :: a6 :: a7 :: a8 :: a9 :: a10 :: some (.int x) :: L) st σ P) : AW scr k mc ms M c0 s0 pc (a0 :: a1 :: a2 :: a3 :: a4 :: a5 :: a6 :: a7 :: a8 :: a9 :: a10 :: a11 :: L) (.int x :: st) σ P := AW.istore hd hi hc rfl hn h
theorem AW.ast11 {a0 a1 a2 a3 a4 a5 a6 a7 a8 a9 a10 a11 : Option Value} {x : Nat} (hd : decode M.2.1 pc = .ok (.astore 11, 2)) (hi : 11 < M.2.2.1) (hc : a_ok (a0 :: a1 :: a2 :: a3 :: a4 :: a5 :: a6 :: a7 :: a8 :: a9 :: a10 :: a11 :: L) 11 = true) (hn : pc + 2 = n) (h : AW scr k mc ms M c0 s0 n (a0 :: a1 :: a2 :: a3 :: a4 :: a5 :: a6 :: a7 :: a8 :: a9 :: a10 :: some (.ref x) :: L) st σ P) : AW scr k mc ms M c0 s0 pc (a0 :: a1 :: a2 :: a3 :: a4 :: a5 :: a6 :: a7 :: a8 :: a9 :: a10 :: a11 :: L) (.ref x :: st) σ P := AW.astore hd hi hc rfl hn h
theorem AW.inc11 {a0 a1 a2 a3 a4 a5 a6 a7 a8 a9 a10 : Option Value} {x : Int32} (w : Int32) {d : Int} (hd : decode M.2.1 pc = .ok (.iinc 11 d, 3)) (hw : Int32.ofInt d = w) (hi : 11 < M.2.2.1) (hc : a_ok (a0 :: a1 :: a2 :: a3 :: a4 :: a5 :: a6 :: a7 :: a8 :: a9 :: a10 :: some (.int x) :: L) 11 = true) (hn : pc + 3 = n) (h : AW scr k mc ms M c0 s0 n (a0 :: a1 :: a2 :: a3 :: a4 :: a5 :: a6 :: a7 :: a8 :: a9 :: a10 :: some (.int (x + w)) :: L) st σ P) : AW scr k mc ms M c0 s0 pc (a0 :: a1 :: a2 :: a3 :: a4 :: a5 :: a6 :: a7 :: a8 :: a9 :: a10 :: some (.int x) :: L) st σ P := AW.iinc hd rfl (by rw [hw]) hi hc rfl hn h
theorem AW.ist12 {a0 a1 a2 a3 a4 a5 a6 a7 a8 a9 a10 a11 a12 : Option Value} {x : Int32} (hd : decode M.2.1 pc = .ok (.istore 12, 2)) (hi : 12 < M.2.2.1) (hc : a_ok (a0 :: a1 :: a2 :: a3 :: a4 :: a5 :: a6 :: a7 :: a8 :: a9 :: a10 :: a11 :: a12 :: L) 12 = true) (hn : pc + 2 = n) (h : AW scr k mc ms M c0 s0 n (a0 :: a1 :: a2 :: a3 :: a4 :: a5 :: a6 :: a7 :: a8 :: a9 :: a10 :: a11 :: some (.int x) :: L) st σ P) : AW scr k mc ms M c0 s0 pc (a0 :: a1 :: a2 :: a3 :: a4 :: a5 :: a6 :: a7 :: a8 :: a9 :: a10 :: a11 :: a12 :: L) (.int x :: st) σ P := AW.istore hd hi hc rfl hn h
theorem AW.ast12 {a0 a1 a2 a3 a4 a5 a6 a7 a8 a9 a10 a11 a12 : Option Value} {x : Nat} (hd : decode M.2.1 pc = .ok (.astore 12, 2)) (hi : 12 < M.2.2.1) (hc : a_ok (a0 :: a1 :: a2 :: a3 :: a4 :: a5 :: a6 :: a7 :: a8 :: a9 :: a10 :: a11 :: a12 :: L) 12 = true) (hn : pc + 2 = n) (h : AW scr k mc ms M c0 s0 n (a0 :: a1 :: a2 :: a3 :: a4 :: a5 :: a6 :: a7 :: a8 :: a9 :: a10 :: a11 :: some (.ref x) :: L) st σ P) : AW scr k mc ms M c0 s0 pc (a0 :: a1 :: a2 :: a3 :: a4 :: a5 :: a6 :: a7 :: a8 :: a9 :: a10 :: a11 :: a12 :: L) (.ref x :: st) σ P := AW.astore hd hi hc rfl hn h
theorem AW.inc12 {a0 a1 a2 a3 a4 a5 a6 a7 a8 a9 a10 a11 : Option Value} {x : Int32} (w : Int32) {d : Int} (hd : decode M.2.1 pc = .ok (.iinc 12 d, 3)) (hw : Int32.ofInt d = w) (hi : 12 < M.2.2.1) (hc : a_ok (a0 :: a1 :: a2 :: a3 :: a4 :: a5 :: a6 :: a7 :: a8 :: a9 :: a10 :: a11 :: some (.int x) :: L) 12 = true) (hn : pc + 3 = n) (h : AW scr k mc ms M c0 s0 n (a0 :: a1 :: a2 :: a3 :: a4 :: a5 :: a6 :: a7 :: a8 :: a9 :: a10 :: a11 :: some (.int (x + w)) :: L) st σ P) : AW scr k mc ms M c0 s0 pc (a0 :: a1 :: a2 :: a3 :: a4 :: a5 :: a6 :: a7 :: a8 :: a9 :: a10 :: a11 :: some (.int x) :: L) st σ P := AW.iinc hd rfl (by rw [hw]) hi hc rfl hn h
theorem AW.ist13 {a0 a1 a2 a3 a4 a5 a6 a7 a8 a9 a10 a11 a12 a13 : Option Value} {x : Int32} (hd : decode M.2.1 pc = .ok (.istore 13, 2)) (hi : 13 < M.2.2.1) (hc : a_ok (a0 :: a1 :: a2 :: a3 :: a4 :: a5 :: a6 :: a7 :: a8 :: a9 :: a10 :: a11 :: a12 :: a13 :: L) 13 = true) (hn : pc + 2 = n) (h : AW scr k mc ms M c0 s0 n (a0 :: a1 :: a2 :: a3 :: a4 :: a5 :: a6 :: a7 :: a8 :: a9 :: a10 :: a11 :: a12 :: some (.int x) :: L) st σ P) : AW scr k mc ms M c0 s0 pc (a0 :: a1 :: a2 :: a3 :: a4 :: a5 :: a6 :: a7 :: a8 :: a9 :: a10 :: a11 :: a12 :: a13 :: L) (.int x :: st) σ P := AW.istore hd hi hc rfl hn h
theorem AW.ast13 {a0 a1 a2 a3 a4 a5 a6 a7 a8 a9 a10 a11 a12 a13 : Option Value} {x : Nat} (hd : decode M.2.1 pc = .ok (.astore 13, 2)) (hi : 13 < M.2.2.1) (hc : a_ok (a0 :: a1 :: a2 :: a3 :: a4 :: a5 :: a6 :: a7 :: a8 :: a9 :: a10 :: a11 :: a12 :: a13 :: L) 13 = true) (hn : pc + 2 = n) (h : AW scr k mc ms M c0 s0 n (a0 :: a1 :: a2 :: a3 :: a4 :: a5 :: a6 :: a7 :: a8 :: a9 :: a10 :: a11 :: a12 :: some (.ref x) :: L) st σ P) : AW scr k mc ms M c0 s0 pc (a0 :: a1 :: a2 :: a3 :: a4 :: a5 :: a6 :: a7 :: a8 :: a9 :: a10 :: a11 :: a12 :: a13 :: L) (.ref x :: st) σ P := AW.astore hd hi hc rfl hn h
theorem AW.inc13 {a0 a1 a2 a3 a4 a5 a6 a7 a8 a9 a10 a11 a12 : Option Value} {x : Int32} (w : Int32) {d : Int} (hd : decode M.2.1 pc = .ok (.iinc 13 d, 3)) (hw : Int32.ofInt d = w) (hi : 13 < M.2.2.1) (hc : a_ok (a0 :: a1 :: a2 :: a3 :: a4 :: a5 :: a6 :: a7 :: a8 :: a9 :: a10 :: a11 :: a12 :: some (.int x) :: L) 13 = true) (hn : pc + 3 = n) (h : AW scr k mc ms M c0 s0 n (a0 :: a1 :: a2 :: a3 :: a4 :: a5 :: a6 :: a7 :: a8 :: a9 :: a10 :: a11 :: a12 :: some (.int (x + w)) :: L) st σ P) : AW scr k mc ms M c0 s0 pc (a0 :: a1 :: a2 :: a3 :: a4 :: a5 :: a6 :: a7 :: a8 :: a9 :: a10 :: a11 :: a12 :: some (.int x) :: L) st σ P := AW.iinc hd rfl (by rw [hw]) hi hc rfl hn h
theorem AW.ist14 {a0 a1 a2 a3 a4 a5 a6 a7 a8 a9 a10 a11 a12 a13 a14 : Option Value} {x : Int32} (hd : decode M.2.1 pc = .ok (.istore 14, 2)) (hi : 14 < M.2.2.1) (hc : a_ok (a0 :: a1 :: a2 :: a3 :: a4 :: a5 :: a6 :: a7 :: a8 :: a9 :: a10 :: a11 :: a12 :: a13 :: a14 :: L) 14 = true) (hn : pc + 2 = n) (h : AW scr k mc ms M c0 s0 n (a0 :: a1 :: a2 :: a3 :: a4 :: a5 :: a6 :: a7 :: a8 :: a9 :: a10 :: a11 :: a12 :: a13 :: some (.int x) :: L) st σ P) : AW scr k mc ms M c0 s0 pc (a0 :: a1 :: a2 :: a3 :: a4 :: a5 :: a6 :: a7 :: a8 :: a9 :: a10 :: a11 :: a12 :: a13 :: a14 :: L) (.int x :: st) σ P := AW.istore hd hi hc rfl hn h
theorem AW.ast14 {a0 a1 a2 a3 a4 a5 a6 a7 a8 a9 a10 a11 a12 a13 a14 : Option Value} {x : Nat} (hd : decode M.2.1 pc = .ok (.astore 14, 2)) (hi : 14 < M.2.2.1) (hc : a_ok (a0 :: a1 :: a2 :: a3 :: a4 :: a5 :: a6 :: a7 :: a8 :: a9 :: a10 :: a11 :: a12 :: a13 :: a14 :: L) 14 = true) (hn : pc + 2 = n) (h : AW scr k mc ms M c0 s0 n (a0 :: a1 :: a2 :: a3 :: a4 :: a5 :: a6 :: a7 :: a8 :: a9 :: a10 :: a11 :: a12 :: a13 :: some (.ref x) :: L) st σ P) : AW scr k mc ms M c0 s0 pc (a0 :: a1 :: a2 :: a3 :: a4 :: a5 :: a6 :: a7 :: a8 :: a9 :: a10 :: a11 :: a12 :: a13 :: a14 :: L) (.ref x :: st) σ P := AW.astore hd hi hc rfl hn h
theorem AW.inc14 {a0 a1 a2 a3 a4 a5 a6 a7 a8 a9 a10 a11 a12 a13 : Option Value} {x : Int32} (w : Int32) {d : Int} (hd : decode M.2.1 pc = .ok (.iinc 14 d, 3)) (hw : Int32.ofInt d = w) (hi : 14 < M.2.2.1) (hc : a_ok (a0 :: a1 :: a2 :: a3 :: a4 :: a5 :: a6 :: a7 :: a8 :: a9 :: a10 :: a11 :: a12 :: a13 :: some (.int x) :: L) 14 = true) (hn : pc + 3 = n) (h : AW scr k mc ms M c0 s0 n (a0 :: a1 :: a2 :: a3 :: a4 :: a5 :: a6 :: a7 :: a8 :: a9 :: a10 :: a11 :: a12 :: a13 :: some (.int (x + w)) :: L) st σ P) : AW scr k mc ms M c0 s0 pc (a0 :: a1 :: a2 :: a3 :: a4 :: a5 :: a6 :: a7 :: a8 :: a9 :: a10 :: a11 :: a12 :: a13 :: some (.int x) :: L) st σ P := AW.iinc hd rfl (by rw [hw]) hi hc rfl hn h
theorem AW.ist15 {a0 a1 a2 a3 a4 a5 a6 a7 a8 a9 a10 a11 a12 a13 a14 a15 : Option Value} {x : Int32} (hd : decode M.2.1 pc = .ok (.istore 15, 2)) (hi : 15 < M.2.2.1) (hc : a_ok (a0 :: a1 :: a2 :: a3 :: a4 :: a5 :: a6 :: a7 :: a8 :: a9 :: a10 :: a11 :: a12 :: a13 :: a14 :: a15 :: L) 15 = true) (hn : pc + 2 = n) (h : AW scr k mc ms M c0 s0 n (a0 :: a1 :: a2 :: a3 :: a4 :: a5 :: a6 :: a7 :: a8 :: a9 :: a10 :: a11 :: a12 :: a13 :: a14 :: some (.int x) :: L) st σ P) : AW scr k mc ms M c0 s0 pc (a0 :: a1 :: a2 :: a3 :: a4 :: a5 :: a6 :: a7 :: a8 :: a9 :: a10 :: a11 :: a12 :: a13 :: a14 :: a15 :: L) (.int x :: st) σ P := AW.istore hd hi hc rfl hn h
theorem AW.ast15 {a0 a1 a2 a3 a4 a5 a6 a7 a8 a9 a10 a11 a12 a13 a14 a15 : Option Value} {x : Nat} (hd : decode M.2.1 pc = .ok (.astore 15, 2)) (hi : 15 < M.2.2.1) (hc : a_ok (a0 :: a1 :: a2 :: a3 :: a4 :: a5 :: a6 :: a7 :: a8 :: a9 :: a10 :: a11 :: a12 :: a13 :: a14 :: a15 :: L) 15 = true) (hn : pc + 2 = n) (h : AW scr k mc ms M c0 s0 n (a0 :: a1 :: a2 :: a3 :: a4 :: a5 :: a6 :: a7 :: a8 :: a9 :: a10 :: a11 :: a12 :: a13 :: a14 :: some (.ref x) :: L) st σ P) : AW scr k mc ms M c0 s0 pc (a0 :: a1 :: a2 :: a3 :: a4 :: a5 :: a6 :: a7 :: a8 :: a9 :: a10 :: a11 :: a12 :: a13 :: a14 :: a15 :: L) (.ref x :: st) σ P := AW.astore hd hi hc rfl hn h
theorem AW.inc15 {a0 a1 a2 a3 a4 a5 a6 a7 a8 a9 a10 a11 a12 a13 a14 : Option Value} {x : Int32} (w : Int32) {d : Int} (hd : decode M.2.1 pc = .ok (.iinc 15 d, 3)) (hw : Int32.ofInt d = w) (hi : 15 < M.2.2.1) (hc : a_ok (a0 :: a1 :: a2 :: a3 :: a4 :: a5 :: a6 :: a7 :: a8 :: a9 :: a10 :: a11 :: a12 :: a13 :: a14 :: some (.int x) :: L) 15 = true) (hn : pc + 3 = n) (h : AW scr k mc ms M c0 s0 n (a0 :: a1 :: a2 :: a3 :: a4 :: a5 :: a6 :: a7 :: a8 :: a9 :: a10 :: a11 :: a12 :: a13 :: a14 :: some (.int (x + w)) :: L) st σ P) : AW scr k mc ms M c0 s0 pc (a0 :: a1 :: a2 :: a3 :: a4 :: a5 :: a6 :: a7 :: a8 :: a9 :: a10 :: a11 :: a12 :: a13 :: a14 :: some (.int x) :: L) st σ P := AW.iinc hd rfl (by rw [hw]) hi hc rfl hn h
end Pat
end
section
abbrev mX0_init : aM := (yX0_init, cX0_init, 1, none)
abbrev mX0_forget : aM := (yX0_forget, cX0_forget, 1, none)
abbrev mX0_add : aM := (yX0_add, cX0_add, 3, (some .boolean))
abbrev mX0_firstWrong : aM := (yX0_firstWrong, cX0_firstWrong, 3, (some .int))
abbrev mX1_init : aM := (yX1_init, cX1_init, 1, none)
abbrev mX1_begin : aM := (yX1_begin, cX1_begin, 2, none)
abbrev mX1_copy : aM := (yX1_copy, cX1_copy, 2, none)
abbrev mX1_counts : aM := (yX1_counts, cX1_counts, 2, (some .boolean))
abbrev mX1_which : aM := (yX1_which, cX1_which, 5, (some .int))
abbrev mX2_init : aM := (yX2_init, cX2_init, 1, none)
abbrev mX3_init : aM := (yX3_init, cX3_init, 2, none)
abbrev mX3_forget : aM := (yX3_forget, cX3_forget, 1, none)
abbrev mX3_push : aM := (yX3_push, cX3_push, 2, none)
abbrev mX3_pop : aM := (yX3_pop, cX3_pop, 3, none)
abbrev mX4_init : aM := (yX4_init, cX4_init, 4, none)
abbrev mX4_seek : aM := (yX4_seek, cX4_seek, 1, none)
abbrev mX4_extend : aM := (yX4_extend, cX4_extend, 15, none)
abbrev mX4_canBeat : aM := (yX4_canBeat, cX4_canBeat, 3, (some .boolean))
abbrev mX4_settle : aM := (yX4_settle, cX4_settle, 4, none)
abbrev mX5_init : aM := (yX5_init, cX5_init, 1, none)
abbrev mX5_forget : aM := (yX5_forget, cX5_forget, 1, none)
abbrev mX5_add : aM := (yX5_add, cX5_add, 3, (some .boolean))
abbrev mX5_fits : aM := (yX5_fits, cX5_fits, 4, (some .boolean))
abbrev mX6_init : aM := (yX6_init, cX6_init, 1, none)
abbrev mX6_begin : aM := (yX6_begin, cX6_begin, 1, none)
abbrev mX6_copy : aM := (yX6_copy, cX6_copy, 2, none)
abbrev mX6_addStop : aM := (yX6_addStop, cX6_addStop, 4, none)
abbrev mX6_addDin : aM := (yX6_addDin, cX6_addDin, 2, none)
abbrev mX6_has : aM := (yX6_has, cX6_has, 2, (some .boolean))
abbrev mX6_isWay : aM := (yX6_isWay, cX6_isWay, 5, (some .boolean))
abbrev mX6_risingWay : aM := (yX6_risingWay, cX6_risingWay, 3, (some .int))
abbrev mX6_dinOf : aM := (yX6_dinOf, cX6_dinOf, 2, (some .int))
abbrev mX6_isIn : aM := (yX6_isIn, cX6_isIn, 3, (some .boolean))
abbrev mX6_meets : aM := (yX6_meets, cX6_meets, 6, (some .int))
abbrev mX6_secondsAtDoor : aM := (yX6_secondsAtDoor, cX6_secondsAtDoor, 3, (some .int))
abbrev mX6_secondsBetween : aM := (yX6_secondsBetween, cX6_secondsBetween, 3, (some .int))
abbrev mX6_countNear : aM := (yX6_countNear, cX6_countNear, 6, (some .int))
abbrev mX7_init : aM := (yX7_init, cX7_init, 1, none)
abbrev mX7_add : aM := (yX7_add, cX7_add, 2, (some .boolean))
abbrev mX7_empty : aM := (yX7_empty, cX7_empty, 1, none)
abbrev mX7_readInto : aM := (yX7_readInto, cX7_readInto, 4, none)
abbrev mX7_readClause : aM := (yX7_readClause, cX7_readClause, 4, none)
abbrev mX7_readVan : aM := (yX7_readVan, cX7_readVan, 3, none)
abbrev mX7_readStop : aM := (yX7_readStop, cX7_readStop, 5, none)
abbrev mX7_readDin : aM := (yX7_readDin, cX7_readDin, 3, none)
abbrev mX7_readNeighbour : aM := (yX7_readNeighbour, cX7_readNeighbour, 5, none)
abbrev mX7_number : aM := (yX7_number, cX7_number, 5, (some .int))
abbrev mX7_endClause : aM := (yX7_endClause, cX7_endClause, 1, none)
abbrev mX7_peek : aM := (yX7_peek, cX7_peek, 1, (some .int))
abbrev mX7_isFigure : aM := (yX7_isFigure, cX7_isFigure, 1, (some .boolean))
abbrev mX7_fail : aM := (yX7_fail, cX7_fail, 3, none)
abbrev mX8_init : aM := (yX8_init, cX8_init, 1, none)
abbrev mX8_run : aM := (yX8_run, cX8_run, 7, none)
abbrev mX8_begin : aM := (yX8_begin, cX8_begin, 3, none)
abbrev mX8_firstUnit : aM := (yX8_firstUnit, cX8_firstUnit, 3, (some .int))
abbrev mX8_call : aM := (yX8_call, cX8_call, 6, none)
abbrev mX9_init : aM := (yX9_init, cX9_init, 1, none)
abbrev mX9_feed : aM := (yX9_feed, cX9_feed, 2, (some .int))
abbrev mX9_street : aM := (yX9_street, cX9_street, 2, (some .int))
abbrev mX9_fault : aM := (yX9_fault, cX9_fault, 1, (some .int))
abbrev mX9_told : aM := (yX9_told, cX9_told, 2, (some .int))
abbrev mX9_stop : aM := (yX9_stop, cX9_stop, 3, (some .int))
abbrev mX9_din : aM := (yX9_din, cX9_din, 2, (some .int))
abbrev mX9_round : aM := (yX9_round, cX9_round, 4, (some .int))
abbrev mX9_fetch : aM := (yX9_fetch, cX9_fetch, 3, (some .int))
abbrev mX9_order : aM := (yX9_order, cX9_order, 2, (some .int))
abbrev mX9_thank : aM := (yX9_thank, cX9_thank, 3, (some .int))
abbrev mX9_drift : aM := (yX9_drift, cX9_drift, 4, (some .int))
abbrev mX9_undo : aM := (yX9_undo, cX9_undo, 2, (some .int))
abbrev mX9_comes : aM := (yX9_comes, cX9_comes, 5, (some .int))
abbrev mX9_home : aM := (yX9_home, cX9_home, 4, (some .int))
abbrev mX9_outcome : aM := (yX9_outcome, cX9_outcome, 6, (some .int))
abbrev mX9_bath : aM := (yX9_bath, cX9_bath, 10, (some .int))
abbrev mX9_bestWay : aM := (yX9_bestWay, cX9_bestWay, 4, (some .int))
abbrev mX9_pretends : aM := (yX9_pretends, cX9_pretends, 7, (some .int))
abbrev mX9_locker : aM := (yX9_locker, cX9_locker, 8, (some .int))
abbrev mX9_bears : aM := (yX9_bears, cX9_bears, 2, (some .int))
abbrev mX9_heard : aM := (yX9_heard, cX9_heard, 6, (some .int))
abbrev mX9_see : aM := (yX9_see, cX9_see, 3, (some .int))
abbrev mX9_rang : aM := (yX9_rang, cX9_rang, 5, (some .int))
abbrev mX9_write : aM := (yX9_write, cX9_write, 3, (some .int))
abbrev mX9_judge : aM := (yX9_judge, cX9_judge, 1, (some .int))
abbrev mX9_tear : aM := (yX9_tear, cX9_tear, 2, (some .int))
abbrev mX9_seed : aM := (yX9_seed, cX9_seed, 3, (some .int))
abbrev mX9_keep : aM := (yX9_keep, cX9_keep, 2, (some .int))
abbrev mX9_goBack : aM := (yX9_goBack, cX9_goBack, 2, (some .int))
abbrev mX9_within : aM := (yX9_within, cX9_within, 3, (some .boolean))
abbrev mX9_ringsAt : aM := (yX9_ringsAt, cX9_ringsAt, 2, (some .boolean))
abbrev mX9_refusalOfTrip : aM := (yX9_refusalOfTrip, cX9_refusalOfTrip, 3, (some .int))
abbrev mX9_drive : aM := (yX9_drive, cX9_drive, 3, none)
abbrev mX9_draw : aM := (yX9_draw, cX9_draw, 2, (some .int))
abbrev mX9_orderByDraw : aM := (yX9_orderByDraw, cX9_orderByDraw, 2, none)
abbrev mX9_bestToAsk : aM := (yX9_bestToAsk, cX9_bestToAsk, 8, (some .int))
abbrev mX10_init : aM := (yX10_init, cX10_init, 1, none)
abbrev mX10_in : aM := (yX10_in, cX10_in, 6, (some .boolean))
abbrev mX10_one : aM := (yX10_one, cX10_one, 1, (some .int))
abbrev mX10_has : aM := (yX10_has, cX10_has, 2, (some .boolean))
abbrev mX10_far : aM := (yX10_far, cX10_far, 2, (some .int))
abbrev mX10_feed : aM := (yX10_feed, cX10_feed, 2, (some .int))
abbrev mX10_here : aM := (yX10_here, cX10_here, 1, (some .int))
abbrev mX10_want : aM := (yX10_want, cX10_want, 4, (some .boolean))
abbrev mX10_takeNumber : aM := (yX10_takeNumber, cX10_takeNumber, 4, (some .int))
abbrev mX10_takeIn : aM := (yX10_takeIn, cX10_takeIn, 5, (some .int))
abbrev mX10_takeRule : aM := (yX10_takeRule, cX10_takeRule, 3, none)
abbrev mX10_takeStop : aM := (yX10_takeStop, cX10_takeStop, 3, none)
abbrev mX10_takeDins : aM := (yX10_takeDins, cX10_takeDins, 3, none)
abbrev mX10_takeNeighbour : aM := (yX10_takeNeighbour, cX10_takeNeighbour, 3, none)
abbrev mX10_takeClause : aM := (yX10_takeClause, cX10_takeClause, 3, none)
abbrev mX10_street : aM := (yX10_street, cX10_street, 2, (some .int))
abbrev mX10_take : aM := (yX10_take, cX10_take, 2, none)
abbrev mX10_fault : aM := (yX10_fault, cX10_fault, 1, (some .int))
abbrev mX10_isStop : aM := (yX10_isStop, cX10_isStop, 2, (some .boolean))
abbrev mX10_figures : aM := (yX10_figures, cX10_figures, 3, (some .int))
abbrev mX10_stopOf : aM := (yX10_stopOf, cX10_stopOf, 4, (some .int))
abbrev mX10_isWay : aM := (yX10_isWay, cX10_isWay, 6, (some .boolean))
abbrev mX10_isHaste : aM := (yX10_isHaste, cX10_isHaste, 1, (some .boolean))
abbrev mX10_which : aM := (yX10_which, cX10_which, 4, (some .int))
abbrev mX10_told : aM := (yX10_told, cX10_told, 2, (some .int))
abbrev mX10_stop : aM := (yX10_stop, cX10_stop, 3, (some .int))
abbrev mX10_dinAt : aM := (yX10_dinAt, cX10_dinAt, 2, (some .int))
abbrev mX10_din : aM := (yX10_din, cX10_din, 2, (some .int))
abbrev mX10_isInAt : aM := (yX10_isInAt, cX10_isInAt, 3, (some .boolean))
abbrev mX10_visit : aM := (yX10_visit, cX10_visit, 8, (some .int))
abbrev mX10_roundIn : aM := (yX10_roundIn, cX10_roundIn, 9, (some .int))
abbrev mX10_tryRound : aM := (yX10_tryRound, cX10_tryRound, 3, (some .int))
abbrev mX10_copy : aM := (yX10_copy, cX10_copy, 4, none)
abbrev mX10_remember : aM := (yX10_remember, cX10_remember, 2, none)
abbrev mX10_round : aM := (yX10_round, cX10_round, 3, (some .int))
abbrev mX10_fetch : aM := (yX10_fetch, cX10_fetch, 3, (some .int))
abbrev mX10_order : aM := (yX10_order, cX10_order, 2, (some .int))
abbrev mX10_thank : aM := (yX10_thank, cX10_thank, 3, (some .int))
abbrev mX10_draw : aM := (yX10_draw, cX10_draw, 2, (some .int))
abbrev mX10_drift : aM := (yX10_drift, cX10_drift, 6, (some .int))
abbrev mX10_undo : aM := (yX10_undo, cX10_undo, 3, (some .int))
abbrev mX10_comes : aM := (yX10_comes, cX10_comes, 5, (some .int))
abbrev mX10_home : aM := (yX10_home, cX10_home, 3, (some .int))
abbrev mX10_outcome : aM := (yX10_outcome, cX10_outcome, 6, (some .int))
abbrev mX10_comesTo : aM := (yX10_comesTo, cX10_comesTo, 4, (some .int))
abbrev mX10_bath : aM := (yX10_bath, cX10_bath, 8, (some .int))
abbrev mX10_counting : aM := (yX10_counting, cX10_counting, 3, (some .int))
abbrev mX10_wayOf : aM := (yX10_wayOf, cX10_wayOf, 4, (some .int))
abbrev mX10_exchange : aM := (yX10_exchange, cX10_exchange, 4, none)
abbrev mX10_nextRow : aM := (yX10_nextRow, cX10_nextRow, 6, (some .boolean))
abbrev mX10_bestWay : aM := (yX10_bestWay, cX10_bestWay, 11, (some .int))
abbrev mX10_pretends : aM := (yX10_pretends, cX10_pretends, 7, (some .int))
abbrev mX10_locker : aM := (yX10_locker, cX10_locker, 10, (some .int))
abbrev mX10_bears : aM := (yX10_bears, cX10_bears, 2, (some .int))
abbrev mX10_heard : aM := (yX10_heard, cX10_heard, 6, (some .int))
abbrev mX10_see : aM := (yX10_see, cX10_see, 3, (some .int))
abbrev mX10_slipsBy : aM := (yX10_slipsBy, cX10_slipsBy, 4, (some .int))
abbrev mX10_findHastes : aM := (yX10_findHastes, cX10_findHastes, 6, (some .int))
abbrev mX10_rang : aM := (yX10_rang, cX10_rang, 10, (some .int))
abbrev mX10_write : aM := (yX10_write, cX10_write, 3, (some .int))
abbrev mX10_judge : aM := (yX10_judge, cX10_judge, 2, (some .int))
abbrev mX10_tear : aM := (yX10_tear, cX10_tear, 2, (some .int))
abbrev mX10_seed : aM := (yX10_seed, cX10_seed, 3, (some .int))
abbrev mX10_keep : aM := (yX10_keep, cX10_keep, 2, (some .int))
abbrev mX10_goBack : aM := (yX10_goBack, cX10_goBack, 2, (some .int))
abbrev mJ6_bitCount_0f7a4 : aM := (yJ6_bitCount_0f7a4, cJ6_bitCount_0f7a4, 1, (some .int))
abbrev mJ9_abs_0f7a4 : aM := (yJ9_abs_0f7a4, cJ9_abs_0f7a4, 1, (some .int))
abbrev mJ9_max_7cf53 : aM := (yJ9_max_7cf53, cJ9_max_7cf53, 2, (some .int))
abbrev mJ9_min_7cf53 : aM := (yJ9_min_7cf53, cJ9_min_7cf53, 2, (some .int))
theorem kc_X9_83 : Cond.constant RX9 83 (-1000000002) ∈ gT := (a_inG 385 (by decide +kernel) rfl)
theorem kc_X9_91 : Cond.constant RX9 91 (-1000000004) ∈ gT := (a_inG 390 (by decide +kernel) rfl)
theorem kc_X9_153 : Cond.constant RX9 153 (-1000000001) ∈ gT := (a_inG 496 (by decide +kernel) rfl)
theorem kc_J6_265 : Cond.constant RJ6 265 (1431655765) ∈ gT := (a_inG 582 (by decide +kernel) rfl)
theorem kc_J6_266 : Cond.constant RJ6 266 (858993459) ∈ gT := (a_inG 583 (by decide +kernel) rfl)
theorem kc_J6_267 : Cond.constant RJ6 267 (252645135) ∈ gT := (a_inG 584 (by decide +kernel) rfl)
theorem kc_X9_193 : Cond.constant RX9 193 (-1000000003) ∈ gT := (a_inG 590 (by decide +kernel) rfl)
theorem kc_X9_276 : Cond.constant RX9 276 (65536) ∈ gT := (a_inG 618 (by decide +kernel) rfl)
theorem kc_X10_72 : Cond.constant RX10 72 (-1000000002) ∈ gT := (a_inG 889 (by decide +kernel) rfl)
theorem kc_X10_76 : Cond.constant RX10 76 (-1000000004) ∈ gT := (a_inG 890 (by decide +kernel) rfl)
theorem kc_X10_98 : Cond.constant RX10 98 (99999) ∈ gT := (a_inG 921 (by decide +kernel) rfl)
theorem kc_X10_167 : Cond.constant RX10 167 (-1000000001) ∈ gT := (a_inG 961 (by decide +kernel) rfl)
theorem kc_X10_209 : Cond.constant RX10 209 (-1000000003) ∈ gT := (a_inG 1019 (by decide +kernel) rfl)
theorem kc_X10_216 : Cond.constant RX10 216 (65536) ∈ gT := (a_inG 1040 (by decide +kernel) rfl)
theorem kc_X10_240 : Cond.constant RX10 240 (99999999) ∈ gT := (a_inG 1080 (by decide +kernel) rfl)
theorem kl_X9_270 : Cond.constantLong RX9 270 (1103515245) ∈ gT := (a_inG 615 (by decide +kernel) rfl)
theorem kl_X9_272 : Cond.constantLong RX9 272 (12345) ∈ gT := (a_inG 616 (by decide +kernel) rfl)
theorem kl_X9_274 : Cond.constantLong RX9 274 (2147483647) ∈ gT := (a_inG 617 (by decide +kernel) rfl)
theorem kl_X9_244 : Cond.constantLong RX9 244 (1000000000) ∈ gT := (a_inG 723 (by decide +kernel) rfl)
theorem kl_X9_246 : Cond.constantLong RX9 246 (100) ∈ gT := (a_inG 724 (by decide +kernel) rfl)
theorem kl_X10_66 : Cond.constantLong RX10 66 (255) ∈ gT := (a_inG 885 (by decide +kernel) rfl)
theorem kl_X10_90 : Cond.constantLong RX10 90 (48) ∈ gT := (a_inG 919 (by decide +kernel) rfl)
theorem kl_X10_92 : Cond.constantLong RX10 92 (57) ∈ gT := (a_inG 920 (by decide +kernel) rfl)
theorem kl_X10_168 : Cond.constantLong RX10 168 (11) ∈ gT := (a_inG 966 (by decide +kernel) rfl)
theorem kl_X10_158 : Cond.constantLong RX10 158 (3) ∈ gT := (a_inG 985 (by decide +kernel) rfl)
theorem kl_X10_217 : Cond.constantLong RX10 217 (20) ∈ gT := (a_inG 1032 (by decide +kernel) rfl)
theorem kl_X10_210 : Cond.constantLong RX10 210 (1103515245) ∈ gT := (a_inG 1037 (by decide +kernel) rfl)
theorem kl_X10_212 : Cond.constantLong RX10 212 (12345) ∈ gT := (a_inG 1038 (by decide +kernel) rfl)
theorem kl_X10_214 : Cond.constantLong RX10 214 (2147483648) ∈ gT := (a_inG 1039 (by decide +kernel) rfl)
theorem kl_X10_222 : Cond.constantLong RX10 222 (30) ∈ gT := (a_inG 1045 (by decide +kernel) rfl)
theorem kl_X10_227 : Cond.constantLong RX10 227 (99) ∈ gT := (a_inG 1066 (by decide +kernel) rfl)
theorem kl_X10_235 : Cond.constantLong RX10 235 (2) ∈ gT := (a_inG 1075 (by decide +kernel) rfl)
theorem kl_X10_247 : Cond.constantLong RX10 247 (60) ∈ gT := (a_inG 1109 (by decide +kernel) rfl)
theorem kl_X10_249 : Cond.constantLong RX10 249 (100) ∈ gT := (a_inG 1110 (by decide +kernel) rfl)
theorem kl_X10_251 : Cond.constantLong RX10 251 (1000000000) ∈ gT := (a_inG 1111 (by decide +kernel) rfl)
theorem kl_X10_259 : Cond.constantLong RX10 259 (4) ∈ gT := (a_inG 1132 (by decide +kernel) rfl)
theorem ini_L : Cond.initialized RL ∈ gT := (a_inG 77 (by decide +kernel) rfl)
theorem ini_X9 : Cond.initialized RX9 ∈ gT := (a_inG 78 (by decide +kernel) rfl)
theorem ini_X7 : Cond.initialized RX7 ∈ gT := (a_inG 79 (by decide +kernel) rfl)
theorem ini_X6 : Cond.initialized RX6 ∈ gT := (a_inG 80 (by decide +kernel) rfl)
theorem ini_X1 : Cond.initialized RX1 ∈ gT := (a_inG 81 (by decide +kernel) rfl)
theorem ini_X8 : Cond.initialized RX8 ∈ gT := (a_inG 82 (by decide +kernel) rfl)
theorem ini_X3 : Cond.initialized RX3 ∈ gT := (a_inG 83 (by decide +kernel) rfl)
theorem ini_X5 : Cond.initialized RX5 ∈ gT := (a_inG 84 (by decide +kernel) rfl)
theorem ini_X0 : Cond.initialized RX0 ∈ gT := (a_inG 85 (by decide +kernel) rfl)
theorem ini_X2 : Cond.initialized RX2 ∈ gT := (a_inG 86 (by decide +kernel) rfl)
theorem ini_X10 : Cond.initialized RX10 ∈ gT := (a_inG 87 (by decide +kernel) rfl)
theorem ini_J10 : Cond.initialized RJ10 ∈ gT := (a_inG 88 (by decide +kernel) rfl)
theorem ini_J9 : Cond.initialized RJ9 ∈ gT := (a_inG 89 (by decide +kernel) rfl)
theorem ini_J6 : Cond.initialized RJ6 ∈ gT := (a_inG 90 (by decide +kernel) rfl)
theorem ini_X4 : Cond.initialized RX4 ∈ gT := (a_inG 91 (by decide +kernel) rfl)
theorem fl_X7_9 : a_fl RX7 9 7 0 := ⟨_, rfl, by decide, Or.inl (a_inG 106 (by decide +kernel) rfl)⟩
theorem fp_X7_9 : a_fp RX7 9 7 0 (.array .int) true := ⟨_, rfl, by decide, rfl, by decide +kernel, Or.inl ⟨(a_inG 106 (by decide +kernel) rfl), fun _ => rfl⟩⟩
theorem fl_X7_15 : a_fl RX7 15 7 1 := ⟨_, rfl, by decide, Or.inl (a_inG 107 (by decide +kernel) rfl)⟩
theorem fp_X7_15 : a_fp RX7 15 7 1 .int false := ⟨_, rfl, by decide, rfl, by decide +kernel, Or.inl ⟨(a_inG 107 (by decide +kernel) rfl), fun _ => rfl⟩⟩
theorem fl_X9_88 : a_fl RX9 88 7 1 := ⟨_, rfl, by decide, Or.inr ⟨"WeWereIn", (a_inN 108 (by decide +kernel) rfl)⟩⟩
theorem fp_X9_88 : a_fp RX9 88 7 1 .int false := ⟨_, rfl, by decide, rfl, by decide +kernel, Or.inr ⟨rfl, "WeWereIn", (a_inN 108 (by decide +kernel) rfl)⟩⟩
theorem fl_X7_19 : a_fl RX7 19 7 2 := ⟨_, rfl, by decide, Or.inl (a_inG 109 (by decide +kernel) rfl)⟩
theorem fp_X7_19 : a_fp RX7 19 7 2 .int false := ⟨_, rfl, by decide, rfl, by decide +kernel, Or.inl ⟨(a_inG 109 (by decide +kernel) rfl), fun _ => rfl⟩⟩
theorem fl_X9_99 : a_fl RX9 99 7 2 := ⟨_, rfl, by decide, Or.inr ⟨"WeWereIn", (a_inN 110 (by decide +kernel) rfl)⟩⟩
theorem fp_X9_99 : a_fp RX9 99 7 2 .int false := ⟨_, rfl, by decide, rfl, by decide +kernel, Or.inr ⟨rfl, "WeWereIn", (a_inN 110 (by decide +kernel) rfl)⟩⟩
theorem fl_X7_22 : a_fl RX7 22 7 3 := ⟨_, rfl, by decide, Or.inl (a_inG 111 (by decide +kernel) rfl)⟩
theorem fp_X7_22 : a_fp RX7 22 7 3 .int false := ⟨_, rfl, by decide, rfl, by decide +kernel, Or.inl ⟨(a_inG 111 (by decide +kernel) rfl), fun _ => rfl⟩⟩
theorem fl_X9_120 : a_fl RX9 120 7 3 := ⟨_, rfl, by decide, Or.inr ⟨"WeWereIn", (a_inN 112 (by decide +kernel) rfl)⟩⟩
theorem fp_X9_120 : a_fp RX9 120 7 3 .int false := ⟨_, rfl, by decide, rfl, by decide +kernel, Or.inr ⟨rfl, "WeWereIn", (a_inN 112 (by decide +kernel) rfl)⟩⟩
theorem fl_X7_25 : a_fl RX7 25 7 4 := ⟨_, rfl, by decide, Or.inl (a_inG 113 (by decide +kernel) rfl)⟩
theorem fp_X7_25 : a_fp RX7 25 7 4 .int false := ⟨_, rfl, by decide, rfl, by decide +kernel, Or.inl ⟨(a_inG 113 (by decide +kernel) rfl), fun _ => rfl⟩⟩
theorem fl_X7_28 : a_fl RX7 28 7 5 := ⟨_, rfl, by decide, Or.inl (a_inG 114 (by decide +kernel) rfl)⟩
theorem fp_X7_28 : a_fp RX7 28 7 5 .int false := ⟨_, rfl, by decide, rfl, by decide +kernel, Or.inl ⟨(a_inG 114 (by decide +kernel) rfl), fun _ => rfl⟩⟩
theorem fl_X6_9 : a_fl RX6 9 6 0 := ⟨_, rfl, by decide, Or.inl (a_inG 135 (by decide +kernel) rfl)⟩
theorem fp_X6_9 : a_fp RX6 9 6 0 .int false := ⟨_, rfl, by decide, rfl, by decide +kernel, Or.inl ⟨(a_inG 135 (by decide +kernel) rfl), fun _ => rfl⟩⟩
theorem fl_X7_44 : a_fl RX7 44 6 0 := ⟨_, rfl, by decide, Or.inr ⟨"WeWereIn", (a_inN 136 (by decide +kernel) rfl)⟩⟩
theorem fp_X7_44 : a_fp RX7 44 6 0 .int false := ⟨_, rfl, by decide, rfl, by decide +kernel, Or.inr ⟨rfl, "WeWereIn", (a_inN 136 (by decide +kernel) rfl)⟩⟩
theorem fl_X9_123 : a_fl RX9 123 6 0 := ⟨_, rfl, by decide, Or.inr ⟨"WeWereIn", (a_inN 137 (by decide +kernel) rfl)⟩⟩
theorem fp_X9_123 : a_fp RX9 123 6 0 .int false := ⟨_, rfl, by decide, rfl, by decide +kernel, Or.inr ⟨rfl, "WeWereIn", (a_inN 137 (by decide +kernel) rfl)⟩⟩
theorem fl_X6_15 : a_fl RX6 15 6 1 := ⟨_, rfl, by decide, Or.inl (a_inG 138 (by decide +kernel) rfl)⟩
theorem fp_X6_15 : a_fp RX6 15 6 1 .int false := ⟨_, rfl, by decide, rfl, by decide +kernel, Or.inl ⟨(a_inG 138 (by decide +kernel) rfl), fun _ => rfl⟩⟩
theorem fl_X9_126 : a_fl RX9 126 6 1 := ⟨_, rfl, by decide, Or.inr ⟨"WeWereIn", (a_inN 139 (by decide +kernel) rfl)⟩⟩
theorem fp_X9_126 : a_fp RX9 126 6 1 .int false := ⟨_, rfl, by decide, rfl, by decide +kernel, Or.inr ⟨rfl, "WeWereIn", (a_inN 139 (by decide +kernel) rfl)⟩⟩
theorem fl_X7_69 : a_fl RX7 69 6 1 := ⟨_, rfl, by decide, Or.inr ⟨"WeWereIn", (a_inN 140 (by decide +kernel) rfl)⟩⟩
theorem fp_X7_69 : a_fp RX7 69 6 1 .int false := ⟨_, rfl, by decide, rfl, by decide +kernel, Or.inr ⟨rfl, "WeWereIn", (a_inN 140 (by decide +kernel) rfl)⟩⟩
theorem fl_X6_18 : a_fl RX6 18 6 2 := ⟨_, rfl, by decide, Or.inl (a_inG 141 (by decide +kernel) rfl)⟩
theorem fp_X6_18 : a_fp RX6 18 6 2 .int false := ⟨_, rfl, by decide, rfl, by decide +kernel, Or.inl ⟨(a_inG 141 (by decide +kernel) rfl), fun _ => rfl⟩⟩
theorem fl_X9_129 : a_fl RX9 129 6 2 := ⟨_, rfl, by decide, Or.inr ⟨"WeWereIn", (a_inN 142 (by decide +kernel) rfl)⟩⟩
theorem fp_X9_129 : a_fp RX9 129 6 2 .int false := ⟨_, rfl, by decide, rfl, by decide +kernel, Or.inr ⟨rfl, "WeWereIn", (a_inN 142 (by decide +kernel) rfl)⟩⟩
theorem fl_X7_72 : a_fl RX7 72 6 2 := ⟨_, rfl, by decide, Or.inr ⟨"WeWereIn", (a_inN 143 (by decide +kernel) rfl)⟩⟩
theorem fp_X7_72 : a_fp RX7 72 6 2 .int false := ⟨_, rfl, by decide, rfl, by decide +kernel, Or.inr ⟨rfl, "WeWereIn", (a_inN 143 (by decide +kernel) rfl)⟩⟩
theorem fl_X6_21 : a_fl RX6 21 6 3 := ⟨_, rfl, by decide, Or.inl (a_inG 144 (by decide +kernel) rfl)⟩
theorem fp_X6_21 : a_fp RX6 21 6 3 .int false := ⟨_, rfl, by decide, rfl, by decide +kernel, Or.inl ⟨(a_inG 144 (by decide +kernel) rfl), fun _ => rfl⟩⟩
theorem fl_X4_32 : a_fl RX4 32 6 3 := ⟨_, rfl, by decide, Or.inr ⟨"WeWereIn", (a_inN 145 (by decide +kernel) rfl)⟩⟩
theorem fp_X4_32 : a_fp RX4 32 6 3 .int false := ⟨_, rfl, by decide, rfl, by decide +kernel, Or.inr ⟨rfl, "WeWereIn", (a_inN 145 (by decide +kernel) rfl)⟩⟩
theorem fl_X9_117 : a_fl RX9 117 6 3 := ⟨_, rfl, by decide, Or.inr ⟨"WeWereIn", (a_inN 146 (by decide +kernel) rfl)⟩⟩
theorem fp_X9_117 : a_fp RX9 117 6 3 .int false := ⟨_, rfl, by decide, rfl, by decide +kernel, Or.inr ⟨rfl, "WeWereIn", (a_inN 146 (by decide +kernel) rfl)⟩⟩
theorem fl_X7_78 : a_fl RX7 78 6 3 := ⟨_, rfl, by decide, Or.inr ⟨"WeWereIn", (a_inN 147 (by decide +kernel) rfl)⟩⟩
theorem fp_X7_78 : a_fp RX7 78 6 3 .int false := ⟨_, rfl, by decide, rfl, by decide +kernel, Or.inr ⟨rfl, "WeWereIn", (a_inN 147 (by decide +kernel) rfl)⟩⟩
theorem fl_X6_24 : a_fl RX6 24 6 4 := ⟨_, rfl, by decide, Or.inl (a_inG 148 (by decide +kernel) rfl)⟩
theorem fp_X6_24 : a_fp RX6 24 6 4 .int false := ⟨_, rfl, by decide, rfl, by decide +kernel, Or.inl ⟨(a_inG 148 (by decide +kernel) rfl), fun _ => rfl⟩⟩
theorem fl_X7_85 : a_fl RX7 85 6 4 := ⟨_, rfl, by decide, Or.inr ⟨"WeWereIn", (a_inN 149 (by decide +kernel) rfl)⟩⟩
theorem fp_X7_85 : a_fp RX7 85 6 4 .int false := ⟨_, rfl, by decide, rfl, by decide +kernel, Or.inr ⟨rfl, "WeWereIn", (a_inN 149 (by decide +kernel) rfl)⟩⟩
theorem fl_X6_27 : a_fl RX6 27 6 5 := ⟨_, rfl, by decide, Or.inl (a_inG 150 (by decide +kernel) rfl)⟩
theorem fp_X6_27 : a_fp RX6 27 6 5 (.array .int) true := ⟨_, rfl, by decide, rfl, by decide +kernel, Or.inl ⟨(a_inG 150 (by decide +kernel) rfl), fun _ => rfl⟩⟩
theorem fl_X4_73 : a_fl RX4 73 6 5 := ⟨_, rfl, by decide, Or.inr ⟨"WeWereIn", (a_inN 151 (by decide +kernel) rfl)⟩⟩
theorem fl_X8_80 : a_fl RX8 80 6 5 := ⟨_, rfl, by decide, Or.inr ⟨"WeWereIn", (a_inN 152 (by decide +kernel) rfl)⟩⟩
theorem fl_X9_154 : a_fl RX9 154 6 5 := ⟨_, rfl, by decide, Or.inr ⟨"WeWereIn", (a_inN 153 (by decide +kernel) rfl)⟩⟩
theorem fl_X6_31 : a_fl RX6 31 6 6 := ⟨_, rfl, by decide, Or.inl (a_inG 154 (by decide +kernel) rfl)⟩
theorem fp_X6_31 : a_fp RX6 31 6 6 (.array .int) true := ⟨_, rfl, by decide, rfl, by decide +kernel, Or.inl ⟨(a_inG 154 (by decide +kernel) rfl), fun _ => rfl⟩⟩
theorem fl_X9_157 : a_fl RX9 157 6 6 := ⟨_, rfl, by decide, Or.inr ⟨"WeWereIn", (a_inN 155 (by decide +kernel) rfl)⟩⟩
theorem fl_X6_34 : a_fl RX6 34 6 7 := ⟨_, rfl, by decide, Or.inl (a_inG 156 (by decide +kernel) rfl)⟩
theorem fp_X6_34 : a_fp RX6 34 6 7 (.array .int) true := ⟨_, rfl, by decide, rfl, by decide +kernel, Or.inl ⟨(a_inG 156 (by decide +kernel) rfl), fun _ => rfl⟩⟩
theorem fl_X9_160 : a_fl RX9 160 6 7 := ⟨_, rfl, by decide, Or.inr ⟨"WeWereIn", (a_inN 157 (by decide +kernel) rfl)⟩⟩
theorem fl_X6_37 : a_fl RX6 37 6 8 := ⟨_, rfl, by decide, Or.inl (a_inG 158 (by decide +kernel) rfl)⟩
theorem fp_X6_37 : a_fp RX6 37 6 8 (.array .int) true := ⟨_, rfl, by decide, rfl, by decide +kernel, Or.inl ⟨(a_inG 158 (by decide +kernel) rfl), fun _ => rfl⟩⟩
theorem fl_X9_166 : a_fl RX9 166 6 8 := ⟨_, rfl, by decide, Or.inr ⟨"WeWereIn", (a_inN 159 (by decide +kernel) rfl)⟩⟩
theorem fl_X7_96 : a_fl RX7 96 6 8 := ⟨_, rfl, by decide, Or.inr ⟨"WeWereIn", (a_inN 160 (by decide +kernel) rfl)⟩⟩
theorem fl_X6_40 : a_fl RX6 40 6 9 := ⟨_, rfl, by decide, Or.inl (a_inG 161 (by decide +kernel) rfl)⟩
theorem fp_X6_40 : a_fp RX6 40 6 9 (.array .int) true := ⟨_, rfl, by decide, rfl, by decide +kernel, Or.inl ⟨(a_inG 161 (by decide +kernel) rfl), fun _ => rfl⟩⟩
theorem fl_X9_169 : a_fl RX9 169 6 9 := ⟨_, rfl, by decide, Or.inr ⟨"WeWereIn", (a_inN 162 (by decide +kernel) rfl)⟩⟩
theorem fl_X7_99 : a_fl RX7 99 6 9 := ⟨_, rfl, by decide, Or.inr ⟨"WeWereIn", (a_inN 163 (by decide +kernel) rfl)⟩⟩
theorem fl_X6_43 : a_fl RX6 43 6 10 := ⟨_, rfl, by decide, Or.inl (a_inG 164 (by decide +kernel) rfl)⟩
theorem fp_X6_43 : a_fp RX6 43 6 10 (.array .int) true := ⟨_, rfl, by decide, rfl, by decide +kernel, Or.inl ⟨(a_inG 164 (by decide +kernel) rfl), fun _ => rfl⟩⟩
theorem fl_X1_9 : a_fl RX1 9 1 0 := ⟨_, rfl, by decide, Or.inl (a_inG 198 (by decide +kernel) rfl)⟩
theorem fp_X1_9 : a_fp RX1 9 1 0 (.array .int) true := ⟨_, rfl, by decide, rfl, by decide +kernel, Or.inl ⟨(a_inG 198 (by decide +kernel) rfl), fun _ => rfl⟩⟩
theorem fl_X0_22 : a_fl RX0 22 1 0 := ⟨_, rfl, by decide, Or.inr ⟨"WeWereIn", (a_inN 199 (by decide +kernel) rfl)⟩⟩
theorem fl_X8_100 : a_fl RX8 100 1 0 := ⟨_, rfl, by decide, Or.inr ⟨"WeWereIn", (a_inN 200 (by decide +kernel) rfl)⟩⟩
theorem fl_X9_163 : a_fl RX9 163 1 0 := ⟨_, rfl, by decide, Or.inr ⟨"WeWereIn", (a_inN 201 (by decide +kernel) rfl)⟩⟩
theorem fl_X1_15 : a_fl RX1 15 1 1 := ⟨_, rfl, by decide, Or.inl (a_inG 202 (by decide +kernel) rfl)⟩
theorem fp_X1_15 : a_fp RX1 15 1 1 (.array .int) true := ⟨_, rfl, by decide, rfl, by decide +kernel, Or.inl ⟨(a_inG 202 (by decide +kernel) rfl), fun _ => rfl⟩⟩
theorem fl_X4_77 : a_fl RX4 77 1 1 := ⟨_, rfl, by decide, Or.inr ⟨"WeWereIn", (a_inN 203 (by decide +kernel) rfl)⟩⟩
theorem fl_X8_89 : a_fl RX8 89 1 1 := ⟨_, rfl, by decide, Or.inr ⟨"WeWereIn", (a_inN 204 (by decide +kernel) rfl)⟩⟩
theorem fl_X9_172 : a_fl RX9 172 1 1 := ⟨_, rfl, by decide, Or.inr ⟨"WeWereIn", (a_inN 205 (by decide +kernel) rfl)⟩⟩
theorem fl_X1_18 : a_fl RX1 18 1 2 := ⟨_, rfl, by decide, Or.inl (a_inG 206 (by decide +kernel) rfl)⟩
theorem fp_X1_18 : a_fp RX1 18 1 2 .int false := ⟨_, rfl, by decide, rfl, by decide +kernel, Or.inl ⟨(a_inG 206 (by decide +kernel) rfl), fun _ => rfl⟩⟩
theorem fl_X8_63 : a_fl RX8 63 1 2 := ⟨_, rfl, by decide, Or.inr ⟨"WeWereIn", (a_inN 207 (by decide +kernel) rfl)⟩⟩
theorem fp_X8_63 : a_fp RX8 63 1 2 .int false := ⟨_, rfl, by decide, rfl, by decide +kernel, Or.inr ⟨rfl, "WeWereIn", (a_inN 207 (by decide +kernel) rfl)⟩⟩
theorem fl_X9_132 : a_fl RX9 132 1 2 := ⟨_, rfl, by decide, Or.inr ⟨"WeWereIn", (a_inN 208 (by decide +kernel) rfl)⟩⟩
theorem fp_X9_132 : a_fp RX9 132 1 2 .int false := ⟨_, rfl, by decide, rfl, by decide +kernel, Or.inr ⟨rfl, "WeWereIn", (a_inN 208 (by decide +kernel) rfl)⟩⟩
theorem fl_X1_22 : a_fl RX1 22 1 3 := ⟨_, rfl, by decide, Or.inl (a_inG 209 (by decide +kernel) rfl)⟩
theorem fp_X1_22 : a_fp RX1 22 1 3 .int false := ⟨_, rfl, by decide, rfl, by decide +kernel, Or.inl ⟨(a_inG 209 (by decide +kernel) rfl), fun _ => rfl⟩⟩
theorem fl_X8_66 : a_fl RX8 66 1 3 := ⟨_, rfl, by decide, Or.inr ⟨"WeWereIn", (a_inN 210 (by decide +kernel) rfl)⟩⟩
theorem fp_X8_66 : a_fp RX8 66 1 3 .int false := ⟨_, rfl, by decide, rfl, by decide +kernel, Or.inr ⟨rfl, "WeWereIn", (a_inN 210 (by decide +kernel) rfl)⟩⟩
theorem fl_X9_135 : a_fl RX9 135 1 3 := ⟨_, rfl, by decide, Or.inr ⟨"WeWereIn", (a_inN 211 (by decide +kernel) rfl)⟩⟩
theorem fp_X9_135 : a_fp RX9 135 1 3 .int false := ⟨_, rfl, by decide, rfl, by decide +kernel, Or.inr ⟨rfl, "WeWereIn", (a_inN 211 (by decide +kernel) rfl)⟩⟩
theorem fl_X1_25 : a_fl RX1 25 1 4 := ⟨_, rfl, by decide, Or.inl (a_inG 212 (by decide +kernel) rfl)⟩
theorem fp_X1_25 : a_fp RX1 25 1 4 .int false := ⟨_, rfl, by decide, rfl, by decide +kernel, Or.inl ⟨(a_inG 212 (by decide +kernel) rfl), fun _ => rfl⟩⟩
theorem fl_X8_69 : a_fl RX8 69 1 4 := ⟨_, rfl, by decide, Or.inr ⟨"WeWereIn", (a_inN 213 (by decide +kernel) rfl)⟩⟩
theorem fp_X8_69 : a_fp RX8 69 1 4 .int false := ⟨_, rfl, by decide, rfl, by decide +kernel, Or.inr ⟨rfl, "WeWereIn", (a_inN 213 (by decide +kernel) rfl)⟩⟩
theorem fl_X9_138 : a_fl RX9 138 1 4 := ⟨_, rfl, by decide, Or.inr ⟨"WeWereIn", (a_inN 214 (by decide +kernel) rfl)⟩⟩
theorem fp_X9_138 : a_fp RX9 138 1 4 .int false := ⟨_, rfl, by decide, rfl, by decide +kernel, Or.inr ⟨rfl, "WeWereIn", (a_inN 214 (by decide +kernel) rfl)⟩⟩
theorem fl_X8_12 : a_fl RX8 12 8 0 := ⟨_, rfl, by decide, Or.inl (a_inG 234 (by decide +kernel) rfl)⟩
theorem fp_X8_12 : a_fp RX8 12 8 0 (.object "WeWereIn$Days") true := ⟨_, rfl, by decide, rfl, by decide +kernel, Or.inl ⟨(a_inG 234 (by decide +kernel) rfl), fun _ => rfl⟩⟩
theorem fl_X9_215 : a_fl RX9 215 8 0 := ⟨_, rfl, by decide, Or.inr ⟨"WeWereIn", (a_inN 235 (by decide +kernel) rfl)⟩⟩
theorem fl_X8_18 : a_fl RX8 18 8 1 := ⟨_, rfl, by decide, Or.inl (a_inG 236 (by decide +kernel) rfl)⟩
theorem fp_X8_18 : a_fp RX8 18 8 1 (.array .int) true := ⟨_, rfl, by decide, rfl, by decide +kernel, Or.inl ⟨(a_inG 236 (by decide +kernel) rfl), fun _ => rfl⟩⟩
theorem fl_X9_212 : a_fl RX9 212 8 1 := ⟨_, rfl, by decide, Or.inr ⟨"WeWereIn", (a_inN 237 (by decide +kernel) rfl)⟩⟩
theorem fl_X8_22 : a_fl RX8 22 8 2 := ⟨_, rfl, by decide, Or.inl (a_inG 238 (by decide +kernel) rfl)⟩
theorem fp_X8_22 : a_fp RX8 22 8 2 .int false := ⟨_, rfl, by decide, rfl, by decide +kernel, Or.inl ⟨(a_inG 238 (by decide +kernel) rfl), fun _ => rfl⟩⟩
theorem fl_X9_190 : a_fl RX9 190 8 2 := ⟨_, rfl, by decide, Or.inr ⟨"WeWereIn", (a_inN 239 (by decide +kernel) rfl)⟩⟩
theorem fp_X9_190 : a_fp RX9 190 8 2 .int false := ⟨_, rfl, by decide, rfl, by decide +kernel, Or.inr ⟨rfl, "WeWereIn", (a_inN 239 (by decide +kernel) rfl)⟩⟩
theorem fl_X8_26 : a_fl RX8 26 8 3 := ⟨_, rfl, by decide, Or.inl (a_inG 240 (by decide +kernel) rfl)⟩
theorem fp_X8_26 : a_fp RX8 26 8 3 .int false := ⟨_, rfl, by decide, rfl, by decide +kernel, Or.inl ⟨(a_inG 240 (by decide +kernel) rfl), fun _ => rfl⟩⟩
theorem fl_X9_236 : a_fl RX9 236 8 3 := ⟨_, rfl, by decide, Or.inr ⟨"WeWereIn", (a_inN 241 (by decide +kernel) rfl)⟩⟩
theorem fp_X9_236 : a_fp RX9 236 8 3 .int false := ⟨_, rfl, by decide, rfl, by decide +kernel, Or.inr ⟨rfl, "WeWereIn", (a_inN 241 (by decide +kernel) rfl)⟩⟩
theorem fl_X8_29 : a_fl RX8 29 8 4 := ⟨_, rfl, by decide, Or.inl (a_inG 242 (by decide +kernel) rfl)⟩
theorem fp_X8_29 : a_fp RX8 29 8 4 .int false := ⟨_, rfl, by decide, rfl, by decide +kernel, Or.inl ⟨(a_inG 242 (by decide +kernel) rfl), fun _ => rfl⟩⟩
theorem fl_X9_237 : a_fl RX9 237 8 4 := ⟨_, rfl, by decide, Or.inr ⟨"WeWereIn", (a_inN 243 (by decide +kernel) rfl)⟩⟩
theorem fp_X9_237 : a_fp RX9 237 8 4 .int false := ⟨_, rfl, by decide, rfl, by decide +kernel, Or.inr ⟨rfl, "WeWereIn", (a_inN 243 (by decide +kernel) rfl)⟩⟩
theorem fl_X8_32 : a_fl RX8 32 8 5 := ⟨_, rfl, by decide, Or.inl (a_inG 244 (by decide +kernel) rfl)⟩
theorem fp_X8_32 : a_fp RX8 32 8 5 .int false := ⟨_, rfl, by decide, rfl, by decide +kernel, Or.inl ⟨(a_inG 244 (by decide +kernel) rfl), fun _ => rfl⟩⟩
theorem fl_X8_35 : a_fl RX8 35 8 6 := ⟨_, rfl, by decide, Or.inl (a_inG 245 (by decide +kernel) rfl)⟩
theorem fp_X8_35 : a_fp RX8 35 8 6 .int false := ⟨_, rfl, by decide, rfl, by decide +kernel, Or.inl ⟨(a_inG 245 (by decide +kernel) rfl), fun _ => rfl⟩⟩
theorem fl_X8_38 : a_fl RX8 38 8 7 := ⟨_, rfl, by decide, Or.inl (a_inG 246 (by decide +kernel) rfl)⟩
theorem fp_X8_38 : a_fp RX8 38 8 7 .int false := ⟨_, rfl, by decide, rfl, by decide +kernel, Or.inl ⟨(a_inG 246 (by decide +kernel) rfl), fun _ => rfl⟩⟩
theorem fl_X3_11 : a_fl RX3 11 3 0 := ⟨_, rfl, by decide, Or.inl (a_inG 273 (by decide +kernel) rfl)⟩
theorem fp_X3_11 : a_fp RX3 11 3 0 (.array (.object "WeWereIn$Days")) true := ⟨_, rfl, by decide, rfl, by decide +kernel, Or.inl ⟨(a_inG 273 (by decide +kernel) rfl), fun _ => rfl⟩⟩
theorem fl_X3_17 : a_fl RX3 17 3 1 := ⟨_, rfl, by decide, Or.inl (a_inG 274 (by decide +kernel) rfl)⟩
theorem fp_X3_17 : a_fp RX3 17 3 1 .int false := ⟨_, rfl, by decide, rfl, by decide +kernel, Or.inl ⟨(a_inG 274 (by decide +kernel) rfl), fun _ => rfl⟩⟩
theorem fl_X3_21 : a_fl RX3 21 3 2 := ⟨_, rfl, by decide, Or.inl (a_inG 275 (by decide +kernel) rfl)⟩
theorem fp_X3_21 : a_fp RX3 21 3 2 .int false := ⟨_, rfl, by decide, rfl, by decide +kernel, Or.inl ⟨(a_inG 275 (by decide +kernel) rfl), fun _ => rfl⟩⟩
theorem fl_X9_149 : a_fl RX9 149 3 2 := ⟨_, rfl, by decide, Or.inr ⟨"WeWereIn", (a_inN 276 (by decide +kernel) rfl)⟩⟩
theorem fp_X9_149 : a_fp RX9 149 3 2 .int false := ⟨_, rfl, by decide, rfl, by decide +kernel, Or.inr ⟨rfl, "WeWereIn", (a_inN 276 (by decide +kernel) rfl)⟩⟩
theorem fl_X5_9 : a_fl RX5 9 5 0 := ⟨_, rfl, by decide, Or.inl (a_inG 290 (by decide +kernel) rfl)⟩
theorem fp_X5_9 : a_fp RX5 9 5 0 (.array .int) true := ⟨_, rfl, by decide, rfl, by decide +kernel, Or.inl ⟨(a_inG 290 (by decide +kernel) rfl), fun _ => rfl⟩⟩
theorem fl_X5_15 : a_fl RX5 15 5 1 := ⟨_, rfl, by decide, Or.inl (a_inG 291 (by decide +kernel) rfl)⟩
theorem fp_X5_15 : a_fp RX5 15 5 1 (.array .boolean) true := ⟨_, rfl, by decide, rfl, by decide +kernel, Or.inl ⟨(a_inG 291 (by decide +kernel) rfl), fun _ => rfl⟩⟩
theorem fl_X5_19 : a_fl RX5 19 5 2 := ⟨_, rfl, by decide, Or.inl (a_inG 292 (by decide +kernel) rfl)⟩
theorem fp_X5_19 : a_fp RX5 19 5 2 .int false := ⟨_, rfl, by decide, rfl, by decide +kernel, Or.inl ⟨(a_inG 292 (by decide +kernel) rfl), fun _ => rfl⟩⟩
theorem fl_X9_145 : a_fl RX9 145 5 2 := ⟨_, rfl, by decide, Or.inr ⟨"WeWereIn", (a_inN 293 (by decide +kernel) rfl)⟩⟩
theorem fp_X9_145 : a_fp RX9 145 5 2 .int false := ⟨_, rfl, by decide, rfl, by decide +kernel, Or.inr ⟨rfl, "WeWereIn", (a_inN 293 (by decide +kernel) rfl)⟩⟩
theorem fl_X0_9 : a_fl RX0 9 0 0 := ⟨_, rfl, by decide, Or.inl (a_inG 308 (by decide +kernel) rfl)⟩
theorem fp_X0_9 : a_fp RX0 9 0 0 (.array .int) true := ⟨_, rfl, by decide, rfl, by decide +kernel, Or.inl ⟨(a_inG 308 (by decide +kernel) rfl), fun _ => rfl⟩⟩
theorem fl_X0_15 : a_fl RX0 15 0 1 := ⟨_, rfl, by decide, Or.inl (a_inG 309 (by decide +kernel) rfl)⟩
theorem fp_X0_15 : a_fp RX0 15 0 1 (.array .int) true := ⟨_, rfl, by decide, rfl, by decide +kernel, Or.inl ⟨(a_inG 309 (by decide +kernel) rfl), fun _ => rfl⟩⟩
theorem fl_X0_18 : a_fl RX0 18 0 2 := ⟨_, rfl, by decide, Or.inl (a_inG 310 (by decide +kernel) rfl)⟩
theorem fp_X0_18 : a_fp RX0 18 0 2 .int false := ⟨_, rfl, by decide, rfl, by decide +kernel, Or.inl ⟨(a_inG 310 (by decide +kernel) rfl), fun _ => rfl⟩⟩
theorem fl_X9_148 : a_fl RX9 148 0 2 := ⟨_, rfl, by decide, Or.inr ⟨"WeWereIn", (a_inN 311 (by decide +kernel) rfl)⟩⟩
theorem fp_X9_148 : a_fp RX9 148 0 2 .int false := ⟨_, rfl, by decide, rfl, by decide +kernel, Or.inr ⟨rfl, "WeWereIn", (a_inN 311 (by decide +kernel) rfl)⟩⟩
theorem fl_X2_10 : a_fl RX2 10 2 0 := ⟨_, rfl, by decide, Or.inl (a_inG 328 (by decide +kernel) rfl)⟩
theorem fp_X2_10 : a_fp RX2 10 2 0 (.object "WeWereIn$Days") true := ⟨_, rfl, by decide, rfl, by decide +kernel, Or.inl ⟨(a_inG 328 (by decide +kernel) rfl), fun _ => rfl⟩⟩
theorem fl_X9_264 : a_fl RX9 264 2 0 := ⟨_, rfl, by decide, Or.inr ⟨"WeWereIn", (a_inN 329 (by decide +kernel) rfl)⟩⟩
theorem fl_X2_16 : a_fl RX2 16 2 1 := ⟨_, rfl, by decide, Or.inl (a_inG 330 (by decide +kernel) rfl)⟩
theorem fp_X2_16 : a_fp RX2 16 2 1 .int false := ⟨_, rfl, by decide, rfl, by decide +kernel, Or.inl ⟨(a_inG 330 (by decide +kernel) rfl), fun _ => rfl⟩⟩
theorem fl_X9_269 : a_fl RX9 269 2 1 := ⟨_, rfl, by decide, Or.inr ⟨"WeWereIn", (a_inN 331 (by decide +kernel) rfl)⟩⟩
theorem fp_X9_269 : a_fp RX9 269 2 1 .int false := ⟨_, rfl, by decide, rfl, by decide +kernel, Or.inr ⟨rfl, "WeWereIn", (a_inN 331 (by decide +kernel) rfl)⟩⟩
theorem fl_X2_20 : a_fl RX2 20 2 2 := ⟨_, rfl, by decide, Or.inl (a_inG 332 (by decide +kernel) rfl)⟩
theorem fp_X2_20 : a_fp RX2 20 2 2 .boolean false := ⟨_, rfl, by decide, rfl, by decide +kernel, Or.inl ⟨(a_inG 332 (by decide +kernel) rfl), fun _ => rfl⟩⟩
theorem fl_X9_113 : a_fl RX9 113 2 2 := ⟨_, rfl, by decide, Or.inr ⟨"WeWereIn", (a_inN 333 (by decide +kernel) rfl)⟩⟩
theorem fp_X9_113 : a_fp RX9 113 2 2 .boolean false := ⟨_, rfl, by decide, rfl, by decide +kernel, Or.inr ⟨rfl, "WeWereIn", (a_inN 333 (by decide +kernel) rfl)⟩⟩
theorem fl_X9_10 : a_fl RX9 10 9 0 := ⟨_, rfl, by decide, Or.inl (a_inG 341 (by decide +kernel) rfl)⟩
theorem fp_X9_10 : a_fp RX9 10 9 0 (.object "WeWereIn$Text") true := ⟨_, rfl, by decide, rfl, by decide +kernel, Or.inl ⟨(a_inG 341 (by decide +kernel) rfl), fun _ => rfl⟩⟩
theorem fl_X9_19 : a_fl RX9 19 9 1 := ⟨_, rfl, by decide, Or.inl (a_inG 342 (by decide +kernel) rfl)⟩
theorem fp_X9_19 : a_fp RX9 19 9 1 (.object "WeWereIn$Street") true := ⟨_, rfl, by decide, rfl, by decide +kernel, Or.inl ⟨(a_inG 342 (by decide +kernel) rfl), fun _ => rfl⟩⟩
theorem fl_X9_23 : a_fl RX9 23 9 2 := ⟨_, rfl, by decide, Or.inl (a_inG 343 (by decide +kernel) rfl)⟩
theorem fp_X9_23 : a_fp RX9 23 9 2 (.object "WeWereIn$Street") true := ⟨_, rfl, by decide, rfl, by decide +kernel, Or.inl ⟨(a_inG 343 (by decide +kernel) rfl), fun _ => rfl⟩⟩
theorem fl_X9_29 : a_fl RX9 29 9 3 := ⟨_, rfl, by decide, Or.inl (a_inG 344 (by decide +kernel) rfl)⟩
theorem fp_X9_29 : a_fp RX9 29 9 3 (.object "WeWereIn$Days") true := ⟨_, rfl, by decide, rfl, by decide +kernel, Or.inl ⟨(a_inG 344 (by decide +kernel) rfl), fun _ => rfl⟩⟩
theorem fl_X9_33 : a_fl RX9 33 9 4 := ⟨_, rfl, by decide, Or.inl (a_inG 345 (by decide +kernel) rfl)⟩
theorem fp_X9_33 : a_fp RX9 33 9 4 (.object "WeWereIn$Days") true := ⟨_, rfl, by decide, rfl, by decide +kernel, Or.inl ⟨(a_inG 345 (by decide +kernel) rfl), fun _ => rfl⟩⟩
theorem fl_X9_39 : a_fl RX9 39 9 5 := ⟨_, rfl, by decide, Or.inl (a_inG 346 (by decide +kernel) rfl)⟩
theorem fp_X9_39 : a_fp RX9 39 9 5 (.object "WeWereIn$Trip") true := ⟨_, rfl, by decide, rfl, by decide +kernel, Or.inl ⟨(a_inG 346 (by decide +kernel) rfl), fun _ => rfl⟩⟩
theorem fl_X9_46 : a_fl RX9 46 9 6 := ⟨_, rfl, by decide, Or.inl (a_inG 347 (by decide +kernel) rfl)⟩
theorem fp_X9_46 : a_fp RX9 46 9 6 (.object "WeWereIn$Past") true := ⟨_, rfl, by decide, rfl, by decide +kernel, Or.inl ⟨(a_inG 347 (by decide +kernel) rfl), fun _ => rfl⟩⟩
theorem fl_X9_53 : a_fl RX9 53 9 7 := ⟨_, rfl, by decide, Or.inl (a_inG 348 (by decide +kernel) rfl)⟩
theorem fp_X9_53 : a_fp RX9 53 9 7 (.object "WeWereIn$Seen") true := ⟨_, rfl, by decide, rfl, by decide +kernel, Or.inl ⟨(a_inG 348 (by decide +kernel) rfl), fun _ => rfl⟩⟩
theorem fl_X9_60 : a_fl RX9 60 9 8 := ⟨_, rfl, by decide, Or.inl (a_inG 349 (by decide +kernel) rfl)⟩
theorem fp_X9_60 : a_fp RX9 60 9 8 (.object "WeWereIn$Book") true := ⟨_, rfl, by decide, rfl, by decide +kernel, Or.inl ⟨(a_inG 349 (by decide +kernel) rfl), fun _ => rfl⟩⟩
theorem fl_X9_67 : a_fl RX9 67 9 9 := ⟨_, rfl, by decide, Or.inl (a_inG 350 (by decide +kernel) rfl)⟩
theorem fp_X9_67 : a_fp RX9 67 9 9 (.array (.object "WeWereIn$Image")) true := ⟨_, rfl, by decide, rfl, by decide +kernel, Or.inl ⟨(a_inG 350 (by decide +kernel) rfl), fun _ => rfl⟩⟩
theorem fl_X9_71 : a_fl RX9 71 9 10 := ⟨_, rfl, by decide, Or.inl (a_inG 351 (by decide +kernel) rfl)⟩
theorem fp_X9_71 : a_fp RX9 71 9 10 (.array .int) true := ⟨_, rfl, by decide, rfl, by decide +kernel, Or.inl ⟨(a_inG 351 (by decide +kernel) rfl), fun _ => rfl⟩⟩
theorem fl_X9_75 : a_fl RX9 75 9 11 := ⟨_, rfl, by decide, Or.inl (a_inG 352 (by decide +kernel) rfl)⟩
theorem fp_X9_75 : a_fp RX9 75 9 11 .int false := ⟨_, rfl, by decide, rfl, by decide +kernel, Or.inl ⟨(a_inG 352 (by decide +kernel) rfl), fun _ => rfl⟩⟩
theorem fl_X4_21 : a_fl RX4 21 4 0 := ⟨_, rfl, by decide, Or.inl (a_inG 656 (by decide +kernel) rfl)⟩
theorem fp_X4_21 : a_fp RX4 21 4 0 (.object "WeWereIn$Street") true := ⟨_, rfl, by decide, rfl, by decide +kernel, Or.inl ⟨(a_inG 656 (by decide +kernel) rfl), fun _ => rfl⟩⟩
theorem fl_X4_25 : a_fl RX4 25 4 1 := ⟨_, rfl, by decide, Or.inl (a_inG 657 (by decide +kernel) rfl)⟩
theorem fp_X4_25 : a_fp RX4 25 4 1 (.object "WeWereIn$Days") true := ⟨_, rfl, by decide, rfl, by decide +kernel, Or.inl ⟨(a_inG 657 (by decide +kernel) rfl), fun _ => rfl⟩⟩
theorem fl_X4_29 : a_fl RX4 29 4 2 := ⟨_, rfl, by decide, Or.inl (a_inG 658 (by decide +kernel) rfl)⟩
theorem fp_X4_29 : a_fp RX4 29 4 2 .int true := ⟨_, rfl, by decide, rfl, by decide +kernel, Or.inl ⟨(a_inG 658 (by decide +kernel) rfl), fun _ => rfl⟩⟩
theorem fl_X4_43 : a_fl RX4 43 4 3 := ⟨_, rfl, by decide, Or.inl (a_inG 659 (by decide +kernel) rfl)⟩
theorem fp_X4_43 : a_fp RX4 43 4 3 .int true := ⟨_, rfl, by decide, rfl, by decide +kernel, Or.inl ⟨(a_inG 659 (by decide +kernel) rfl), fun _ => rfl⟩⟩
theorem fl_X4_52 : a_fl RX4 52 4 4 := ⟨_, rfl, by decide, Or.inl (a_inG 660 (by decide +kernel) rfl)⟩
theorem fp_X4_52 : a_fp RX4 52 4 4 .int true := ⟨_, rfl, by decide, rfl, by decide +kernel, Or.inl ⟨(a_inG 660 (by decide +kernel) rfl), fun _ => rfl⟩⟩
theorem fl_X4_9 : a_fl RX4 9 4 5 := ⟨_, rfl, by decide, Or.inl (a_inG 661 (by decide +kernel) rfl)⟩
theorem fp_X4_9 : a_fp RX4 9 4 5 .int false := ⟨_, rfl, by decide, rfl, by decide +kernel, Or.inl ⟨(a_inG 661 (by decide +kernel) rfl), fun _ => rfl⟩⟩
theorem fl_X9_229 : a_fl RX9 229 4 5 := ⟨_, rfl, by decide, Or.inr ⟨"WeWereIn", (a_inN 662 (by decide +kernel) rfl)⟩⟩
theorem fp_X9_229 : a_fp RX9 229 4 5 .int false := ⟨_, rfl, by decide, rfl, by decide +kernel, Or.inr ⟨rfl, "WeWereIn", (a_inN 662 (by decide +kernel) rfl)⟩⟩
theorem fl_X4_15 : a_fl RX4 15 4 6 := ⟨_, rfl, by decide, Or.inl (a_inG 663 (by decide +kernel) rfl)⟩
theorem fp_X4_15 : a_fp RX4 15 4 6 .int false := ⟨_, rfl, by decide, rfl, by decide +kernel, Or.inl ⟨(a_inG 663 (by decide +kernel) rfl), fun _ => rfl⟩⟩
theorem fl_X9_232 : a_fl RX9 232 4 6 := ⟨_, rfl, by decide, Or.inr ⟨"WeWereIn", (a_inN 664 (by decide +kernel) rfl)⟩⟩
theorem fp_X9_232 : a_fp RX9 232 4 6 .int false := ⟨_, rfl, by decide, rfl, by decide +kernel, Or.inr ⟨rfl, "WeWereIn", (a_inN 664 (by decide +kernel) rfl)⟩⟩
theorem fl_X4_18 : a_fl RX4 18 4 7 := ⟨_, rfl, by decide, Or.inl (a_inG 665 (by decide +kernel) rfl)⟩
theorem fp_X4_18 : a_fp RX4 18 4 7 .int false := ⟨_, rfl, by decide, rfl, by decide +kernel, Or.inl ⟨(a_inG 665 (by decide +kernel) rfl), fun _ => rfl⟩⟩
theorem fl_X9_235 : a_fl RX9 235 4 7 := ⟨_, rfl, by decide, Or.inr ⟨"WeWereIn", (a_inN 666 (by decide +kernel) rfl)⟩⟩
theorem fp_X9_235 : a_fp RX9 235 4 7 .int false := ⟨_, rfl, by decide, rfl, by decide +kernel, Or.inr ⟨rfl, "WeWereIn", (a_inN 666 (by decide +kernel) rfl)⟩⟩
theorem fl_X10_7 : a_fl RX10 7 10 0 := ⟨_, rfl, by decide, Or.inl (a_inG 787 (by decide +kernel) rfl)⟩
theorem fp_X10_7 : a_fp RX10 7 10 0 (.array .int) true := ⟨_, rfl, by decide, rfl, by decide +kernel, Or.inl ⟨(a_inG 787 (by decide +kernel) rfl), fun _ => rfl⟩⟩
theorem fl_X10_13 : a_fl RX10 13 10 1 := ⟨_, rfl, by decide, Or.inl (a_inG 788 (by decide +kernel) rfl)⟩
theorem fp_X10_13 : a_fp RX10 13 10 1 (.array .boolean) true := ⟨_, rfl, by decide, rfl, by decide +kernel, Or.inl ⟨(a_inG 788 (by decide +kernel) rfl), fun _ => rfl⟩⟩
theorem fl_X10_17 : a_fl RX10 17 10 2 := ⟨_, rfl, by decide, Or.inl (a_inG 789 (by decide +kernel) rfl)⟩
theorem fp_X10_17 : a_fp RX10 17 10 2 (.array .int) true := ⟨_, rfl, by decide, rfl, by decide +kernel, Or.inl ⟨(a_inG 789 (by decide +kernel) rfl), fun _ => rfl⟩⟩
theorem fl_X10_20 : a_fl RX10 20 10 3 := ⟨_, rfl, by decide, Or.inl (a_inG 790 (by decide +kernel) rfl)⟩
theorem fp_X10_20 : a_fp RX10 20 10 3 (.array .int) true := ⟨_, rfl, by decide, rfl, by decide +kernel, Or.inl ⟨(a_inG 790 (by decide +kernel) rfl), fun _ => rfl⟩⟩
theorem fl_X10_23 : a_fl RX10 23 10 4 := ⟨_, rfl, by decide, Or.inl (a_inG 791 (by decide +kernel) rfl)⟩
theorem fp_X10_23 : a_fp RX10 23 10 4 (.array .int) true := ⟨_, rfl, by decide, rfl, by decide +kernel, Or.inl ⟨(a_inG 791 (by decide +kernel) rfl), fun _ => rfl⟩⟩
theorem fl_X10_26 : a_fl RX10 26 10 5 := ⟨_, rfl, by decide, Or.inl (a_inG 792 (by decide +kernel) rfl)⟩
theorem fp_X10_26 : a_fp RX10 26 10 5 (.array .int) true := ⟨_, rfl, by decide, rfl, by decide +kernel, Or.inl ⟨(a_inG 792 (by decide +kernel) rfl), fun _ => rfl⟩⟩
theorem fl_X10_29 : a_fl RX10 29 10 6 := ⟨_, rfl, by decide, Or.inl (a_inG 793 (by decide +kernel) rfl)⟩
theorem fp_X10_29 : a_fp RX10 29 10 6 (.array .int) true := ⟨_, rfl, by decide, rfl, by decide +kernel, Or.inl ⟨(a_inG 793 (by decide +kernel) rfl), fun _ => rfl⟩⟩
theorem fl_X10_32 : a_fl RX10 32 10 7 := ⟨_, rfl, by decide, Or.inl (a_inG 794 (by decide +kernel) rfl)⟩
theorem fp_X10_32 : a_fp RX10 32 10 7 (.array .int) true := ⟨_, rfl, by decide, rfl, by decide +kernel, Or.inl ⟨(a_inG 794 (by decide +kernel) rfl), fun _ => rfl⟩⟩
theorem fl_X10_131 : a_fl RX10 131 10 8 := ⟨_, rfl, by decide, Or.inl (a_inG 795 (by decide +kernel) rfl)⟩
theorem fp_X10_131 : a_fp RX10 131 10 8 .int false := ⟨_, rfl, by decide, rfl, by decide +kernel, Or.inl ⟨(a_inG 795 (by decide +kernel) rfl), fun _ => rfl⟩⟩
theorem fl_X10_106 : a_fl RX10 106 10 9 := ⟨_, rfl, by decide, Or.inl (a_inG 796 (by decide +kernel) rfl)⟩
theorem fp_X10_106 : a_fp RX10 106 10 9 .int false := ⟨_, rfl, by decide, rfl, by decide +kernel, Or.inl ⟨(a_inG 796 (by decide +kernel) rfl), fun _ => rfl⟩⟩
theorem fl_X10_35 : a_fl RX10 35 10 10 := ⟨_, rfl, by decide, Or.inl (a_inG 797 (by decide +kernel) rfl)⟩
theorem fp_X10_35 : a_fp RX10 35 10 10 (.array .int) true := ⟨_, rfl, by decide, rfl, by decide +kernel, Or.inl ⟨(a_inG 797 (by decide +kernel) rfl), fun _ => rfl⟩⟩
theorem fl_X10_134 : a_fl RX10 134 10 11 := ⟨_, rfl, by decide, Or.inl (a_inG 798 (by decide +kernel) rfl)⟩
theorem fp_X10_134 : a_fp RX10 134 10 11 .int false := ⟨_, rfl, by decide, rfl, by decide +kernel, Or.inl ⟨(a_inG 798 (by decide +kernel) rfl), fun _ => rfl⟩⟩
theorem fl_X10_109 : a_fl RX10 109 10 12 := ⟨_, rfl, by decide, Or.inl (a_inG 799 (by decide +kernel) rfl)⟩
theorem fp_X10_109 : a_fp RX10 109 10 12 .int false := ⟨_, rfl, by decide, rfl, by decide +kernel, Or.inl ⟨(a_inG 799 (by decide +kernel) rfl), fun _ => rfl⟩⟩
theorem fl_X10_38 : a_fl RX10 38 10 13 := ⟨_, rfl, by decide, Or.inl (a_inG 800 (by decide +kernel) rfl)⟩
theorem fp_X10_38 : a_fp RX10 38 10 13 (.array .int) true := ⟨_, rfl, by decide, rfl, by decide +kernel, Or.inl ⟨(a_inG 800 (by decide +kernel) rfl), fun _ => rfl⟩⟩
theorem fl_X10_73 : a_fl RX10 73 10 14 := ⟨_, rfl, by decide, Or.inl (a_inG 801 (by decide +kernel) rfl)⟩
theorem fp_X10_73 : a_fp RX10 73 10 14 .int false := ⟨_, rfl, by decide, rfl, by decide +kernel, Or.inl ⟨(a_inG 801 (by decide +kernel) rfl), fun _ => rfl⟩⟩
theorem fl_X10_77 : a_fl RX10 77 10 15 := ⟨_, rfl, by decide, Or.inl (a_inG 802 (by decide +kernel) rfl)⟩
theorem fp_X10_77 : a_fp RX10 77 10 15 .int false := ⟨_, rfl, by decide, rfl, by decide +kernel, Or.inl ⟨(a_inG 802 (by decide +kernel) rfl), fun _ => rfl⟩⟩
theorem fl_X10_87 : a_fl RX10 87 10 16 := ⟨_, rfl, by decide, Or.inl (a_inG 803 (by decide +kernel) rfl)⟩
theorem fp_X10_87 : a_fp RX10 87 10 16 .int false := ⟨_, rfl, by decide, rfl, by decide +kernel, Or.inl ⟨(a_inG 803 (by decide +kernel) rfl), fun _ => rfl⟩⟩
theorem fl_X10_80 : a_fl RX10 80 10 17 := ⟨_, rfl, by decide, Or.inl (a_inG 804 (by decide +kernel) rfl)⟩
theorem fp_X10_80 : a_fp RX10 80 10 17 .int false := ⟨_, rfl, by decide, rfl, by decide +kernel, Or.inl ⟨(a_inG 804 (by decide +kernel) rfl), fun _ => rfl⟩⟩
theorem fl_X10_41 : a_fl RX10 41 10 18 := ⟨_, rfl, by decide, Or.inl (a_inG 805 (by decide +kernel) rfl)⟩
theorem fp_X10_41 : a_fp RX10 41 10 18 .int false := ⟨_, rfl, by decide, rfl, by decide +kernel, Or.inl ⟨(a_inG 805 (by decide +kernel) rfl), fun _ => rfl⟩⟩
theorem fl_X10_45 : a_fl RX10 45 10 19 := ⟨_, rfl, by decide, Or.inl (a_inG 806 (by decide +kernel) rfl)⟩
theorem fp_X10_45 : a_fp RX10 45 10 19 (.array .int) true := ⟨_, rfl, by decide, rfl, by decide +kernel, Or.inl ⟨(a_inG 806 (by decide +kernel) rfl), fun _ => rfl⟩⟩
theorem fl_X10_176 : a_fl RX10 176 10 20 := ⟨_, rfl, by decide, Or.inl (a_inG 807 (by decide +kernel) rfl)⟩
theorem fp_X10_176 : a_fp RX10 176 10 20 .int false := ⟨_, rfl, by decide, rfl, by decide +kernel, Or.inl ⟨(a_inG 807 (by decide +kernel) rfl), fun _ => rfl⟩⟩
theorem fl_X10_179 : a_fl RX10 179 10 21 := ⟨_, rfl, by decide, Or.inl (a_inG 808 (by decide +kernel) rfl)⟩
theorem fp_X10_179 : a_fp RX10 179 10 21 .int false := ⟨_, rfl, by decide, rfl, by decide +kernel, Or.inl ⟨(a_inG 808 (by decide +kernel) rfl), fun _ => rfl⟩⟩
theorem fl_X10_143 : a_fl RX10 143 10 22 := ⟨_, rfl, by decide, Or.inl (a_inG 809 (by decide +kernel) rfl)⟩
theorem fp_X10_143 : a_fp RX10 143 10 22 .int false := ⟨_, rfl, by decide, rfl, by decide +kernel, Or.inl ⟨(a_inG 809 (by decide +kernel) rfl), fun _ => rfl⟩⟩
theorem fl_X10_48 : a_fl RX10 48 10 23 := ⟨_, rfl, by decide, Or.inl (a_inG 810 (by decide +kernel) rfl)⟩
theorem fp_X10_48 : a_fp RX10 48 10 23 (.array .int) true := ⟨_, rfl, by decide, rfl, by decide +kernel, Or.inl ⟨(a_inG 810 (by decide +kernel) rfl), fun _ => rfl⟩⟩
theorem fl_X10_51 : a_fl RX10 51 10 24 := ⟨_, rfl, by decide, Or.inl (a_inG 811 (by decide +kernel) rfl)⟩
theorem fp_X10_51 : a_fp RX10 51 10 24 (.array .int) true := ⟨_, rfl, by decide, rfl, by decide +kernel, Or.inl ⟨(a_inG 811 (by decide +kernel) rfl), fun _ => rfl⟩⟩
theorem fl_X10_54 : a_fl RX10 54 10 25 := ⟨_, rfl, by decide, Or.inl (a_inG 812 (by decide +kernel) rfl)⟩
theorem fp_X10_54 : a_fp RX10 54 10 25 (.array .boolean) true := ⟨_, rfl, by decide, rfl, by decide +kernel, Or.inl ⟨(a_inG 812 (by decide +kernel) rfl), fun _ => rfl⟩⟩
theorem fl_X10_137 : a_fl RX10 137 10 26 := ⟨_, rfl, by decide, Or.inl (a_inG 813 (by decide +kernel) rfl)⟩
theorem fp_X10_137 : a_fp RX10 137 10 26 .int false := ⟨_, rfl, by decide, rfl, by decide +kernel, Or.inl ⟨(a_inG 813 (by decide +kernel) rfl), fun _ => rfl⟩⟩
theorem fl_X10_57 : a_fl RX10 57 10 27 := ⟨_, rfl, by decide, Or.inl (a_inG 814 (by decide +kernel) rfl)⟩
theorem fp_X10_57 : a_fp RX10 57 10 27 (.array .int) true := ⟨_, rfl, by decide, rfl, by decide +kernel, Or.inl ⟨(a_inG 814 (by decide +kernel) rfl), fun _ => rfl⟩⟩
theorem fl_X10_60 : a_fl RX10 60 10 28 := ⟨_, rfl, by decide, Or.inl (a_inG 815 (by decide +kernel) rfl)⟩
theorem fp_X10_60 : a_fp RX10 60 10 28 (.array .int) true := ⟨_, rfl, by decide, rfl, by decide +kernel, Or.inl ⟨(a_inG 815 (by decide +kernel) rfl), fun _ => rfl⟩⟩
theorem fl_X10_63 : a_fl RX10 63 10 29 := ⟨_, rfl, by decide, Or.inl (a_inG 816 (by decide +kernel) rfl)⟩
theorem fp_X10_63 : a_fp RX10 63 10 29 (.array .int) true := ⟨_, rfl, by decide, rfl, by decide +kernel, Or.inl ⟨(a_inG 816 (by decide +kernel) rfl), fun _ => rfl⟩⟩
theorem fl_X10_140 : a_fl RX10 140 10 30 := ⟨_, rfl, by decide, Or.inl (a_inG 817 (by decide +kernel) rfl)⟩
theorem fp_X10_140 : a_fp RX10 140 10 30 .int false := ⟨_, rfl, by decide, rfl, by decide +kernel, Or.inl ⟨(a_inG 817 (by decide +kernel) rfl), fun _ => rfl⟩⟩
theorem lk_L_9 : a_lk RL 9 yX9_init := Or.inl (a_inG 94 (by decide +kernel) rfl)
theorem lj_X9_1 : Cond.methodLink RX9 1 objectInit ∈ gT := (a_inG 97 (by decide +kernel) rfl)
theorem lk_X9_9 : a_lk RX9 9 yX7_init := Or.inr ⟨"WeWereIn", (a_inN 102 (by decide +kernel) rfl)⟩
theorem lj_X7_3 : Cond.methodLink RX7 3 objectInit ∈ gT := (a_inG 105 (by decide +kernel) rfl)
theorem lk_X9_18 : a_lk RX9 18 yX6_init := Or.inr ⟨"WeWereIn", (a_inN 131 (by decide +kernel) rfl)⟩
theorem lj_X6_3 : Cond.methodLink RX6 3 objectInit ∈ gT := (a_inG 134 (by decide +kernel) rfl)
theorem lk_X9_28 : a_lk RX9 28 yX1_init := Or.inr ⟨"WeWereIn", (a_inN 190 (by decide +kernel) rfl)⟩
theorem lj_X1_3 : Cond.methodLink RX1 3 objectInit ∈ gT := (a_inG 193 (by decide +kernel) rfl)
theorem lk_X1_28 : a_lk RX1 28 yX1_begin := Or.inl (a_inG 194 (by decide +kernel) rfl)
theorem lk_X9_38 : a_lk RX9 38 yX8_init := Or.inr ⟨"WeWereIn", (a_inN 228 (by decide +kernel) rfl)⟩
theorem lj_X8_3 : Cond.methodLink RX8 3 objectInit ∈ gT := (a_inG 231 (by decide +kernel) rfl)
theorem lk_X8_11 : a_lk RX8 11 yX1_init := Or.inr ⟨"WeWereIn", (a_inN 233 (by decide +kernel) rfl)⟩
theorem lk_X9_45 : a_lk RX9 45 yX3_init := Or.inr ⟨"WeWereIn", (a_inN 266 (by decide +kernel) rfl)⟩
theorem lj_X3_3 : Cond.methodLink RX3 3 objectInit ∈ gT := (a_inG 269 (by decide +kernel) rfl)
theorem lk_X3_24 : a_lk RX3 24 yX1_init := Or.inr ⟨"WeWereIn", (a_inN 272 (by decide +kernel) rfl)⟩
theorem lk_X9_52 : a_lk RX9 52 yX5_init := Or.inr ⟨"WeWereIn", (a_inN 286 (by decide +kernel) rfl)⟩
theorem lj_X5_3 : Cond.methodLink RX5 3 objectInit ∈ gT := (a_inG 289 (by decide +kernel) rfl)
theorem lk_X9_59 : a_lk RX9 59 yX0_init := Or.inr ⟨"WeWereIn", (a_inN 304 (by decide +kernel) rfl)⟩
theorem lj_X0_3 : Cond.methodLink RX0 3 objectInit ∈ gT := (a_inG 307 (by decide +kernel) rfl)
theorem lk_X9_66 : a_lk RX9 66 yX2_init := Or.inr ⟨"WeWereIn", (a_inN 322 (by decide +kernel) rfl)⟩
theorem lj_X2_1 : Cond.methodLink RX2 1 objectInit ∈ gT := (a_inG 325 (by decide +kernel) rfl)
theorem lk_X2_9 : a_lk RX2 9 yX1_init := Or.inr ⟨"WeWereIn", (a_inN 327 (by decide +kernel) rfl)⟩
theorem lk_L_13 : a_lk RL 13 yX9_feed := Or.inl (a_inG 378 (by decide +kernel) rfl)
theorem lk_X9_79 : a_lk RX9 79 yX9_within := Or.inl (a_inG 382 (by decide +kernel) rfl)
theorem lk_X9_84 : a_lk RX9 84 yX7_add := Or.inr ⟨"WeWereIn", (a_inN 386 (by decide +kernel) rfl)⟩
theorem lk_L_18 : a_lk RL 18 yX9_street := Or.inl (a_inG 391 (by decide +kernel) rfl)
theorem lk_X9_92 : a_lk RX9 92 yX7_readInto := Or.inr ⟨"WeWereIn", (a_inN 395 (by decide +kernel) rfl)⟩
theorem lk_X7_31 : a_lk RX7 31 yX6_begin := Or.inr ⟨"WeWereIn", (a_inN 399 (by decide +kernel) rfl)⟩
theorem lk_X7_36 : a_lk RX7 36 yX7_peek := Or.inl (a_inG 403 (by decide +kernel) rfl)
theorem lk_X7_105 : a_lk RX7 105 yX9_within := Or.inr ⟨"WeWereIn", (a_inN 407 (by decide +kernel) rfl)⟩
theorem lk_X7_40 : a_lk RX7 40 yX7_readClause := Or.inl (a_inG 408 (by decide +kernel) rfl)
theorem lk_X7_47 : a_lk RX7 47 yX7_fail := Or.inl (a_inG 412 (by decide +kernel) rfl)
theorem lk_X7_51 : a_lk RX7 51 yX7_readVan := Or.inl (a_inG 416 (by decide +kernel) rfl)
theorem lk_X7_65 : a_lk RX7 65 yX7_number := Or.inl (a_inG 420 (by decide +kernel) rfl)
theorem lk_X7_102 : a_lk RX7 102 yX7_isFigure := Or.inl (a_inG 424 (by decide +kernel) rfl)
theorem lk_X7_75 : a_lk RX7 75 yX7_endClause := Or.inl (a_inG 427 (by decide +kernel) rfl)
theorem lk_X7_55 : a_lk RX7 55 yX7_readStop := Or.inl (a_inG 431 (by decide +kernel) rfl)
theorem lk_X7_81 : a_lk RX7 81 yX6_addStop := Or.inr ⟨"WeWereIn", (a_inN 435 (by decide +kernel) rfl)⟩
theorem lk_X7_59 : a_lk RX7 59 yX7_readDin := Or.inl (a_inG 439 (by decide +kernel) rfl)
theorem lk_X7_88 : a_lk RX7 88 yX6_addDin := Or.inr ⟨"WeWereIn", (a_inN 443 (by decide +kernel) rfl)⟩
theorem lk_X7_62 : a_lk RX7 62 yX7_readNeighbour := Or.inl (a_inG 447 (by decide +kernel) rfl)
theorem lk_X7_92 : a_lk RX7 92 yX6_has := Or.inr ⟨"WeWereIn", (a_inN 451 (by decide +kernel) rfl)⟩
theorem lk_X9_96 : a_lk RX9 96 yX7_empty := Or.inr ⟨"WeWereIn", (a_inN 455 (by decide +kernel) rfl)⟩
theorem lk_X9_102 : a_lk RX9 102 yX6_copy := Or.inr ⟨"WeWereIn", (a_inN 459 (by decide +kernel) rfl)⟩
theorem lj_X6_46 : Cond.methodLink RX6 46 arraycopyName ∈ gT := (a_inG 463 (by decide +kernel) rfl)
theorem lk_X9_105 : a_lk RX9 105 yX1_begin := Or.inr ⟨"WeWereIn", (a_inN 466 (by decide +kernel) rfl)⟩
theorem lk_X9_108 : a_lk RX9 108 yX3_forget := Or.inr ⟨"WeWereIn", (a_inN 467 (by decide +kernel) rfl)⟩
theorem lk_X9_111 : a_lk RX9 111 yX5_forget := Or.inr ⟨"WeWereIn", (a_inN 471 (by decide +kernel) rfl)⟩
theorem lk_X9_112 : a_lk RX9 112 yX0_forget := Or.inr ⟨"WeWereIn", (a_inN 475 (by decide +kernel) rfl)⟩
theorem lk_L_23 : a_lk RL 23 yX9_fault := Or.inl (a_inG 479 (by decide +kernel) rfl)
theorem lk_L_27 : a_lk RL 27 yX9_told := Or.inl (a_inG 483 (by decide +kernel) rfl)
theorem lk_X9_141 : a_lk RX9 141 yX1_which := Or.inr ⟨"WeWereIn", (a_inN 487 (by decide +kernel) rfl)⟩
theorem lk_L_31 : a_lk RL 31 yX9_stop := Or.inl (a_inG 491 (by decide +kernel) rfl)
theorem lk_X9_150 : a_lk RX9 150 yX6_has := Or.inr ⟨"WeWereIn", (a_inN 495 (by decide +kernel) rfl)⟩
theorem lk_L_36 : a_lk RL 36 yX9_din := Or.inl (a_inG 497 (by decide +kernel) rfl)
theorem lk_X9_175 : a_lk RX9 175 yX6_dinOf := Or.inr ⟨"WeWereIn", (a_inN 501 (by decide +kernel) rfl)⟩
theorem lk_L_40 : a_lk RL 40 yX9_round := Or.inl (a_inG 505 (by decide +kernel) rfl)
theorem lk_X9_179 : a_lk RX9 179 yX9_refusalOfTrip := Or.inl (a_inG 509 (by decide +kernel) rfl)
theorem lk_X9_218 : a_lk RX9 218 yX6_isWay := Or.inr ⟨"WeWereIn", (a_inN 513 (by decide +kernel) rfl)⟩
theorem lk_X6_52 : a_lk RX6 52 yX6_has := Or.inl (a_inG 517 (by decide +kernel) rfl)
theorem lk_X9_182 : a_lk RX9 182 yX3_push := Or.inr ⟨"WeWereIn", (a_inN 518 (by decide +kernel) rfl)⟩
theorem lk_X3_25 : a_lk RX3 25 yX1_copy := Or.inr ⟨"WeWereIn", (a_inN 522 (by decide +kernel) rfl)⟩
theorem lj_X1_31 : Cond.methodLink RX1 31 arraycopyName ∈ gT := (a_inG 526 (by decide +kernel) rfl)
theorem lk_X3_29 : a_lk RX3 29 yJ9_min_7cf53 := Or.inl (a_inG 527 (by decide +kernel) rfl)
theorem lk_X9_186 : a_lk RX9 186 yX9_drive := Or.inl (a_inG 530 (by decide +kernel) rfl)
theorem lk_X9_208 : a_lk RX9 208 yX8_run := Or.inr ⟨"WeWereIn", (a_inN 534 (by decide +kernel) rfl)⟩
theorem lk_X8_41 : a_lk RX8 41 yX8_begin := Or.inl (a_inG 538 (by decide +kernel) rfl)
theorem lk_X8_77 : a_lk RX8 77 yX1_copy := Or.inr ⟨"WeWereIn", (a_inN 542 (by decide +kernel) rfl)⟩
theorem lk_X8_45 : a_lk RX8 45 yX8_firstUnit := Or.inl (a_inG 543 (by decide +kernel) rfl)
theorem lk_X8_49 : a_lk RX8 49 yX6_has := Or.inr ⟨"WeWereIn", (a_inN 546 (by decide +kernel) rfl)⟩
theorem lk_X8_55 : a_lk RX8 55 yX8_call := Or.inl (a_inG 547 (by decide +kernel) rfl)
theorem lk_X8_59 : a_lk RX8 59 yX6_secondsBetween := Or.inr ⟨"WeWereIn", (a_inN 551 (by decide +kernel) rfl)⟩
theorem lk_X6_68 : a_lk RX6 68 yJ9_abs_0f7a4 := Or.inl (a_inG 555 (by decide +kernel) rfl)
theorem lk_X8_82 : a_lk RX8 82 yX1_counts := Or.inr ⟨"WeWereIn", (a_inN 558 (by decide +kernel) rfl)⟩
theorem lk_X8_85 : a_lk RX8 85 yX9_ringsAt := Or.inr ⟨"WeWereIn", (a_inN 562 (by decide +kernel) rfl)⟩
theorem lk_X8_92 : a_lk RX8 92 yX6_meets := Or.inr ⟨"WeWereIn", (a_inN 565 (by decide +kernel) rfl)⟩
theorem lk_X6_60 : a_lk RX6 60 yX6_isIn := Or.inl (a_inG 569 (by decide +kernel) rfl)
theorem lk_X6_56 : a_lk RX6 56 yX9_within := Or.inr ⟨"WeWereIn", (a_inN 573 (by decide +kernel) rfl)⟩
theorem lk_X6_64 : a_lk RX6 64 yX6_dinOf := Or.inl (a_inG 574 (by decide +kernel) rfl)
theorem lk_X8_96 : a_lk RX8 96 yX6_secondsAtDoor := Or.inr ⟨"WeWereIn", (a_inN 575 (by decide +kernel) rfl)⟩
theorem lk_X8_72 : a_lk RX8 72 yJ6_bitCount_0f7a4 := Or.inl (a_inG 579 (by decide +kernel) rfl)
theorem lk_X9_267 : a_lk RX9 267 yX1_copy := Or.inr ⟨"WeWereIn", (a_inN 585 (by decide +kernel) rfl)⟩
theorem lk_L_44 : a_lk RL 44 yX9_fetch := Or.inl (a_inG 586 (by decide +kernel) rfl)
theorem lk_L_48 : a_lk RL 48 yX9_order := Or.inl (a_inG 591 (by decide +kernel) rfl)
theorem lk_L_52 : a_lk RL 52 yX9_thank := Or.inl (a_inG 595 (by decide +kernel) rfl)
theorem lk_L_56 : a_lk RL 56 yX9_drift := Or.inl (a_inG 599 (by decide +kernel) rfl)
theorem lk_X9_194 : a_lk RX9 194 yX6_risingWay := Or.inr ⟨"WeWereIn", (a_inN 603 (by decide +kernel) rfl)⟩
theorem lk_X9_198 : a_lk RX9 198 yX9_orderByDraw := Or.inl (a_inG 607 (by decide +kernel) rfl)
theorem lk_X9_201 : a_lk RX9 201 yX9_draw := Or.inl (a_inG 611 (by decide +kernel) rfl)
theorem lk_L_60 : a_lk RL 60 yX9_undo := Or.inl (a_inG 619 (by decide +kernel) rfl)
theorem lk_X9_204 : a_lk RX9 204 yX3_pop := Or.inr ⟨"WeWereIn", (a_inN 623 (by decide +kernel) rfl)⟩
theorem lk_X3_35 : a_lk RX3 35 yX9_within := Or.inr ⟨"WeWereIn", (a_inN 627 (by decide +kernel) rfl)⟩
theorem lk_L_64 : a_lk RL 64 yX9_comes := Or.inl (a_inG 628 (by decide +kernel) rfl)
theorem lk_L_69 : a_lk RL 69 yX9_home := Or.inl (a_inG 632 (by decide +kernel) rfl)
theorem lk_L_73 : a_lk RL 73 yX9_outcome := Or.inl (a_inG 636 (by decide +kernel) rfl)
theorem lk_L_77 : a_lk RL 77 yX9_bath := Or.inl (a_inG 640 (by decide +kernel) rfl)
theorem lk_L_82 : a_lk RL 82 yX9_bestWay := Or.inl (a_inG 644 (by decide +kernel) rfl)
theorem lk_X9_223 : a_lk RX9 223 yX4_init := Or.inr ⟨"WeWereIn", (a_inN 650 (by decide +kernel) rfl)⟩
theorem lj_X4_3 : Cond.methodLink RX4 3 objectInit ∈ gT := (a_inG 653 (by decide +kernel) rfl)
theorem lk_X4_37 : a_lk RX4 37 yX1_which := Or.inr ⟨"WeWereIn", (a_inN 654 (by decide +kernel) rfl)⟩
theorem lk_X4_46 : a_lk RX4 46 yJ6_bitCount_0f7a4 := Or.inl (a_inG 655 (by decide +kernel) rfl)
theorem lk_X9_226 : a_lk RX9 226 yX4_seek := Or.inr ⟨"WeWereIn", (a_inN 684 (by decide +kernel) rfl)⟩
theorem lk_X4_55 : a_lk RX4 55 yX4_extend := Or.inl (a_inG 688 (by decide +kernel) rfl)
theorem lk_X4_59 : a_lk RX4 59 yX6_secondsBetween := Or.inr ⟨"WeWereIn", (a_inN 691 (by decide +kernel) rfl)⟩
theorem lk_X4_62 : a_lk RX4 62 yX4_canBeat := Or.inl (a_inG 692 (by decide +kernel) rfl)
theorem lk_X4_66 : a_lk RX4 66 yX4_settle := Or.inl (a_inG 696 (by decide +kernel) rfl)
theorem lk_X4_70 : a_lk RX4 70 yX9_ringsAt := Or.inr ⟨"WeWereIn", (a_inN 700 (by decide +kernel) rfl)⟩
theorem lk_X4_80 : a_lk RX4 80 yX6_meets := Or.inr ⟨"WeWereIn", (a_inN 701 (by decide +kernel) rfl)⟩
theorem lk_X4_84 : a_lk RX4 84 yX6_secondsAtDoor := Or.inr ⟨"WeWereIn", (a_inN 702 (by decide +kernel) rfl)⟩
theorem lk_L_86 : a_lk RL 86 yX9_pretends := Or.inl (a_inG 703 (by decide +kernel) rfl)
theorem lk_L_90 : a_lk RL 90 yX9_locker := Or.inl (a_inG 707 (by decide +kernel) rfl)
theorem lk_X9_240 : a_lk RX9 240 yX6_countNear := Or.inr ⟨"WeWereIn", (a_inN 711 (by decide +kernel) rfl)⟩
theorem lk_L_94 : a_lk RL 94 yX9_bears := Or.inl (a_inG 715 (by decide +kernel) rfl)
theorem lk_L_98 : a_lk RL 98 yX9_heard := Or.inl (a_inG 719 (by decide +kernel) rfl)
theorem lk_L_102 : a_lk RL 102 yX9_see := Or.inl (a_inG 725 (by decide +kernel) rfl)
theorem lk_X9_248 : a_lk RX9 248 yX5_add := Or.inr ⟨"WeWereIn", (a_inN 729 (by decide +kernel) rfl)⟩
theorem lk_L_107 : a_lk RL 107 yX9_rang := Or.inl (a_inG 733 (by decide +kernel) rfl)
theorem lk_X9_251 : a_lk RX9 251 yX5_fits := Or.inr ⟨"WeWereIn", (a_inN 737 (by decide +kernel) rfl)⟩
theorem lk_X9_254 : a_lk RX9 254 yX9_bestToAsk := Or.inl (a_inG 741 (by decide +kernel) rfl)
theorem lk_X9_277 : a_lk RX9 277 yJ6_bitCount_0f7a4 := Or.inl (a_inG 745 (by decide +kernel) rfl)
theorem lk_X9_282 : a_lk RX9 282 yJ9_max_7cf53 := Or.inl (a_inG 746 (by decide +kernel) rfl)
theorem lk_L_111 : a_lk RL 111 yX9_write := Or.inl (a_inG 749 (by decide +kernel) rfl)
theorem lk_X9_257 : a_lk RX9 257 yX0_add := Or.inr ⟨"WeWereIn", (a_inN 753 (by decide +kernel) rfl)⟩
theorem lk_L_115 : a_lk RL 115 yX9_judge := Or.inl (a_inG 757 (by decide +kernel) rfl)
theorem lk_X9_260 : a_lk RX9 260 yX0_firstWrong := Or.inr ⟨"WeWereIn", (a_inN 761 (by decide +kernel) rfl)⟩
theorem lk_L_119 : a_lk RL 119 yX9_tear := Or.inl (a_inG 765 (by decide +kernel) rfl)
theorem lk_L_123 : a_lk RL 123 yX9_seed := Or.inl (a_inG 769 (by decide +kernel) rfl)
theorem lk_L_127 : a_lk RL 127 yX9_keep := Or.inl (a_inG 773 (by decide +kernel) rfl)
theorem lk_L_131 : a_lk RL 131 yX9_goBack := Or.inl (a_inG 777 (by decide +kernel) rfl)
theorem lk_L_12 : a_lk RL 12 yX10_init := Or.inl (a_inG 783 (by decide +kernel) rfl)
theorem lj_X10_1 : Cond.methodLink RX10 1 objectInit ∈ gT := (a_inG 786 (by decide +kernel) rfl)
theorem lk_L_17 : a_lk RL 17 yX10_feed := Or.inl (a_inG 881 (by decide +kernel) rfl)
theorem lk_X10_68 : a_lk RX10 68 yX10_in := Or.inl (a_inG 886 (by decide +kernel) rfl)
theorem lk_L_22 : a_lk RL 22 yX10_street := Or.inl (a_inG 891 (by decide +kernel) rfl)
theorem lk_X10_83 : a_lk RX10 83 yX10_here := Or.inl (a_inG 895 (by decide +kernel) rfl)
theorem lk_X10_125 : a_lk RX10 125 yX10_takeClause := Or.inl (a_inG 899 (by decide +kernel) rfl)
theorem lk_X10_94 : a_lk RX10 94 yX10_want := Or.inl (a_inG 903 (by decide +kernel) rfl)
theorem lk_X10_112 : a_lk RX10 112 yX10_takeRule := Or.inl (a_inG 907 (by decide +kernel) rfl)
theorem lk_X10_102 : a_lk RX10 102 yX10_takeIn := Or.inl (a_inG 911 (by decide +kernel) rfl)
theorem lk_X10_99 : a_lk RX10 99 yX10_takeNumber := Or.inl (a_inG 915 (by decide +kernel) rfl)
theorem lk_X10_116 : a_lk RX10 116 yX10_takeStop := Or.inl (a_inG 922 (by decide +kernel) rfl)
theorem lk_X10_119 : a_lk RX10 119 yX10_takeDins := Or.inl (a_inG 926 (by decide +kernel) rfl)
theorem lk_X10_122 : a_lk RX10 122 yX10_takeNeighbour := Or.inl (a_inG 930 (by decide +kernel) rfl)
theorem lk_X10_128 : a_lk RX10 128 yX10_take := Or.inl (a_inG 934 (by decide +kernel) rfl)
theorem lk_L_26 : a_lk RL 26 yX10_fault := Or.inl (a_inG 938 (by decide +kernel) rfl)
theorem lk_L_30 : a_lk RL 30 yX10_told := Or.inl (a_inG 942 (by decide +kernel) rfl)
theorem lk_X10_164 : a_lk RX10 164 yX10_which := Or.inl (a_inG 946 (by decide +kernel) rfl)
theorem lk_X10_160 : a_lk RX10 160 yX10_one := Or.inl (a_inG 950 (by decide +kernel) rfl)
theorem lk_L_35 : a_lk RL 35 yX10_stop := Or.inl (a_inG 953 (by decide +kernel) rfl)
theorem lk_X10_150 : a_lk RX10 150 yX10_isStop := Or.inl (a_inG 957 (by decide +kernel) rfl)
theorem lk_L_39 : a_lk RL 39 yX10_din := Or.inl (a_inG 962 (by decide +kernel) rfl)
theorem lk_X10_170 : a_lk RX10 170 yX10_dinAt := Or.inl (a_inG 967 (by decide +kernel) rfl)
theorem lk_L_43 : a_lk RL 43 yX10_round := Or.inl (a_inG 971 (by decide +kernel) rfl)
theorem lk_X10_200 : a_lk RX10 200 yX10_isWay := Or.inl (a_inG 975 (by decide +kernel) rfl)
theorem lk_X10_154 : a_lk RX10 154 yX10_has := Or.inl (a_inG 979 (by decide +kernel) rfl)
theorem lk_X10_203 : a_lk RX10 203 yX10_isHaste := Or.inl (a_inG 982 (by decide +kernel) rfl)
theorem lk_X10_206 : a_lk RX10 206 yX10_remember := Or.inl (a_inG 986 (by decide +kernel) rfl)
theorem lk_X10_192 : a_lk RX10 192 yX10_copy := Or.inl (a_inG 990 (by decide +kernel) rfl)
theorem lk_X10_196 : a_lk RX10 196 yX10_roundIn := Or.inl (a_inG 994 (by decide +kernel) rfl)
theorem lk_X10_146 : a_lk RX10 146 yX10_figures := Or.inl (a_inG 998 (by decide +kernel) rfl)
theorem lk_X10_182 : a_lk RX10 182 yX10_stopOf := Or.inl (a_inG 1001 (by decide +kernel) rfl)
theorem lk_X10_185 : a_lk RX10 185 yX10_far := Or.inl (a_inG 1004 (by decide +kernel) rfl)
theorem lk_X10_188 : a_lk RX10 188 yX10_visit := Or.inl (a_inG 1007 (by decide +kernel) rfl)
theorem lk_X10_173 : a_lk RX10 173 yX10_isInAt := Or.inl (a_inG 1011 (by decide +kernel) rfl)
theorem lk_L_47 : a_lk RL 47 yX10_fetch := Or.inl (a_inG 1015 (by decide +kernel) rfl)
theorem lk_L_51 : a_lk RL 51 yX10_order := Or.inl (a_inG 1020 (by decide +kernel) rfl)
theorem lk_L_55 : a_lk RL 55 yX10_thank := Or.inl (a_inG 1024 (by decide +kernel) rfl)
theorem lk_L_59 : a_lk RL 59 yX10_drift := Or.inl (a_inG 1028 (by decide +kernel) rfl)
theorem lk_X10_219 : a_lk RX10 219 yX10_draw := Or.inl (a_inG 1033 (by decide +kernel) rfl)
theorem lk_L_63 : a_lk RL 63 yX10_undo := Or.inl (a_inG 1041 (by decide +kernel) rfl)
theorem lk_L_68 : a_lk RL 68 yX10_comes := Or.inl (a_inG 1046 (by decide +kernel) rfl)
theorem lk_X10_224 : a_lk RX10 224 yX10_tryRound := Or.inl (a_inG 1050 (by decide +kernel) rfl)
theorem lk_L_72 : a_lk RL 72 yX10_home := Or.inl (a_inG 1054 (by decide +kernel) rfl)
theorem lk_L_76 : a_lk RL 76 yX10_outcome := Or.inl (a_inG 1058 (by decide +kernel) rfl)
theorem lk_L_81 : a_lk RL 81 yX10_bath := Or.inl (a_inG 1062 (by decide +kernel) rfl)
theorem lk_X10_229 : a_lk RX10 229 yX10_comesTo := Or.inl (a_inG 1067 (by decide +kernel) rfl)
theorem lk_L_85 : a_lk RL 85 yX10_bestWay := Or.inl (a_inG 1071 (by decide +kernel) rfl)
theorem lk_X10_237 : a_lk RX10 237 yX10_counting := Or.inl (a_inG 1076 (by decide +kernel) rfl)
theorem lk_X10_241 : a_lk RX10 241 yX10_wayOf := Or.inl (a_inG 1081 (by decide +kernel) rfl)
theorem lk_X10_244 : a_lk RX10 244 yX10_nextRow := Or.inl (a_inG 1085 (by decide +kernel) rfl)
theorem lk_X10_232 : a_lk RX10 232 yX10_exchange := Or.inl (a_inG 1089 (by decide +kernel) rfl)
theorem lk_L_89 : a_lk RL 89 yX10_pretends := Or.inl (a_inG 1093 (by decide +kernel) rfl)
theorem lk_L_93 : a_lk RL 93 yX10_locker := Or.inl (a_inG 1097 (by decide +kernel) rfl)
theorem lk_L_97 : a_lk RL 97 yX10_bears := Or.inl (a_inG 1101 (by decide +kernel) rfl)
theorem lk_L_101 : a_lk RL 101 yX10_heard := Or.inl (a_inG 1105 (by decide +kernel) rfl)
theorem lk_L_106 : a_lk RL 106 yX10_see := Or.inl (a_inG 1112 (by decide +kernel) rfl)
theorem lk_L_110 : a_lk RL 110 yX10_rang := Or.inl (a_inG 1116 (by decide +kernel) rfl)
theorem lk_X10_256 : a_lk RX10 256 yX10_findHastes := Or.inl (a_inG 1120 (by decide +kernel) rfl)
theorem lk_X10_253 : a_lk RX10 253 yX10_slipsBy := Or.inl (a_inG 1124 (by decide +kernel) rfl)
theorem lk_L_114 : a_lk RL 114 yX10_write := Or.inl (a_inG 1128 (by decide +kernel) rfl)
theorem lk_L_118 : a_lk RL 118 yX10_judge := Or.inl (a_inG 1133 (by decide +kernel) rfl)
theorem lk_L_122 : a_lk RL 122 yX10_tear := Or.inl (a_inG 1137 (by decide +kernel) rfl)
theorem lk_L_126 : a_lk RL 126 yX10_seed := Or.inl (a_inG 1141 (by decide +kernel) rfl)
theorem lk_L_130 : a_lk RL 130 yX10_keep := Or.inl (a_inG 1145 (by decide +kernel) rfl)
theorem lk_L_134 : a_lk RL 134 yX10_goBack := Or.inl (a_inG 1149 (by decide +kernel) rfl)
theorem k_mX0_init : a_ci mX0_init 0 := ⟨⟨(a_inG 306 (by decide +kernel) rfl), ini_X0, by decide +kernel, by decide⟩, rfl, rfl, (a_inG 305 (by decide +kernel) rfl)⟩
theorem k_mX0_forget : a_cv mX0_forget 0 := ⟨⟨(a_inG 478 (by decide +kernel) rfl), ini_X0, by decide +kernel, by decide⟩, (a_inG 477 (by decide +kernel) rfl), (a_inG 20 (by decide +kernel) rfl)⟩
theorem k_mX0_add : a_cv mX0_add 2 := ⟨⟨(a_inG 756 (by decide +kernel) rfl), ini_X0, by decide +kernel, by decide⟩, (a_inG 755 (by decide +kernel) rfl), (a_inG 47 (by decide +kernel) rfl)⟩
theorem k_mX0_firstWrong : a_cv mX0_firstWrong 1 := ⟨⟨(a_inG 764 (by decide +kernel) rfl), ini_X0, by decide +kernel, by decide⟩, (a_inG 763 (by decide +kernel) rfl), (a_inG 48 (by decide +kernel) rfl)⟩
theorem k_mX1_init : a_ci mX1_init 0 := ⟨⟨(a_inG 192 (by decide +kernel) rfl), ini_X1, by decide +kernel, by decide⟩, rfl, rfl, (a_inG 191 (by decide +kernel) rfl)⟩
theorem k_mX1_begin : a_cv mX1_begin 0 := ⟨⟨(a_inG 197 (by decide +kernel) rfl), ini_X1, by decide +kernel, by decide⟩, (a_inG 196 (by decide +kernel) rfl), (a_inG 0 (by decide +kernel) rfl)⟩
theorem k_mX1_copy : a_cv mX1_copy 1 := ⟨⟨(a_inG 525 (by decide +kernel) rfl), ini_X1, by decide +kernel, by decide⟩, (a_inG 524 (by decide +kernel) rfl), (a_inG 26 (by decide +kernel) rfl)⟩
theorem k_mX1_counts : a_cv mX1_counts 1 := ⟨⟨(a_inG 561 (by decide +kernel) rfl), ini_X1, by decide +kernel, by decide⟩, (a_inG 560 (by decide +kernel) rfl), (a_inG 32 (by decide +kernel) rfl)⟩
theorem k_mX1_which : a_cv mX1_which 2 := ⟨⟨(a_inG 490 (by decide +kernel) rfl), ini_X1, by decide +kernel, by decide⟩, (a_inG 489 (by decide +kernel) rfl), (a_inG 21 (by decide +kernel) rfl)⟩
theorem k_mX2_init : a_ci mX2_init 0 := ⟨⟨(a_inG 324 (by decide +kernel) rfl), ini_X2, by decide +kernel, by decide⟩, rfl, rfl, (a_inG 323 (by decide +kernel) rfl)⟩
theorem k_mX3_init : a_ci mX3_init 0 := ⟨⟨(a_inG 268 (by decide +kernel) rfl), ini_X3, by decide +kernel, by decide⟩, rfl, rfl, (a_inG 267 (by decide +kernel) rfl)⟩
theorem k_mX3_forget : a_cv mX3_forget 0 := ⟨⟨(a_inG 470 (by decide +kernel) rfl), ini_X3, by decide +kernel, by decide⟩, (a_inG 469 (by decide +kernel) rfl), (a_inG 18 (by decide +kernel) rfl)⟩
theorem k_mX3_push : a_cv mX3_push 1 := ⟨⟨(a_inG 521 (by decide +kernel) rfl), ini_X3, by decide +kernel, by decide⟩, (a_inG 520 (by decide +kernel) rfl), (a_inG 25 (by decide +kernel) rfl)⟩
theorem k_mX3_pop : a_cv mX3_pop 2 := ⟨⟨(a_inG 626 (by decide +kernel) rfl), ini_X3, by decide +kernel, by decide⟩, (a_inG 625 (by decide +kernel) rfl), (a_inG 39 (by decide +kernel) rfl)⟩
theorem k_mX4_init : a_ci mX4_init 3 := ⟨⟨(a_inG 652 (by decide +kernel) rfl), ini_X4, by decide +kernel, by decide⟩, rfl, rfl, (a_inG 651 (by decide +kernel) rfl)⟩
theorem k_mX4_seek : a_cv mX4_seek 0 := ⟨⟨(a_inG 687 (by decide +kernel) rfl), ini_X4, by decide +kernel, by decide⟩, (a_inG 686 (by decide +kernel) rfl), (a_inG 40 (by decide +kernel) rfl)⟩
theorem k_mX4_extend : a_cs mX4_extend 7 := ⟨⟨(a_inG 690 (by decide +kernel) rfl), ini_X4, by decide +kernel, by decide⟩, (a_inG 689 (by decide +kernel) rfl)⟩
theorem k_mX4_canBeat : a_cv mX4_canBeat 2 := ⟨⟨(a_inG 695 (by decide +kernel) rfl), ini_X4, by decide +kernel, by decide⟩, (a_inG 694 (by decide +kernel) rfl), (a_inG 41 (by decide +kernel) rfl)⟩
theorem k_mX4_settle : a_cv mX4_settle 3 := ⟨⟨(a_inG 699 (by decide +kernel) rfl), ini_X4, by decide +kernel, by decide⟩, (a_inG 698 (by decide +kernel) rfl), (a_inG 42 (by decide +kernel) rfl)⟩
theorem k_mX5_init : a_ci mX5_init 0 := ⟨⟨(a_inG 288 (by decide +kernel) rfl), ini_X5, by decide +kernel, by decide⟩, rfl, rfl, (a_inG 287 (by decide +kernel) rfl)⟩
theorem k_mX5_forget : a_cv mX5_forget 0 := ⟨⟨(a_inG 474 (by decide +kernel) rfl), ini_X5, by decide +kernel, by decide⟩, (a_inG 473 (by decide +kernel) rfl), (a_inG 19 (by decide +kernel) rfl)⟩
theorem k_mX5_add : a_cv mX5_add 2 := ⟨⟨(a_inG 732 (by decide +kernel) rfl), ini_X5, by decide +kernel, by decide⟩, (a_inG 731 (by decide +kernel) rfl), (a_inG 44 (by decide +kernel) rfl)⟩
theorem k_mX5_fits : a_cv mX5_fits 1 := ⟨⟨(a_inG 740 (by decide +kernel) rfl), ini_X5, by decide +kernel, by decide⟩, (a_inG 739 (by decide +kernel) rfl), (a_inG 45 (by decide +kernel) rfl)⟩
theorem k_mX6_init : a_ci mX6_init 0 := ⟨⟨(a_inG 133 (by decide +kernel) rfl), ini_X6, by decide +kernel, by decide⟩, rfl, rfl, (a_inG 132 (by decide +kernel) rfl)⟩
theorem k_mX6_begin : a_cv mX6_begin 0 := ⟨⟨(a_inG 402 (by decide +kernel) rfl), ini_X6, by decide +kernel, by decide⟩, (a_inG 401 (by decide +kernel) rfl), (a_inG 3 (by decide +kernel) rfl)⟩
theorem k_mX6_copy : a_cv mX6_copy 1 := ⟨⟨(a_inG 462 (by decide +kernel) rfl), ini_X6, by decide +kernel, by decide⟩, (a_inG 461 (by decide +kernel) rfl), (a_inG 17 (by decide +kernel) rfl)⟩
theorem k_mX6_addStop : a_cv mX6_addStop 3 := ⟨⟨(a_inG 438 (by decide +kernel) rfl), ini_X6, by decide +kernel, by decide⟩, (a_inG 437 (by decide +kernel) rfl), (a_inG 11 (by decide +kernel) rfl)⟩
theorem k_mX6_addDin : a_cv mX6_addDin 1 := ⟨⟨(a_inG 446 (by decide +kernel) rfl), ini_X6, by decide +kernel, by decide⟩, (a_inG 445 (by decide +kernel) rfl), (a_inG 13 (by decide +kernel) rfl)⟩
theorem k_mX6_has : a_cv mX6_has 1 := ⟨⟨(a_inG 454 (by decide +kernel) rfl), ini_X6, by decide +kernel, by decide⟩, (a_inG 453 (by decide +kernel) rfl), (a_inG 15 (by decide +kernel) rfl)⟩
theorem k_mX6_isWay : a_cv mX6_isWay 1 := ⟨⟨(a_inG 516 (by decide +kernel) rfl), ini_X6, by decide +kernel, by decide⟩, (a_inG 515 (by decide +kernel) rfl), (a_inG 24 (by decide +kernel) rfl)⟩
theorem k_mX6_risingWay : a_cv mX6_risingWay 0 := ⟨⟨(a_inG 606 (by decide +kernel) rfl), ini_X6, by decide +kernel, by decide⟩, (a_inG 605 (by decide +kernel) rfl), (a_inG 36 (by decide +kernel) rfl)⟩
theorem k_mX6_dinOf : a_cv mX6_dinOf 1 := ⟨⟨(a_inG 504 (by decide +kernel) rfl), ini_X6, by decide +kernel, by decide⟩, (a_inG 503 (by decide +kernel) rfl), (a_inG 22 (by decide +kernel) rfl)⟩
theorem k_mX6_isIn : a_cv mX6_isIn 2 := ⟨⟨(a_inG 572 (by decide +kernel) rfl), ini_X6, by decide +kernel, by decide⟩, (a_inG 571 (by decide +kernel) rfl), (a_inG 34 (by decide +kernel) rfl)⟩
theorem k_mX6_meets : a_cv mX6_meets 4 := ⟨⟨(a_inG 568 (by decide +kernel) rfl), ini_X6, by decide +kernel, by decide⟩, (a_inG 567 (by decide +kernel) rfl), (a_inG 33 (by decide +kernel) rfl)⟩
theorem k_mX6_secondsAtDoor : a_cv mX6_secondsAtDoor 2 := ⟨⟨(a_inG 578 (by decide +kernel) rfl), ini_X6, by decide +kernel, by decide⟩, (a_inG 577 (by decide +kernel) rfl), (a_inG 35 (by decide +kernel) rfl)⟩
theorem k_mX6_secondsBetween : a_cv mX6_secondsBetween 2 := ⟨⟨(a_inG 554 (by decide +kernel) rfl), ini_X6, by decide +kernel, by decide⟩, (a_inG 553 (by decide +kernel) rfl), (a_inG 31 (by decide +kernel) rfl)⟩
theorem k_mX6_countNear : a_cv mX6_countNear 3 := ⟨⟨(a_inG 714 (by decide +kernel) rfl), ini_X6, by decide +kernel, by decide⟩, (a_inG 713 (by decide +kernel) rfl), (a_inG 43 (by decide +kernel) rfl)⟩
theorem k_mX7_init : a_ci mX7_init 0 := ⟨⟨(a_inG 104 (by decide +kernel) rfl), ini_X7, by decide +kernel, by decide⟩, rfl, rfl, (a_inG 103 (by decide +kernel) rfl)⟩
theorem k_mX7_add : a_cv mX7_add 1 := ⟨⟨(a_inG 389 (by decide +kernel) rfl), ini_X7, by decide +kernel, by decide⟩, (a_inG 388 (by decide +kernel) rfl), (a_inG 1 (by decide +kernel) rfl)⟩
theorem k_mX7_empty : a_cv mX7_empty 0 := ⟨⟨(a_inG 458 (by decide +kernel) rfl), ini_X7, by decide +kernel, by decide⟩, (a_inG 457 (by decide +kernel) rfl), (a_inG 16 (by decide +kernel) rfl)⟩
theorem k_mX7_readInto : a_cv mX7_readInto 1 := ⟨⟨(a_inG 398 (by decide +kernel) rfl), ini_X7, by decide +kernel, by decide⟩, (a_inG 397 (by decide +kernel) rfl), (a_inG 2 (by decide +kernel) rfl)⟩
theorem k_mX7_readClause : a_cv mX7_readClause 2 := ⟨⟨(a_inG 411 (by decide +kernel) rfl), ini_X7, by decide +kernel, by decide⟩, (a_inG 410 (by decide +kernel) rfl), (a_inG 5 (by decide +kernel) rfl)⟩
theorem k_mX7_readVan : a_cv mX7_readVan 2 := ⟨⟨(a_inG 419 (by decide +kernel) rfl), ini_X7, by decide +kernel, by decide⟩, (a_inG 418 (by decide +kernel) rfl), (a_inG 7 (by decide +kernel) rfl)⟩
theorem k_mX7_readStop : a_cv mX7_readStop 1 := ⟨⟨(a_inG 434 (by decide +kernel) rfl), ini_X7, by decide +kernel, by decide⟩, (a_inG 433 (by decide +kernel) rfl), (a_inG 10 (by decide +kernel) rfl)⟩
theorem k_mX7_readDin : a_cv mX7_readDin 1 := ⟨⟨(a_inG 442 (by decide +kernel) rfl), ini_X7, by decide +kernel, by decide⟩, (a_inG 441 (by decide +kernel) rfl), (a_inG 12 (by decide +kernel) rfl)⟩
theorem k_mX7_readNeighbour : a_cv mX7_readNeighbour 1 := ⟨⟨(a_inG 450 (by decide +kernel) rfl), ini_X7, by decide +kernel, by decide⟩, (a_inG 449 (by decide +kernel) rfl), (a_inG 14 (by decide +kernel) rfl)⟩
theorem k_mX7_number : a_cv mX7_number 2 := ⟨⟨(a_inG 423 (by decide +kernel) rfl), ini_X7, by decide +kernel, by decide⟩, (a_inG 422 (by decide +kernel) rfl), (a_inG 8 (by decide +kernel) rfl)⟩
theorem k_mX7_endClause : a_cv mX7_endClause 0 := ⟨⟨(a_inG 430 (by decide +kernel) rfl), ini_X7, by decide +kernel, by decide⟩, (a_inG 429 (by decide +kernel) rfl), (a_inG 9 (by decide +kernel) rfl)⟩
theorem k_mX7_peek : a_cv mX7_peek 0 := ⟨⟨(a_inG 406 (by decide +kernel) rfl), ini_X7, by decide +kernel, by decide⟩, (a_inG 405 (by decide +kernel) rfl), (a_inG 4 (by decide +kernel) rfl)⟩
theorem k_mX7_isFigure : a_cs mX7_isFigure 1 := ⟨⟨(a_inG 426 (by decide +kernel) rfl), ini_X7, by decide +kernel, by decide⟩, (a_inG 425 (by decide +kernel) rfl)⟩
theorem k_mX7_fail : a_cv mX7_fail 2 := ⟨⟨(a_inG 415 (by decide +kernel) rfl), ini_X7, by decide +kernel, by decide⟩, (a_inG 414 (by decide +kernel) rfl), (a_inG 6 (by decide +kernel) rfl)⟩
theorem k_mX8_init : a_ci mX8_init 0 := ⟨⟨(a_inG 230 (by decide +kernel) rfl), ini_X8, by decide +kernel, by decide⟩, rfl, rfl, (a_inG 229 (by decide +kernel) rfl)⟩
theorem k_mX8_run : a_cv mX8_run 4 := ⟨⟨(a_inG 537 (by decide +kernel) rfl), ini_X8, by decide +kernel, by decide⟩, (a_inG 536 (by decide +kernel) rfl), (a_inG 28 (by decide +kernel) rfl)⟩
theorem k_mX8_begin : a_cv mX8_begin 1 := ⟨⟨(a_inG 541 (by decide +kernel) rfl), ini_X8, by decide +kernel, by decide⟩, (a_inG 540 (by decide +kernel) rfl), (a_inG 29 (by decide +kernel) rfl)⟩
theorem k_mX8_firstUnit : a_cs mX8_firstUnit 1 := ⟨⟨(a_inG 545 (by decide +kernel) rfl), ini_X8, by decide +kernel, by decide⟩, (a_inG 544 (by decide +kernel) rfl)⟩
theorem k_mX8_call : a_cv mX8_call 3 := ⟨⟨(a_inG 550 (by decide +kernel) rfl), ini_X8, by decide +kernel, by decide⟩, (a_inG 549 (by decide +kernel) rfl), (a_inG 30 (by decide +kernel) rfl)⟩
theorem k_mX9_init : a_ci mX9_init 0 := ⟨⟨(a_inG 96 (by decide +kernel) rfl), ini_X9, by decide +kernel, by decide⟩, rfl, rfl, (a_inG 95 (by decide +kernel) rfl)⟩
theorem k_mX9_feed : a_cv mX9_feed 1 := ⟨⟨(a_inG 381 (by decide +kernel) rfl), ini_X9, by decide +kernel, by decide⟩, (a_inG 379 (by decide +kernel) rfl), (a_inG 380 (by decide +kernel) rfl)⟩
theorem k_mX9_street : a_cv mX9_street 0 := ⟨⟨(a_inG 394 (by decide +kernel) rfl), ini_X9, by decide +kernel, by decide⟩, (a_inG 392 (by decide +kernel) rfl), (a_inG 393 (by decide +kernel) rfl)⟩
theorem k_mX9_fault : a_cv mX9_fault 0 := ⟨⟨(a_inG 482 (by decide +kernel) rfl), ini_X9, by decide +kernel, by decide⟩, (a_inG 480 (by decide +kernel) rfl), (a_inG 481 (by decide +kernel) rfl)⟩
theorem k_mX9_told : a_cv mX9_told 1 := ⟨⟨(a_inG 486 (by decide +kernel) rfl), ini_X9, by decide +kernel, by decide⟩, (a_inG 484 (by decide +kernel) rfl), (a_inG 485 (by decide +kernel) rfl)⟩
theorem k_mX9_stop : a_cv mX9_stop 2 := ⟨⟨(a_inG 494 (by decide +kernel) rfl), ini_X9, by decide +kernel, by decide⟩, (a_inG 492 (by decide +kernel) rfl), (a_inG 493 (by decide +kernel) rfl)⟩
theorem k_mX9_din : a_cv mX9_din 1 := ⟨⟨(a_inG 500 (by decide +kernel) rfl), ini_X9, by decide +kernel, by decide⟩, (a_inG 498 (by decide +kernel) rfl), (a_inG 499 (by decide +kernel) rfl)⟩
theorem k_mX9_round : a_cv mX9_round 2 := ⟨⟨(a_inG 508 (by decide +kernel) rfl), ini_X9, by decide +kernel, by decide⟩, (a_inG 506 (by decide +kernel) rfl), (a_inG 507 (by decide +kernel) rfl)⟩
theorem k_mX9_fetch : a_cv mX9_fetch 1 := ⟨⟨(a_inG 589 (by decide +kernel) rfl), ini_X9, by decide +kernel, by decide⟩, (a_inG 587 (by decide +kernel) rfl), (a_inG 588 (by decide +kernel) rfl)⟩
theorem k_mX9_order : a_cv mX9_order 1 := ⟨⟨(a_inG 594 (by decide +kernel) rfl), ini_X9, by decide +kernel, by decide⟩, (a_inG 592 (by decide +kernel) rfl), (a_inG 593 (by decide +kernel) rfl)⟩
theorem k_mX9_thank : a_cv mX9_thank 1 := ⟨⟨(a_inG 598 (by decide +kernel) rfl), ini_X9, by decide +kernel, by decide⟩, (a_inG 596 (by decide +kernel) rfl), (a_inG 597 (by decide +kernel) rfl)⟩
theorem k_mX9_drift : a_cv mX9_drift 1 := ⟨⟨(a_inG 602 (by decide +kernel) rfl), ini_X9, by decide +kernel, by decide⟩, (a_inG 600 (by decide +kernel) rfl), (a_inG 601 (by decide +kernel) rfl)⟩
theorem k_mX9_undo : a_cv mX9_undo 1 := ⟨⟨(a_inG 622 (by decide +kernel) rfl), ini_X9, by decide +kernel, by decide⟩, (a_inG 620 (by decide +kernel) rfl), (a_inG 621 (by decide +kernel) rfl)⟩
theorem k_mX9_comes : a_cv mX9_comes 3 := ⟨⟨(a_inG 631 (by decide +kernel) rfl), ini_X9, by decide +kernel, by decide⟩, (a_inG 629 (by decide +kernel) rfl), (a_inG 630 (by decide +kernel) rfl)⟩
theorem k_mX9_home : a_cv mX9_home 2 := ⟨⟨(a_inG 635 (by decide +kernel) rfl), ini_X9, by decide +kernel, by decide⟩, (a_inG 633 (by decide +kernel) rfl), (a_inG 634 (by decide +kernel) rfl)⟩
theorem k_mX9_outcome : a_cv mX9_outcome 2 := ⟨⟨(a_inG 639 (by decide +kernel) rfl), ini_X9, by decide +kernel, by decide⟩, (a_inG 637 (by decide +kernel) rfl), (a_inG 638 (by decide +kernel) rfl)⟩
theorem k_mX9_bath : a_cv mX9_bath 4 := ⟨⟨(a_inG 643 (by decide +kernel) rfl), ini_X9, by decide +kernel, by decide⟩, (a_inG 641 (by decide +kernel) rfl), (a_inG 642 (by decide +kernel) rfl)⟩
theorem k_mX9_bestWay : a_cv mX9_bestWay 2 := ⟨⟨(a_inG 647 (by decide +kernel) rfl), ini_X9, by decide +kernel, by decide⟩, (a_inG 645 (by decide +kernel) rfl), (a_inG 646 (by decide +kernel) rfl)⟩
theorem k_mX9_pretends : a_cv mX9_pretends 3 := ⟨⟨(a_inG 706 (by decide +kernel) rfl), ini_X9, by decide +kernel, by decide⟩, (a_inG 704 (by decide +kernel) rfl), (a_inG 705 (by decide +kernel) rfl)⟩
theorem k_mX9_locker : a_cv mX9_locker 3 := ⟨⟨(a_inG 710 (by decide +kernel) rfl), ini_X9, by decide +kernel, by decide⟩, (a_inG 708 (by decide +kernel) rfl), (a_inG 709 (by decide +kernel) rfl)⟩
theorem k_mX9_bears : a_cv mX9_bears 1 := ⟨⟨(a_inG 718 (by decide +kernel) rfl), ini_X9, by decide +kernel, by decide⟩, (a_inG 716 (by decide +kernel) rfl), (a_inG 717 (by decide +kernel) rfl)⟩
theorem k_mX9_heard : a_cv mX9_heard 2 := ⟨⟨(a_inG 722 (by decide +kernel) rfl), ini_X9, by decide +kernel, by decide⟩, (a_inG 720 (by decide +kernel) rfl), (a_inG 721 (by decide +kernel) rfl)⟩
theorem k_mX9_see : a_cv mX9_see 2 := ⟨⟨(a_inG 728 (by decide +kernel) rfl), ini_X9, by decide +kernel, by decide⟩, (a_inG 726 (by decide +kernel) rfl), (a_inG 727 (by decide +kernel) rfl)⟩
theorem k_mX9_rang : a_cv mX9_rang 2 := ⟨⟨(a_inG 736 (by decide +kernel) rfl), ini_X9, by decide +kernel, by decide⟩, (a_inG 734 (by decide +kernel) rfl), (a_inG 735 (by decide +kernel) rfl)⟩
theorem k_mX9_write : a_cv mX9_write 2 := ⟨⟨(a_inG 752 (by decide +kernel) rfl), ini_X9, by decide +kernel, by decide⟩, (a_inG 750 (by decide +kernel) rfl), (a_inG 751 (by decide +kernel) rfl)⟩
theorem k_mX9_judge : a_cv mX9_judge 0 := ⟨⟨(a_inG 760 (by decide +kernel) rfl), ini_X9, by decide +kernel, by decide⟩, (a_inG 758 (by decide +kernel) rfl), (a_inG 759 (by decide +kernel) rfl)⟩
theorem k_mX9_tear : a_cv mX9_tear 0 := ⟨⟨(a_inG 768 (by decide +kernel) rfl), ini_X9, by decide +kernel, by decide⟩, (a_inG 766 (by decide +kernel) rfl), (a_inG 767 (by decide +kernel) rfl)⟩
theorem k_mX9_seed : a_cv mX9_seed 1 := ⟨⟨(a_inG 772 (by decide +kernel) rfl), ini_X9, by decide +kernel, by decide⟩, (a_inG 770 (by decide +kernel) rfl), (a_inG 771 (by decide +kernel) rfl)⟩
theorem k_mX9_keep : a_cv mX9_keep 1 := ⟨⟨(a_inG 776 (by decide +kernel) rfl), ini_X9, by decide +kernel, by decide⟩, (a_inG 774 (by decide +kernel) rfl), (a_inG 775 (by decide +kernel) rfl)⟩
theorem k_mX9_goBack : a_cv mX9_goBack 1 := ⟨⟨(a_inG 780 (by decide +kernel) rfl), ini_X9, by decide +kernel, by decide⟩, (a_inG 778 (by decide +kernel) rfl), (a_inG 779 (by decide +kernel) rfl)⟩
theorem k_mX9_within : a_cs mX9_within 3 := ⟨⟨(a_inG 384 (by decide +kernel) rfl), ini_X9, by decide +kernel, by decide⟩, (a_inG 383 (by decide +kernel) rfl)⟩
theorem k_mX9_ringsAt : a_cs mX9_ringsAt 2 := ⟨⟨(a_inG 564 (by decide +kernel) rfl), ini_X9, by decide +kernel, by decide⟩, (a_inG 563 (by decide +kernel) rfl)⟩
theorem k_mX9_refusalOfTrip : a_cv mX9_refusalOfTrip 2 := ⟨⟨(a_inG 512 (by decide +kernel) rfl), ini_X9, by decide +kernel, by decide⟩, (a_inG 511 (by decide +kernel) rfl), (a_inG 23 (by decide +kernel) rfl)⟩
theorem k_mX9_drive : a_cv mX9_drive 2 := ⟨⟨(a_inG 533 (by decide +kernel) rfl), ini_X9, by decide +kernel, by decide⟩, (a_inG 532 (by decide +kernel) rfl), (a_inG 27 (by decide +kernel) rfl)⟩
theorem k_mX9_draw : a_cv mX9_draw 1 := ⟨⟨(a_inG 614 (by decide +kernel) rfl), ini_X9, by decide +kernel, by decide⟩, (a_inG 613 (by decide +kernel) rfl), (a_inG 38 (by decide +kernel) rfl)⟩
theorem k_mX9_orderByDraw : a_cv mX9_orderByDraw 0 := ⟨⟨(a_inG 610 (by decide +kernel) rfl), ini_X9, by decide +kernel, by decide⟩, (a_inG 609 (by decide +kernel) rfl), (a_inG 37 (by decide +kernel) rfl)⟩
theorem k_mX9_bestToAsk : a_cv mX9_bestToAsk 1 := ⟨⟨(a_inG 744 (by decide +kernel) rfl), ini_X9, by decide +kernel, by decide⟩, (a_inG 743 (by decide +kernel) rfl), (a_inG 46 (by decide +kernel) rfl)⟩
theorem k_mX10_init : a_ci mX10_init 0 := ⟨⟨(a_inG 785 (by decide +kernel) rfl), ini_X10, by decide +kernel, by decide⟩, rfl, rfl, (a_inG 784 (by decide +kernel) rfl)⟩
theorem k_mX10_in : a_cs mX10_in 3 := ⟨⟨(a_inG 888 (by decide +kernel) rfl), ini_X10, by decide +kernel, by decide⟩, (a_inG 887 (by decide +kernel) rfl)⟩
theorem k_mX10_one : a_cs mX10_one 1 := ⟨⟨(a_inG 952 (by decide +kernel) rfl), ini_X10, by decide +kernel, by decide⟩, (a_inG 951 (by decide +kernel) rfl)⟩
theorem k_mX10_has : a_cs mX10_has 2 := ⟨⟨(a_inG 981 (by decide +kernel) rfl), ini_X10, by decide +kernel, by decide⟩, (a_inG 980 (by decide +kernel) rfl)⟩
theorem k_mX10_far : a_cs mX10_far 2 := ⟨⟨(a_inG 1006 (by decide +kernel) rfl), ini_X10, by decide +kernel, by decide⟩, (a_inG 1005 (by decide +kernel) rfl)⟩
theorem k_mX10_feed : a_cv mX10_feed 1 := ⟨⟨(a_inG 884 (by decide +kernel) rfl), ini_X10, by decide +kernel, by decide⟩, (a_inG 882 (by decide +kernel) rfl), (a_inG 883 (by decide +kernel) rfl)⟩
theorem k_mX10_here : a_cv mX10_here 0 := ⟨⟨(a_inG 898 (by decide +kernel) rfl), ini_X10, by decide +kernel, by decide⟩, (a_inG 897 (by decide +kernel) rfl), (a_inG 49 (by decide +kernel) rfl)⟩
theorem k_mX10_want : a_cv mX10_want 3 := ⟨⟨(a_inG 906 (by decide +kernel) rfl), ini_X10, by decide +kernel, by decide⟩, (a_inG 905 (by decide +kernel) rfl), (a_inG 51 (by decide +kernel) rfl)⟩
theorem k_mX10_takeNumber : a_cv mX10_takeNumber 0 := ⟨⟨(a_inG 918 (by decide +kernel) rfl), ini_X10, by decide +kernel, by decide⟩, (a_inG 917 (by decide +kernel) rfl), (a_inG 54 (by decide +kernel) rfl)⟩
theorem k_mX10_takeIn : a_cv mX10_takeIn 2 := ⟨⟨(a_inG 914 (by decide +kernel) rfl), ini_X10, by decide +kernel, by decide⟩, (a_inG 913 (by decide +kernel) rfl), (a_inG 53 (by decide +kernel) rfl)⟩
theorem k_mX10_takeRule : a_cv mX10_takeRule 1 := ⟨⟨(a_inG 910 (by decide +kernel) rfl), ini_X10, by decide +kernel, by decide⟩, (a_inG 909 (by decide +kernel) rfl), (a_inG 52 (by decide +kernel) rfl)⟩
theorem k_mX10_takeStop : a_cv mX10_takeStop 1 := ⟨⟨(a_inG 925 (by decide +kernel) rfl), ini_X10, by decide +kernel, by decide⟩, (a_inG 924 (by decide +kernel) rfl), (a_inG 55 (by decide +kernel) rfl)⟩
theorem k_mX10_takeDins : a_cv mX10_takeDins 1 := ⟨⟨(a_inG 929 (by decide +kernel) rfl), ini_X10, by decide +kernel, by decide⟩, (a_inG 928 (by decide +kernel) rfl), (a_inG 56 (by decide +kernel) rfl)⟩
theorem k_mX10_takeNeighbour : a_cv mX10_takeNeighbour 0 := ⟨⟨(a_inG 933 (by decide +kernel) rfl), ini_X10, by decide +kernel, by decide⟩, (a_inG 932 (by decide +kernel) rfl), (a_inG 57 (by decide +kernel) rfl)⟩
theorem k_mX10_takeClause : a_cv mX10_takeClause 0 := ⟨⟨(a_inG 902 (by decide +kernel) rfl), ini_X10, by decide +kernel, by decide⟩, (a_inG 901 (by decide +kernel) rfl), (a_inG 50 (by decide +kernel) rfl)⟩
theorem k_mX10_street : a_cv mX10_street 0 := ⟨⟨(a_inG 894 (by decide +kernel) rfl), ini_X10, by decide +kernel, by decide⟩, (a_inG 892 (by decide +kernel) rfl), (a_inG 893 (by decide +kernel) rfl)⟩
theorem k_mX10_take : a_cv mX10_take 0 := ⟨⟨(a_inG 937 (by decide +kernel) rfl), ini_X10, by decide +kernel, by decide⟩, (a_inG 936 (by decide +kernel) rfl), (a_inG 58 (by decide +kernel) rfl)⟩
theorem k_mX10_fault : a_cv mX10_fault 0 := ⟨⟨(a_inG 941 (by decide +kernel) rfl), ini_X10, by decide +kernel, by decide⟩, (a_inG 939 (by decide +kernel) rfl), (a_inG 940 (by decide +kernel) rfl)⟩
theorem k_mX10_isStop : a_cv mX10_isStop 1 := ⟨⟨(a_inG 960 (by decide +kernel) rfl), ini_X10, by decide +kernel, by decide⟩, (a_inG 959 (by decide +kernel) rfl), (a_inG 60 (by decide +kernel) rfl)⟩
theorem k_mX10_figures : a_cs mX10_figures 1 := ⟨⟨(a_inG 1000 (by decide +kernel) rfl), ini_X10, by decide +kernel, by decide⟩, (a_inG 999 (by decide +kernel) rfl)⟩
theorem k_mX10_stopOf : a_cs mX10_stopOf 2 := ⟨⟨(a_inG 1003 (by decide +kernel) rfl), ini_X10, by decide +kernel, by decide⟩, (a_inG 1002 (by decide +kernel) rfl)⟩
theorem k_mX10_isWay : a_cv mX10_isWay 1 := ⟨⟨(a_inG 978 (by decide +kernel) rfl), ini_X10, by decide +kernel, by decide⟩, (a_inG 977 (by decide +kernel) rfl), (a_inG 62 (by decide +kernel) rfl)⟩
theorem k_mX10_isHaste : a_cs mX10_isHaste 1 := ⟨⟨(a_inG 984 (by decide +kernel) rfl), ini_X10, by decide +kernel, by decide⟩, (a_inG 983 (by decide +kernel) rfl)⟩
theorem k_mX10_which : a_cv mX10_which 1 := ⟨⟨(a_inG 949 (by decide +kernel) rfl), ini_X10, by decide +kernel, by decide⟩, (a_inG 948 (by decide +kernel) rfl), (a_inG 59 (by decide +kernel) rfl)⟩
theorem k_mX10_told : a_cv mX10_told 1 := ⟨⟨(a_inG 945 (by decide +kernel) rfl), ini_X10, by decide +kernel, by decide⟩, (a_inG 943 (by decide +kernel) rfl), (a_inG 944 (by decide +kernel) rfl)⟩
theorem k_mX10_stop : a_cv mX10_stop 2 := ⟨⟨(a_inG 956 (by decide +kernel) rfl), ini_X10, by decide +kernel, by decide⟩, (a_inG 954 (by decide +kernel) rfl), (a_inG 955 (by decide +kernel) rfl)⟩
theorem k_mX10_dinAt : a_cv mX10_dinAt 1 := ⟨⟨(a_inG 970 (by decide +kernel) rfl), ini_X10, by decide +kernel, by decide⟩, (a_inG 969 (by decide +kernel) rfl), (a_inG 61 (by decide +kernel) rfl)⟩
theorem k_mX10_din : a_cv mX10_din 1 := ⟨⟨(a_inG 965 (by decide +kernel) rfl), ini_X10, by decide +kernel, by decide⟩, (a_inG 963 (by decide +kernel) rfl), (a_inG 964 (by decide +kernel) rfl)⟩
theorem k_mX10_isInAt : a_cv mX10_isInAt 2 := ⟨⟨(a_inG 1014 (by decide +kernel) rfl), ini_X10, by decide +kernel, by decide⟩, (a_inG 1013 (by decide +kernel) rfl), (a_inG 67 (by decide +kernel) rfl)⟩
theorem k_mX10_visit : a_cv mX10_visit 4 := ⟨⟨(a_inG 1010 (by decide +kernel) rfl), ini_X10, by decide +kernel, by decide⟩, (a_inG 1009 (by decide +kernel) rfl), (a_inG 66 (by decide +kernel) rfl)⟩
theorem k_mX10_roundIn : a_cv mX10_roundIn 3 := ⟨⟨(a_inG 997 (by decide +kernel) rfl), ini_X10, by decide +kernel, by decide⟩, (a_inG 996 (by decide +kernel) rfl), (a_inG 65 (by decide +kernel) rfl)⟩
theorem k_mX10_tryRound : a_cv mX10_tryRound 2 := ⟨⟨(a_inG 1053 (by decide +kernel) rfl), ini_X10, by decide +kernel, by decide⟩, (a_inG 1052 (by decide +kernel) rfl), (a_inG 69 (by decide +kernel) rfl)⟩
theorem k_mX10_copy : a_cv mX10_copy 2 := ⟨⟨(a_inG 993 (by decide +kernel) rfl), ini_X10, by decide +kernel, by decide⟩, (a_inG 992 (by decide +kernel) rfl), (a_inG 64 (by decide +kernel) rfl)⟩
theorem k_mX10_remember : a_cv mX10_remember 0 := ⟨⟨(a_inG 989 (by decide +kernel) rfl), ini_X10, by decide +kernel, by decide⟩, (a_inG 988 (by decide +kernel) rfl), (a_inG 63 (by decide +kernel) rfl)⟩
theorem k_mX10_round : a_cv mX10_round 2 := ⟨⟨(a_inG 974 (by decide +kernel) rfl), ini_X10, by decide +kernel, by decide⟩, (a_inG 972 (by decide +kernel) rfl), (a_inG 973 (by decide +kernel) rfl)⟩
theorem k_mX10_fetch : a_cv mX10_fetch 1 := ⟨⟨(a_inG 1018 (by decide +kernel) rfl), ini_X10, by decide +kernel, by decide⟩, (a_inG 1016 (by decide +kernel) rfl), (a_inG 1017 (by decide +kernel) rfl)⟩
theorem k_mX10_order : a_cv mX10_order 1 := ⟨⟨(a_inG 1023 (by decide +kernel) rfl), ini_X10, by decide +kernel, by decide⟩, (a_inG 1021 (by decide +kernel) rfl), (a_inG 1022 (by decide +kernel) rfl)⟩
theorem k_mX10_thank : a_cv mX10_thank 1 := ⟨⟨(a_inG 1027 (by decide +kernel) rfl), ini_X10, by decide +kernel, by decide⟩, (a_inG 1025 (by decide +kernel) rfl), (a_inG 1026 (by decide +kernel) rfl)⟩
theorem k_mX10_draw : a_cv mX10_draw 1 := ⟨⟨(a_inG 1036 (by decide +kernel) rfl), ini_X10, by decide +kernel, by decide⟩, (a_inG 1035 (by decide +kernel) rfl), (a_inG 68 (by decide +kernel) rfl)⟩
theorem k_mX10_drift : a_cv mX10_drift 1 := ⟨⟨(a_inG 1031 (by decide +kernel) rfl), ini_X10, by decide +kernel, by decide⟩, (a_inG 1029 (by decide +kernel) rfl), (a_inG 1030 (by decide +kernel) rfl)⟩
theorem k_mX10_undo : a_cv mX10_undo 1 := ⟨⟨(a_inG 1044 (by decide +kernel) rfl), ini_X10, by decide +kernel, by decide⟩, (a_inG 1042 (by decide +kernel) rfl), (a_inG 1043 (by decide +kernel) rfl)⟩
theorem k_mX10_comes : a_cv mX10_comes 3 := ⟨⟨(a_inG 1049 (by decide +kernel) rfl), ini_X10, by decide +kernel, by decide⟩, (a_inG 1047 (by decide +kernel) rfl), (a_inG 1048 (by decide +kernel) rfl)⟩
theorem k_mX10_home : a_cv mX10_home 2 := ⟨⟨(a_inG 1057 (by decide +kernel) rfl), ini_X10, by decide +kernel, by decide⟩, (a_inG 1055 (by decide +kernel) rfl), (a_inG 1056 (by decide +kernel) rfl)⟩
theorem k_mX10_outcome : a_cv mX10_outcome 2 := ⟨⟨(a_inG 1061 (by decide +kernel) rfl), ini_X10, by decide +kernel, by decide⟩, (a_inG 1059 (by decide +kernel) rfl), (a_inG 1060 (by decide +kernel) rfl)⟩
theorem k_mX10_comesTo : a_cv mX10_comesTo 2 := ⟨⟨(a_inG 1070 (by decide +kernel) rfl), ini_X10, by decide +kernel, by decide⟩, (a_inG 1069 (by decide +kernel) rfl), (a_inG 70 (by decide +kernel) rfl)⟩
theorem k_mX10_bath : a_cv mX10_bath 4 := ⟨⟨(a_inG 1065 (by decide +kernel) rfl), ini_X10, by decide +kernel, by decide⟩, (a_inG 1063 (by decide +kernel) rfl), (a_inG 1064 (by decide +kernel) rfl)⟩
theorem k_mX10_counting : a_cv mX10_counting 0 := ⟨⟨(a_inG 1079 (by decide +kernel) rfl), ini_X10, by decide +kernel, by decide⟩, (a_inG 1078 (by decide +kernel) rfl), (a_inG 71 (by decide +kernel) rfl)⟩
theorem k_mX10_wayOf : a_cv mX10_wayOf 1 := ⟨⟨(a_inG 1084 (by decide +kernel) rfl), ini_X10, by decide +kernel, by decide⟩, (a_inG 1083 (by decide +kernel) rfl), (a_inG 72 (by decide +kernel) rfl)⟩
theorem k_mX10_exchange : a_cv mX10_exchange 2 := ⟨⟨(a_inG 1092 (by decide +kernel) rfl), ini_X10, by decide +kernel, by decide⟩, (a_inG 1091 (by decide +kernel) rfl), (a_inG 74 (by decide +kernel) rfl)⟩
theorem k_mX10_nextRow : a_cv mX10_nextRow 1 := ⟨⟨(a_inG 1088 (by decide +kernel) rfl), ini_X10, by decide +kernel, by decide⟩, (a_inG 1087 (by decide +kernel) rfl), (a_inG 73 (by decide +kernel) rfl)⟩
theorem k_mX10_bestWay : a_cv mX10_bestWay 2 := ⟨⟨(a_inG 1074 (by decide +kernel) rfl), ini_X10, by decide +kernel, by decide⟩, (a_inG 1072 (by decide +kernel) rfl), (a_inG 1073 (by decide +kernel) rfl)⟩
theorem k_mX10_pretends : a_cv mX10_pretends 3 := ⟨⟨(a_inG 1096 (by decide +kernel) rfl), ini_X10, by decide +kernel, by decide⟩, (a_inG 1094 (by decide +kernel) rfl), (a_inG 1095 (by decide +kernel) rfl)⟩
theorem k_mX10_locker : a_cv mX10_locker 3 := ⟨⟨(a_inG 1100 (by decide +kernel) rfl), ini_X10, by decide +kernel, by decide⟩, (a_inG 1098 (by decide +kernel) rfl), (a_inG 1099 (by decide +kernel) rfl)⟩
theorem k_mX10_bears : a_cv mX10_bears 1 := ⟨⟨(a_inG 1104 (by decide +kernel) rfl), ini_X10, by decide +kernel, by decide⟩, (a_inG 1102 (by decide +kernel) rfl), (a_inG 1103 (by decide +kernel) rfl)⟩
theorem k_mX10_heard : a_cv mX10_heard 2 := ⟨⟨(a_inG 1108 (by decide +kernel) rfl), ini_X10, by decide +kernel, by decide⟩, (a_inG 1106 (by decide +kernel) rfl), (a_inG 1107 (by decide +kernel) rfl)⟩
theorem k_mX10_see : a_cv mX10_see 2 := ⟨⟨(a_inG 1115 (by decide +kernel) rfl), ini_X10, by decide +kernel, by decide⟩, (a_inG 1113 (by decide +kernel) rfl), (a_inG 1114 (by decide +kernel) rfl)⟩
theorem k_mX10_slipsBy : a_cv mX10_slipsBy 2 := ⟨⟨(a_inG 1127 (by decide +kernel) rfl), ini_X10, by decide +kernel, by decide⟩, (a_inG 1126 (by decide +kernel) rfl), (a_inG 76 (by decide +kernel) rfl)⟩
theorem k_mX10_findHastes : a_cv mX10_findHastes 1 := ⟨⟨(a_inG 1123 (by decide +kernel) rfl), ini_X10, by decide +kernel, by decide⟩, (a_inG 1122 (by decide +kernel) rfl), (a_inG 75 (by decide +kernel) rfl)⟩
theorem k_mX10_rang : a_cv mX10_rang 2 := ⟨⟨(a_inG 1119 (by decide +kernel) rfl), ini_X10, by decide +kernel, by decide⟩, (a_inG 1117 (by decide +kernel) rfl), (a_inG 1118 (by decide +kernel) rfl)⟩
theorem k_mX10_write : a_cv mX10_write 2 := ⟨⟨(a_inG 1131 (by decide +kernel) rfl), ini_X10, by decide +kernel, by decide⟩, (a_inG 1129 (by decide +kernel) rfl), (a_inG 1130 (by decide +kernel) rfl)⟩
theorem k_mX10_judge : a_cv mX10_judge 0 := ⟨⟨(a_inG 1136 (by decide +kernel) rfl), ini_X10, by decide +kernel, by decide⟩, (a_inG 1134 (by decide +kernel) rfl), (a_inG 1135 (by decide +kernel) rfl)⟩
theorem k_mX10_tear : a_cv mX10_tear 0 := ⟨⟨(a_inG 1140 (by decide +kernel) rfl), ini_X10, by decide +kernel, by decide⟩, (a_inG 1138 (by decide +kernel) rfl), (a_inG 1139 (by decide +kernel) rfl)⟩
theorem k_mX10_seed : a_cv mX10_seed 1 := ⟨⟨(a_inG 1144 (by decide +kernel) rfl), ini_X10, by decide +kernel, by decide⟩, (a_inG 1142 (by decide +kernel) rfl), (a_inG 1143 (by decide +kernel) rfl)⟩
theorem k_mX10_keep : a_cv mX10_keep 1 := ⟨⟨(a_inG 1148 (by decide +kernel) rfl), ini_X10, by decide +kernel, by decide⟩, (a_inG 1146 (by decide +kernel) rfl), (a_inG 1147 (by decide +kernel) rfl)⟩
theorem k_mX10_goBack : a_cv mX10_goBack 1 := ⟨⟨(a_inG 1152 (by decide +kernel) rfl), ini_X10, by decide +kernel, by decide⟩, (a_inG 1150 (by decide +kernel) rfl), (a_inG 1151 (by decide +kernel) rfl)⟩
theorem k_mJ6_bitCount_0f7a4 : a_cs mJ6_bitCount_0f7a4 1 := ⟨⟨(a_inG 581 (by decide +kernel) rfl), ini_J6, by decide +kernel, by decide⟩, (a_inG 580 (by decide +kernel) rfl)⟩
theorem k_mJ9_abs_0f7a4 : a_cs mJ9_abs_0f7a4 1 := ⟨⟨(a_inG 557 (by decide +kernel) rfl), ini_J9, by decide +kernel, by decide⟩, (a_inG 556 (by decide +kernel) rfl)⟩
theorem k_mJ9_max_7cf53 : a_cs mJ9_max_7cf53 2 := ⟨⟨(a_inG 748 (by decide +kernel) rfl), ini_J9, by decide +kernel, by decide⟩, (a_inG 747 (by decide +kernel) rfl)⟩
theorem k_mJ9_min_7cf53 : a_cs mJ9_min_7cf53 2 := ⟨⟨(a_inG 529 (by decide +kernel) rfl), ini_J9, by decide +kernel, by decide⟩, (a_inG 528 (by decide +kernel) rfl)⟩
theorem oi_in : Cond.instanceMethod objectInit ∈ gT := (a_inG 98 (by decide +kernel) rfl)
theorem oi_code : Cond.code objectInit ⟨#[0xb1]⟩ 1 none ∈ gT := (a_inG 99 (by decide +kernel) rfl)
theorem jm_abs_s : Cond.static Lib.Math.abs.name ∈ gT := (a_inG 556 (by decide +kernel) rfl)
theorem jm_abs_c : Cond.code Lib.Math.abs.name Lib.Math.abs.code 1 (some .int) ∈ gT := (a_inG 557 (by decide +kernel) rfl)
theorem jm_max_s : Cond.static Lib.Math.max.name ∈ gT := (a_inG 747 (by decide +kernel) rfl)
theorem jm_max_c : Cond.code Lib.Math.max.name Lib.Math.max.code 2 (some .int) ∈ gT := (a_inG 748 (by decide +kernel) rfl)
theorem jm_min_s : Cond.static Lib.Math.min.name ∈ gT := (a_inG 528 (by decide +kernel) rfl)
theorem jm_min_c : Cond.code Lib.Math.min.name Lib.Math.min.code 2 (some .int) ∈ gT := (a_inG 529 (by decide +kernel) rfl)
theorem jm_i : Cond.initialized "java/lang/Math" ∈ gT := (a_inG 89 (by decide +kernel) rfl)
theorem js_i : Cond.initialized "java/lang/System" ∈ gT := (a_inG 88 (by decide +kernel) rfl)
theorem js_n : Cond.native arraycopyName ∈ gT := (a_inG 465 (by decide +kernel) rfl)
theorem js_s : Cond.static arraycopyName ∈ gT := (a_inG 464 (by decide +kernel) rfl)
theorem cl_L_7 : Cond.classLink RL 7 RX9 ∈ gT := (a_inG 92 (by decide +kernel) rfl)
theorem cl_X9_7 : Cond.classLink RX9 7 RX7 ∈ gT := (a_inG 100 (by decide +kernel) rfl)
theorem cl_X9_16 : Cond.classLink RX9 16 RX6 ∈ gT := (a_inG 129 (by decide +kernel) rfl)
theorem cl_X9_26 : Cond.classLink RX9 26 RX1 ∈ gT := (a_inG 188 (by decide +kernel) rfl)
theorem cl_X9_36 : Cond.classLink RX9 36 RX8 ∈ gT := (a_inG 226 (by decide +kernel) rfl)
theorem cl_X8_9 : Cond.classLink RX8 9 RX1 ∈ gT := (a_inG 232 (by decide +kernel) rfl)
theorem cl_X9_43 : Cond.classLink RX9 43 RX3 ∈ gT := (a_inG 264 (by decide +kernel) rfl)
theorem cl_X3_9 : Cond.classLink RX3 9 RX1 ∈ gT := (a_inG 270 (by decide +kernel) rfl)
theorem cl_X9_50 : Cond.classLink RX9 50 RX5 ∈ gT := (a_inG 284 (by decide +kernel) rfl)
theorem cl_X9_57 : Cond.classLink RX9 57 RX0 ∈ gT := (a_inG 302 (by decide +kernel) rfl)
theorem cl_X9_64 : Cond.classLink RX9 64 RX2 ∈ gT := (a_inG 319 (by decide +kernel) rfl)
theorem cl_X2_7 : Cond.classLink RX2 7 RX1 ∈ gT := (a_inG 326 (by decide +kernel) rfl)
theorem cl_X9_221 : Cond.classLink RX9 221 RX4 ∈ gT := (a_inG 648 (by decide +kernel) rfl)
theorem cl_L_10 : Cond.classLink RL 10 RX10 ∈ gT := (a_inG 781 (by decide +kernel) rfl)
theorem ins_X9 : Cond.instantiable RX9 12 ∈ gT := (a_inG 93 (by decide +kernel) rfl)
theorem ins_X7 : Cond.instantiable RX7 6 ∈ gT := (a_inG 101 (by decide +kernel) rfl)
theorem ins_X6 : Cond.instantiable RX6 11 ∈ gT := (a_inG 130 (by decide +kernel) rfl)
theorem ins_X1 : Cond.instantiable RX1 5 ∈ gT := (a_inG 189 (by decide +kernel) rfl)
theorem ins_X8 : Cond.instantiable RX8 8 ∈ gT := (a_inG 227 (by decide +kernel) rfl)
theorem ins_X3 : Cond.instantiable RX3 3 ∈ gT := (a_inG 265 (by decide +kernel) rfl)
theorem ins_X5 : Cond.instantiable RX5 3 ∈ gT := (a_inG 285 (by decide +kernel) rfl)
theorem ins_X0 : Cond.instantiable RX0 3 ∈ gT := (a_inG 303 (by decide +kernel) rfl)
theorem ins_X2 : Cond.instantiable RX2 3 ∈ gT := (a_inG 321 (by decide +kernel) rfl)
theorem ins_X4 : Cond.instantiable RX4 8 ∈ gT := (a_inG 649 (by decide +kernel) rfl)
theorem ins_X10 : Cond.instantiable RX10 31 ∈ gT := (a_inG 782 (by decide +kernel) rfl)
theorem ac_int : Cond.arrayClass .int ∈ gT := (a_inG 128 (by decide +kernel) rfl)
theorem ac_boolean : Cond.arrayClass .boolean ∈ gT := (a_inG 301 (by decide +kernel) rfl)
end
section
theorem dX0_init_0 : decode cX0_init 0 = .ok (.aload_n 0, 1) := by decide +kernel
theorem dX0_init_1 : decode cX0_init 1 = .ok (.invokespecial 3, 3) := by decide +kernel
theorem dX0_init_4 : decode cX0_init 4 = .ok (.aload_n 0, 1) := by decide +kernel
theorem dX0_init_5 : decode cX0_init 5 = .ok (.bipush 20, 2) := by decide +kernel
theorem dX0_init_7 : decode cX0_init 7 = .ok (.newarray .int, 2) := by decide +kernel
theorem dX0_init_9 : decode cX0_init 9 = .ok (.putfield 9, 3) := by decide +kernel
theorem dX0_init_12 : decode cX0_init 12 = .ok (.aload_n 0, 1) := by decide +kernel
theorem dX0_init_13 : decode cX0_init 13 = .ok (.bipush 20, 2) := by decide +kernel
theorem dX0_init_15 : decode cX0_init 15 = .ok (.newarray .int, 2) := by decide +kernel
theorem dX0_init_17 : decode cX0_init 17 = .ok (.putfield 15, 3) := by decide +kernel
theorem dX0_init_20 : decode cX0_init 20 = .ok (.aload_n 0, 1) := by decide +kernel
theorem dX0_init_21 : decode cX0_init 21 = .ok (.iconst 0, 1) := by decide +kernel
theorem dX0_init_22 : decode cX0_init 22 = .ok (.putfield 18, 3) := by decide +kernel
theorem dX0_init_25 : decode cX0_init 25 = .ok (.return_, 1) := by decide +kernel
theorem dX0_forget_0 : decode cX0_forget 0 = .ok (.aload_n 0, 1) := by decide +kernel
theorem dX0_forget_1 : decode cX0_forget 1 = .ok (.iconst 0, 1) := by decide +kernel
theorem dX0_forget_2 : decode cX0_forget 2 = .ok (.putfield 18, 3) := by decide +kernel
theorem dX0_forget_5 : decode cX0_forget 5 = .ok (.return_, 1) := by decide +kernel
theorem dX0_add_0 : decode cX0_add 0 = .ok (.aload_n 0, 1) := by decide +kernel
theorem dX0_add_1 : decode cX0_add 1 = .ok (.getfield 18, 3) := by decide +kernel
theorem dX0_add_4 : decode cX0_add 4 = .ok (.bipush 20, 2) := by decide +kernel
theorem dX0_add_6 : decode cX0_add 6 = .ok (.if_icmp .lt 5, 3) := by decide +kernel
theorem dX0_add_9 : decode cX0_add 9 = .ok (.iconst 0, 1) := by decide +kernel
theorem dX0_add_10 : decode cX0_add 10 = .ok (.ireturn, 1) := by decide +kernel
theorem dX0_add_11 : decode cX0_add 11 = .ok (.aload_n 0, 1) := by decide +kernel
theorem dX0_add_12 : decode cX0_add 12 = .ok (.getfield 9, 3) := by decide +kernel
theorem dX0_add_15 : decode cX0_add 15 = .ok (.aload_n 0, 1) := by decide +kernel
theorem dX0_add_16 : decode cX0_add 16 = .ok (.getfield 18, 3) := by decide +kernel
theorem dX0_add_19 : decode cX0_add 19 = .ok (.iload_n 1, 1) := by decide +kernel
theorem dX0_add_20 : decode cX0_add 20 = .ok (.iastore, 1) := by decide +kernel
theorem dX0_add_21 : decode cX0_add 21 = .ok (.aload_n 0, 1) := by decide +kernel
theorem dX0_add_22 : decode cX0_add 22 = .ok (.getfield 15, 3) := by decide +kernel
theorem dX0_add_25 : decode cX0_add 25 = .ok (.aload_n 0, 1) := by decide +kernel
theorem dX0_add_26 : decode cX0_add 26 = .ok (.getfield 18, 3) := by decide +kernel
theorem dX0_add_29 : decode cX0_add 29 = .ok (.iload_n 2, 1) := by decide +kernel
theorem dX0_add_30 : decode cX0_add 30 = .ok (.iastore, 1) := by decide +kernel
theorem dX0_add_31 : decode cX0_add 31 = .ok (.aload_n 0, 1) := by decide +kernel
theorem dX0_add_32 : decode cX0_add 32 = .ok (.dup, 1) := by decide +kernel
theorem dX0_add_33 : decode cX0_add 33 = .ok (.getfield 18, 3) := by decide +kernel
theorem dX0_add_36 : decode cX0_add 36 = .ok (.iconst 1, 1) := by decide +kernel
theorem dX0_add_37 : decode cX0_add 37 = .ok (.iadd, 1) := by decide +kernel
theorem dX0_add_38 : decode cX0_add 38 = .ok (.putfield 18, 3) := by decide +kernel
theorem dX0_add_41 : decode cX0_add 41 = .ok (.iconst 1, 1) := by decide +kernel
theorem dX0_add_42 : decode cX0_add 42 = .ok (.ireturn, 1) := by decide +kernel
theorem dX0_firstWrong_0 : decode cX0_firstWrong 0 = .ok (.iconst 0, 1) := by decide +kernel
theorem dX0_firstWrong_1 : decode cX0_firstWrong 1 = .ok (.istore_n 2, 1) := by decide +kernel
theorem dX0_firstWrong_2 : decode cX0_firstWrong 2 = .ok (.iload_n 2, 1) := by decide +kernel
theorem dX0_firstWrong_3 : decode cX0_firstWrong 3 = .ok (.aload_n 0, 1) := by decide +kernel
theorem dX0_firstWrong_4 : decode cX0_firstWrong 4 = .ok (.getfield 18, 3) := by decide +kernel
theorem dX0_firstWrong_7 : decode cX0_firstWrong 7 = .ok (.if_icmp .ge 31, 3) := by decide +kernel
theorem dX0_firstWrong_10 : decode cX0_firstWrong 10 = .ok (.aload_n 1, 1) := by decide +kernel
theorem dX0_firstWrong_11 : decode cX0_firstWrong 11 = .ok (.getfield 22, 3) := by decide +kernel
theorem dX0_firstWrong_14 : decode cX0_firstWrong 14 = .ok (.aload_n 0, 1) := by decide +kernel
theorem dX0_firstWrong_15 : decode cX0_firstWrong 15 = .ok (.getfield 9, 3) := by decide +kernel
theorem dX0_firstWrong_18 : decode cX0_firstWrong 18 = .ok (.iload_n 2, 1) := by decide +kernel
theorem dX0_firstWrong_19 : decode cX0_firstWrong 19 = .ok (.iaload, 1) := by decide +kernel
theorem dX0_firstWrong_20 : decode cX0_firstWrong 20 = .ok (.iaload, 1) := by decide +kernel
theorem dX0_firstWrong_21 : decode cX0_firstWrong 21 = .ok (.aload_n 0, 1) := by decide +kernel
theorem dX0_firstWrong_22 : decode cX0_firstWrong 22 = .ok (.getfield 15, 3) := by decide +kernel
theorem dX0_firstWrong_25 : decode cX0_firstWrong 25 = .ok (.iload_n 2, 1) := by decide +kernel
theorem dX0_firstWrong_26 : decode cX0_firstWrong 26 = .ok (.iaload, 1) := by decide +kernel
theorem dX0_firstWrong_27 : decode cX0_firstWrong 27 = .ok (.if_icmp .eq 5, 3) := by decide +kernel
theorem dX0_firstWrong_30 : decode cX0_firstWrong 30 = .ok (.iload_n 2, 1) := by decide +kernel
theorem dX0_firstWrong_31 : decode cX0_firstWrong 31 = .ok (.ireturn, 1) := by decide +kernel
theorem dX0_firstWrong_32 : decode cX0_firstWrong 32 = .ok (.iinc 2 1, 3) := by decide +kernel
theorem dX0_firstWrong_35 : decode cX0_firstWrong 35 = .ok (.goto (-33), 3) := by decide +kernel
theorem dX0_firstWrong_38 : decode cX0_firstWrong 38 = .ok (.iconst (-1), 1) := by decide +kernel
theorem dX0_firstWrong_39 : decode cX0_firstWrong 39 = .ok (.ireturn, 1) := by decide +kernel
theorem dX1_init_0 : decode cX1_init 0 = .ok (.aload_n 0, 1) := by decide +kernel
theorem dX1_init_1 : decode cX1_init 1 = .ok (.invokespecial 3, 3) := by decide +kernel
theorem dX1_init_4 : decode cX1_init 4 = .ok (.aload_n 0, 1) := by decide +kernel
theorem dX1_init_5 : decode cX1_init 5 = .ok (.bipush 7, 2) := by decide +kernel
theorem dX1_init_7 : decode cX1_init 7 = .ok (.newarray .int, 2) := by decide +kernel
theorem dX1_init_9 : decode cX1_init 9 = .ok (.putfield 9, 3) := by decide +kernel
theorem dX1_init_12 : decode cX1_init 12 = .ok (.aload_n 0, 1) := by decide +kernel
theorem dX1_init_13 : decode cX1_init 13 = .ok (.bipush 7, 2) := by decide +kernel
theorem dX1_init_15 : decode cX1_init 15 = .ok (.newarray .int, 2) := by decide +kernel
theorem dX1_init_17 : decode cX1_init 17 = .ok (.putfield 15, 3) := by decide +kernel
theorem dX1_init_20 : decode cX1_init 20 = .ok (.aload_n 0, 1) := by decide +kernel
theorem dX1_init_21 : decode cX1_init 21 = .ok (.iconst 0, 1) := by decide +kernel
theorem dX1_init_22 : decode cX1_init 22 = .ok (.putfield 18, 3) := by decide +kernel
theorem dX1_init_25 : decode cX1_init 25 = .ok (.aload_n 0, 1) := by decide +kernel
theorem dX1_init_26 : decode cX1_init 26 = .ok (.iconst 0, 1) := by decide +kernel
theorem dX1_init_27 : decode cX1_init 27 = .ok (.putfield 22, 3) := by decide +kernel
theorem dX1_init_30 : decode cX1_init 30 = .ok (.aload_n 0, 1) := by decide +kernel
theorem dX1_init_31 : decode cX1_init 31 = .ok (.iconst 0, 1) := by decide +kernel
theorem dX1_init_32 : decode cX1_init 32 = .ok (.putfield 25, 3) := by decide +kernel
theorem dX1_init_35 : decode cX1_init 35 = .ok (.aload_n 0, 1) := by decide +kernel
theorem dX1_init_36 : decode cX1_init 36 = .ok (.invokevirtual 28, 3) := by decide +kernel
theorem dX1_init_39 : decode cX1_init 39 = .ok (.return_, 1) := by decide +kernel
theorem dX1_begin_0 : decode cX1_begin 0 = .ok (.iconst 0, 1) := by decide +kernel
theorem dX1_begin_1 : decode cX1_begin 1 = .ok (.istore_n 1, 1) := by decide +kernel
theorem dX1_begin_2 : decode cX1_begin 2 = .ok (.iload_n 1, 1) := by decide +kernel
theorem dX1_begin_3 : decode cX1_begin 3 = .ok (.bipush 7, 2) := by decide +kernel
theorem dX1_begin_5 : decode cX1_begin 5 = .ok (.if_icmp .ge 23, 3) := by decide +kernel
theorem dX1_begin_8 : decode cX1_begin 8 = .ok (.aload_n 0, 1) := by decide +kernel
theorem dX1_begin_9 : decode cX1_begin 9 = .ok (.getfield 9, 3) := by decide +kernel
theorem dX1_begin_12 : decode cX1_begin 12 = .ok (.iload_n 1, 1) := by decide +kernel
theorem dX1_begin_13 : decode cX1_begin 13 = .ok (.iconst 1, 1) := by decide +kernel
theorem dX1_begin_14 : decode cX1_begin 14 = .ok (.iastore, 1) := by decide +kernel
theorem dX1_begin_15 : decode cX1_begin 15 = .ok (.aload_n 0, 1) := by decide +kernel
theorem dX1_begin_16 : decode cX1_begin 16 = .ok (.getfield 15, 3) := by decide +kernel
theorem dX1_begin_19 : decode cX1_begin 19 = .ok (.iload_n 1, 1) := by decide +kernel
theorem dX1_begin_20 : decode cX1_begin 20 = .ok (.iconst 0, 1) := by decide +kernel
theorem dX1_begin_21 : decode cX1_begin 21 = .ok (.iastore, 1) := by decide +kernel
theorem dX1_begin_22 : decode cX1_begin 22 = .ok (.iinc 1 1, 3) := by decide +kernel
theorem dX1_begin_25 : decode cX1_begin 25 = .ok (.goto (-23), 3) := by decide +kernel
theorem dX1_begin_28 : decode cX1_begin 28 = .ok (.aload_n 0, 1) := by decide +kernel
theorem dX1_begin_29 : decode cX1_begin 29 = .ok (.iconst 0, 1) := by decide +kernel
theorem dX1_begin_30 : decode cX1_begin 30 = .ok (.putfield 18, 3) := by decide +kernel
theorem dX1_begin_33 : decode cX1_begin 33 = .ok (.aload_n 0, 1) := by decide +kernel
theorem dX1_begin_34 : decode cX1_begin 34 = .ok (.iconst 0, 1) := by decide +kernel
theorem dX1_begin_35 : decode cX1_begin 35 = .ok (.putfield 22, 3) := by decide +kernel
theorem dX1_begin_38 : decode cX1_begin 38 = .ok (.aload_n 0, 1) := by decide +kernel
theorem dX1_begin_39 : decode cX1_begin 39 = .ok (.iconst 0, 1) := by decide +kernel
theorem dX1_begin_40 : decode cX1_begin 40 = .ok (.putfield 25, 3) := by decide +kernel
theorem dX1_begin_43 : decode cX1_begin 43 = .ok (.return_, 1) := by decide +kernel
theorem dX1_copy_0 : decode cX1_copy 0 = .ok (.aload_n 1, 1) := by decide +kernel
theorem dX1_copy_1 : decode cX1_copy 1 = .ok (.getfield 9, 3) := by decide +kernel
theorem dX1_copy_4 : decode cX1_copy 4 = .ok (.iconst 0, 1) := by decide +kernel
theorem dX1_copy_5 : decode cX1_copy 5 = .ok (.aload_n 0, 1) := by decide +kernel
theorem dX1_copy_6 : decode cX1_copy 6 = .ok (.getfield 9, 3) := by decide +kernel
theorem dX1_copy_9 : decode cX1_copy 9 = .ok (.iconst 0, 1) := by decide +kernel
theorem dX1_copy_10 : decode cX1_copy 10 = .ok (.bipush 7, 2) := by decide +kernel
theorem dX1_copy_12 : decode cX1_copy 12 = .ok (.invokestatic 31, 3) := by decide +kernel
theorem dX1_copy_15 : decode cX1_copy 15 = .ok (.aload_n 1, 1) := by decide +kernel
theorem dX1_copy_16 : decode cX1_copy 16 = .ok (.getfield 15, 3) := by decide +kernel
theorem dX1_copy_19 : decode cX1_copy 19 = .ok (.iconst 0, 1) := by decide +kernel
theorem dX1_copy_20 : decode cX1_copy 20 = .ok (.aload_n 0, 1) := by decide +kernel
theorem dX1_copy_21 : decode cX1_copy 21 = .ok (.getfield 15, 3) := by decide +kernel
theorem dX1_copy_24 : decode cX1_copy 24 = .ok (.iconst 0, 1) := by decide +kernel
theorem dX1_copy_25 : decode cX1_copy 25 = .ok (.bipush 7, 2) := by decide +kernel
theorem dX1_copy_27 : decode cX1_copy 27 = .ok (.invokestatic 31, 3) := by decide +kernel
theorem dX1_copy_30 : decode cX1_copy 30 = .ok (.aload_n 0, 1) := by decide +kernel
theorem dX1_copy_31 : decode cX1_copy 31 = .ok (.aload_n 1, 1) := by decide +kernel
theorem dX1_copy_32 : decode cX1_copy 32 = .ok (.getfield 18, 3) := by decide +kernel
theorem dX1_copy_35 : decode cX1_copy 35 = .ok (.putfield 18, 3) := by decide +kernel
theorem dX1_copy_38 : decode cX1_copy 38 = .ok (.aload_n 0, 1) := by decide +kernel
theorem dX1_copy_39 : decode cX1_copy 39 = .ok (.aload_n 1, 1) := by decide +kernel
theorem dX1_copy_40 : decode cX1_copy 40 = .ok (.getfield 22, 3) := by decide +kernel
theorem dX1_copy_43 : decode cX1_copy 43 = .ok (.putfield 22, 3) := by decide +kernel
theorem dX1_copy_46 : decode cX1_copy 46 = .ok (.aload_n 0, 1) := by decide +kernel
theorem dX1_copy_47 : decode cX1_copy 47 = .ok (.aload_n 1, 1) := by decide +kernel
theorem dX1_copy_48 : decode cX1_copy 48 = .ok (.getfield 25, 3) := by decide +kernel
theorem dX1_copy_51 : decode cX1_copy 51 = .ok (.putfield 25, 3) := by decide +kernel
theorem dX1_copy_54 : decode cX1_copy 54 = .ok (.return_, 1) := by decide +kernel
theorem dX1_counts_0 : decode cX1_counts 0 = .ok (.aload_n 0, 1) := by decide +kernel
theorem dX1_counts_1 : decode cX1_counts 1 = .ok (.getfield 9, 3) := by decide +kernel
theorem dX1_counts_4 : decode cX1_counts 4 = .ok (.iload_n 1, 1) := by decide +kernel
theorem dX1_counts_5 : decode cX1_counts 5 = .ok (.iaload, 1) := by decide +kernel
theorem dX1_counts_6 : decode cX1_counts 6 = .ok (.iconst 1, 1) := by decide +kernel
theorem dX1_counts_7 : decode cX1_counts 7 = .ok (.if_icmp .eq 13, 3) := by decide +kernel
theorem dX1_counts_10 : decode cX1_counts 10 = .ok (.aload_n 0, 1) := by decide +kernel
theorem dX1_counts_11 : decode cX1_counts 11 = .ok (.getfield 9, 3) := by decide +kernel
theorem dX1_counts_14 : decode cX1_counts 14 = .ok (.iload_n 1, 1) := by decide +kernel
theorem dX1_counts_15 : decode cX1_counts 15 = .ok (.iaload, 1) := by decide +kernel
theorem dX1_counts_16 : decode cX1_counts 16 = .ok (.iconst 4, 1) := by decide +kernel
theorem dX1_counts_17 : decode cX1_counts 17 = .ok (.if_icmp .ne 7, 3) := by decide +kernel
theorem dX1_counts_20 : decode cX1_counts 20 = .ok (.iconst 1, 1) := by decide +kernel
theorem dX1_counts_21 : decode cX1_counts 21 = .ok (.goto 4, 3) := by decide +kernel
theorem dX1_counts_24 : decode cX1_counts 24 = .ok (.iconst 0, 1) := by decide +kernel
theorem dX1_counts_25 : decode cX1_counts 25 = .ok (.ireturn, 1) := by decide +kernel
theorem dX1_which_0 : decode cX1_which 0 = .ok (.iconst 0, 1) := by decide +kernel
theorem dX1_which_1 : decode cX1_which 1 = .ok (.istore_n 3, 1) := by decide +kernel
theorem dX1_which_2 : decode cX1_which 2 = .ok (.iconst 0, 1) := by decide +kernel
theorem dX1_which_3 : decode cX1_which 3 = .ok (.istore 4, 2) := by decide +kernel
theorem dX1_which_5 : decode cX1_which 5 = .ok (.iload 4, 2) := by decide +kernel
theorem dX1_which_7 : decode cX1_which 7 = .ok (.iload_n 2, 1) := by decide +kernel
theorem dX1_which_8 : decode cX1_which 8 = .ok (.if_icmp .ge 34, 3) := by decide +kernel
theorem dX1_which_11 : decode cX1_which 11 = .ok (.iload 4, 2) := by decide +kernel
theorem dX1_which_13 : decode cX1_which 13 = .ok (.bipush 7, 2) := by decide +kernel
theorem dX1_which_15 : decode cX1_which 15 = .ok (.if_icmp .ge 27, 3) := by decide +kernel
theorem dX1_which_18 : decode cX1_which 18 = .ok (.aload_n 0, 1) := by decide +kernel
theorem dX1_which_19 : decode cX1_which 19 = .ok (.getfield 9, 3) := by decide +kernel
theorem dX1_which_22 : decode cX1_which 22 = .ok (.iload 4, 2) := by decide +kernel
theorem dX1_which_24 : decode cX1_which 24 = .ok (.iaload, 1) := by decide +kernel
theorem dX1_which_25 : decode cX1_which 25 = .ok (.iload_n 1, 1) := by decide +kernel
theorem dX1_which_26 : decode cX1_which 26 = .ok (.if_icmp .ne 10, 3) := by decide +kernel
theorem dX1_which_29 : decode cX1_which 29 = .ok (.iload_n 3, 1) := by decide +kernel
theorem dX1_which_30 : decode cX1_which 30 = .ok (.iconst 1, 1) := by decide +kernel
theorem dX1_which_31 : decode cX1_which 31 = .ok (.iload 4, 2) := by decide +kernel
theorem dX1_which_33 : decode cX1_which 33 = .ok (.ishl, 1) := by decide +kernel
theorem dX1_which_34 : decode cX1_which 34 = .ok (.ior, 1) := by decide +kernel
theorem dX1_which_35 : decode cX1_which 35 = .ok (.istore_n 3, 1) := by decide +kernel
theorem dX1_which_36 : decode cX1_which 36 = .ok (.iinc 4 1, 3) := by decide +kernel
theorem dX1_which_39 : decode cX1_which 39 = .ok (.goto (-34), 3) := by decide +kernel
theorem dX1_which_42 : decode cX1_which 42 = .ok (.iload_n 3, 1) := by decide +kernel
theorem dX1_which_43 : decode cX1_which 43 = .ok (.ireturn, 1) := by decide +kernel
theorem dX2_init_0 : decode cX2_init 0 = .ok (.aload_n 0, 1) := by decide +kernel
theorem dX2_init_1 : decode cX2_init 1 = .ok (.invokespecial 1, 3) := by decide +kernel
theorem dX2_init_4 : decode cX2_init 4 = .ok (.aload_n 0, 1) := by decide +kernel
theorem dX2_init_5 : decode cX2_init 5 = .ok (.new 7, 3) := by decide +kernel
theorem dX2_init_8 : decode cX2_init 8 = .ok (.dup, 1) := by decide +kernel
theorem dX2_init_9 : decode cX2_init 9 = .ok (.invokespecial 9, 3) := by decide +kernel
theorem dX2_init_12 : decode cX2_init 12 = .ok (.putfield 10, 3) := by decide +kernel
theorem dX2_init_15 : decode cX2_init 15 = .ok (.aload_n 0, 1) := by decide +kernel
theorem dX2_init_16 : decode cX2_init 16 = .ok (.iconst 0, 1) := by decide +kernel
theorem dX2_init_17 : decode cX2_init 17 = .ok (.putfield 16, 3) := by decide +kernel
theorem dX2_init_20 : decode cX2_init 20 = .ok (.aload_n 0, 1) := by decide +kernel
theorem dX2_init_21 : decode cX2_init 21 = .ok (.iconst 0, 1) := by decide +kernel
theorem dX2_init_22 : decode cX2_init 22 = .ok (.putfield 20, 3) := by decide +kernel
theorem dX2_init_25 : decode cX2_init 25 = .ok (.return_, 1) := by decide +kernel
theorem dX3_init_0 : decode cX3_init 0 = .ok (.aload_n 0, 1) := by decide +kernel
theorem dX3_init_1 : decode cX3_init 1 = .ok (.invokespecial 3, 3) := by decide +kernel
theorem dX3_init_4 : decode cX3_init 4 = .ok (.aload_n 0, 1) := by decide +kernel
theorem dX3_init_5 : decode cX3_init 5 = .ok (.bipush 30, 2) := by decide +kernel
theorem dX3_init_7 : decode cX3_init 7 = .ok (.anewarray 9, 3) := by decide +kernel
theorem dX3_init_10 : decode cX3_init 10 = .ok (.putfield 11, 3) := by decide +kernel
theorem dX3_init_13 : decode cX3_init 13 = .ok (.aload_n 0, 1) := by decide +kernel
theorem dX3_init_14 : decode cX3_init 14 = .ok (.iconst 0, 1) := by decide +kernel
theorem dX3_init_15 : decode cX3_init 15 = .ok (.putfield 17, 3) := by decide +kernel
theorem dX3_init_18 : decode cX3_init 18 = .ok (.aload_n 0, 1) := by decide +kernel
theorem dX3_init_19 : decode cX3_init 19 = .ok (.iconst 0, 1) := by decide +kernel
theorem dX3_init_20 : decode cX3_init 20 = .ok (.putfield 21, 3) := by decide +kernel
theorem dX3_init_23 : decode cX3_init 23 = .ok (.iconst 0, 1) := by decide +kernel
theorem dX3_init_24 : decode cX3_init 24 = .ok (.istore_n 1, 1) := by decide +kernel
theorem dX3_init_25 : decode cX3_init 25 = .ok (.iload_n 1, 1) := by decide +kernel
theorem dX3_init_26 : decode cX3_init 26 = .ok (.bipush 30, 2) := by decide +kernel
theorem dX3_init_28 : decode cX3_init 28 = .ok (.if_icmp .ge 22, 3) := by decide +kernel
theorem dX3_init_31 : decode cX3_init 31 = .ok (.aload_n 0, 1) := by decide +kernel
theorem dX3_init_32 : decode cX3_init 32 = .ok (.getfield 11, 3) := by decide +kernel
theorem dX3_init_35 : decode cX3_init 35 = .ok (.iload_n 1, 1) := by decide +kernel
theorem dX3_init_36 : decode cX3_init 36 = .ok (.new 9, 3) := by decide +kernel
theorem dX3_init_39 : decode cX3_init 39 = .ok (.dup, 1) := by decide +kernel
theorem dX3_init_40 : decode cX3_init 40 = .ok (.invokespecial 24, 3) := by decide +kernel
theorem dX3_init_43 : decode cX3_init 43 = .ok (.aastore, 1) := by decide +kernel
theorem dX3_init_44 : decode cX3_init 44 = .ok (.iinc 1 1, 3) := by decide +kernel
theorem dX3_init_47 : decode cX3_init 47 = .ok (.goto (-22), 3) := by decide +kernel
theorem dX3_init_50 : decode cX3_init 50 = .ok (.return_, 1) := by decide +kernel
theorem dX3_forget_0 : decode cX3_forget 0 = .ok (.aload_n 0, 1) := by decide +kernel
theorem dX3_forget_1 : decode cX3_forget 1 = .ok (.iconst 0, 1) := by decide +kernel
theorem dX3_forget_2 : decode cX3_forget 2 = .ok (.putfield 21, 3) := by decide +kernel
theorem dX3_forget_5 : decode cX3_forget 5 = .ok (.return_, 1) := by decide +kernel
theorem dX3_push_0 : decode cX3_push 0 = .ok (.aload_n 0, 1) := by decide +kernel
theorem dX3_push_1 : decode cX3_push 1 = .ok (.getfield 11, 3) := by decide +kernel
theorem dX3_push_4 : decode cX3_push 4 = .ok (.aload_n 0, 1) := by decide +kernel
theorem dX3_push_5 : decode cX3_push 5 = .ok (.getfield 17, 3) := by decide +kernel
theorem dX3_push_8 : decode cX3_push 8 = .ok (.aaload, 1) := by decide +kernel
theorem dX3_push_9 : decode cX3_push 9 = .ok (.aload_n 1, 1) := by decide +kernel
theorem dX3_push_10 : decode cX3_push 10 = .ok (.invokevirtual 25, 3) := by decide +kernel
theorem dX3_push_13 : decode cX3_push 13 = .ok (.aload_n 0, 1) := by decide +kernel
theorem dX3_push_14 : decode cX3_push 14 = .ok (.aload_n 0, 1) := by decide +kernel
theorem dX3_push_15 : decode cX3_push 15 = .ok (.getfield 17, 3) := by decide +kernel
theorem dX3_push_18 : decode cX3_push 18 = .ok (.iconst 1, 1) := by decide +kernel
theorem dX3_push_19 : decode cX3_push 19 = .ok (.iadd, 1) := by decide +kernel
theorem dX3_push_20 : decode cX3_push 20 = .ok (.bipush 30, 2) := by decide +kernel
theorem dX3_push_22 : decode cX3_push 22 = .ok (.irem, 1) := by decide +kernel
theorem dX3_push_23 : decode cX3_push 23 = .ok (.putfield 17, 3) := by decide +kernel
theorem dX3_push_26 : decode cX3_push 26 = .ok (.aload_n 0, 1) := by decide +kernel
theorem dX3_push_27 : decode cX3_push 27 = .ok (.aload_n 0, 1) := by decide +kernel
theorem dX3_push_28 : decode cX3_push 28 = .ok (.getfield 21, 3) := by decide +kernel
theorem dX3_push_31 : decode cX3_push 31 = .ok (.iconst 1, 1) := by decide +kernel
theorem dX3_push_32 : decode cX3_push 32 = .ok (.iadd, 1) := by decide +kernel
theorem dX3_push_33 : decode cX3_push 33 = .ok (.bipush 30, 2) := by decide +kernel
theorem dX3_push_35 : decode cX3_push 35 = .ok (.invokestatic 29, 3) := by decide +kernel
theorem dX3_push_38 : decode cX3_push 38 = .ok (.putfield 21, 3) := by decide +kernel
theorem dX3_push_41 : decode cX3_push 41 = .ok (.return_, 1) := by decide +kernel
theorem dX3_pop_0 : decode cX3_pop 0 = .ok (.iload_n 1, 1) := by decide +kernel
theorem dX3_pop_1 : decode cX3_pop 1 = .ok (.iconst 1, 1) := by decide +kernel
theorem dX3_pop_2 : decode cX3_pop 2 = .ok (.aload_n 0, 1) := by decide +kernel
theorem dX3_pop_3 : decode cX3_pop 3 = .ok (.getfield 21, 3) := by decide +kernel
theorem dX3_pop_6 : decode cX3_pop 6 = .ok (.invokestatic 35, 3) := by decide +kernel
theorem dX3_pop_9 : decode cX3_pop 9 = .ok (.ifCond .ne 4, 3) := by decide +kernel
theorem dX3_pop_12 : decode cX3_pop 12 = .ok (.return_, 1) := by decide +kernel
theorem dX3_pop_13 : decode cX3_pop 13 = .ok (.aload_n 0, 1) := by decide +kernel
theorem dX3_pop_14 : decode cX3_pop 14 = .ok (.aload_n 0, 1) := by decide +kernel
theorem dX3_pop_15 : decode cX3_pop 15 = .ok (.getfield 17, 3) := by decide +kernel
theorem dX3_pop_18 : decode cX3_pop 18 = .ok (.bipush 30, 2) := by decide +kernel
theorem dX3_pop_20 : decode cX3_pop 20 = .ok (.iadd, 1) := by decide +kernel
theorem dX3_pop_21 : decode cX3_pop 21 = .ok (.iload_n 1, 1) := by decide +kernel
theorem dX3_pop_22 : decode cX3_pop 22 = .ok (.isub, 1) := by decide +kernel
theorem dX3_pop_23 : decode cX3_pop 23 = .ok (.bipush 30, 2) := by decide +kernel
theorem dX3_pop_25 : decode cX3_pop 25 = .ok (.irem, 1) := by decide +kernel
theorem dX3_pop_26 : decode cX3_pop 26 = .ok (.putfield 17, 3) := by decide +kernel
theorem dX3_pop_29 : decode cX3_pop 29 = .ok (.aload_n 0, 1) := by decide +kernel
theorem dX3_pop_30 : decode cX3_pop 30 = .ok (.dup, 1) := by decide +kernel
theorem dX3_pop_31 : decode cX3_pop 31 = .ok (.getfield 21, 3) := by decide +kernel
theorem dX3_pop_34 : decode cX3_pop 34 = .ok (.iload_n 1, 1) := by decide +kernel
theorem dX3_pop_35 : decode cX3_pop 35 = .ok (.isub, 1) := by decide +kernel
theorem dX3_pop_36 : decode cX3_pop 36 = .ok (.putfield 21, 3) := by decide +kernel
theorem dX3_pop_39 : decode cX3_pop 39 = .ok (.aload_n 2, 1) := by decide +kernel
theorem dX3_pop_40 : decode cX3_pop 40 = .ok (.aload_n 0, 1) := by decide +kernel
theorem dX3_pop_41 : decode cX3_pop 41 = .ok (.getfield 11, 3) := by decide +kernel
theorem dX3_pop_44 : decode cX3_pop 44 = .ok (.aload_n 0, 1) := by decide +kernel
theorem dX3_pop_45 : decode cX3_pop 45 = .ok (.getfield 17, 3) := by decide +kernel
theorem dX3_pop_48 : decode cX3_pop 48 = .ok (.aaload, 1) := by decide +kernel
theorem dX3_pop_49 : decode cX3_pop 49 = .ok (.invokevirtual 25, 3) := by decide +kernel
theorem dX3_pop_52 : decode cX3_pop 52 = .ok (.return_, 1) := by decide +kernel
theorem dX5_init_0 : decode cX5_init 0 = .ok (.aload_n 0, 1) := by decide +kernel
theorem dX5_init_1 : decode cX5_init 1 = .ok (.invokespecial 3, 3) := by decide +kernel
theorem dX5_init_4 : decode cX5_init 4 = .ok (.aload_n 0, 1) := by decide +kernel
theorem dX5_init_5 : decode cX5_init 5 = .ok (.bipush 6, 2) := by decide +kernel
theorem dX5_init_7 : decode cX5_init 7 = .ok (.newarray .int, 2) := by decide +kernel
theorem dX5_init_9 : decode cX5_init 9 = .ok (.putfield 9, 3) := by decide +kernel
theorem dX5_init_12 : decode cX5_init 12 = .ok (.aload_n 0, 1) := by decide +kernel
theorem dX5_init_13 : decode cX5_init 13 = .ok (.bipush 6, 2) := by decide +kernel
theorem dX5_init_15 : decode cX5_init 15 = .ok (.newarray .boolean, 2) := by decide +kernel
theorem dX5_init_17 : decode cX5_init 17 = .ok (.putfield 15, 3) := by decide +kernel
theorem dX5_init_20 : decode cX5_init 20 = .ok (.aload_n 0, 1) := by decide +kernel
theorem dX5_init_21 : decode cX5_init 21 = .ok (.iconst 0, 1) := by decide +kernel
theorem dX5_init_22 : decode cX5_init 22 = .ok (.putfield 19, 3) := by decide +kernel
theorem dX5_init_25 : decode cX5_init 25 = .ok (.return_, 1) := by decide +kernel
theorem dX5_forget_0 : decode cX5_forget 0 = .ok (.aload_n 0, 1) := by decide +kernel
theorem dX5_forget_1 : decode cX5_forget 1 = .ok (.iconst 0, 1) := by decide +kernel
theorem dX5_forget_2 : decode cX5_forget 2 = .ok (.putfield 19, 3) := by decide +kernel
theorem dX5_forget_5 : decode cX5_forget 5 = .ok (.return_, 1) := by decide +kernel
theorem dX5_add_0 : decode cX5_add 0 = .ok (.aload_n 0, 1) := by decide +kernel
theorem dX5_add_1 : decode cX5_add 1 = .ok (.getfield 19, 3) := by decide +kernel
theorem dX5_add_4 : decode cX5_add 4 = .ok (.bipush 6, 2) := by decide +kernel
theorem dX5_add_6 : decode cX5_add 6 = .ok (.if_icmp .lt 5, 3) := by decide +kernel
theorem dX5_add_9 : decode cX5_add 9 = .ok (.iconst 0, 1) := by decide +kernel
theorem dX5_add_10 : decode cX5_add 10 = .ok (.ireturn, 1) := by decide +kernel
theorem dX5_add_11 : decode cX5_add 11 = .ok (.aload_n 0, 1) := by decide +kernel
theorem dX5_add_12 : decode cX5_add 12 = .ok (.getfield 9, 3) := by decide +kernel
theorem dX5_add_15 : decode cX5_add 15 = .ok (.aload_n 0, 1) := by decide +kernel
theorem dX5_add_16 : decode cX5_add 16 = .ok (.getfield 19, 3) := by decide +kernel
theorem dX5_add_19 : decode cX5_add 19 = .ok (.iload_n 1, 1) := by decide +kernel
theorem dX5_add_20 : decode cX5_add 20 = .ok (.iastore, 1) := by decide +kernel
theorem dX5_add_21 : decode cX5_add 21 = .ok (.aload_n 0, 1) := by decide +kernel
theorem dX5_add_22 : decode cX5_add 22 = .ok (.getfield 15, 3) := by decide +kernel
theorem dX5_add_25 : decode cX5_add 25 = .ok (.aload_n 0, 1) := by decide +kernel
theorem dX5_add_26 : decode cX5_add 26 = .ok (.getfield 19, 3) := by decide +kernel
theorem dX5_add_29 : decode cX5_add 29 = .ok (.iload_n 2, 1) := by decide +kernel
theorem dX5_add_30 : decode cX5_add 30 = .ok (.bastore, 1) := by decide +kernel
theorem dX5_add_31 : decode cX5_add 31 = .ok (.aload_n 0, 1) := by decide +kernel
theorem dX5_add_32 : decode cX5_add 32 = .ok (.dup, 1) := by decide +kernel
theorem dX5_add_33 : decode cX5_add 33 = .ok (.getfield 19, 3) := by decide +kernel
theorem dX5_add_36 : decode cX5_add 36 = .ok (.iconst 1, 1) := by decide +kernel
theorem dX5_add_37 : decode cX5_add 37 = .ok (.iadd, 1) := by decide +kernel
theorem dX5_add_38 : decode cX5_add 38 = .ok (.putfield 19, 3) := by decide +kernel
theorem dX5_add_41 : decode cX5_add 41 = .ok (.iconst 1, 1) := by decide +kernel
theorem dX5_add_42 : decode cX5_add 42 = .ok (.ireturn, 1) := by decide +kernel
theorem dX5_fits_0 : decode cX5_fits 0 = .ok (.iconst 0, 1) := by decide +kernel
theorem dX5_fits_1 : decode cX5_fits 1 = .ok (.istore_n 2, 1) := by decide +kernel
theorem dX5_fits_2 : decode cX5_fits 2 = .ok (.iload_n 2, 1) := by decide +kernel
theorem dX5_fits_3 : decode cX5_fits 3 = .ok (.aload_n 0, 1) := by decide +kernel
theorem dX5_fits_4 : decode cX5_fits 4 = .ok (.getfield 19, 3) := by decide +kernel
theorem dX5_fits_7 : decode cX5_fits 7 = .ok (.if_icmp .ge 40, 3) := by decide +kernel
theorem dX5_fits_10 : decode cX5_fits 10 = .ok (.iload_n 1, 1) := by decide +kernel
theorem dX5_fits_11 : decode cX5_fits 11 = .ok (.aload_n 0, 1) := by decide +kernel
theorem dX5_fits_12 : decode cX5_fits 12 = .ok (.getfield 9, 3) := by decide +kernel
theorem dX5_fits_15 : decode cX5_fits 15 = .ok (.iload_n 2, 1) := by decide +kernel
theorem dX5_fits_16 : decode cX5_fits 16 = .ok (.iaload, 1) := by decide +kernel
theorem dX5_fits_17 : decode cX5_fits 17 = .ok (.ishr, 1) := by decide +kernel
theorem dX5_fits_18 : decode cX5_fits 18 = .ok (.iconst 1, 1) := by decide +kernel
theorem dX5_fits_19 : decode cX5_fits 19 = .ok (.iand, 1) := by decide +kernel
theorem dX5_fits_20 : decode cX5_fits 20 = .ok (.ifCond .eq 7, 3) := by decide +kernel
theorem dX5_fits_23 : decode cX5_fits 23 = .ok (.iconst 1, 1) := by decide +kernel
theorem dX5_fits_24 : decode cX5_fits 24 = .ok (.goto 4, 3) := by decide +kernel
theorem dX5_fits_27 : decode cX5_fits 27 = .ok (.iconst 0, 1) := by decide +kernel
theorem dX5_fits_28 : decode cX5_fits 28 = .ok (.istore_n 3, 1) := by decide +kernel
theorem dX5_fits_29 : decode cX5_fits 29 = .ok (.iload_n 3, 1) := by decide +kernel
theorem dX5_fits_30 : decode cX5_fits 30 = .ok (.aload_n 0, 1) := by decide +kernel
theorem dX5_fits_31 : decode cX5_fits 31 = .ok (.getfield 15, 3) := by decide +kernel
theorem dX5_fits_34 : decode cX5_fits 34 = .ok (.iload_n 2, 1) := by decide +kernel
theorem dX5_fits_35 : decode cX5_fits 35 = .ok (.baload, 1) := by decide +kernel
theorem dX5_fits_36 : decode cX5_fits 36 = .ok (.if_icmp .eq 5, 3) := by decide +kernel
theorem dX5_fits_39 : decode cX5_fits 39 = .ok (.iconst 0, 1) := by decide +kernel
theorem dX5_fits_40 : decode cX5_fits 40 = .ok (.ireturn, 1) := by decide +kernel
theorem dX5_fits_41 : decode cX5_fits 41 = .ok (.iinc 2 1, 3) := by decide +kernel
theorem dX5_fits_44 : decode cX5_fits 44 = .ok (.goto (-42), 3) := by decide +kernel
theorem dX5_fits_47 : decode cX5_fits 47 = .ok (.iconst 1, 1) := by decide +kernel
theorem dX5_fits_48 : decode cX5_fits 48 = .ok (.ireturn, 1) := by decide +kernel
theorem dJ6_bitCount_0f7a4_0 : decode cJ6_bitCount_0f7a4 0 = .ok (.iload_n 0, 1) := by decide +kernel
theorem dJ6_bitCount_0f7a4_1 : decode cJ6_bitCount_0f7a4 1 = .ok (.iload_n 0, 1) := by decide +kernel
theorem dJ6_bitCount_0f7a4_2 : decode cJ6_bitCount_0f7a4 2 = .ok (.iconst 1, 1) := by decide +kernel
theorem dJ6_bitCount_0f7a4_3 : decode cJ6_bitCount_0f7a4 3 = .ok (.iushr, 1) := by decide +kernel
theorem dJ6_bitCount_0f7a4_4 : decode cJ6_bitCount_0f7a4 4 = .ok (.ldc_w 265, 3) := by decide +kernel
theorem dJ6_bitCount_0f7a4_7 : decode cJ6_bitCount_0f7a4 7 = .ok (.iand, 1) := by decide +kernel
theorem dJ6_bitCount_0f7a4_8 : decode cJ6_bitCount_0f7a4 8 = .ok (.isub, 1) := by decide +kernel
theorem dJ6_bitCount_0f7a4_9 : decode cJ6_bitCount_0f7a4 9 = .ok (.istore_n 0, 1) := by decide +kernel
theorem dJ6_bitCount_0f7a4_10 : decode cJ6_bitCount_0f7a4 10 = .ok (.iload_n 0, 1) := by decide +kernel
theorem dJ6_bitCount_0f7a4_11 : decode cJ6_bitCount_0f7a4 11 = .ok (.ldc_w 266, 3) := by decide +kernel
theorem dJ6_bitCount_0f7a4_14 : decode cJ6_bitCount_0f7a4 14 = .ok (.iand, 1) := by decide +kernel
theorem dJ6_bitCount_0f7a4_15 : decode cJ6_bitCount_0f7a4 15 = .ok (.iload_n 0, 1) := by decide +kernel
theorem dJ6_bitCount_0f7a4_16 : decode cJ6_bitCount_0f7a4 16 = .ok (.iconst 2, 1) := by decide +kernel
theorem dJ6_bitCount_0f7a4_17 : decode cJ6_bitCount_0f7a4 17 = .ok (.iushr, 1) := by decide +kernel
theorem dJ6_bitCount_0f7a4_18 : decode cJ6_bitCount_0f7a4 18 = .ok (.ldc_w 266, 3) := by decide +kernel
theorem dJ6_bitCount_0f7a4_21 : decode cJ6_bitCount_0f7a4 21 = .ok (.iand, 1) := by decide +kernel
theorem dJ6_bitCount_0f7a4_22 : decode cJ6_bitCount_0f7a4 22 = .ok (.iadd, 1) := by decide +kernel
theorem dJ6_bitCount_0f7a4_23 : decode cJ6_bitCount_0f7a4 23 = .ok (.istore_n 0, 1) := by decide +kernel
theorem dJ6_bitCount_0f7a4_24 : decode cJ6_bitCount_0f7a4 24 = .ok (.iload_n 0, 1) := by decide +kernel
theorem dJ6_bitCount_0f7a4_25 : decode cJ6_bitCount_0f7a4 25 = .ok (.iload_n 0, 1) := by decide +kernel
theorem dJ6_bitCount_0f7a4_26 : decode cJ6_bitCount_0f7a4 26 = .ok (.iconst 4, 1) := by decide +kernel
theorem dJ6_bitCount_0f7a4_27 : decode cJ6_bitCount_0f7a4 27 = .ok (.iushr, 1) := by decide +kernel
theorem dJ6_bitCount_0f7a4_28 : decode cJ6_bitCount_0f7a4 28 = .ok (.iadd, 1) := by decide +kernel
theorem dJ6_bitCount_0f7a4_29 : decode cJ6_bitCount_0f7a4 29 = .ok (.ldc_w 267, 3) := by decide +kernel
theorem dJ6_bitCount_0f7a4_32 : decode cJ6_bitCount_0f7a4 32 = .ok (.iand, 1) := by decide +kernel
theorem dJ6_bitCount_0f7a4_33 : decode cJ6_bitCount_0f7a4 33 = .ok (.istore_n 0, 1) := by decide +kernel
theorem dJ6_bitCount_0f7a4_34 : decode cJ6_bitCount_0f7a4 34 = .ok (.iload_n 0, 1) := by decide +kernel
theorem dJ6_bitCount_0f7a4_35 : decode cJ6_bitCount_0f7a4 35 = .ok (.iload_n 0, 1) := by decide +kernel
theorem dJ6_bitCount_0f7a4_36 : decode cJ6_bitCount_0f7a4 36 = .ok (.bipush 8, 2) := by decide +kernel
theorem dJ6_bitCount_0f7a4_38 : decode cJ6_bitCount_0f7a4 38 = .ok (.iushr, 1) := by decide +kernel
theorem dJ6_bitCount_0f7a4_39 : decode cJ6_bitCount_0f7a4 39 = .ok (.iadd, 1) := by decide +kernel
theorem dJ6_bitCount_0f7a4_40 : decode cJ6_bitCount_0f7a4 40 = .ok (.istore_n 0, 1) := by decide +kernel
theorem dJ6_bitCount_0f7a4_41 : decode cJ6_bitCount_0f7a4 41 = .ok (.iload_n 0, 1) := by decide +kernel
theorem dJ6_bitCount_0f7a4_42 : decode cJ6_bitCount_0f7a4 42 = .ok (.iload_n 0, 1) := by decide +kernel
theorem dJ6_bitCount_0f7a4_43 : decode cJ6_bitCount_0f7a4 43 = .ok (.bipush 16, 2) := by decide +kernel
theorem dJ6_bitCount_0f7a4_45 : decode cJ6_bitCount_0f7a4 45 = .ok (.iushr, 1) := by decide +kernel
theorem dJ6_bitCount_0f7a4_46 : decode cJ6_bitCount_0f7a4 46 = .ok (.iadd, 1) := by decide +kernel
theorem dJ6_bitCount_0f7a4_47 : decode cJ6_bitCount_0f7a4 47 = .ok (.istore_n 0, 1) := by decide +kernel
theorem dJ6_bitCount_0f7a4_48 : decode cJ6_bitCount_0f7a4 48 = .ok (.iload_n 0, 1) := by decide +kernel
theorem dJ6_bitCount_0f7a4_49 : decode cJ6_bitCount_0f7a4 49 = .ok (.bipush 63, 2) := by decide +kernel
theorem dJ6_bitCount_0f7a4_51 : decode cJ6_bitCount_0f7a4 51 = .ok (.iand, 1) := by decide +kernel
theorem dJ6_bitCount_0f7a4_52 : decode cJ6_bitCount_0f7a4 52 = .ok (.ireturn, 1) := by decide +kernel
theorem dJ9_abs_0f7a4_0 : decode cJ9_abs_0f7a4 0 = .ok (.iload_n 0, 1) := by decide +kernel
theorem dJ9_abs_0f7a4_1 : decode cJ9_abs_0f7a4 1 = .ok (.ifCond .ge 8, 3) := by decide +kernel
theorem dJ9_abs_0f7a4_4 : decode cJ9_abs_0f7a4 4 = .ok (.iload_n 0, 1) := by decide +kernel
theorem dJ9_abs_0f7a4_5 : decode cJ9_abs_0f7a4 5 = .ok (.ineg, 1) := by decide +kernel
theorem dJ9_abs_0f7a4_6 : decode cJ9_abs_0f7a4 6 = .ok (.goto 4, 3) := by decide +kernel
theorem dJ9_abs_0f7a4_9 : decode cJ9_abs_0f7a4 9 = .ok (.iload_n 0, 1) := by decide +kernel
theorem dJ9_abs_0f7a4_10 : decode cJ9_abs_0f7a4 10 = .ok (.ireturn, 1) := by decide +kernel
theorem dJ9_max_7cf53_0 : decode cJ9_max_7cf53 0 = .ok (.iload_n 0, 1) := by decide +kernel
theorem dJ9_max_7cf53_1 : decode cJ9_max_7cf53 1 = .ok (.iload_n 1, 1) := by decide +kernel
theorem dJ9_max_7cf53_2 : decode cJ9_max_7cf53 2 = .ok (.if_icmp .lt 7, 3) := by decide +kernel
theorem dJ9_max_7cf53_5 : decode cJ9_max_7cf53 5 = .ok (.iload_n 0, 1) := by decide +kernel
theorem dJ9_max_7cf53_6 : decode cJ9_max_7cf53 6 = .ok (.goto 4, 3) := by decide +kernel
theorem dJ9_max_7cf53_9 : decode cJ9_max_7cf53 9 = .ok (.iload_n 1, 1) := by decide +kernel
theorem dJ9_max_7cf53_10 : decode cJ9_max_7cf53 10 = .ok (.ireturn, 1) := by decide +kernel
theorem dJ9_min_7cf53_0 : decode cJ9_min_7cf53 0 = .ok (.iload_n 0, 1) := by decide +kernel
theorem dJ9_min_7cf53_1 : decode cJ9_min_7cf53 1 = .ok (.iload_n 1, 1) := by decide +kernel
theorem dJ9_min_7cf53_2 : decode cJ9_min_7cf53 2 = .ok (.if_icmp .gt 7, 3) := by decide +kernel
theorem dJ9_min_7cf53_5 : decode cJ9_min_7cf53 5 = .ok (.iload_n 0, 1) := by decide +kernel
theorem dJ9_min_7cf53_6 : decode cJ9_min_7cf53 6 = .ok (.goto 4, 3) := by decide +kernel
theorem dJ9_min_7cf53_9 : decode cJ9_min_7cf53 9 = .ok (.iload_n 1, 1) := by decide +kernel
theorem dJ9_min_7cf53_10 : decode cJ9_min_7cf53 10 = .ok (.ireturn, 1) := by decide +kernel
end
section
theorem dX4_init_0 : decode cX4_init 0 = .ok (.aload_n 0, 1) := by decide +kernel
theorem dX4_init_1 : decode cX4_init 1 = .ok (.invokespecial 3, 3) := by decide +kernel
theorem dX4_init_4 : decode cX4_init 4 = .ok (.aload_n 0, 1) := by decide +kernel
theorem dX4_init_5 : decode cX4_init 5 = .ok (.iconst (-1), 1) := by decide +kernel
theorem dX4_init_6 : decode cX4_init 6 = .ok (.putfield 9, 3) := by decide +kernel
theorem dX4_init_9 : decode cX4_init 9 = .ok (.aload_n 0, 1) := by decide +kernel
theorem dX4_init_10 : decode cX4_init 10 = .ok (.iconst (-1), 1) := by decide +kernel
theorem dX4_init_11 : decode cX4_init 11 = .ok (.putfield 15, 3) := by decide +kernel
theorem dX4_init_14 : decode cX4_init 14 = .ok (.aload_n 0, 1) := by decide +kernel
theorem dX4_init_15 : decode cX4_init 15 = .ok (.iconst (-1), 1) := by decide +kernel
theorem dX4_init_16 : decode cX4_init 16 = .ok (.putfield 18, 3) := by decide +kernel
theorem dX4_init_19 : decode cX4_init 19 = .ok (.aload_n 0, 1) := by decide +kernel
theorem dX4_init_20 : decode cX4_init 20 = .ok (.aload_n 1, 1) := by decide +kernel
theorem dX4_init_21 : decode cX4_init 21 = .ok (.putfield 21, 3) := by decide +kernel
theorem dX4_init_24 : decode cX4_init 24 = .ok (.aload_n 0, 1) := by decide +kernel
theorem dX4_init_25 : decode cX4_init 25 = .ok (.aload_n 2, 1) := by decide +kernel
theorem dX4_init_26 : decode cX4_init 26 = .ok (.putfield 25, 3) := by decide +kernel
theorem dX4_init_29 : decode cX4_init 29 = .ok (.aload_n 0, 1) := by decide +kernel
theorem dX4_init_30 : decode cX4_init 30 = .ok (.iload_n 3, 1) := by decide +kernel
theorem dX4_init_31 : decode cX4_init 31 = .ok (.putfield 29, 3) := by decide +kernel
theorem dX4_init_34 : decode cX4_init 34 = .ok (.aload_n 0, 1) := by decide +kernel
theorem dX4_init_35 : decode cX4_init 35 = .ok (.aload_n 2, 1) := by decide +kernel
theorem dX4_init_36 : decode cX4_init 36 = .ok (.iconst 1, 1) := by decide +kernel
theorem dX4_init_37 : decode cX4_init 37 = .ok (.aload_n 1, 1) := by decide +kernel
theorem dX4_init_38 : decode cX4_init 38 = .ok (.getfield 32, 3) := by decide +kernel
theorem dX4_init_41 : decode cX4_init 41 = .ok (.invokevirtual 37, 3) := by decide +kernel
theorem dX4_init_44 : decode cX4_init 44 = .ok (.aload_n 2, 1) := by decide +kernel
theorem dX4_init_45 : decode cX4_init 45 = .ok (.iconst 4, 1) := by decide +kernel
theorem dX4_init_46 : decode cX4_init 46 = .ok (.aload_n 1, 1) := by decide +kernel
theorem dX4_init_47 : decode cX4_init 47 = .ok (.getfield 32, 3) := by decide +kernel
theorem dX4_init_50 : decode cX4_init 50 = .ok (.invokevirtual 37, 3) := by decide +kernel
theorem dX4_init_53 : decode cX4_init 53 = .ok (.ior, 1) := by decide +kernel
theorem dX4_init_54 : decode cX4_init 54 = .ok (.putfield 43, 3) := by decide +kernel
theorem dX4_init_57 : decode cX4_init 57 = .ok (.aload_n 0, 1) := by decide +kernel
theorem dX4_init_58 : decode cX4_init 58 = .ok (.aload_n 0, 1) := by decide +kernel
theorem dX4_init_59 : decode cX4_init 59 = .ok (.getfield 43, 3) := by decide +kernel
theorem dX4_init_62 : decode cX4_init 62 = .ok (.invokestatic 46, 3) := by decide +kernel
theorem dX4_init_65 : decode cX4_init 65 = .ok (.putfield 52, 3) := by decide +kernel
theorem dX4_init_68 : decode cX4_init 68 = .ok (.return_, 1) := by decide +kernel
theorem dX4_seek_0 : decode cX4_seek 0 = .ok (.aload_n 0, 1) := by decide +kernel
theorem dX4_seek_1 : decode cX4_seek 1 = .ok (.getfield 52, 3) := by decide +kernel
theorem dX4_seek_4 : decode cX4_seek 4 = .ok (.ifCond .le 13, 3) := by decide +kernel
theorem dX4_seek_7 : decode cX4_seek 7 = .ok (.aload_n 0, 1) := by decide +kernel
theorem dX4_seek_8 : decode cX4_seek 8 = .ok (.iconst 0, 1) := by decide +kernel
theorem dX4_seek_9 : decode cX4_seek 9 = .ok (.iconst 0, 1) := by decide +kernel
theorem dX4_seek_10 : decode cX4_seek 10 = .ok (.iconst 0, 1) := by decide +kernel
theorem dX4_seek_11 : decode cX4_seek 11 = .ok (.iconst 0, 1) := by decide +kernel
theorem dX4_seek_12 : decode cX4_seek 12 = .ok (.iconst 0, 1) := by decide +kernel
theorem dX4_seek_13 : decode cX4_seek 13 = .ok (.iconst 0, 1) := by decide +kernel
theorem dX4_seek_14 : decode cX4_seek 14 = .ok (.invokestatic 55, 3) := by decide +kernel
theorem dX4_seek_17 : decode cX4_seek 17 = .ok (.return_, 1) := by decide +kernel
theorem dX4_extend_0 : decode cX4_extend 0 = .ok (.iload 4, 2) := by decide +kernel
theorem dX4_extend_2 : decode cX4_extend 2 = .ok (.aload_n 0, 1) := by decide +kernel
theorem dX4_extend_3 : decode cX4_extend 3 = .ok (.getfield 21, 3) := by decide +kernel
theorem dX4_extend_6 : decode cX4_extend 6 = .ok (.iload_n 3, 1) := by decide +kernel
theorem dX4_extend_7 : decode cX4_extend 7 = .ok (.iconst 0, 1) := by decide +kernel
theorem dX4_extend_8 : decode cX4_extend 8 = .ok (.invokevirtual 59, 3) := by decide +kernel
theorem dX4_extend_11 : decode cX4_extend 11 = .ok (.iadd, 1) := by decide +kernel
theorem dX4_extend_12 : decode cX4_extend 12 = .ok (.istore 7, 2) := by decide +kernel
theorem dX4_extend_14 : decode cX4_extend 14 = .ok (.aload_n 0, 1) := by decide +kernel
theorem dX4_extend_15 : decode cX4_extend 15 = .ok (.iload 5, 2) := by decide +kernel
theorem dX4_extend_17 : decode cX4_extend 17 = .ok (.aload_n 0, 1) := by decide +kernel
theorem dX4_extend_18 : decode cX4_extend 18 = .ok (.getfield 52, 3) := by decide +kernel
theorem dX4_extend_21 : decode cX4_extend 21 = .ok (.iadd, 1) := by decide +kernel
theorem dX4_extend_22 : decode cX4_extend 22 = .ok (.iload_n 1, 1) := by decide +kernel
theorem dX4_extend_23 : decode cX4_extend 23 = .ok (.isub, 1) := by decide +kernel
theorem dX4_extend_24 : decode cX4_extend 24 = .ok (.iload 7, 2) := by decide +kernel
theorem dX4_extend_26 : decode cX4_extend 26 = .ok (.invokevirtual 62, 3) := by decide +kernel
theorem dX4_extend_29 : decode cX4_extend 29 = .ok (.ifCond .ne 4, 3) := by decide +kernel
theorem dX4_extend_32 : decode cX4_extend 32 = .ok (.return_, 1) := by decide +kernel
theorem dX4_extend_33 : decode cX4_extend 33 = .ok (.iload_n 1, 1) := by decide +kernel
theorem dX4_extend_34 : decode cX4_extend 34 = .ok (.aload_n 0, 1) := by decide +kernel
theorem dX4_extend_35 : decode cX4_extend 35 = .ok (.getfield 52, 3) := by decide +kernel
theorem dX4_extend_38 : decode cX4_extend 38 = .ok (.if_icmp .ge 9, 3) := by decide +kernel
theorem dX4_extend_41 : decode cX4_extend 41 = .ok (.iload_n 1, 1) := by decide +kernel
theorem dX4_extend_42 : decode cX4_extend 42 = .ok (.bipush 7, 2) := by decide +kernel
theorem dX4_extend_44 : decode cX4_extend 44 = .ok (.if_icmp .lt 14, 3) := by decide +kernel
theorem dX4_extend_47 : decode cX4_extend 47 = .ok (.aload_n 0, 1) := by decide +kernel
theorem dX4_extend_48 : decode cX4_extend 48 = .ok (.iload 6, 2) := by decide +kernel
theorem dX4_extend_50 : decode cX4_extend 50 = .ok (.iload 5, 2) := by decide +kernel
theorem dX4_extend_52 : decode cX4_extend 52 = .ok (.iload 7, 2) := by decide +kernel
theorem dX4_extend_54 : decode cX4_extend 54 = .ok (.invokevirtual 66, 3) := by decide +kernel
theorem dX4_extend_57 : decode cX4_extend 57 = .ok (.return_, 1) := by decide +kernel
theorem dX4_extend_58 : decode cX4_extend 58 = .ok (.iload_n 1, 1) := by decide +kernel
theorem dX4_extend_59 : decode cX4_extend 59 = .ok (.iconst 1, 1) := by decide +kernel
theorem dX4_extend_60 : decode cX4_extend 60 = .ok (.iadd, 1) := by decide +kernel
theorem dX4_extend_61 : decode cX4_extend 61 = .ok (.aload_n 0, 1) := by decide +kernel
theorem dX4_extend_62 : decode cX4_extend 62 = .ok (.getfield 29, 3) := by decide +kernel
theorem dX4_extend_65 : decode cX4_extend 65 = .ok (.invokestatic 70, 3) := by decide +kernel
theorem dX4_extend_68 : decode cX4_extend 68 = .ok (.istore 8, 2) := by decide +kernel
theorem dX4_extend_70 : decode cX4_extend 70 = .ok (.iconst 0, 1) := by decide +kernel
theorem dX4_extend_71 : decode cX4_extend 71 = .ok (.istore 9, 2) := by decide +kernel
theorem dX4_extend_73 : decode cX4_extend 73 = .ok (.iload 9, 2) := by decide +kernel
theorem dX4_extend_75 : decode cX4_extend 75 = .ok (.aload_n 0, 1) := by decide +kernel
theorem dX4_extend_76 : decode cX4_extend 76 = .ok (.getfield 21, 3) := by decide +kernel
theorem dX4_extend_79 : decode cX4_extend 79 = .ok (.getfield 32, 3) := by decide +kernel
theorem dX4_extend_82 : decode cX4_extend 82 = .ok (.if_icmp .ge 142, 3) := by decide +kernel
theorem dX4_extend_85 : decode cX4_extend 85 = .ok (.aload_n 0, 1) := by decide +kernel
theorem dX4_extend_86 : decode cX4_extend 86 = .ok (.getfield 43, 3) := by decide +kernel
theorem dX4_extend_89 : decode cX4_extend 89 = .ok (.iload_n 2, 1) := by decide +kernel
theorem dX4_extend_90 : decode cX4_extend 90 = .ok (.iconst (-1), 1) := by decide +kernel
theorem dX4_extend_91 : decode cX4_extend 91 = .ok (.ixor, 1) := by decide +kernel
theorem dX4_extend_92 : decode cX4_extend 92 = .ok (.iand, 1) := by decide +kernel
theorem dX4_extend_93 : decode cX4_extend 93 = .ok (.iload 9, 2) := by decide +kernel
theorem dX4_extend_95 : decode cX4_extend 95 = .ok (.ishr, 1) := by decide +kernel
theorem dX4_extend_96 : decode cX4_extend 96 = .ok (.iconst 1, 1) := by decide +kernel
theorem dX4_extend_97 : decode cX4_extend 97 = .ok (.iand, 1) := by decide +kernel
theorem dX4_extend_98 : decode cX4_extend 98 = .ok (.ifCond .ne 6, 3) := by decide +kernel
theorem dX4_extend_101 : decode cX4_extend 101 = .ok (.goto 117, 3) := by decide +kernel
theorem dX4_extend_104 : decode cX4_extend 104 = .ok (.aload_n 0, 1) := by decide +kernel
theorem dX4_extend_105 : decode cX4_extend 105 = .ok (.getfield 21, 3) := by decide +kernel
theorem dX4_extend_108 : decode cX4_extend 108 = .ok (.getfield 73, 3) := by decide +kernel
theorem dX4_extend_111 : decode cX4_extend 111 = .ok (.iload 9, 2) := by decide +kernel
theorem dX4_extend_113 : decode cX4_extend 113 = .ok (.iaload, 1) := by decide +kernel
theorem dX4_extend_114 : decode cX4_extend 114 = .ok (.istore 10, 2) := by decide +kernel
theorem dX4_extend_116 : decode cX4_extend 116 = .ok (.iload 4, 2) := by decide +kernel
theorem dX4_extend_118 : decode cX4_extend 118 = .ok (.aload_n 0, 1) := by decide +kernel
theorem dX4_extend_119 : decode cX4_extend 119 = .ok (.getfield 21, 3) := by decide +kernel
theorem dX4_extend_122 : decode cX4_extend 122 = .ok (.iload_n 3, 1) := by decide +kernel
theorem dX4_extend_123 : decode cX4_extend 123 = .ok (.iload 10, 2) := by decide +kernel
theorem dX4_extend_125 : decode cX4_extend 125 = .ok (.invokevirtual 59, 3) := by decide +kernel
theorem dX4_extend_128 : decode cX4_extend 128 = .ok (.iadd, 1) := by decide +kernel
theorem dX4_extend_129 : decode cX4_extend 129 = .ok (.istore 11, 2) := by decide +kernel
theorem dX4_extend_131 : decode cX4_extend 131 = .ok (.aload_n 0, 1) := by decide +kernel
theorem dX4_extend_132 : decode cX4_extend 132 = .ok (.getfield 21, 3) := by decide +kernel
theorem dX4_extend_135 : decode cX4_extend 135 = .ok (.iload 9, 2) := by decide +kernel
theorem dX4_extend_137 : decode cX4_extend 137 = .ok (.iload 11, 2) := by decide +kernel
theorem dX4_extend_139 : decode cX4_extend 139 = .ok (.iload 8, 2) := by decide +kernel
theorem dX4_extend_141 : decode cX4_extend 141 = .ok (.aload_n 0, 1) := by decide +kernel
theorem dX4_extend_142 : decode cX4_extend 142 = .ok (.getfield 25, 3) := by decide +kernel
theorem dX4_extend_145 : decode cX4_extend 145 = .ok (.getfield 77, 3) := by decide +kernel
theorem dX4_extend_148 : decode cX4_extend 148 = .ok (.iload 9, 2) := by decide +kernel
theorem dX4_extend_150 : decode cX4_extend 150 = .ok (.iaload, 1) := by decide +kernel
theorem dX4_extend_151 : decode cX4_extend 151 = .ok (.invokevirtual 80, 3) := by decide +kernel
theorem dX4_extend_154 : decode cX4_extend 154 = .ok (.istore 12, 2) := by decide +kernel
theorem dX4_extend_156 : decode cX4_extend 156 = .ok (.iload 11, 2) := by decide +kernel
theorem dX4_extend_158 : decode cX4_extend 158 = .ok (.aload_n 0, 1) := by decide +kernel
theorem dX4_extend_159 : decode cX4_extend 159 = .ok (.getfield 21, 3) := by decide +kernel
theorem dX4_extend_162 : decode cX4_extend 162 = .ok (.iload 8, 2) := by decide +kernel
theorem dX4_extend_164 : decode cX4_extend 164 = .ok (.iload 12, 2) := by decide +kernel
theorem dX4_extend_166 : decode cX4_extend 166 = .ok (.invokevirtual 84, 3) := by decide +kernel
theorem dX4_extend_169 : decode cX4_extend 169 = .ok (.iadd, 1) := by decide +kernel
theorem dX4_extend_170 : decode cX4_extend 170 = .ok (.istore 13, 2) := by decide +kernel
theorem dX4_extend_172 : decode cX4_extend 172 = .ok (.iload 12, 2) := by decide +kernel
theorem dX4_extend_174 : decode cX4_extend 174 = .ok (.iconst 2, 1) := by decide +kernel
theorem dX4_extend_175 : decode cX4_extend 175 = .ok (.if_icmp .ne 10, 3) := by decide +kernel
theorem dX4_extend_178 : decode cX4_extend 178 = .ok (.iload 5, 2) := by decide +kernel
theorem dX4_extend_180 : decode cX4_extend 180 = .ok (.iconst 1, 1) := by decide +kernel
theorem dX4_extend_181 : decode cX4_extend 181 = .ok (.iadd, 1) := by decide +kernel
theorem dX4_extend_182 : decode cX4_extend 182 = .ok (.goto 5, 3) := by decide +kernel
theorem dX4_extend_185 : decode cX4_extend 185 = .ok (.iload 5, 2) := by decide +kernel
theorem dX4_extend_187 : decode cX4_extend 187 = .ok (.istore 14, 2) := by decide +kernel
theorem dX4_extend_189 : decode cX4_extend 189 = .ok (.aload_n 0, 1) := by decide +kernel
theorem dX4_extend_190 : decode cX4_extend 190 = .ok (.iload_n 1, 1) := by decide +kernel
theorem dX4_extend_191 : decode cX4_extend 191 = .ok (.iconst 1, 1) := by decide +kernel
theorem dX4_extend_192 : decode cX4_extend 192 = .ok (.iadd, 1) := by decide +kernel
theorem dX4_extend_193 : decode cX4_extend 193 = .ok (.iload_n 2, 1) := by decide +kernel
theorem dX4_extend_194 : decode cX4_extend 194 = .ok (.iconst 1, 1) := by decide +kernel
theorem dX4_extend_195 : decode cX4_extend 195 = .ok (.iload 9, 2) := by decide +kernel
theorem dX4_extend_197 : decode cX4_extend 197 = .ok (.ishl, 1) := by decide +kernel
theorem dX4_extend_198 : decode cX4_extend 198 = .ok (.ior, 1) := by decide +kernel
theorem dX4_extend_199 : decode cX4_extend 199 = .ok (.iload 10, 2) := by decide +kernel
theorem dX4_extend_201 : decode cX4_extend 201 = .ok (.iload 13, 2) := by decide +kernel
theorem dX4_extend_203 : decode cX4_extend 203 = .ok (.iload 14, 2) := by decide +kernel
theorem dX4_extend_205 : decode cX4_extend 205 = .ok (.iload 6, 2) := by decide +kernel
theorem dX4_extend_207 : decode cX4_extend 207 = .ok (.bipush 10, 2) := by decide +kernel
theorem dX4_extend_209 : decode cX4_extend 209 = .ok (.imul, 1) := by decide +kernel
theorem dX4_extend_210 : decode cX4_extend 210 = .ok (.iload 9, 2) := by decide +kernel
theorem dX4_extend_212 : decode cX4_extend 212 = .ok (.iadd, 1) := by decide +kernel
theorem dX4_extend_213 : decode cX4_extend 213 = .ok (.iconst 1, 1) := by decide +kernel
theorem dX4_extend_214 : decode cX4_extend 214 = .ok (.iadd, 1) := by decide +kernel
theorem dX4_extend_215 : decode cX4_extend 215 = .ok (.invokestatic 55, 3) := by decide +kernel
theorem dX4_extend_218 : decode cX4_extend 218 = .ok (.iinc 9 1, 3) := by decide +kernel
theorem dX4_extend_221 : decode cX4_extend 221 = .ok (.goto (-148), 3) := by decide +kernel
theorem dX4_extend_224 : decode cX4_extend 224 = .ok (.return_, 1) := by decide +kernel
theorem dX4_canBeat_0 : decode cX4_canBeat 0 = .ok (.iload_n 1, 1) := by decide +kernel
theorem dX4_canBeat_1 : decode cX4_canBeat 1 = .ok (.aload_n 0, 1) := by decide +kernel
theorem dX4_canBeat_2 : decode cX4_canBeat 2 = .ok (.getfield 15, 3) := by decide +kernel
theorem dX4_canBeat_5 : decode cX4_canBeat 5 = .ok (.if_icmp .gt 19, 3) := by decide +kernel
theorem dX4_canBeat_8 : decode cX4_canBeat 8 = .ok (.iload_n 1, 1) := by decide +kernel
theorem dX4_canBeat_9 : decode cX4_canBeat 9 = .ok (.aload_n 0, 1) := by decide +kernel
theorem dX4_canBeat_10 : decode cX4_canBeat 10 = .ok (.getfield 15, 3) := by decide +kernel
theorem dX4_canBeat_13 : decode cX4_canBeat 13 = .ok (.if_icmp .ne 15, 3) := by decide +kernel
theorem dX4_canBeat_16 : decode cX4_canBeat 16 = .ok (.iload_n 2, 1) := by decide +kernel
theorem dX4_canBeat_17 : decode cX4_canBeat 17 = .ok (.aload_n 0, 1) := by decide +kernel
theorem dX4_canBeat_18 : decode cX4_canBeat 18 = .ok (.getfield 18, 3) := by decide +kernel
theorem dX4_canBeat_21 : decode cX4_canBeat 21 = .ok (.if_icmp .ge 7, 3) := by decide +kernel
theorem dX4_canBeat_24 : decode cX4_canBeat 24 = .ok (.iconst 1, 1) := by decide +kernel
theorem dX4_canBeat_25 : decode cX4_canBeat 25 = .ok (.goto 4, 3) := by decide +kernel
theorem dX4_canBeat_28 : decode cX4_canBeat 28 = .ok (.iconst 0, 1) := by decide +kernel
theorem dX4_canBeat_29 : decode cX4_canBeat 29 = .ok (.ireturn, 1) := by decide +kernel
theorem dX4_settle_0 : decode cX4_settle 0 = .ok (.aload_n 0, 1) := by decide +kernel
theorem dX4_settle_1 : decode cX4_settle 1 = .ok (.iload_n 1, 1) := by decide +kernel
theorem dX4_settle_2 : decode cX4_settle 2 = .ok (.putfield 9, 3) := by decide +kernel
theorem dX4_settle_5 : decode cX4_settle 5 = .ok (.aload_n 0, 1) := by decide +kernel
theorem dX4_settle_6 : decode cX4_settle 6 = .ok (.iload_n 2, 1) := by decide +kernel
theorem dX4_settle_7 : decode cX4_settle 7 = .ok (.putfield 15, 3) := by decide +kernel
theorem dX4_settle_10 : decode cX4_settle 10 = .ok (.aload_n 0, 1) := by decide +kernel
theorem dX4_settle_11 : decode cX4_settle 11 = .ok (.iload_n 3, 1) := by decide +kernel
theorem dX4_settle_12 : decode cX4_settle 12 = .ok (.putfield 18, 3) := by decide +kernel
theorem dX4_settle_15 : decode cX4_settle 15 = .ok (.return_, 1) := by decide +kernel
theorem dX6_init_0 : decode cX6_init 0 = .ok (.aload_n 0, 1) := by decide +kernel
theorem dX6_init_1 : decode cX6_init 1 = .ok (.invokespecial 3, 3) := by decide +kernel
theorem dX6_init_4 : decode cX6_init 4 = .ok (.aload_n 0, 1) := by decide +kernel
theorem dX6_init_5 : decode cX6_init 5 = .ok (.iconst 0, 1) := by decide +kernel
theorem dX6_init_6 : decode cX6_init 6 = .ok (.putfield 9, 3) := by decide +kernel
theorem dX6_init_9 : decode cX6_init 9 = .ok (.aload_n 0, 1) := by decide +kernel
theorem dX6_init_10 : decode cX6_init 10 = .ok (.iconst 0, 1) := by decide +kernel
theorem dX6_init_11 : decode cX6_init 11 = .ok (.putfield 15, 3) := by decide +kernel
theorem dX6_init_14 : decode cX6_init 14 = .ok (.aload_n 0, 1) := by decide +kernel
theorem dX6_init_15 : decode cX6_init 15 = .ok (.iconst 0, 1) := by decide +kernel
theorem dX6_init_16 : decode cX6_init 16 = .ok (.putfield 18, 3) := by decide +kernel
theorem dX6_init_19 : decode cX6_init 19 = .ok (.aload_n 0, 1) := by decide +kernel
theorem dX6_init_20 : decode cX6_init 20 = .ok (.iconst 0, 1) := by decide +kernel
theorem dX6_init_21 : decode cX6_init 21 = .ok (.putfield 21, 3) := by decide +kernel
theorem dX6_init_24 : decode cX6_init 24 = .ok (.aload_n 0, 1) := by decide +kernel
theorem dX6_init_25 : decode cX6_init 25 = .ok (.iconst 0, 1) := by decide +kernel
theorem dX6_init_26 : decode cX6_init 26 = .ok (.putfield 24, 3) := by decide +kernel
theorem dX6_init_29 : decode cX6_init 29 = .ok (.aload_n 0, 1) := by decide +kernel
theorem dX6_init_30 : decode cX6_init 30 = .ok (.bipush 7, 2) := by decide +kernel
theorem dX6_init_32 : decode cX6_init 32 = .ok (.newarray .int, 2) := by decide +kernel
theorem dX6_init_34 : decode cX6_init 34 = .ok (.putfield 27, 3) := by decide +kernel
theorem dX6_init_37 : decode cX6_init 37 = .ok (.aload_n 0, 1) := by decide +kernel
theorem dX6_init_38 : decode cX6_init 38 = .ok (.bipush 7, 2) := by decide +kernel
theorem dX6_init_40 : decode cX6_init 40 = .ok (.newarray .int, 2) := by decide +kernel
theorem dX6_init_42 : decode cX6_init 42 = .ok (.putfield 31, 3) := by decide +kernel
theorem dX6_init_45 : decode cX6_init 45 = .ok (.aload_n 0, 1) := by decide +kernel
theorem dX6_init_46 : decode cX6_init 46 = .ok (.bipush 7, 2) := by decide +kernel
theorem dX6_init_48 : decode cX6_init 48 = .ok (.newarray .int, 2) := by decide +kernel
theorem dX6_init_50 : decode cX6_init 50 = .ok (.putfield 34, 3) := by decide +kernel
theorem dX6_init_53 : decode cX6_init 53 = .ok (.aload_n 0, 1) := by decide +kernel
theorem dX6_init_54 : decode cX6_init 54 = .ok (.bipush 7, 2) := by decide +kernel
theorem dX6_init_56 : decode cX6_init 56 = .ok (.newarray .int, 2) := by decide +kernel
theorem dX6_init_58 : decode cX6_init 58 = .ok (.putfield 37, 3) := by decide +kernel
theorem dX6_init_61 : decode cX6_init 61 = .ok (.aload_n 0, 1) := by decide +kernel
theorem dX6_init_62 : decode cX6_init 62 = .ok (.bipush 7, 2) := by decide +kernel
theorem dX6_init_64 : decode cX6_init 64 = .ok (.newarray .int, 2) := by decide +kernel
theorem dX6_init_66 : decode cX6_init 66 = .ok (.putfield 40, 3) := by decide +kernel
theorem dX6_init_69 : decode cX6_init 69 = .ok (.aload_n 0, 1) := by decide +kernel
theorem dX6_init_70 : decode cX6_init 70 = .ok (.bipush 12, 2) := by decide +kernel
theorem dX6_init_72 : decode cX6_init 72 = .ok (.newarray .int, 2) := by decide +kernel
theorem dX6_init_74 : decode cX6_init 74 = .ok (.putfield 43, 3) := by decide +kernel
theorem dX6_init_77 : decode cX6_init 77 = .ok (.return_, 1) := by decide +kernel
theorem dX6_begin_0 : decode cX6_begin 0 = .ok (.aload_n 0, 1) := by decide +kernel
theorem dX6_begin_1 : decode cX6_begin 1 = .ok (.iconst 0, 1) := by decide +kernel
theorem dX6_begin_2 : decode cX6_begin 2 = .ok (.putfield 9, 3) := by decide +kernel
theorem dX6_begin_5 : decode cX6_begin 5 = .ok (.aload_n 0, 1) := by decide +kernel
theorem dX6_begin_6 : decode cX6_begin 6 = .ok (.iconst 0, 1) := by decide +kernel
theorem dX6_begin_7 : decode cX6_begin 7 = .ok (.putfield 15, 3) := by decide +kernel
theorem dX6_begin_10 : decode cX6_begin 10 = .ok (.aload_n 0, 1) := by decide +kernel
theorem dX6_begin_11 : decode cX6_begin 11 = .ok (.iconst 0, 1) := by decide +kernel
theorem dX6_begin_12 : decode cX6_begin 12 = .ok (.putfield 18, 3) := by decide +kernel
theorem dX6_begin_15 : decode cX6_begin 15 = .ok (.aload_n 0, 1) := by decide +kernel
theorem dX6_begin_16 : decode cX6_begin 16 = .ok (.iconst 0, 1) := by decide +kernel
theorem dX6_begin_17 : decode cX6_begin 17 = .ok (.putfield 21, 3) := by decide +kernel
theorem dX6_begin_20 : decode cX6_begin 20 = .ok (.aload_n 0, 1) := by decide +kernel
theorem dX6_begin_21 : decode cX6_begin 21 = .ok (.iconst 0, 1) := by decide +kernel
theorem dX6_begin_22 : decode cX6_begin 22 = .ok (.putfield 24, 3) := by decide +kernel
theorem dX6_begin_25 : decode cX6_begin 25 = .ok (.return_, 1) := by decide +kernel
theorem dX6_copy_0 : decode cX6_copy 0 = .ok (.aload_n 0, 1) := by decide +kernel
theorem dX6_copy_1 : decode cX6_copy 1 = .ok (.aload_n 1, 1) := by decide +kernel
theorem dX6_copy_2 : decode cX6_copy 2 = .ok (.getfield 9, 3) := by decide +kernel
theorem dX6_copy_5 : decode cX6_copy 5 = .ok (.putfield 9, 3) := by decide +kernel
theorem dX6_copy_8 : decode cX6_copy 8 = .ok (.aload_n 0, 1) := by decide +kernel
theorem dX6_copy_9 : decode cX6_copy 9 = .ok (.aload_n 1, 1) := by decide +kernel
theorem dX6_copy_10 : decode cX6_copy 10 = .ok (.getfield 15, 3) := by decide +kernel
theorem dX6_copy_13 : decode cX6_copy 13 = .ok (.putfield 15, 3) := by decide +kernel
theorem dX6_copy_16 : decode cX6_copy 16 = .ok (.aload_n 0, 1) := by decide +kernel
theorem dX6_copy_17 : decode cX6_copy 17 = .ok (.aload_n 1, 1) := by decide +kernel
theorem dX6_copy_18 : decode cX6_copy 18 = .ok (.getfield 18, 3) := by decide +kernel
theorem dX6_copy_21 : decode cX6_copy 21 = .ok (.putfield 18, 3) := by decide +kernel
theorem dX6_copy_24 : decode cX6_copy 24 = .ok (.aload_n 0, 1) := by decide +kernel
theorem dX6_copy_25 : decode cX6_copy 25 = .ok (.aload_n 1, 1) := by decide +kernel
theorem dX6_copy_26 : decode cX6_copy 26 = .ok (.getfield 21, 3) := by decide +kernel
theorem dX6_copy_29 : decode cX6_copy 29 = .ok (.putfield 21, 3) := by decide +kernel
theorem dX6_copy_32 : decode cX6_copy 32 = .ok (.aload_n 0, 1) := by decide +kernel
theorem dX6_copy_33 : decode cX6_copy 33 = .ok (.aload_n 1, 1) := by decide +kernel
theorem dX6_copy_34 : decode cX6_copy 34 = .ok (.getfield 24, 3) := by decide +kernel
theorem dX6_copy_37 : decode cX6_copy 37 = .ok (.putfield 24, 3) := by decide +kernel
theorem dX6_copy_40 : decode cX6_copy 40 = .ok (.aload_n 1, 1) := by decide +kernel
theorem dX6_copy_41 : decode cX6_copy 41 = .ok (.getfield 27, 3) := by decide +kernel
theorem dX6_copy_44 : decode cX6_copy 44 = .ok (.iconst 0, 1) := by decide +kernel
theorem dX6_copy_45 : decode cX6_copy 45 = .ok (.aload_n 0, 1) := by decide +kernel
theorem dX6_copy_46 : decode cX6_copy 46 = .ok (.getfield 27, 3) := by decide +kernel
theorem dX6_copy_49 : decode cX6_copy 49 = .ok (.iconst 0, 1) := by decide +kernel
theorem dX6_copy_50 : decode cX6_copy 50 = .ok (.bipush 7, 2) := by decide +kernel
theorem dX6_copy_52 : decode cX6_copy 52 = .ok (.invokestatic 46, 3) := by decide +kernel
theorem dX6_copy_55 : decode cX6_copy 55 = .ok (.aload_n 1, 1) := by decide +kernel
theorem dX6_copy_56 : decode cX6_copy 56 = .ok (.getfield 31, 3) := by decide +kernel
theorem dX6_copy_59 : decode cX6_copy 59 = .ok (.iconst 0, 1) := by decide +kernel
theorem dX6_copy_60 : decode cX6_copy 60 = .ok (.aload_n 0, 1) := by decide +kernel
theorem dX6_copy_61 : decode cX6_copy 61 = .ok (.getfield 31, 3) := by decide +kernel
theorem dX6_copy_64 : decode cX6_copy 64 = .ok (.iconst 0, 1) := by decide +kernel
theorem dX6_copy_65 : decode cX6_copy 65 = .ok (.bipush 7, 2) := by decide +kernel
theorem dX6_copy_67 : decode cX6_copy 67 = .ok (.invokestatic 46, 3) := by decide +kernel
theorem dX6_copy_70 : decode cX6_copy 70 = .ok (.aload_n 1, 1) := by decide +kernel
theorem dX6_copy_71 : decode cX6_copy 71 = .ok (.getfield 34, 3) := by decide +kernel
theorem dX6_copy_74 : decode cX6_copy 74 = .ok (.iconst 0, 1) := by decide +kernel
theorem dX6_copy_75 : decode cX6_copy 75 = .ok (.aload_n 0, 1) := by decide +kernel
theorem dX6_copy_76 : decode cX6_copy 76 = .ok (.getfield 34, 3) := by decide +kernel
theorem dX6_copy_79 : decode cX6_copy 79 = .ok (.iconst 0, 1) := by decide +kernel
theorem dX6_copy_80 : decode cX6_copy 80 = .ok (.bipush 7, 2) := by decide +kernel
theorem dX6_copy_82 : decode cX6_copy 82 = .ok (.invokestatic 46, 3) := by decide +kernel
theorem dX6_copy_85 : decode cX6_copy 85 = .ok (.aload_n 1, 1) := by decide +kernel
theorem dX6_copy_86 : decode cX6_copy 86 = .ok (.getfield 37, 3) := by decide +kernel
theorem dX6_copy_89 : decode cX6_copy 89 = .ok (.iconst 0, 1) := by decide +kernel
theorem dX6_copy_90 : decode cX6_copy 90 = .ok (.aload_n 0, 1) := by decide +kernel
theorem dX6_copy_91 : decode cX6_copy 91 = .ok (.getfield 37, 3) := by decide +kernel
theorem dX6_copy_94 : decode cX6_copy 94 = .ok (.iconst 0, 1) := by decide +kernel
theorem dX6_copy_95 : decode cX6_copy 95 = .ok (.bipush 7, 2) := by decide +kernel
theorem dX6_copy_97 : decode cX6_copy 97 = .ok (.invokestatic 46, 3) := by decide +kernel
theorem dX6_copy_100 : decode cX6_copy 100 = .ok (.aload_n 1, 1) := by decide +kernel
theorem dX6_copy_101 : decode cX6_copy 101 = .ok (.getfield 40, 3) := by decide +kernel
theorem dX6_copy_104 : decode cX6_copy 104 = .ok (.iconst 0, 1) := by decide +kernel
theorem dX6_copy_105 : decode cX6_copy 105 = .ok (.aload_n 0, 1) := by decide +kernel
theorem dX6_copy_106 : decode cX6_copy 106 = .ok (.getfield 40, 3) := by decide +kernel
theorem dX6_copy_109 : decode cX6_copy 109 = .ok (.iconst 0, 1) := by decide +kernel
theorem dX6_copy_110 : decode cX6_copy 110 = .ok (.bipush 7, 2) := by decide +kernel
theorem dX6_copy_112 : decode cX6_copy 112 = .ok (.invokestatic 46, 3) := by decide +kernel
theorem dX6_copy_115 : decode cX6_copy 115 = .ok (.aload_n 1, 1) := by decide +kernel
theorem dX6_copy_116 : decode cX6_copy 116 = .ok (.getfield 43, 3) := by decide +kernel
theorem dX6_copy_119 : decode cX6_copy 119 = .ok (.iconst 0, 1) := by decide +kernel
theorem dX6_copy_120 : decode cX6_copy 120 = .ok (.aload_n 0, 1) := by decide +kernel
theorem dX6_copy_121 : decode cX6_copy 121 = .ok (.getfield 43, 3) := by decide +kernel
theorem dX6_copy_124 : decode cX6_copy 124 = .ok (.iconst 0, 1) := by decide +kernel
theorem dX6_copy_125 : decode cX6_copy 125 = .ok (.bipush 12, 2) := by decide +kernel
theorem dX6_copy_127 : decode cX6_copy 127 = .ok (.invokestatic 46, 3) := by decide +kernel
theorem dX6_copy_130 : decode cX6_copy 130 = .ok (.return_, 1) := by decide +kernel
theorem dX6_addStop_0 : decode cX6_addStop 0 = .ok (.aload_n 0, 1) := by decide +kernel
theorem dX6_addStop_1 : decode cX6_addStop 1 = .ok (.getfield 21, 3) := by decide +kernel
theorem dX6_addStop_4 : decode cX6_addStop 4 = .ok (.bipush 7, 2) := by decide +kernel
theorem dX6_addStop_6 : decode cX6_addStop 6 = .ok (.if_icmp .lt 4, 3) := by decide +kernel
theorem dX6_addStop_9 : decode cX6_addStop 9 = .ok (.return_, 1) := by decide +kernel
theorem dX6_addStop_10 : decode cX6_addStop 10 = .ok (.aload_n 0, 1) := by decide +kernel
theorem dX6_addStop_11 : decode cX6_addStop 11 = .ok (.getfield 27, 3) := by decide +kernel
theorem dX6_addStop_14 : decode cX6_addStop 14 = .ok (.aload_n 0, 1) := by decide +kernel
theorem dX6_addStop_15 : decode cX6_addStop 15 = .ok (.getfield 21, 3) := by decide +kernel
theorem dX6_addStop_18 : decode cX6_addStop 18 = .ok (.iload_n 1, 1) := by decide +kernel
theorem dX6_addStop_19 : decode cX6_addStop 19 = .ok (.iastore, 1) := by decide +kernel
theorem dX6_addStop_20 : decode cX6_addStop 20 = .ok (.aload_n 0, 1) := by decide +kernel
theorem dX6_addStop_21 : decode cX6_addStop 21 = .ok (.getfield 31, 3) := by decide +kernel
theorem dX6_addStop_24 : decode cX6_addStop 24 = .ok (.aload_n 0, 1) := by decide +kernel
theorem dX6_addStop_25 : decode cX6_addStop 25 = .ok (.getfield 21, 3) := by decide +kernel
theorem dX6_addStop_28 : decode cX6_addStop 28 = .ok (.iload_n 2, 1) := by decide +kernel
theorem dX6_addStop_29 : decode cX6_addStop 29 = .ok (.iastore, 1) := by decide +kernel
theorem dX6_addStop_30 : decode cX6_addStop 30 = .ok (.aload_n 0, 1) := by decide +kernel
theorem dX6_addStop_31 : decode cX6_addStop 31 = .ok (.getfield 34, 3) := by decide +kernel
theorem dX6_addStop_34 : decode cX6_addStop 34 = .ok (.aload_n 0, 1) := by decide +kernel
theorem dX6_addStop_35 : decode cX6_addStop 35 = .ok (.getfield 21, 3) := by decide +kernel
theorem dX6_addStop_38 : decode cX6_addStop 38 = .ok (.iload_n 3, 1) := by decide +kernel
theorem dX6_addStop_39 : decode cX6_addStop 39 = .ok (.iastore, 1) := by decide +kernel
theorem dX6_addStop_40 : decode cX6_addStop 40 = .ok (.aload_n 0, 1) := by decide +kernel
theorem dX6_addStop_41 : decode cX6_addStop 41 = .ok (.getfield 37, 3) := by decide +kernel
theorem dX6_addStop_44 : decode cX6_addStop 44 = .ok (.aload_n 0, 1) := by decide +kernel
theorem dX6_addStop_45 : decode cX6_addStop 45 = .ok (.getfield 21, 3) := by decide +kernel
theorem dX6_addStop_48 : decode cX6_addStop 48 = .ok (.iconst (-1), 1) := by decide +kernel
theorem dX6_addStop_49 : decode cX6_addStop 49 = .ok (.iastore, 1) := by decide +kernel
theorem dX6_addStop_50 : decode cX6_addStop 50 = .ok (.aload_n 0, 1) := by decide +kernel
theorem dX6_addStop_51 : decode cX6_addStop 51 = .ok (.getfield 40, 3) := by decide +kernel
theorem dX6_addStop_54 : decode cX6_addStop 54 = .ok (.aload_n 0, 1) := by decide +kernel
theorem dX6_addStop_55 : decode cX6_addStop 55 = .ok (.getfield 21, 3) := by decide +kernel
theorem dX6_addStop_58 : decode cX6_addStop 58 = .ok (.iconst 0, 1) := by decide +kernel
theorem dX6_addStop_59 : decode cX6_addStop 59 = .ok (.iastore, 1) := by decide +kernel
theorem dX6_addStop_60 : decode cX6_addStop 60 = .ok (.aload_n 0, 1) := by decide +kernel
theorem dX6_addStop_61 : decode cX6_addStop 61 = .ok (.dup, 1) := by decide +kernel
theorem dX6_addStop_62 : decode cX6_addStop 62 = .ok (.getfield 21, 3) := by decide +kernel
theorem dX6_addStop_65 : decode cX6_addStop 65 = .ok (.iconst 1, 1) := by decide +kernel
theorem dX6_addStop_66 : decode cX6_addStop 66 = .ok (.iadd, 1) := by decide +kernel
theorem dX6_addStop_67 : decode cX6_addStop 67 = .ok (.putfield 21, 3) := by decide +kernel
theorem dX6_addStop_70 : decode cX6_addStop 70 = .ok (.return_, 1) := by decide +kernel
theorem dX6_addDin_0 : decode cX6_addDin 0 = .ok (.aload_n 0, 1) := by decide +kernel
theorem dX6_addDin_1 : decode cX6_addDin 1 = .ok (.getfield 24, 3) := by decide +kernel
theorem dX6_addDin_4 : decode cX6_addDin 4 = .ok (.bipush 12, 2) := by decide +kernel
theorem dX6_addDin_6 : decode cX6_addDin 6 = .ok (.if_icmp .ge 23, 3) := by decide +kernel
theorem dX6_addDin_9 : decode cX6_addDin 9 = .ok (.aload_n 0, 1) := by decide +kernel
theorem dX6_addDin_10 : decode cX6_addDin 10 = .ok (.getfield 43, 3) := by decide +kernel
theorem dX6_addDin_13 : decode cX6_addDin 13 = .ok (.aload_n 0, 1) := by decide +kernel
theorem dX6_addDin_14 : decode cX6_addDin 14 = .ok (.getfield 24, 3) := by decide +kernel
theorem dX6_addDin_17 : decode cX6_addDin 17 = .ok (.iload_n 1, 1) := by decide +kernel
theorem dX6_addDin_18 : decode cX6_addDin 18 = .ok (.iastore, 1) := by decide +kernel
theorem dX6_addDin_19 : decode cX6_addDin 19 = .ok (.aload_n 0, 1) := by decide +kernel
theorem dX6_addDin_20 : decode cX6_addDin 20 = .ok (.dup, 1) := by decide +kernel
theorem dX6_addDin_21 : decode cX6_addDin 21 = .ok (.getfield 24, 3) := by decide +kernel
theorem dX6_addDin_24 : decode cX6_addDin 24 = .ok (.iconst 1, 1) := by decide +kernel
theorem dX6_addDin_25 : decode cX6_addDin 25 = .ok (.iadd, 1) := by decide +kernel
theorem dX6_addDin_26 : decode cX6_addDin 26 = .ok (.putfield 24, 3) := by decide +kernel
theorem dX6_addDin_29 : decode cX6_addDin 29 = .ok (.return_, 1) := by decide +kernel
theorem dX6_has_0 : decode cX6_has 0 = .ok (.iload_n 1, 1) := by decide +kernel
theorem dX6_has_1 : decode cX6_has 1 = .ok (.ifCond .lt 15, 3) := by decide +kernel
theorem dX6_has_4 : decode cX6_has 4 = .ok (.iload_n 1, 1) := by decide +kernel
theorem dX6_has_5 : decode cX6_has 5 = .ok (.aload_n 0, 1) := by decide +kernel
theorem dX6_has_6 : decode cX6_has 6 = .ok (.getfield 21, 3) := by decide +kernel
theorem dX6_has_9 : decode cX6_has 9 = .ok (.if_icmp .ge 7, 3) := by decide +kernel
theorem dX6_has_12 : decode cX6_has 12 = .ok (.iconst 1, 1) := by decide +kernel
theorem dX6_has_13 : decode cX6_has 13 = .ok (.goto 4, 3) := by decide +kernel
theorem dX6_has_16 : decode cX6_has 16 = .ok (.iconst 0, 1) := by decide +kernel
theorem dX6_has_17 : decode cX6_has 17 = .ok (.ireturn, 1) := by decide +kernel
theorem dX6_isWay_0 : decode cX6_isWay 0 = .ok (.iconst 0, 1) := by decide +kernel
theorem dX6_isWay_1 : decode cX6_isWay 1 = .ok (.istore_n 2, 1) := by decide +kernel
theorem dX6_isWay_2 : decode cX6_isWay 2 = .ok (.iload_n 1, 1) := by decide +kernel
theorem dX6_isWay_3 : decode cX6_isWay 3 = .ok (.istore_n 3, 1) := by decide +kernel
theorem dX6_isWay_4 : decode cX6_isWay 4 = .ok (.iload_n 3, 1) := by decide +kernel
theorem dX6_isWay_5 : decode cX6_isWay 5 = .ok (.ifCond .le 46, 3) := by decide +kernel
theorem dX6_isWay_8 : decode cX6_isWay 8 = .ok (.iload_n 3, 1) := by decide +kernel
theorem dX6_isWay_9 : decode cX6_isWay 9 = .ok (.bipush 10, 2) := by decide +kernel
theorem dX6_isWay_11 : decode cX6_isWay 11 = .ok (.irem, 1) := by decide +kernel
theorem dX6_isWay_12 : decode cX6_isWay 12 = .ok (.iconst 1, 1) := by decide +kernel
theorem dX6_isWay_13 : decode cX6_isWay 13 = .ok (.isub, 1) := by decide +kernel
theorem dX6_isWay_14 : decode cX6_isWay 14 = .ok (.istore 4, 2) := by decide +kernel
theorem dX6_isWay_16 : decode cX6_isWay 16 = .ok (.aload_n 0, 1) := by decide +kernel
theorem dX6_isWay_17 : decode cX6_isWay 17 = .ok (.iload 4, 2) := by decide +kernel
theorem dX6_isWay_19 : decode cX6_isWay 19 = .ok (.invokevirtual 52, 3) := by decide +kernel
theorem dX6_isWay_22 : decode cX6_isWay 22 = .ok (.ifCond .eq 12, 3) := by decide +kernel
theorem dX6_isWay_25 : decode cX6_isWay 25 = .ok (.iload_n 2, 1) := by decide +kernel
theorem dX6_isWay_26 : decode cX6_isWay 26 = .ok (.iload 4, 2) := by decide +kernel
theorem dX6_isWay_28 : decode cX6_isWay 28 = .ok (.ishr, 1) := by decide +kernel
theorem dX6_isWay_29 : decode cX6_isWay 29 = .ok (.iconst 1, 1) := by decide +kernel
theorem dX6_isWay_30 : decode cX6_isWay 30 = .ok (.iand, 1) := by decide +kernel
theorem dX6_isWay_31 : decode cX6_isWay 31 = .ok (.ifCond .eq 5, 3) := by decide +kernel
theorem dX6_isWay_34 : decode cX6_isWay 34 = .ok (.iconst 0, 1) := by decide +kernel
theorem dX6_isWay_35 : decode cX6_isWay 35 = .ok (.ireturn, 1) := by decide +kernel
theorem dX6_isWay_36 : decode cX6_isWay 36 = .ok (.iload_n 2, 1) := by decide +kernel
theorem dX6_isWay_37 : decode cX6_isWay 37 = .ok (.iconst 1, 1) := by decide +kernel
theorem dX6_isWay_38 : decode cX6_isWay 38 = .ok (.iload 4, 2) := by decide +kernel
theorem dX6_isWay_40 : decode cX6_isWay 40 = .ok (.ishl, 1) := by decide +kernel
theorem dX6_isWay_41 : decode cX6_isWay 41 = .ok (.ior, 1) := by decide +kernel
theorem dX6_isWay_42 : decode cX6_isWay 42 = .ok (.istore_n 2, 1) := by decide +kernel
theorem dX6_isWay_43 : decode cX6_isWay 43 = .ok (.iload_n 3, 1) := by decide +kernel
theorem dX6_isWay_44 : decode cX6_isWay 44 = .ok (.bipush 10, 2) := by decide +kernel
theorem dX6_isWay_46 : decode cX6_isWay 46 = .ok (.idiv, 1) := by decide +kernel
theorem dX6_isWay_47 : decode cX6_isWay 47 = .ok (.istore_n 3, 1) := by decide +kernel
theorem dX6_isWay_48 : decode cX6_isWay 48 = .ok (.goto (-44), 3) := by decide +kernel
theorem dX6_isWay_51 : decode cX6_isWay 51 = .ok (.iload_n 2, 1) := by decide +kernel
theorem dX6_isWay_52 : decode cX6_isWay 52 = .ok (.ifCond .eq 7, 3) := by decide +kernel
theorem dX6_isWay_55 : decode cX6_isWay 55 = .ok (.iconst 1, 1) := by decide +kernel
theorem dX6_isWay_56 : decode cX6_isWay 56 = .ok (.goto 4, 3) := by decide +kernel
theorem dX6_isWay_59 : decode cX6_isWay 59 = .ok (.iconst 0, 1) := by decide +kernel
theorem dX6_isWay_60 : decode cX6_isWay 60 = .ok (.ireturn, 1) := by decide +kernel
theorem dX6_risingWay_0 : decode cX6_risingWay 0 = .ok (.iconst 0, 1) := by decide +kernel
theorem dX6_risingWay_1 : decode cX6_risingWay 1 = .ok (.istore_n 1, 1) := by decide +kernel
theorem dX6_risingWay_2 : decode cX6_risingWay 2 = .ok (.iconst 0, 1) := by decide +kernel
theorem dX6_risingWay_3 : decode cX6_risingWay 3 = .ok (.istore_n 2, 1) := by decide +kernel
theorem dX6_risingWay_4 : decode cX6_risingWay 4 = .ok (.iload_n 2, 1) := by decide +kernel
theorem dX6_risingWay_5 : decode cX6_risingWay 5 = .ok (.aload_n 0, 1) := by decide +kernel
theorem dX6_risingWay_6 : decode cX6_risingWay 6 = .ok (.getfield 21, 3) := by decide +kernel
theorem dX6_risingWay_9 : decode cX6_risingWay 9 = .ok (.if_icmp .ge 18, 3) := by decide +kernel
theorem dX6_risingWay_12 : decode cX6_risingWay 12 = .ok (.iload_n 1, 1) := by decide +kernel
theorem dX6_risingWay_13 : decode cX6_risingWay 13 = .ok (.bipush 10, 2) := by decide +kernel
theorem dX6_risingWay_15 : decode cX6_risingWay 15 = .ok (.imul, 1) := by decide +kernel
theorem dX6_risingWay_16 : decode cX6_risingWay 16 = .ok (.iload_n 2, 1) := by decide +kernel
theorem dX6_risingWay_17 : decode cX6_risingWay 17 = .ok (.iadd, 1) := by decide +kernel
theorem dX6_risingWay_18 : decode cX6_risingWay 18 = .ok (.iconst 1, 1) := by decide +kernel
theorem dX6_risingWay_19 : decode cX6_risingWay 19 = .ok (.iadd, 1) := by decide +kernel
theorem dX6_risingWay_20 : decode cX6_risingWay 20 = .ok (.istore_n 1, 1) := by decide +kernel
theorem dX6_risingWay_21 : decode cX6_risingWay 21 = .ok (.iinc 2 1, 3) := by decide +kernel
theorem dX6_risingWay_24 : decode cX6_risingWay 24 = .ok (.goto (-20), 3) := by decide +kernel
theorem dX6_risingWay_27 : decode cX6_risingWay 27 = .ok (.iload_n 1, 1) := by decide +kernel
theorem dX6_risingWay_28 : decode cX6_risingWay 28 = .ok (.ireturn, 1) := by decide +kernel
theorem dX6_dinOf_0 : decode cX6_dinOf 0 = .ok (.iload_n 1, 1) := by decide +kernel
theorem dX6_dinOf_1 : decode cX6_dinOf 1 = .ok (.ifCond .lt 11, 3) := by decide +kernel
theorem dX6_dinOf_4 : decode cX6_dinOf 4 = .ok (.aload_n 0, 1) := by decide +kernel
theorem dX6_dinOf_5 : decode cX6_dinOf 5 = .ok (.getfield 24, 3) := by decide +kernel
theorem dX6_dinOf_8 : decode cX6_dinOf 8 = .ok (.iconst 1, 1) := by decide +kernel
theorem dX6_dinOf_9 : decode cX6_dinOf 9 = .ok (.if_icmp .ge 7, 3) := by decide +kernel
theorem dX6_dinOf_12 : decode cX6_dinOf 12 = .ok (.iconst 0, 1) := by decide +kernel
theorem dX6_dinOf_13 : decode cX6_dinOf 13 = .ok (.goto 14, 3) := by decide +kernel
theorem dX6_dinOf_16 : decode cX6_dinOf 16 = .ok (.aload_n 0, 1) := by decide +kernel
theorem dX6_dinOf_17 : decode cX6_dinOf 17 = .ok (.getfield 43, 3) := by decide +kernel
theorem dX6_dinOf_20 : decode cX6_dinOf 20 = .ok (.iload_n 1, 1) := by decide +kernel
theorem dX6_dinOf_21 : decode cX6_dinOf 21 = .ok (.aload_n 0, 1) := by decide +kernel
theorem dX6_dinOf_22 : decode cX6_dinOf 22 = .ok (.getfield 24, 3) := by decide +kernel
theorem dX6_dinOf_25 : decode cX6_dinOf 25 = .ok (.irem, 1) := by decide +kernel
theorem dX6_dinOf_26 : decode cX6_dinOf 26 = .ok (.iaload, 1) := by decide +kernel
theorem dX6_dinOf_27 : decode cX6_dinOf 27 = .ok (.ireturn, 1) := by decide +kernel
theorem dX6_isIn_0 : decode cX6_isIn 0 = .ok (.aload_n 0, 1) := by decide +kernel
theorem dX6_isIn_1 : decode cX6_isIn 1 = .ok (.iload_n 1, 1) := by decide +kernel
theorem dX6_isIn_2 : decode cX6_isIn 2 = .ok (.invokevirtual 52, 3) := by decide +kernel
theorem dX6_isIn_5 : decode cX6_isIn 5 = .ok (.ifCond .eq 30, 3) := by decide +kernel
theorem dX6_isIn_8 : decode cX6_isIn 8 = .ok (.iload_n 2, 1) := by decide +kernel
theorem dX6_isIn_9 : decode cX6_isIn 9 = .ok (.iconst 0, 1) := by decide +kernel
theorem dX6_isIn_10 : decode cX6_isIn 10 = .ok (.bipush 11, 2) := by decide +kernel
theorem dX6_isIn_12 : decode cX6_isIn 12 = .ok (.invokestatic 56, 3) := by decide +kernel
theorem dX6_isIn_15 : decode cX6_isIn 15 = .ok (.ifCond .eq 20, 3) := by decide +kernel
theorem dX6_isIn_18 : decode cX6_isIn 18 = .ok (.aload_n 0, 1) := by decide +kernel
theorem dX6_isIn_19 : decode cX6_isIn 19 = .ok (.getfield 31, 3) := by decide +kernel
theorem dX6_isIn_22 : decode cX6_isIn 22 = .ok (.iload_n 1, 1) := by decide +kernel
theorem dX6_isIn_23 : decode cX6_isIn 23 = .ok (.iaload, 1) := by decide +kernel
theorem dX6_isIn_24 : decode cX6_isIn 24 = .ok (.iload_n 2, 1) := by decide +kernel
theorem dX6_isIn_25 : decode cX6_isIn 25 = .ok (.ishr, 1) := by decide +kernel
theorem dX6_isIn_26 : decode cX6_isIn 26 = .ok (.iconst 1, 1) := by decide +kernel
theorem dX6_isIn_27 : decode cX6_isIn 27 = .ok (.iand, 1) := by decide +kernel
theorem dX6_isIn_28 : decode cX6_isIn 28 = .ok (.ifCond .eq 7, 3) := by decide +kernel
theorem dX6_isIn_31 : decode cX6_isIn 31 = .ok (.iconst 1, 1) := by decide +kernel
theorem dX6_isIn_32 : decode cX6_isIn 32 = .ok (.goto 4, 3) := by decide +kernel
theorem dX6_isIn_35 : decode cX6_isIn 35 = .ok (.iconst 0, 1) := by decide +kernel
theorem dX6_isIn_36 : decode cX6_isIn 36 = .ok (.ireturn, 1) := by decide +kernel
theorem dX6_meets_0 : decode cX6_meets 0 = .ok (.aload_n 0, 1) := by decide +kernel
theorem dX6_meets_1 : decode cX6_meets 1 = .ok (.iload_n 1, 1) := by decide +kernel
theorem dX6_meets_2 : decode cX6_meets 2 = .ok (.invokevirtual 52, 3) := by decide +kernel
theorem dX6_meets_5 : decode cX6_meets 5 = .ok (.ifCond .ne 5, 3) := by decide +kernel
theorem dX6_meets_8 : decode cX6_meets 8 = .ok (.iconst 4, 1) := by decide +kernel
theorem dX6_meets_9 : decode cX6_meets 9 = .ok (.ireturn, 1) := by decide +kernel
theorem dX6_meets_10 : decode cX6_meets 10 = .ok (.iload_n 2, 1) := by decide +kernel
theorem dX6_meets_11 : decode cX6_meets 11 = .ok (.sipush 3600, 3) := by decide +kernel
theorem dX6_meets_14 : decode cX6_meets 14 = .ok (.idiv, 1) := by decide +kernel
theorem dX6_meets_15 : decode cX6_meets 15 = .ok (.istore 5, 2) := by decide +kernel
theorem dX6_meets_17 : decode cX6_meets 17 = .ok (.iload_n 3, 1) := by decide +kernel
theorem dX6_meets_18 : decode cX6_meets 18 = .ok (.ifCond .eq 30, 3) := by decide +kernel
theorem dX6_meets_21 : decode cX6_meets 21 = .ok (.aload_n 0, 1) := by decide +kernel
theorem dX6_meets_22 : decode cX6_meets 22 = .ok (.iload_n 1, 1) := by decide +kernel
theorem dX6_meets_23 : decode cX6_meets 23 = .ok (.iload 5, 2) := by decide +kernel
theorem dX6_meets_25 : decode cX6_meets 25 = .ok (.invokevirtual 60, 3) := by decide +kernel
theorem dX6_meets_28 : decode cX6_meets 28 = .ok (.ifCond .eq 20, 3) := by decide +kernel
theorem dX6_meets_31 : decode cX6_meets 31 = .ok (.aload_n 0, 1) := by decide +kernel
theorem dX6_meets_32 : decode cX6_meets 32 = .ok (.iload 5, 2) := by decide +kernel
theorem dX6_meets_34 : decode cX6_meets 34 = .ok (.invokevirtual 64, 3) := by decide +kernel
theorem dX6_meets_37 : decode cX6_meets 37 = .ok (.aload_n 0, 1) := by decide +kernel
theorem dX6_meets_38 : decode cX6_meets 38 = .ok (.getfield 34, 3) := by decide +kernel
theorem dX6_meets_41 : decode cX6_meets 41 = .ok (.iload_n 1, 1) := by decide +kernel
theorem dX6_meets_42 : decode cX6_meets 42 = .ok (.iaload, 1) := by decide +kernel
theorem dX6_meets_43 : decode cX6_meets 43 = .ok (.if_icmp .ge 5, 3) := by decide +kernel
theorem dX6_meets_46 : decode cX6_meets 46 = .ok (.iconst 2, 1) := by decide +kernel
theorem dX6_meets_47 : decode cX6_meets 47 = .ok (.ireturn, 1) := by decide +kernel
theorem dX6_meets_48 : decode cX6_meets 48 = .ok (.aload_n 0, 1) := by decide +kernel
theorem dX6_meets_49 : decode cX6_meets 49 = .ok (.aload_n 0, 1) := by decide +kernel
theorem dX6_meets_50 : decode cX6_meets 50 = .ok (.getfield 37, 3) := by decide +kernel
theorem dX6_meets_53 : decode cX6_meets 53 = .ok (.iload_n 1, 1) := by decide +kernel
theorem dX6_meets_54 : decode cX6_meets 54 = .ok (.iaload, 1) := by decide +kernel
theorem dX6_meets_55 : decode cX6_meets 55 = .ok (.iload 5, 2) := by decide +kernel
theorem dX6_meets_57 : decode cX6_meets 57 = .ok (.invokevirtual 60, 3) := by decide +kernel
theorem dX6_meets_60 : decode cX6_meets 60 = .ok (.ifCond .eq 18, 3) := by decide +kernel
theorem dX6_meets_63 : decode cX6_meets 63 = .ok (.iload 4, 2) := by decide +kernel
theorem dX6_meets_65 : decode cX6_meets 65 = .ok (.aload_n 0, 1) := by decide +kernel
theorem dX6_meets_66 : decode cX6_meets 66 = .ok (.getfield 40, 3) := by decide +kernel
theorem dX6_meets_69 : decode cX6_meets 69 = .ok (.iload_n 1, 1) := by decide +kernel
theorem dX6_meets_70 : decode cX6_meets 70 = .ok (.iaload, 1) := by decide +kernel
theorem dX6_meets_71 : decode cX6_meets 71 = .ok (.if_icmp .ge 7, 3) := by decide +kernel
theorem dX6_meets_74 : decode cX6_meets 74 = .ok (.iconst 3, 1) := by decide +kernel
theorem dX6_meets_75 : decode cX6_meets 75 = .ok (.goto 4, 3) := by decide +kernel
theorem dX6_meets_78 : decode cX6_meets 78 = .ok (.iconst 4, 1) := by decide +kernel
theorem dX6_meets_79 : decode cX6_meets 79 = .ok (.ireturn, 1) := by decide +kernel
theorem dX6_secondsAtDoor_0 : decode cX6_secondsAtDoor 0 = .ok (.iload_n 1, 1) := by decide +kernel
theorem dX6_secondsAtDoor_1 : decode cX6_secondsAtDoor 1 = .ok (.ifCond .eq 10, 3) := by decide +kernel
theorem dX6_secondsAtDoor_4 : decode cX6_secondsAtDoor 4 = .ok (.aload_n 0, 1) := by decide +kernel
theorem dX6_secondsAtDoor_5 : decode cX6_secondsAtDoor 5 = .ok (.getfield 9, 3) := by decide +kernel
theorem dX6_secondsAtDoor_8 : decode cX6_secondsAtDoor 8 = .ok (.goto 4, 3) := by decide +kernel
theorem dX6_secondsAtDoor_11 : decode cX6_secondsAtDoor 11 = .ok (.iconst 0, 1) := by decide +kernel
theorem dX6_secondsAtDoor_12 : decode cX6_secondsAtDoor 12 = .ok (.iload_n 2, 1) := by decide +kernel
theorem dX6_secondsAtDoor_13 : decode cX6_secondsAtDoor 13 = .ok (.iconst 2, 1) := by decide +kernel
theorem dX6_secondsAtDoor_14 : decode cX6_secondsAtDoor 14 = .ok (.if_icmp .ne 7, 3) := by decide +kernel
theorem dX6_secondsAtDoor_17 : decode cX6_secondsAtDoor 17 = .ok (.iconst 0, 1) := by decide +kernel
theorem dX6_secondsAtDoor_18 : decode cX6_secondsAtDoor 18 = .ok (.goto 7, 3) := by decide +kernel
theorem dX6_secondsAtDoor_21 : decode cX6_secondsAtDoor 21 = .ok (.aload_n 0, 1) := by decide +kernel
theorem dX6_secondsAtDoor_22 : decode cX6_secondsAtDoor 22 = .ok (.getfield 18, 3) := by decide +kernel
theorem dX6_secondsAtDoor_25 : decode cX6_secondsAtDoor 25 = .ok (.iadd, 1) := by decide +kernel
theorem dX6_secondsAtDoor_26 : decode cX6_secondsAtDoor 26 = .ok (.ireturn, 1) := by decide +kernel
theorem dX6_secondsBetween_0 : decode cX6_secondsBetween 0 = .ok (.iload_n 1, 1) := by decide +kernel
theorem dX6_secondsBetween_1 : decode cX6_secondsBetween 1 = .ok (.iload_n 2, 1) := by decide +kernel
theorem dX6_secondsBetween_2 : decode cX6_secondsBetween 2 = .ok (.isub, 1) := by decide +kernel
theorem dX6_secondsBetween_3 : decode cX6_secondsBetween 3 = .ok (.invokestatic 68, 3) := by decide +kernel
theorem dX6_secondsBetween_6 : decode cX6_secondsBetween 6 = .ok (.aload_n 0, 1) := by decide +kernel
theorem dX6_secondsBetween_7 : decode cX6_secondsBetween 7 = .ok (.getfield 15, 3) := by decide +kernel
theorem dX6_secondsBetween_10 : decode cX6_secondsBetween 10 = .ok (.imul, 1) := by decide +kernel
theorem dX6_secondsBetween_11 : decode cX6_secondsBetween 11 = .ok (.ireturn, 1) := by decide +kernel
theorem dX6_countNear_0 : decode cX6_countNear 0 = .ok (.iconst 0, 1) := by decide +kernel
theorem dX6_countNear_1 : decode cX6_countNear 1 = .ok (.istore 4, 2) := by decide +kernel
theorem dX6_countNear_3 : decode cX6_countNear 3 = .ok (.iconst 0, 1) := by decide +kernel
theorem dX6_countNear_4 : decode cX6_countNear 4 = .ok (.istore 5, 2) := by decide +kernel
theorem dX6_countNear_6 : decode cX6_countNear 6 = .ok (.iload 5, 2) := by decide +kernel
theorem dX6_countNear_8 : decode cX6_countNear 8 = .ok (.aload_n 0, 1) := by decide +kernel
theorem dX6_countNear_9 : decode cX6_countNear 9 = .ok (.getfield 21, 3) := by decide +kernel
theorem dX6_countNear_12 : decode cX6_countNear 12 = .ok (.if_icmp .ge 37, 3) := by decide +kernel
theorem dX6_countNear_15 : decode cX6_countNear 15 = .ok (.iload_n 1, 1) := by decide +kernel
theorem dX6_countNear_16 : decode cX6_countNear 16 = .ok (.iload 5, 2) := by decide +kernel
theorem dX6_countNear_18 : decode cX6_countNear 18 = .ok (.ishr, 1) := by decide +kernel
theorem dX6_countNear_19 : decode cX6_countNear 19 = .ok (.iconst 1, 1) := by decide +kernel
theorem dX6_countNear_20 : decode cX6_countNear 20 = .ok (.iand, 1) := by decide +kernel
theorem dX6_countNear_21 : decode cX6_countNear 21 = .ok (.ifCond .eq 22, 3) := by decide +kernel
theorem dX6_countNear_24 : decode cX6_countNear 24 = .ok (.aload_n 0, 1) := by decide +kernel
theorem dX6_countNear_25 : decode cX6_countNear 25 = .ok (.getfield 27, 3) := by decide +kernel
theorem dX6_countNear_28 : decode cX6_countNear 28 = .ok (.iload 5, 2) := by decide +kernel
theorem dX6_countNear_30 : decode cX6_countNear 30 = .ok (.iaload, 1) := by decide +kernel
theorem dX6_countNear_31 : decode cX6_countNear 31 = .ok (.iload_n 2, 1) := by decide +kernel
theorem dX6_countNear_32 : decode cX6_countNear 32 = .ok (.isub, 1) := by decide +kernel
theorem dX6_countNear_33 : decode cX6_countNear 33 = .ok (.invokestatic 68, 3) := by decide +kernel
theorem dX6_countNear_36 : decode cX6_countNear 36 = .ok (.iload_n 3, 1) := by decide +kernel
theorem dX6_countNear_37 : decode cX6_countNear 37 = .ok (.if_icmp .gt 6, 3) := by decide +kernel
theorem dX6_countNear_40 : decode cX6_countNear 40 = .ok (.iinc 4 1, 3) := by decide +kernel
theorem dX6_countNear_43 : decode cX6_countNear 43 = .ok (.iinc 5 1, 3) := by decide +kernel
theorem dX6_countNear_46 : decode cX6_countNear 46 = .ok (.goto (-40), 3) := by decide +kernel
theorem dX6_countNear_49 : decode cX6_countNear 49 = .ok (.iload 4, 2) := by decide +kernel
theorem dX6_countNear_51 : decode cX6_countNear 51 = .ok (.ireturn, 1) := by decide +kernel
end
section
theorem dX7_init_0 : decode cX7_init 0 = .ok (.aload_n 0, 1) := by decide +kernel
theorem dX7_init_1 : decode cX7_init 1 = .ok (.invokespecial 3, 3) := by decide +kernel
theorem dX7_init_4 : decode cX7_init 4 = .ok (.aload_n 0, 1) := by decide +kernel
theorem dX7_init_5 : decode cX7_init 5 = .ok (.sipush 240, 3) := by decide +kernel
theorem dX7_init_8 : decode cX7_init 8 = .ok (.newarray .int, 2) := by decide +kernel
theorem dX7_init_10 : decode cX7_init 10 = .ok (.putfield 9, 3) := by decide +kernel
theorem dX7_init_13 : decode cX7_init 13 = .ok (.aload_n 0, 1) := by decide +kernel
theorem dX7_init_14 : decode cX7_init 14 = .ok (.iconst 0, 1) := by decide +kernel
theorem dX7_init_15 : decode cX7_init 15 = .ok (.putfield 15, 3) := by decide +kernel
theorem dX7_init_18 : decode cX7_init 18 = .ok (.aload_n 0, 1) := by decide +kernel
theorem dX7_init_19 : decode cX7_init 19 = .ok (.iconst 0, 1) := by decide +kernel
theorem dX7_init_20 : decode cX7_init 20 = .ok (.putfield 19, 3) := by decide +kernel
theorem dX7_init_23 : decode cX7_init 23 = .ok (.aload_n 0, 1) := by decide +kernel
theorem dX7_init_24 : decode cX7_init 24 = .ok (.iconst (-1), 1) := by decide +kernel
theorem dX7_init_25 : decode cX7_init 25 = .ok (.putfield 22, 3) := by decide +kernel
theorem dX7_init_28 : decode cX7_init 28 = .ok (.aload_n 0, 1) := by decide +kernel
theorem dX7_init_29 : decode cX7_init 29 = .ok (.iconst 0, 1) := by decide +kernel
theorem dX7_init_30 : decode cX7_init 30 = .ok (.putfield 25, 3) := by decide +kernel
theorem dX7_init_33 : decode cX7_init 33 = .ok (.aload_n 0, 1) := by decide +kernel
theorem dX7_init_34 : decode cX7_init 34 = .ok (.iconst 0, 1) := by decide +kernel
theorem dX7_init_35 : decode cX7_init 35 = .ok (.putfield 28, 3) := by decide +kernel
theorem dX7_init_38 : decode cX7_init 38 = .ok (.return_, 1) := by decide +kernel
theorem dX7_add_0 : decode cX7_add 0 = .ok (.aload_n 0, 1) := by decide +kernel
theorem dX7_add_1 : decode cX7_add 1 = .ok (.getfield 15, 3) := by decide +kernel
theorem dX7_add_4 : decode cX7_add 4 = .ok (.sipush 240, 3) := by decide +kernel
theorem dX7_add_7 : decode cX7_add 7 = .ok (.if_icmp .lt 5, 3) := by decide +kernel
theorem dX7_add_10 : decode cX7_add 10 = .ok (.iconst 0, 1) := by decide +kernel
theorem dX7_add_11 : decode cX7_add 11 = .ok (.ireturn, 1) := by decide +kernel
theorem dX7_add_12 : decode cX7_add 12 = .ok (.aload_n 0, 1) := by decide +kernel
theorem dX7_add_13 : decode cX7_add 13 = .ok (.getfield 9, 3) := by decide +kernel
theorem dX7_add_16 : decode cX7_add 16 = .ok (.aload_n 0, 1) := by decide +kernel
theorem dX7_add_17 : decode cX7_add 17 = .ok (.getfield 15, 3) := by decide +kernel
theorem dX7_add_20 : decode cX7_add 20 = .ok (.iload_n 1, 1) := by decide +kernel
theorem dX7_add_21 : decode cX7_add 21 = .ok (.iastore, 1) := by decide +kernel
theorem dX7_add_22 : decode cX7_add 22 = .ok (.aload_n 0, 1) := by decide +kernel
theorem dX7_add_23 : decode cX7_add 23 = .ok (.dup, 1) := by decide +kernel
theorem dX7_add_24 : decode cX7_add 24 = .ok (.getfield 15, 3) := by decide +kernel
theorem dX7_add_27 : decode cX7_add 27 = .ok (.iconst 1, 1) := by decide +kernel
theorem dX7_add_28 : decode cX7_add 28 = .ok (.iadd, 1) := by decide +kernel
theorem dX7_add_29 : decode cX7_add 29 = .ok (.putfield 15, 3) := by decide +kernel
theorem dX7_add_32 : decode cX7_add 32 = .ok (.iconst 1, 1) := by decide +kernel
theorem dX7_add_33 : decode cX7_add 33 = .ok (.ireturn, 1) := by decide +kernel
theorem dX7_empty_0 : decode cX7_empty 0 = .ok (.aload_n 0, 1) := by decide +kernel
theorem dX7_empty_1 : decode cX7_empty 1 = .ok (.iconst 0, 1) := by decide +kernel
theorem dX7_empty_2 : decode cX7_empty 2 = .ok (.putfield 15, 3) := by decide +kernel
theorem dX7_empty_5 : decode cX7_empty 5 = .ok (.return_, 1) := by decide +kernel
theorem dX7_readInto_0 : decode cX7_readInto 0 = .ok (.aload_n 1, 1) := by decide +kernel
theorem dX7_readInto_1 : decode cX7_readInto 1 = .ok (.invokevirtual 31, 3) := by decide +kernel
theorem dX7_readInto_4 : decode cX7_readInto 4 = .ok (.aload_n 0, 1) := by decide +kernel
theorem dX7_readInto_5 : decode cX7_readInto 5 = .ok (.iconst 0, 1) := by decide +kernel
theorem dX7_readInto_6 : decode cX7_readInto 6 = .ok (.putfield 19, 3) := by decide +kernel
theorem dX7_readInto_9 : decode cX7_readInto 9 = .ok (.aload_n 0, 1) := by decide +kernel
theorem dX7_readInto_10 : decode cX7_readInto 10 = .ok (.iconst (-1), 1) := by decide +kernel
theorem dX7_readInto_11 : decode cX7_readInto 11 = .ok (.putfield 22, 3) := by decide +kernel
theorem dX7_readInto_14 : decode cX7_readInto 14 = .ok (.aload_n 0, 1) := by decide +kernel
theorem dX7_readInto_15 : decode cX7_readInto 15 = .ok (.iconst 0, 1) := by decide +kernel
theorem dX7_readInto_16 : decode cX7_readInto 16 = .ok (.putfield 25, 3) := by decide +kernel
theorem dX7_readInto_19 : decode cX7_readInto 19 = .ok (.iconst 0, 1) := by decide +kernel
theorem dX7_readInto_20 : decode cX7_readInto 20 = .ok (.istore_n 2, 1) := by decide +kernel
theorem dX7_readInto_21 : decode cX7_readInto 21 = .ok (.iload_n 2, 1) := by decide +kernel
theorem dX7_readInto_22 : decode cX7_readInto 22 = .ok (.sipush 240, 3) := by decide +kernel
theorem dX7_readInto_25 : decode cX7_readInto 25 = .ok (.if_icmp .ge 33, 3) := by decide +kernel
theorem dX7_readInto_28 : decode cX7_readInto 28 = .ok (.aload_n 0, 1) := by decide +kernel
theorem dX7_readInto_29 : decode cX7_readInto 29 = .ok (.getfield 19, 3) := by decide +kernel
theorem dX7_readInto_32 : decode cX7_readInto 32 = .ok (.ifCond .ne 26, 3) := by decide +kernel
theorem dX7_readInto_35 : decode cX7_readInto 35 = .ok (.aload_n 0, 1) := by decide +kernel
theorem dX7_readInto_36 : decode cX7_readInto 36 = .ok (.invokevirtual 36, 3) := by decide +kernel
theorem dX7_readInto_39 : decode cX7_readInto 39 = .ok (.istore_n 3, 1) := by decide +kernel
theorem dX7_readInto_40 : decode cX7_readInto 40 = .ok (.iload_n 3, 1) := by decide +kernel
theorem dX7_readInto_41 : decode cX7_readInto 41 = .ok (.iconst (-1), 1) := by decide +kernel
theorem dX7_readInto_42 : decode cX7_readInto 42 = .ok (.if_icmp .ne 4, 3) := by decide +kernel
theorem dX7_readInto_45 : decode cX7_readInto 45 = .ok (.return_, 1) := by decide +kernel
theorem dX7_readInto_46 : decode cX7_readInto 46 = .ok (.aload_n 0, 1) := by decide +kernel
theorem dX7_readInto_47 : decode cX7_readInto 47 = .ok (.aload_n 1, 1) := by decide +kernel
theorem dX7_readInto_48 : decode cX7_readInto 48 = .ok (.iload_n 3, 1) := by decide +kernel
theorem dX7_readInto_49 : decode cX7_readInto 49 = .ok (.invokevirtual 40, 3) := by decide +kernel
theorem dX7_readInto_52 : decode cX7_readInto 52 = .ok (.iinc 2 1, 3) := by decide +kernel
theorem dX7_readInto_55 : decode cX7_readInto 55 = .ok (.goto (-34), 3) := by decide +kernel
theorem dX7_readInto_58 : decode cX7_readInto 58 = .ok (.return_, 1) := by decide +kernel
theorem dX7_readClause_0 : decode cX7_readClause 0 = .ok (.aload_n 1, 1) := by decide +kernel
theorem dX7_readClause_1 : decode cX7_readClause 1 = .ok (.getfield 44, 3) := by decide +kernel
theorem dX7_readClause_4 : decode cX7_readClause 4 = .ok (.ifCond .le 7, 3) := by decide +kernel
theorem dX7_readClause_7 : decode cX7_readClause 7 = .ok (.iconst 1, 1) := by decide +kernel
theorem dX7_readClause_8 : decode cX7_readClause 8 = .ok (.goto 4, 3) := by decide +kernel
theorem dX7_readClause_11 : decode cX7_readClause 11 = .ok (.iconst 0, 1) := by decide +kernel
theorem dX7_readClause_12 : decode cX7_readClause 12 = .ok (.istore_n 3, 1) := by decide +kernel
theorem dX7_readClause_13 : decode cX7_readClause 13 = .ok (.iload_n 3, 1) := by decide +kernel
theorem dX7_readClause_14 : decode cX7_readClause 14 = .ok (.ifCond .ne 19, 3) := by decide +kernel
theorem dX7_readClause_17 : decode cX7_readClause 17 = .ok (.iload_n 2, 1) := by decide +kernel
theorem dX7_readClause_18 : decode cX7_readClause 18 = .ok (.bipush 118, 2) := by decide +kernel
theorem dX7_readClause_20 : decode cX7_readClause 20 = .ok (.if_icmp .eq 13, 3) := by decide +kernel
theorem dX7_readClause_23 : decode cX7_readClause 23 = .ok (.aload_n 0, 1) := by decide +kernel
theorem dX7_readClause_24 : decode cX7_readClause 24 = .ok (.iconst 1, 1) := by decide +kernel
theorem dX7_readClause_25 : decode cX7_readClause 25 = .ok (.aload_n 0, 1) := by decide +kernel
theorem dX7_readClause_26 : decode cX7_readClause 26 = .ok (.getfield 25, 3) := by decide +kernel
theorem dX7_readClause_29 : decode cX7_readClause 29 = .ok (.invokevirtual 47, 3) := by decide +kernel
theorem dX7_readClause_32 : decode cX7_readClause 32 = .ok (.return_, 1) := by decide +kernel
theorem dX7_readClause_33 : decode cX7_readClause 33 = .ok (.iload_n 2, 1) := by decide +kernel
theorem dX7_readClause_34 : decode cX7_readClause 34 = .ok (.lookupswitch 75 #[(100, 59), (110, 67), (115, 51), (118, 42)], 42) := by decide +kernel
theorem dX7_readClause_76 : decode cX7_readClause 76 = .ok (.aload_n 0, 1) := by decide +kernel
theorem dX7_readClause_77 : decode cX7_readClause 77 = .ok (.aload_n 1, 1) := by decide +kernel
theorem dX7_readClause_78 : decode cX7_readClause 78 = .ok (.iload_n 3, 1) := by decide +kernel
theorem dX7_readClause_79 : decode cX7_readClause 79 = .ok (.invokevirtual 51, 3) := by decide +kernel
theorem dX7_readClause_82 : decode cX7_readClause 82 = .ok (.goto 36, 3) := by decide +kernel
theorem dX7_readClause_85 : decode cX7_readClause 85 = .ok (.aload_n 0, 1) := by decide +kernel
theorem dX7_readClause_86 : decode cX7_readClause 86 = .ok (.aload_n 1, 1) := by decide +kernel
theorem dX7_readClause_87 : decode cX7_readClause 87 = .ok (.invokevirtual 55, 3) := by decide +kernel
theorem dX7_readClause_90 : decode cX7_readClause 90 = .ok (.goto 28, 3) := by decide +kernel
theorem dX7_readClause_93 : decode cX7_readClause 93 = .ok (.aload_n 0, 1) := by decide +kernel
theorem dX7_readClause_94 : decode cX7_readClause 94 = .ok (.aload_n 1, 1) := by decide +kernel
theorem dX7_readClause_95 : decode cX7_readClause 95 = .ok (.invokevirtual 59, 3) := by decide +kernel
theorem dX7_readClause_98 : decode cX7_readClause 98 = .ok (.goto 20, 3) := by decide +kernel
theorem dX7_readClause_101 : decode cX7_readClause 101 = .ok (.aload_n 0, 1) := by decide +kernel
theorem dX7_readClause_102 : decode cX7_readClause 102 = .ok (.aload_n 1, 1) := by decide +kernel
theorem dX7_readClause_103 : decode cX7_readClause 103 = .ok (.invokevirtual 62, 3) := by decide +kernel
theorem dX7_readClause_106 : decode cX7_readClause 106 = .ok (.goto 12, 3) := by decide +kernel
theorem dX7_readClause_109 : decode cX7_readClause 109 = .ok (.aload_n 0, 1) := by decide +kernel
theorem dX7_readClause_110 : decode cX7_readClause 110 = .ok (.iconst 1, 1) := by decide +kernel
theorem dX7_readClause_111 : decode cX7_readClause 111 = .ok (.aload_n 0, 1) := by decide +kernel
theorem dX7_readClause_112 : decode cX7_readClause 112 = .ok (.getfield 25, 3) := by decide +kernel
theorem dX7_readClause_115 : decode cX7_readClause 115 = .ok (.invokevirtual 47, 3) := by decide +kernel
theorem dX7_readClause_118 : decode cX7_readClause 118 = .ok (.return_, 1) := by decide +kernel
theorem dX7_readVan_0 : decode cX7_readVan 0 = .ok (.iload_n 2, 1) := by decide +kernel
theorem dX7_readVan_1 : decode cX7_readVan 1 = .ok (.ifCond .eq 12, 3) := by decide +kernel
theorem dX7_readVan_4 : decode cX7_readVan 4 = .ok (.aload_n 0, 1) := by decide +kernel
theorem dX7_readVan_5 : decode cX7_readVan 5 = .ok (.iconst 3, 1) := by decide +kernel
theorem dX7_readVan_6 : decode cX7_readVan 6 = .ok (.aload_n 0, 1) := by decide +kernel
theorem dX7_readVan_7 : decode cX7_readVan 7 = .ok (.getfield 25, 3) := by decide +kernel
theorem dX7_readVan_10 : decode cX7_readVan 10 = .ok (.invokevirtual 47, 3) := by decide +kernel
theorem dX7_readVan_13 : decode cX7_readVan 13 = .ok (.aload_n 0, 1) := by decide +kernel
theorem dX7_readVan_14 : decode cX7_readVan 14 = .ok (.dup, 1) := by decide +kernel
theorem dX7_readVan_15 : decode cX7_readVan 15 = .ok (.getfield 25, 3) := by decide +kernel
theorem dX7_readVan_18 : decode cX7_readVan 18 = .ok (.iconst 1, 1) := by decide +kernel
theorem dX7_readVan_19 : decode cX7_readVan 19 = .ok (.iadd, 1) := by decide +kernel
theorem dX7_readVan_20 : decode cX7_readVan 20 = .ok (.putfield 25, 3) := by decide +kernel
theorem dX7_readVan_23 : decode cX7_readVan 23 = .ok (.aload_n 1, 1) := by decide +kernel
theorem dX7_readVan_24 : decode cX7_readVan 24 = .ok (.aload_n 0, 1) := by decide +kernel
theorem dX7_readVan_25 : decode cX7_readVan 25 = .ok (.iconst 1, 1) := by decide +kernel
theorem dX7_readVan_26 : decode cX7_readVan 26 = .ok (.bipush 90, 2) := by decide +kernel
theorem dX7_readVan_28 : decode cX7_readVan 28 = .ok (.invokevirtual 65, 3) := by decide +kernel
theorem dX7_readVan_31 : decode cX7_readVan 31 = .ok (.putfield 44, 3) := by decide +kernel
theorem dX7_readVan_34 : decode cX7_readVan 34 = .ok (.aload_n 1, 1) := by decide +kernel
theorem dX7_readVan_35 : decode cX7_readVan 35 = .ok (.aload_n 0, 1) := by decide +kernel
theorem dX7_readVan_36 : decode cX7_readVan 36 = .ok (.iconst 0, 1) := by decide +kernel
theorem dX7_readVan_37 : decode cX7_readVan 37 = .ok (.bipush 99, 2) := by decide +kernel
theorem dX7_readVan_39 : decode cX7_readVan 39 = .ok (.invokevirtual 65, 3) := by decide +kernel
theorem dX7_readVan_42 : decode cX7_readVan 42 = .ok (.putfield 69, 3) := by decide +kernel
theorem dX7_readVan_45 : decode cX7_readVan 45 = .ok (.aload_n 1, 1) := by decide +kernel
theorem dX7_readVan_46 : decode cX7_readVan 46 = .ok (.aload_n 0, 1) := by decide +kernel
theorem dX7_readVan_47 : decode cX7_readVan 47 = .ok (.iconst 1, 1) := by decide +kernel
theorem dX7_readVan_48 : decode cX7_readVan 48 = .ok (.bipush 30, 2) := by decide +kernel
theorem dX7_readVan_50 : decode cX7_readVan 50 = .ok (.invokevirtual 65, 3) := by decide +kernel
theorem dX7_readVan_53 : decode cX7_readVan 53 = .ok (.putfield 72, 3) := by decide +kernel
theorem dX7_readVan_56 : decode cX7_readVan 56 = .ok (.aload_n 0, 1) := by decide +kernel
theorem dX7_readVan_57 : decode cX7_readVan 57 = .ok (.invokevirtual 75, 3) := by decide +kernel
theorem dX7_readVan_60 : decode cX7_readVan 60 = .ok (.return_, 1) := by decide +kernel
theorem dX7_readStop_0 : decode cX7_readStop 0 = .ok (.aload_n 1, 1) := by decide +kernel
theorem dX7_readStop_1 : decode cX7_readStop 1 = .ok (.getfield 78, 3) := by decide +kernel
theorem dX7_readStop_4 : decode cX7_readStop 4 = .ok (.bipush 7, 2) := by decide +kernel
theorem dX7_readStop_6 : decode cX7_readStop 6 = .ok (.if_icmp .lt 12, 3) := by decide +kernel
theorem dX7_readStop_9 : decode cX7_readStop 9 = .ok (.aload_n 0, 1) := by decide +kernel
theorem dX7_readStop_10 : decode cX7_readStop 10 = .ok (.iconst 3, 1) := by decide +kernel
theorem dX7_readStop_11 : decode cX7_readStop 11 = .ok (.aload_n 0, 1) := by decide +kernel
theorem dX7_readStop_12 : decode cX7_readStop 12 = .ok (.getfield 25, 3) := by decide +kernel
theorem dX7_readStop_15 : decode cX7_readStop 15 = .ok (.invokevirtual 47, 3) := by decide +kernel
theorem dX7_readStop_18 : decode cX7_readStop 18 = .ok (.aload_n 0, 1) := by decide +kernel
theorem dX7_readStop_19 : decode cX7_readStop 19 = .ok (.dup, 1) := by decide +kernel
theorem dX7_readStop_20 : decode cX7_readStop 20 = .ok (.getfield 25, 3) := by decide +kernel
theorem dX7_readStop_23 : decode cX7_readStop 23 = .ok (.iconst 1, 1) := by decide +kernel
theorem dX7_readStop_24 : decode cX7_readStop 24 = .ok (.iadd, 1) := by decide +kernel
theorem dX7_readStop_25 : decode cX7_readStop 25 = .ok (.putfield 25, 3) := by decide +kernel
theorem dX7_readStop_28 : decode cX7_readStop 28 = .ok (.aload_n 0, 1) := by decide +kernel
theorem dX7_readStop_29 : decode cX7_readStop 29 = .ok (.iconst 0, 1) := by decide +kernel
theorem dX7_readStop_30 : decode cX7_readStop 30 = .ok (.bipush 99, 2) := by decide +kernel
theorem dX7_readStop_32 : decode cX7_readStop 32 = .ok (.invokevirtual 65, 3) := by decide +kernel
theorem dX7_readStop_35 : decode cX7_readStop 35 = .ok (.istore_n 2, 1) := by decide +kernel
theorem dX7_readStop_36 : decode cX7_readStop 36 = .ok (.aload_n 0, 1) := by decide +kernel
theorem dX7_readStop_37 : decode cX7_readStop 37 = .ok (.iconst 0, 1) := by decide +kernel
theorem dX7_readStop_38 : decode cX7_readStop 38 = .ok (.sipush 4095, 3) := by decide +kernel
theorem dX7_readStop_41 : decode cX7_readStop 41 = .ok (.invokevirtual 65, 3) := by decide +kernel
theorem dX7_readStop_44 : decode cX7_readStop 44 = .ok (.istore_n 3, 1) := by decide +kernel
theorem dX7_readStop_45 : decode cX7_readStop 45 = .ok (.aload_n 0, 1) := by decide +kernel
theorem dX7_readStop_46 : decode cX7_readStop 46 = .ok (.iconst 0, 1) := by decide +kernel
theorem dX7_readStop_47 : decode cX7_readStop 47 = .ok (.bipush 9, 2) := by decide +kernel
theorem dX7_readStop_49 : decode cX7_readStop 49 = .ok (.invokevirtual 65, 3) := by decide +kernel
theorem dX7_readStop_52 : decode cX7_readStop 52 = .ok (.istore 4, 2) := by decide +kernel
theorem dX7_readStop_54 : decode cX7_readStop 54 = .ok (.aload_n 0, 1) := by decide +kernel
theorem dX7_readStop_55 : decode cX7_readStop 55 = .ok (.invokevirtual 75, 3) := by decide +kernel
theorem dX7_readStop_58 : decode cX7_readStop 58 = .ok (.aload_n 1, 1) := by decide +kernel
theorem dX7_readStop_59 : decode cX7_readStop 59 = .ok (.iload_n 2, 1) := by decide +kernel
theorem dX7_readStop_60 : decode cX7_readStop 60 = .ok (.iload_n 3, 1) := by decide +kernel
theorem dX7_readStop_61 : decode cX7_readStop 61 = .ok (.iload 4, 2) := by decide +kernel
theorem dX7_readStop_63 : decode cX7_readStop 63 = .ok (.invokevirtual 81, 3) := by decide +kernel
theorem dX7_readStop_66 : decode cX7_readStop 66 = .ok (.return_, 1) := by decide +kernel
theorem dX7_readDin_0 : decode cX7_readDin 0 = .ok (.aload_n 1, 1) := by decide +kernel
theorem dX7_readDin_1 : decode cX7_readDin 1 = .ok (.getfield 85, 3) := by decide +kernel
theorem dX7_readDin_4 : decode cX7_readDin 4 = .ok (.ifCond .le 12, 3) := by decide +kernel
theorem dX7_readDin_7 : decode cX7_readDin 7 = .ok (.aload_n 0, 1) := by decide +kernel
theorem dX7_readDin_8 : decode cX7_readDin 8 = .ok (.iconst 3, 1) := by decide +kernel
theorem dX7_readDin_9 : decode cX7_readDin 9 = .ok (.aload_n 0, 1) := by decide +kernel
theorem dX7_readDin_10 : decode cX7_readDin 10 = .ok (.getfield 25, 3) := by decide +kernel
theorem dX7_readDin_13 : decode cX7_readDin 13 = .ok (.invokevirtual 47, 3) := by decide +kernel
theorem dX7_readDin_16 : decode cX7_readDin 16 = .ok (.aload_n 0, 1) := by decide +kernel
theorem dX7_readDin_17 : decode cX7_readDin 17 = .ok (.dup, 1) := by decide +kernel
theorem dX7_readDin_18 : decode cX7_readDin 18 = .ok (.getfield 25, 3) := by decide +kernel
theorem dX7_readDin_21 : decode cX7_readDin 21 = .ok (.iconst 1, 1) := by decide +kernel
theorem dX7_readDin_22 : decode cX7_readDin 22 = .ok (.iadd, 1) := by decide +kernel
theorem dX7_readDin_23 : decode cX7_readDin 23 = .ok (.putfield 25, 3) := by decide +kernel
theorem dX7_readDin_26 : decode cX7_readDin 26 = .ok (.aload_n 1, 1) := by decide +kernel
theorem dX7_readDin_27 : decode cX7_readDin 27 = .ok (.aload_n 0, 1) := by decide +kernel
theorem dX7_readDin_28 : decode cX7_readDin 28 = .ok (.iconst 0, 1) := by decide +kernel
theorem dX7_readDin_29 : decode cX7_readDin 29 = .ok (.bipush 9, 2) := by decide +kernel
theorem dX7_readDin_31 : decode cX7_readDin 31 = .ok (.invokevirtual 65, 3) := by decide +kernel
theorem dX7_readDin_34 : decode cX7_readDin 34 = .ok (.invokevirtual 88, 3) := by decide +kernel
theorem dX7_readDin_37 : decode cX7_readDin 37 = .ok (.iconst 1, 1) := by decide +kernel
theorem dX7_readDin_38 : decode cX7_readDin 38 = .ok (.istore_n 2, 1) := by decide +kernel
theorem dX7_readDin_39 : decode cX7_readDin 39 = .ok (.iload_n 2, 1) := by decide +kernel
theorem dX7_readDin_40 : decode cX7_readDin 40 = .ok (.bipush 12, 2) := by decide +kernel
theorem dX7_readDin_42 : decode cX7_readDin 42 = .ok (.if_icmp .gt 54, 3) := by decide +kernel
theorem dX7_readDin_45 : decode cX7_readDin 45 = .ok (.aload_n 0, 1) := by decide +kernel
theorem dX7_readDin_46 : decode cX7_readDin 46 = .ok (.invokevirtual 36, 3) := by decide +kernel
theorem dX7_readDin_49 : decode cX7_readDin 49 = .ok (.bipush 44, 2) := by decide +kernel
theorem dX7_readDin_51 : decode cX7_readDin 51 = .ok (.if_icmp .ne 45, 3) := by decide +kernel
theorem dX7_readDin_54 : decode cX7_readDin 54 = .ok (.iload_n 2, 1) := by decide +kernel
theorem dX7_readDin_55 : decode cX7_readDin 55 = .ok (.bipush 12, 2) := by decide +kernel
theorem dX7_readDin_57 : decode cX7_readDin 57 = .ok (.if_icmp .ne 12, 3) := by decide +kernel
theorem dX7_readDin_60 : decode cX7_readDin 60 = .ok (.aload_n 0, 1) := by decide +kernel
theorem dX7_readDin_61 : decode cX7_readDin 61 = .ok (.iconst 1, 1) := by decide +kernel
theorem dX7_readDin_62 : decode cX7_readDin 62 = .ok (.aload_n 0, 1) := by decide +kernel
theorem dX7_readDin_63 : decode cX7_readDin 63 = .ok (.getfield 25, 3) := by decide +kernel
theorem dX7_readDin_66 : decode cX7_readDin 66 = .ok (.invokevirtual 47, 3) := by decide +kernel
theorem dX7_readDin_69 : decode cX7_readDin 69 = .ok (.aload_n 0, 1) := by decide +kernel
theorem dX7_readDin_70 : decode cX7_readDin 70 = .ok (.dup, 1) := by decide +kernel
theorem dX7_readDin_71 : decode cX7_readDin 71 = .ok (.getfield 25, 3) := by decide +kernel
theorem dX7_readDin_74 : decode cX7_readDin 74 = .ok (.iconst 1, 1) := by decide +kernel
theorem dX7_readDin_75 : decode cX7_readDin 75 = .ok (.iadd, 1) := by decide +kernel
theorem dX7_readDin_76 : decode cX7_readDin 76 = .ok (.putfield 25, 3) := by decide +kernel
theorem dX7_readDin_79 : decode cX7_readDin 79 = .ok (.aload_n 1, 1) := by decide +kernel
theorem dX7_readDin_80 : decode cX7_readDin 80 = .ok (.aload_n 0, 1) := by decide +kernel
theorem dX7_readDin_81 : decode cX7_readDin 81 = .ok (.iconst 0, 1) := by decide +kernel
theorem dX7_readDin_82 : decode cX7_readDin 82 = .ok (.bipush 9, 2) := by decide +kernel
theorem dX7_readDin_84 : decode cX7_readDin 84 = .ok (.invokevirtual 65, 3) := by decide +kernel
theorem dX7_readDin_87 : decode cX7_readDin 87 = .ok (.invokevirtual 88, 3) := by decide +kernel
theorem dX7_readDin_90 : decode cX7_readDin 90 = .ok (.iinc 2 1, 3) := by decide +kernel
theorem dX7_readDin_93 : decode cX7_readDin 93 = .ok (.goto (-54), 3) := by decide +kernel
theorem dX7_readDin_96 : decode cX7_readDin 96 = .ok (.aload_n 0, 1) := by decide +kernel
theorem dX7_readDin_97 : decode cX7_readDin 97 = .ok (.invokevirtual 75, 3) := by decide +kernel
theorem dX7_readDin_100 : decode cX7_readDin 100 = .ok (.return_, 1) := by decide +kernel
theorem dX7_readNeighbour_0 : decode cX7_readNeighbour 0 = .ok (.aload_n 0, 1) := by decide +kernel
theorem dX7_readNeighbour_1 : decode cX7_readNeighbour 1 = .ok (.dup, 1) := by decide +kernel
theorem dX7_readNeighbour_2 : decode cX7_readNeighbour 2 = .ok (.getfield 25, 3) := by decide +kernel
theorem dX7_readNeighbour_5 : decode cX7_readNeighbour 5 = .ok (.iconst 1, 1) := by decide +kernel
theorem dX7_readNeighbour_6 : decode cX7_readNeighbour 6 = .ok (.iadd, 1) := by decide +kernel
theorem dX7_readNeighbour_7 : decode cX7_readNeighbour 7 = .ok (.putfield 25, 3) := by decide +kernel
theorem dX7_readNeighbour_10 : decode cX7_readNeighbour 10 = .ok (.aload_n 0, 1) := by decide +kernel
theorem dX7_readNeighbour_11 : decode cX7_readNeighbour 11 = .ok (.iconst 0, 1) := by decide +kernel
theorem dX7_readNeighbour_12 : decode cX7_readNeighbour 12 = .ok (.aload_n 1, 1) := by decide +kernel
theorem dX7_readNeighbour_13 : decode cX7_readNeighbour 13 = .ok (.getfield 78, 3) := by decide +kernel
theorem dX7_readNeighbour_16 : decode cX7_readNeighbour 16 = .ok (.iconst 1, 1) := by decide +kernel
theorem dX7_readNeighbour_17 : decode cX7_readNeighbour 17 = .ok (.isub, 1) := by decide +kernel
theorem dX7_readNeighbour_18 : decode cX7_readNeighbour 18 = .ok (.invokevirtual 65, 3) := by decide +kernel
theorem dX7_readNeighbour_21 : decode cX7_readNeighbour 21 = .ok (.istore_n 2, 1) := by decide +kernel
theorem dX7_readNeighbour_22 : decode cX7_readNeighbour 22 = .ok (.aload_n 1, 1) := by decide +kernel
theorem dX7_readNeighbour_23 : decode cX7_readNeighbour 23 = .ok (.iload_n 2, 1) := by decide +kernel
theorem dX7_readNeighbour_24 : decode cX7_readNeighbour 24 = .ok (.invokevirtual 92, 3) := by decide +kernel
theorem dX7_readNeighbour_27 : decode cX7_readNeighbour 27 = .ok (.ifCond .eq 22, 3) := by decide +kernel
theorem dX7_readNeighbour_30 : decode cX7_readNeighbour 30 = .ok (.aload_n 1, 1) := by decide +kernel
theorem dX7_readNeighbour_31 : decode cX7_readNeighbour 31 = .ok (.getfield 96, 3) := by decide +kernel
theorem dX7_readNeighbour_34 : decode cX7_readNeighbour 34 = .ok (.iload_n 2, 1) := by decide +kernel
theorem dX7_readNeighbour_35 : decode cX7_readNeighbour 35 = .ok (.iaload, 1) := by decide +kernel
theorem dX7_readNeighbour_36 : decode cX7_readNeighbour 36 = .ok (.iconst (-1), 1) := by decide +kernel
theorem dX7_readNeighbour_37 : decode cX7_readNeighbour 37 = .ok (.if_icmp .eq 12, 3) := by decide +kernel
theorem dX7_readNeighbour_40 : decode cX7_readNeighbour 40 = .ok (.aload_n 0, 1) := by decide +kernel
theorem dX7_readNeighbour_41 : decode cX7_readNeighbour 41 = .ok (.iconst 4, 1) := by decide +kernel
theorem dX7_readNeighbour_42 : decode cX7_readNeighbour 42 = .ok (.aload_n 0, 1) := by decide +kernel
theorem dX7_readNeighbour_43 : decode cX7_readNeighbour 43 = .ok (.getfield 28, 3) := by decide +kernel
theorem dX7_readNeighbour_46 : decode cX7_readNeighbour 46 = .ok (.invokevirtual 47, 3) := by decide +kernel
theorem dX7_readNeighbour_49 : decode cX7_readNeighbour 49 = .ok (.aload_n 0, 1) := by decide +kernel
theorem dX7_readNeighbour_50 : decode cX7_readNeighbour 50 = .ok (.iconst 0, 1) := by decide +kernel
theorem dX7_readNeighbour_51 : decode cX7_readNeighbour 51 = .ok (.aload_n 1, 1) := by decide +kernel
theorem dX7_readNeighbour_52 : decode cX7_readNeighbour 52 = .ok (.getfield 78, 3) := by decide +kernel
theorem dX7_readNeighbour_55 : decode cX7_readNeighbour 55 = .ok (.iconst 1, 1) := by decide +kernel
theorem dX7_readNeighbour_56 : decode cX7_readNeighbour 56 = .ok (.isub, 1) := by decide +kernel
theorem dX7_readNeighbour_57 : decode cX7_readNeighbour 57 = .ok (.invokevirtual 65, 3) := by decide +kernel
theorem dX7_readNeighbour_60 : decode cX7_readNeighbour 60 = .ok (.istore_n 3, 1) := by decide +kernel
theorem dX7_readNeighbour_61 : decode cX7_readNeighbour 61 = .ok (.iload_n 3, 1) := by decide +kernel
theorem dX7_readNeighbour_62 : decode cX7_readNeighbour 62 = .ok (.iload_n 2, 1) := by decide +kernel
theorem dX7_readNeighbour_63 : decode cX7_readNeighbour 63 = .ok (.if_icmp .ne 12, 3) := by decide +kernel
theorem dX7_readNeighbour_66 : decode cX7_readNeighbour 66 = .ok (.aload_n 0, 1) := by decide +kernel
theorem dX7_readNeighbour_67 : decode cX7_readNeighbour 67 = .ok (.iconst 4, 1) := by decide +kernel
theorem dX7_readNeighbour_68 : decode cX7_readNeighbour 68 = .ok (.aload_n 0, 1) := by decide +kernel
theorem dX7_readNeighbour_69 : decode cX7_readNeighbour 69 = .ok (.getfield 28, 3) := by decide +kernel
theorem dX7_readNeighbour_72 : decode cX7_readNeighbour 72 = .ok (.invokevirtual 47, 3) := by decide +kernel
theorem dX7_readNeighbour_75 : decode cX7_readNeighbour 75 = .ok (.aload_n 0, 1) := by decide +kernel
theorem dX7_readNeighbour_76 : decode cX7_readNeighbour 76 = .ok (.iconst 1, 1) := by decide +kernel
theorem dX7_readNeighbour_77 : decode cX7_readNeighbour 77 = .ok (.bipush 9, 2) := by decide +kernel
theorem dX7_readNeighbour_79 : decode cX7_readNeighbour 79 = .ok (.invokevirtual 65, 3) := by decide +kernel
theorem dX7_readNeighbour_82 : decode cX7_readNeighbour 82 = .ok (.istore 4, 2) := by decide +kernel
theorem dX7_readNeighbour_84 : decode cX7_readNeighbour 84 = .ok (.aload_n 0, 1) := by decide +kernel
theorem dX7_readNeighbour_85 : decode cX7_readNeighbour 85 = .ok (.invokevirtual 75, 3) := by decide +kernel
theorem dX7_readNeighbour_88 : decode cX7_readNeighbour 88 = .ok (.aload_n 0, 1) := by decide +kernel
theorem dX7_readNeighbour_89 : decode cX7_readNeighbour 89 = .ok (.getfield 19, 3) := by decide +kernel
theorem dX7_readNeighbour_92 : decode cX7_readNeighbour 92 = .ok (.ifCond .ne 26, 3) := by decide +kernel
theorem dX7_readNeighbour_95 : decode cX7_readNeighbour 95 = .ok (.aload_n 1, 1) := by decide +kernel
theorem dX7_readNeighbour_96 : decode cX7_readNeighbour 96 = .ok (.iload_n 2, 1) := by decide +kernel
theorem dX7_readNeighbour_97 : decode cX7_readNeighbour 97 = .ok (.invokevirtual 92, 3) := by decide +kernel
theorem dX7_readNeighbour_100 : decode cX7_readNeighbour 100 = .ok (.ifCond .eq 18, 3) := by decide +kernel
theorem dX7_readNeighbour_103 : decode cX7_readNeighbour 103 = .ok (.aload_n 1, 1) := by decide +kernel
theorem dX7_readNeighbour_104 : decode cX7_readNeighbour 104 = .ok (.getfield 96, 3) := by decide +kernel
theorem dX7_readNeighbour_107 : decode cX7_readNeighbour 107 = .ok (.iload_n 2, 1) := by decide +kernel
theorem dX7_readNeighbour_108 : decode cX7_readNeighbour 108 = .ok (.iload_n 3, 1) := by decide +kernel
theorem dX7_readNeighbour_109 : decode cX7_readNeighbour 109 = .ok (.iastore, 1) := by decide +kernel
theorem dX7_readNeighbour_110 : decode cX7_readNeighbour 110 = .ok (.aload_n 1, 1) := by decide +kernel
theorem dX7_readNeighbour_111 : decode cX7_readNeighbour 111 = .ok (.getfield 99, 3) := by decide +kernel
theorem dX7_readNeighbour_114 : decode cX7_readNeighbour 114 = .ok (.iload_n 2, 1) := by decide +kernel
theorem dX7_readNeighbour_115 : decode cX7_readNeighbour 115 = .ok (.iload 4, 2) := by decide +kernel
theorem dX7_readNeighbour_117 : decode cX7_readNeighbour 117 = .ok (.iastore, 1) := by decide +kernel
theorem dX7_readNeighbour_118 : decode cX7_readNeighbour 118 = .ok (.return_, 1) := by decide +kernel
theorem dX7_number_0 : decode cX7_number 0 = .ok (.aload_n 0, 1) := by decide +kernel
theorem dX7_number_1 : decode cX7_number 1 = .ok (.invokevirtual 36, 3) := by decide +kernel
theorem dX7_number_4 : decode cX7_number 4 = .ok (.invokestatic 102, 3) := by decide +kernel
theorem dX7_number_7 : decode cX7_number 7 = .ok (.ifCond .ne 12, 3) := by decide +kernel
theorem dX7_number_10 : decode cX7_number 10 = .ok (.aload_n 0, 1) := by decide +kernel
theorem dX7_number_11 : decode cX7_number 11 = .ok (.iconst 1, 1) := by decide +kernel
theorem dX7_number_12 : decode cX7_number 12 = .ok (.aload_n 0, 1) := by decide +kernel
theorem dX7_number_13 : decode cX7_number 13 = .ok (.getfield 25, 3) := by decide +kernel
theorem dX7_number_16 : decode cX7_number 16 = .ok (.invokevirtual 47, 3) := by decide +kernel
theorem dX7_number_19 : decode cX7_number 19 = .ok (.aload_n 0, 1) := by decide +kernel
theorem dX7_number_20 : decode cX7_number 20 = .ok (.getfield 19, 3) := by decide +kernel
theorem dX7_number_23 : decode cX7_number 23 = .ok (.ifCond .eq 5, 3) := by decide +kernel
theorem dX7_number_26 : decode cX7_number 26 = .ok (.iconst (-1), 1) := by decide +kernel
theorem dX7_number_27 : decode cX7_number 27 = .ok (.ireturn, 1) := by decide +kernel
theorem dX7_number_28 : decode cX7_number 28 = .ok (.aload_n 0, 1) := by decide +kernel
theorem dX7_number_29 : decode cX7_number 29 = .ok (.aload_n 0, 1) := by decide +kernel
theorem dX7_number_30 : decode cX7_number 30 = .ok (.getfield 25, 3) := by decide +kernel
theorem dX7_number_33 : decode cX7_number 33 = .ok (.putfield 28, 3) := by decide +kernel
theorem dX7_number_36 : decode cX7_number 36 = .ok (.iconst 0, 1) := by decide +kernel
theorem dX7_number_37 : decode cX7_number 37 = .ok (.istore_n 3, 1) := by decide +kernel
theorem dX7_number_38 : decode cX7_number 38 = .ok (.iconst 0, 1) := by decide +kernel
theorem dX7_number_39 : decode cX7_number 39 = .ok (.istore 4, 2) := by decide +kernel
theorem dX7_number_41 : decode cX7_number 41 = .ok (.aload_n 0, 1) := by decide +kernel
theorem dX7_number_42 : decode cX7_number 42 = .ok (.getfield 25, 3) := by decide +kernel
theorem dX7_number_45 : decode cX7_number 45 = .ok (.aload_n 0, 1) := by decide +kernel
theorem dX7_number_46 : decode cX7_number 46 = .ok (.getfield 15, 3) := by decide +kernel
theorem dX7_number_49 : decode cX7_number 49 = .ok (.if_icmp .ge 58, 3) := by decide +kernel
theorem dX7_number_52 : decode cX7_number 52 = .ok (.aload_n 0, 1) := by decide +kernel
theorem dX7_number_53 : decode cX7_number 53 = .ok (.getfield 9, 3) := by decide +kernel
theorem dX7_number_56 : decode cX7_number 56 = .ok (.aload_n 0, 1) := by decide +kernel
theorem dX7_number_57 : decode cX7_number 57 = .ok (.getfield 25, 3) := by decide +kernel
theorem dX7_number_60 : decode cX7_number 60 = .ok (.iaload, 1) := by decide +kernel
theorem dX7_number_61 : decode cX7_number 61 = .ok (.invokestatic 102, 3) := by decide +kernel
theorem dX7_number_64 : decode cX7_number 64 = .ok (.ifCond .eq 43, 3) := by decide +kernel
theorem dX7_number_67 : decode cX7_number 67 = .ok (.iinc 4 1, 3) := by decide +kernel
theorem dX7_number_70 : decode cX7_number 70 = .ok (.iload 4, 2) := by decide +kernel
theorem dX7_number_72 : decode cX7_number 72 = .ok (.iconst 4, 1) := by decide +kernel
theorem dX7_number_73 : decode cX7_number 73 = .ok (.if_icmp .gt 21, 3) := by decide +kernel
theorem dX7_number_76 : decode cX7_number 76 = .ok (.iload_n 3, 1) := by decide +kernel
theorem dX7_number_77 : decode cX7_number 77 = .ok (.bipush 10, 2) := by decide +kernel
theorem dX7_number_79 : decode cX7_number 79 = .ok (.imul, 1) := by decide +kernel
theorem dX7_number_80 : decode cX7_number 80 = .ok (.aload_n 0, 1) := by decide +kernel
theorem dX7_number_81 : decode cX7_number 81 = .ok (.getfield 9, 3) := by decide +kernel
theorem dX7_number_84 : decode cX7_number 84 = .ok (.aload_n 0, 1) := by decide +kernel
theorem dX7_number_85 : decode cX7_number 85 = .ok (.getfield 25, 3) := by decide +kernel
theorem dX7_number_88 : decode cX7_number 88 = .ok (.iaload, 1) := by decide +kernel
theorem dX7_number_89 : decode cX7_number 89 = .ok (.iadd, 1) := by decide +kernel
theorem dX7_number_90 : decode cX7_number 90 = .ok (.bipush 48, 2) := by decide +kernel
theorem dX7_number_92 : decode cX7_number 92 = .ok (.isub, 1) := by decide +kernel
theorem dX7_number_93 : decode cX7_number 93 = .ok (.istore_n 3, 1) := by decide +kernel
theorem dX7_number_94 : decode cX7_number 94 = .ok (.aload_n 0, 1) := by decide +kernel
theorem dX7_number_95 : decode cX7_number 95 = .ok (.dup, 1) := by decide +kernel
theorem dX7_number_96 : decode cX7_number 96 = .ok (.getfield 25, 3) := by decide +kernel
theorem dX7_number_99 : decode cX7_number 99 = .ok (.iconst 1, 1) := by decide +kernel
theorem dX7_number_100 : decode cX7_number 100 = .ok (.iadd, 1) := by decide +kernel
theorem dX7_number_101 : decode cX7_number 101 = .ok (.putfield 25, 3) := by decide +kernel
theorem dX7_number_104 : decode cX7_number 104 = .ok (.goto (-63), 3) := by decide +kernel
theorem dX7_number_107 : decode cX7_number 107 = .ok (.iload 4, 2) := by decide +kernel
theorem dX7_number_109 : decode cX7_number 109 = .ok (.iconst 4, 1) := by decide +kernel
theorem dX7_number_110 : decode cX7_number 110 = .ok (.if_icmp .gt 12, 3) := by decide +kernel
theorem dX7_number_113 : decode cX7_number 113 = .ok (.iload_n 3, 1) := by decide +kernel
theorem dX7_number_114 : decode cX7_number 114 = .ok (.iload_n 1, 1) := by decide +kernel
theorem dX7_number_115 : decode cX7_number 115 = .ok (.iload_n 2, 1) := by decide +kernel
theorem dX7_number_116 : decode cX7_number 116 = .ok (.invokestatic 105, 3) := by decide +kernel
theorem dX7_number_119 : decode cX7_number 119 = .ok (.ifCond .ne 14, 3) := by decide +kernel
theorem dX7_number_122 : decode cX7_number 122 = .ok (.aload_n 0, 1) := by decide +kernel
theorem dX7_number_123 : decode cX7_number 123 = .ok (.iconst 2, 1) := by decide +kernel
theorem dX7_number_124 : decode cX7_number 124 = .ok (.aload_n 0, 1) := by decide +kernel
theorem dX7_number_125 : decode cX7_number 125 = .ok (.getfield 28, 3) := by decide +kernel
theorem dX7_number_128 : decode cX7_number 128 = .ok (.invokevirtual 47, 3) := by decide +kernel
theorem dX7_number_131 : decode cX7_number 131 = .ok (.iconst (-1), 1) := by decide +kernel
theorem dX7_number_132 : decode cX7_number 132 = .ok (.ireturn, 1) := by decide +kernel
theorem dX7_number_133 : decode cX7_number 133 = .ok (.iload_n 3, 1) := by decide +kernel
theorem dX7_number_134 : decode cX7_number 134 = .ok (.ireturn, 1) := by decide +kernel
theorem dX7_endClause_0 : decode cX7_endClause 0 = .ok (.aload_n 0, 1) := by decide +kernel
theorem dX7_endClause_1 : decode cX7_endClause 1 = .ok (.invokevirtual 36, 3) := by decide +kernel
theorem dX7_endClause_4 : decode cX7_endClause 4 = .ok (.bipush 59, 2) := by decide +kernel
theorem dX7_endClause_6 : decode cX7_endClause 6 = .ok (.if_icmp .eq 12, 3) := by decide +kernel
theorem dX7_endClause_9 : decode cX7_endClause 9 = .ok (.aload_n 0, 1) := by decide +kernel
theorem dX7_endClause_10 : decode cX7_endClause 10 = .ok (.iconst 1, 1) := by decide +kernel
theorem dX7_endClause_11 : decode cX7_endClause 11 = .ok (.aload_n 0, 1) := by decide +kernel
theorem dX7_endClause_12 : decode cX7_endClause 12 = .ok (.getfield 25, 3) := by decide +kernel
theorem dX7_endClause_15 : decode cX7_endClause 15 = .ok (.invokevirtual 47, 3) := by decide +kernel
theorem dX7_endClause_18 : decode cX7_endClause 18 = .ok (.aload_n 0, 1) := by decide +kernel
theorem dX7_endClause_19 : decode cX7_endClause 19 = .ok (.dup, 1) := by decide +kernel
theorem dX7_endClause_20 : decode cX7_endClause 20 = .ok (.getfield 25, 3) := by decide +kernel
theorem dX7_endClause_23 : decode cX7_endClause 23 = .ok (.iconst 1, 1) := by decide +kernel
theorem dX7_endClause_24 : decode cX7_endClause 24 = .ok (.iadd, 1) := by decide +kernel
theorem dX7_endClause_25 : decode cX7_endClause 25 = .ok (.putfield 25, 3) := by decide +kernel
theorem dX7_endClause_28 : decode cX7_endClause 28 = .ok (.return_, 1) := by decide +kernel
theorem dX7_peek_0 : decode cX7_peek 0 = .ok (.aload_n 0, 1) := by decide +kernel
theorem dX7_peek_1 : decode cX7_peek 1 = .ok (.getfield 25, 3) := by decide +kernel
theorem dX7_peek_4 : decode cX7_peek 4 = .ok (.aload_n 0, 1) := by decide +kernel
theorem dX7_peek_5 : decode cX7_peek 5 = .ok (.getfield 15, 3) := by decide +kernel
theorem dX7_peek_8 : decode cX7_peek 8 = .ok (.if_icmp .ge 30, 3) := by decide +kernel
theorem dX7_peek_11 : decode cX7_peek 11 = .ok (.aload_n 0, 1) := by decide +kernel
theorem dX7_peek_12 : decode cX7_peek 12 = .ok (.getfield 9, 3) := by decide +kernel
theorem dX7_peek_15 : decode cX7_peek 15 = .ok (.aload_n 0, 1) := by decide +kernel
theorem dX7_peek_16 : decode cX7_peek 16 = .ok (.getfield 25, 3) := by decide +kernel
theorem dX7_peek_19 : decode cX7_peek 19 = .ok (.iaload, 1) := by decide +kernel
theorem dX7_peek_20 : decode cX7_peek 20 = .ok (.bipush 32, 2) := by decide +kernel
theorem dX7_peek_22 : decode cX7_peek 22 = .ok (.if_icmp .ne 16, 3) := by decide +kernel
theorem dX7_peek_25 : decode cX7_peek 25 = .ok (.aload_n 0, 1) := by decide +kernel
theorem dX7_peek_26 : decode cX7_peek 26 = .ok (.dup, 1) := by decide +kernel
theorem dX7_peek_27 : decode cX7_peek 27 = .ok (.getfield 25, 3) := by decide +kernel
theorem dX7_peek_30 : decode cX7_peek 30 = .ok (.iconst 1, 1) := by decide +kernel
theorem dX7_peek_31 : decode cX7_peek 31 = .ok (.iadd, 1) := by decide +kernel
theorem dX7_peek_32 : decode cX7_peek 32 = .ok (.putfield 25, 3) := by decide +kernel
theorem dX7_peek_35 : decode cX7_peek 35 = .ok (.goto (-35), 3) := by decide +kernel
theorem dX7_peek_38 : decode cX7_peek 38 = .ok (.aload_n 0, 1) := by decide +kernel
theorem dX7_peek_39 : decode cX7_peek 39 = .ok (.getfield 25, 3) := by decide +kernel
theorem dX7_peek_42 : decode cX7_peek 42 = .ok (.iconst 0, 1) := by decide +kernel
theorem dX7_peek_43 : decode cX7_peek 43 = .ok (.aload_n 0, 1) := by decide +kernel
theorem dX7_peek_44 : decode cX7_peek 44 = .ok (.getfield 15, 3) := by decide +kernel
theorem dX7_peek_47 : decode cX7_peek 47 = .ok (.iconst 1, 1) := by decide +kernel
theorem dX7_peek_48 : decode cX7_peek 48 = .ok (.isub, 1) := by decide +kernel
theorem dX7_peek_49 : decode cX7_peek 49 = .ok (.invokestatic 105, 3) := by decide +kernel
theorem dX7_peek_52 : decode cX7_peek 52 = .ok (.ifCond .eq 15, 3) := by decide +kernel
theorem dX7_peek_55 : decode cX7_peek 55 = .ok (.aload_n 0, 1) := by decide +kernel
theorem dX7_peek_56 : decode cX7_peek 56 = .ok (.getfield 9, 3) := by decide +kernel
theorem dX7_peek_59 : decode cX7_peek 59 = .ok (.aload_n 0, 1) := by decide +kernel
theorem dX7_peek_60 : decode cX7_peek 60 = .ok (.getfield 25, 3) := by decide +kernel
theorem dX7_peek_63 : decode cX7_peek 63 = .ok (.iaload, 1) := by decide +kernel
theorem dX7_peek_64 : decode cX7_peek 64 = .ok (.goto 4, 3) := by decide +kernel
theorem dX7_peek_67 : decode cX7_peek 67 = .ok (.iconst (-1), 1) := by decide +kernel
theorem dX7_peek_68 : decode cX7_peek 68 = .ok (.ireturn, 1) := by decide +kernel
theorem dX7_isFigure_0 : decode cX7_isFigure 0 = .ok (.iload_n 0, 1) := by decide +kernel
theorem dX7_isFigure_1 : decode cX7_isFigure 1 = .ok (.bipush 48, 2) := by decide +kernel
theorem dX7_isFigure_3 : decode cX7_isFigure 3 = .ok (.bipush 57, 2) := by decide +kernel
theorem dX7_isFigure_5 : decode cX7_isFigure 5 = .ok (.invokestatic 105, 3) := by decide +kernel
theorem dX7_isFigure_8 : decode cX7_isFigure 8 = .ok (.ireturn, 1) := by decide +kernel
theorem dX7_fail_0 : decode cX7_fail 0 = .ok (.aload_n 0, 1) := by decide +kernel
theorem dX7_fail_1 : decode cX7_fail 1 = .ok (.getfield 19, 3) := by decide +kernel
theorem dX7_fail_4 : decode cX7_fail 4 = .ok (.ifCond .ne 13, 3) := by decide +kernel
theorem dX7_fail_7 : decode cX7_fail 7 = .ok (.aload_n 0, 1) := by decide +kernel
theorem dX7_fail_8 : decode cX7_fail 8 = .ok (.iload_n 1, 1) := by decide +kernel
theorem dX7_fail_9 : decode cX7_fail 9 = .ok (.putfield 19, 3) := by decide +kernel
theorem dX7_fail_12 : decode cX7_fail 12 = .ok (.aload_n 0, 1) := by decide +kernel
theorem dX7_fail_13 : decode cX7_fail 13 = .ok (.iload_n 2, 1) := by decide +kernel
theorem dX7_fail_14 : decode cX7_fail 14 = .ok (.putfield 22, 3) := by decide +kernel
theorem dX7_fail_17 : decode cX7_fail 17 = .ok (.return_, 1) := by decide +kernel
theorem dX8_init_0 : decode cX8_init 0 = .ok (.aload_n 0, 1) := by decide +kernel
theorem dX8_init_1 : decode cX8_init 1 = .ok (.invokespecial 3, 3) := by decide +kernel
theorem dX8_init_4 : decode cX8_init 4 = .ok (.aload_n 0, 1) := by decide +kernel
theorem dX8_init_5 : decode cX8_init 5 = .ok (.new 9, 3) := by decide +kernel
theorem dX8_init_8 : decode cX8_init 8 = .ok (.dup, 1) := by decide +kernel
theorem dX8_init_9 : decode cX8_init 9 = .ok (.invokespecial 11, 3) := by decide +kernel
theorem dX8_init_12 : decode cX8_init 12 = .ok (.putfield 12, 3) := by decide +kernel
theorem dX8_init_15 : decode cX8_init 15 = .ok (.aload_n 0, 1) := by decide +kernel
theorem dX8_init_16 : decode cX8_init 16 = .ok (.bipush 7, 2) := by decide +kernel
theorem dX8_init_18 : decode cX8_init 18 = .ok (.newarray .int, 2) := by decide +kernel
theorem dX8_init_20 : decode cX8_init 20 = .ok (.putfield 18, 3) := by decide +kernel
theorem dX8_init_23 : decode cX8_init 23 = .ok (.aload_n 0, 1) := by decide +kernel
theorem dX8_init_24 : decode cX8_init 24 = .ok (.iconst 0, 1) := by decide +kernel
theorem dX8_init_25 : decode cX8_init 25 = .ok (.putfield 22, 3) := by decide +kernel
theorem dX8_init_28 : decode cX8_init 28 = .ok (.aload_n 0, 1) := by decide +kernel
theorem dX8_init_29 : decode cX8_init 29 = .ok (.iconst 0, 1) := by decide +kernel
theorem dX8_init_30 : decode cX8_init 30 = .ok (.putfield 26, 3) := by decide +kernel
theorem dX8_init_33 : decode cX8_init 33 = .ok (.aload_n 0, 1) := by decide +kernel
theorem dX8_init_34 : decode cX8_init 34 = .ok (.iconst 0, 1) := by decide +kernel
theorem dX8_init_35 : decode cX8_init 35 = .ok (.putfield 29, 3) := by decide +kernel
theorem dX8_init_38 : decode cX8_init 38 = .ok (.aload_n 0, 1) := by decide +kernel
theorem dX8_init_39 : decode cX8_init 39 = .ok (.iconst 0, 1) := by decide +kernel
theorem dX8_init_40 : decode cX8_init 40 = .ok (.putfield 32, 3) := by decide +kernel
theorem dX8_init_43 : decode cX8_init 43 = .ok (.aload_n 0, 1) := by decide +kernel
theorem dX8_init_44 : decode cX8_init 44 = .ok (.iconst 0, 1) := by decide +kernel
theorem dX8_init_45 : decode cX8_init 45 = .ok (.putfield 35, 3) := by decide +kernel
theorem dX8_init_48 : decode cX8_init 48 = .ok (.aload_n 0, 1) := by decide +kernel
theorem dX8_init_49 : decode cX8_init 49 = .ok (.iconst 0, 1) := by decide +kernel
theorem dX8_init_50 : decode cX8_init 50 = .ok (.putfield 38, 3) := by decide +kernel
theorem dX8_init_53 : decode cX8_init 53 = .ok (.return_, 1) := by decide +kernel
theorem dX8_run_0 : decode cX8_run 0 = .ok (.aload_n 0, 1) := by decide +kernel
theorem dX8_run_1 : decode cX8_run 1 = .ok (.aload_n 3, 1) := by decide +kernel
theorem dX8_run_2 : decode cX8_run 2 = .ok (.invokevirtual 41, 3) := by decide +kernel
theorem dX8_run_5 : decode cX8_run 5 = .ok (.iload_n 2, 1) := by decide +kernel
theorem dX8_run_6 : decode cX8_run 6 = .ok (.invokestatic 45, 3) := by decide +kernel
theorem dX8_run_9 : decode cX8_run 9 = .ok (.istore 5, 2) := by decide +kernel
theorem dX8_run_11 : decode cX8_run 11 = .ok (.iload 5, 2) := by decide +kernel
theorem dX8_run_13 : decode cX8_run 13 = .ok (.ifCond .le 42, 3) := by decide +kernel
theorem dX8_run_16 : decode cX8_run 16 = .ok (.iload_n 2, 1) := by decide +kernel
theorem dX8_run_17 : decode cX8_run 17 = .ok (.iload 5, 2) := by decide +kernel
theorem dX8_run_19 : decode cX8_run 19 = .ok (.idiv, 1) := by decide +kernel
theorem dX8_run_20 : decode cX8_run 20 = .ok (.bipush 10, 2) := by decide +kernel
theorem dX8_run_22 : decode cX8_run 22 = .ok (.irem, 1) := by decide +kernel
theorem dX8_run_23 : decode cX8_run 23 = .ok (.iconst 1, 1) := by decide +kernel
theorem dX8_run_24 : decode cX8_run 24 = .ok (.isub, 1) := by decide +kernel
theorem dX8_run_25 : decode cX8_run 25 = .ok (.istore 6, 2) := by decide +kernel
theorem dX8_run_27 : decode cX8_run 27 = .ok (.aload_n 1, 1) := by decide +kernel
theorem dX8_run_28 : decode cX8_run 28 = .ok (.iload 6, 2) := by decide +kernel
theorem dX8_run_30 : decode cX8_run 30 = .ok (.invokevirtual 49, 3) := by decide +kernel
theorem dX8_run_33 : decode cX8_run 33 = .ok (.ifCond .eq 12, 3) := by decide +kernel
theorem dX8_run_36 : decode cX8_run 36 = .ok (.aload_n 0, 1) := by decide +kernel
theorem dX8_run_37 : decode cX8_run 37 = .ok (.aload_n 1, 1) := by decide +kernel
theorem dX8_run_38 : decode cX8_run 38 = .ok (.iload 6, 2) := by decide +kernel
theorem dX8_run_40 : decode cX8_run 40 = .ok (.iload 4, 2) := by decide +kernel
theorem dX8_run_42 : decode cX8_run 42 = .ok (.invokevirtual 55, 3) := by decide +kernel
theorem dX8_run_45 : decode cX8_run 45 = .ok (.iload 5, 2) := by decide +kernel
theorem dX8_run_47 : decode cX8_run 47 = .ok (.bipush 10, 2) := by decide +kernel
theorem dX8_run_49 : decode cX8_run 49 = .ok (.idiv, 1) := by decide +kernel
theorem dX8_run_50 : decode cX8_run 50 = .ok (.istore 5, 2) := by decide +kernel
theorem dX8_run_52 : decode cX8_run 52 = .ok (.goto (-41), 3) := by decide +kernel
theorem dX8_run_55 : decode cX8_run 55 = .ok (.aload_n 0, 1) := by decide +kernel
theorem dX8_run_56 : decode cX8_run 56 = .ok (.aload_n 0, 1) := by decide +kernel
theorem dX8_run_57 : decode cX8_run 57 = .ok (.getfield 35, 3) := by decide +kernel
theorem dX8_run_60 : decode cX8_run 60 = .ok (.aload_n 1, 1) := by decide +kernel
theorem dX8_run_61 : decode cX8_run 61 = .ok (.aload_n 0, 1) := by decide +kernel
theorem dX8_run_62 : decode cX8_run 62 = .ok (.getfield 38, 3) := by decide +kernel
theorem dX8_run_65 : decode cX8_run 65 = .ok (.iconst 0, 1) := by decide +kernel
theorem dX8_run_66 : decode cX8_run 66 = .ok (.invokevirtual 59, 3) := by decide +kernel
theorem dX8_run_69 : decode cX8_run 69 = .ok (.iadd, 1) := by decide +kernel
theorem dX8_run_70 : decode cX8_run 70 = .ok (.putfield 22, 3) := by decide +kernel
theorem dX8_run_73 : decode cX8_run 73 = .ok (.aload_n 0, 1) := by decide +kernel
theorem dX8_run_74 : decode cX8_run 74 = .ok (.getfield 12, 3) := by decide +kernel
theorem dX8_run_77 : decode cX8_run 77 = .ok (.dup, 1) := by decide +kernel
theorem dX8_run_78 : decode cX8_run 78 = .ok (.getfield 63, 3) := by decide +kernel
theorem dX8_run_81 : decode cX8_run 81 = .ok (.iconst 1, 1) := by decide +kernel
theorem dX8_run_82 : decode cX8_run 82 = .ok (.iadd, 1) := by decide +kernel
theorem dX8_run_83 : decode cX8_run 83 = .ok (.putfield 63, 3) := by decide +kernel
theorem dX8_run_86 : decode cX8_run 86 = .ok (.aload_n 0, 1) := by decide +kernel
theorem dX8_run_87 : decode cX8_run 87 = .ok (.getfield 12, 3) := by decide +kernel
theorem dX8_run_90 : decode cX8_run 90 = .ok (.dup, 1) := by decide +kernel
theorem dX8_run_91 : decode cX8_run 91 = .ok (.getfield 66, 3) := by decide +kernel
theorem dX8_run_94 : decode cX8_run 94 = .ok (.aload_n 0, 1) := by decide +kernel
theorem dX8_run_95 : decode cX8_run 95 = .ok (.getfield 22, 3) := by decide +kernel
theorem dX8_run_98 : decode cX8_run 98 = .ok (.iadd, 1) := by decide +kernel
theorem dX8_run_99 : decode cX8_run 99 = .ok (.putfield 66, 3) := by decide +kernel
theorem dX8_run_102 : decode cX8_run 102 = .ok (.aload_n 0, 1) := by decide +kernel
theorem dX8_run_103 : decode cX8_run 103 = .ok (.getfield 12, 3) := by decide +kernel
theorem dX8_run_106 : decode cX8_run 106 = .ok (.dup, 1) := by decide +kernel
theorem dX8_run_107 : decode cX8_run 107 = .ok (.getfield 69, 3) := by decide +kernel
theorem dX8_run_110 : decode cX8_run 110 = .ok (.aload_n 0, 1) := by decide +kernel
theorem dX8_run_111 : decode cX8_run 111 = .ok (.getfield 29, 3) := by decide +kernel
theorem dX8_run_114 : decode cX8_run 114 = .ok (.invokestatic 72, 3) := by decide +kernel
theorem dX8_run_117 : decode cX8_run 117 = .ok (.iadd, 1) := by decide +kernel
theorem dX8_run_118 : decode cX8_run 118 = .ok (.putfield 69, 3) := by decide +kernel
theorem dX8_run_121 : decode cX8_run 121 = .ok (.return_, 1) := by decide +kernel
theorem dX8_begin_0 : decode cX8_begin 0 = .ok (.aload_n 0, 1) := by decide +kernel
theorem dX8_begin_1 : decode cX8_begin 1 = .ok (.getfield 12, 3) := by decide +kernel
theorem dX8_begin_4 : decode cX8_begin 4 = .ok (.aload_n 1, 1) := by decide +kernel
theorem dX8_begin_5 : decode cX8_begin 5 = .ok (.invokevirtual 77, 3) := by decide +kernel
theorem dX8_begin_8 : decode cX8_begin 8 = .ok (.iconst 0, 1) := by decide +kernel
theorem dX8_begin_9 : decode cX8_begin 9 = .ok (.istore_n 2, 1) := by decide +kernel
theorem dX8_begin_10 : decode cX8_begin 10 = .ok (.iload_n 2, 1) := by decide +kernel
theorem dX8_begin_11 : decode cX8_begin 11 = .ok (.bipush 7, 2) := by decide +kernel
theorem dX8_begin_13 : decode cX8_begin 13 = .ok (.if_icmp .ge 16, 3) := by decide +kernel
theorem dX8_begin_16 : decode cX8_begin 16 = .ok (.aload_n 0, 1) := by decide +kernel
theorem dX8_begin_17 : decode cX8_begin 17 = .ok (.getfield 18, 3) := by decide +kernel
theorem dX8_begin_20 : decode cX8_begin 20 = .ok (.iload_n 2, 1) := by decide +kernel
theorem dX8_begin_21 : decode cX8_begin 21 = .ok (.iconst (-1), 1) := by decide +kernel
theorem dX8_begin_22 : decode cX8_begin 22 = .ok (.iastore, 1) := by decide +kernel
theorem dX8_begin_23 : decode cX8_begin 23 = .ok (.iinc 2 1, 3) := by decide +kernel
theorem dX8_begin_26 : decode cX8_begin 26 = .ok (.goto (-16), 3) := by decide +kernel
theorem dX8_begin_29 : decode cX8_begin 29 = .ok (.aload_n 0, 1) := by decide +kernel
theorem dX8_begin_30 : decode cX8_begin 30 = .ok (.iconst 0, 1) := by decide +kernel
theorem dX8_begin_31 : decode cX8_begin 31 = .ok (.putfield 26, 3) := by decide +kernel
theorem dX8_begin_34 : decode cX8_begin 34 = .ok (.aload_n 0, 1) := by decide +kernel
theorem dX8_begin_35 : decode cX8_begin 35 = .ok (.iconst 0, 1) := by decide +kernel
theorem dX8_begin_36 : decode cX8_begin 36 = .ok (.putfield 29, 3) := by decide +kernel
theorem dX8_begin_39 : decode cX8_begin 39 = .ok (.aload_n 0, 1) := by decide +kernel
theorem dX8_begin_40 : decode cX8_begin 40 = .ok (.iconst 0, 1) := by decide +kernel
theorem dX8_begin_41 : decode cX8_begin 41 = .ok (.putfield 32, 3) := by decide +kernel
theorem dX8_begin_44 : decode cX8_begin 44 = .ok (.aload_n 0, 1) := by decide +kernel
theorem dX8_begin_45 : decode cX8_begin 45 = .ok (.iconst 0, 1) := by decide +kernel
theorem dX8_begin_46 : decode cX8_begin 46 = .ok (.putfield 35, 3) := by decide +kernel
theorem dX8_begin_49 : decode cX8_begin 49 = .ok (.aload_n 0, 1) := by decide +kernel
theorem dX8_begin_50 : decode cX8_begin 50 = .ok (.iconst 0, 1) := by decide +kernel
theorem dX8_begin_51 : decode cX8_begin 51 = .ok (.putfield 38, 3) := by decide +kernel
theorem dX8_begin_54 : decode cX8_begin 54 = .ok (.return_, 1) := by decide +kernel
theorem dX8_firstUnit_0 : decode cX8_firstUnit 0 = .ok (.iconst 1, 1) := by decide +kernel
theorem dX8_firstUnit_1 : decode cX8_firstUnit 1 = .ok (.istore_n 1, 1) := by decide +kernel
theorem dX8_firstUnit_2 : decode cX8_firstUnit 2 = .ok (.iconst 1, 1) := by decide +kernel
theorem dX8_firstUnit_3 : decode cX8_firstUnit 3 = .ok (.istore_n 2, 1) := by decide +kernel
theorem dX8_firstUnit_4 : decode cX8_firstUnit 4 = .ok (.iload_n 2, 1) := by decide +kernel
theorem dX8_firstUnit_5 : decode cX8_firstUnit 5 = .ok (.bipush 10, 2) := by decide +kernel
theorem dX8_firstUnit_7 : decode cX8_firstUnit 7 = .ok (.if_icmp .ge 22, 3) := by decide +kernel
theorem dX8_firstUnit_10 : decode cX8_firstUnit 10 = .ok (.iload_n 0, 1) := by decide +kernel
theorem dX8_firstUnit_11 : decode cX8_firstUnit 11 = .ok (.iload_n 1, 1) := by decide +kernel
theorem dX8_firstUnit_12 : decode cX8_firstUnit 12 = .ok (.idiv, 1) := by decide +kernel
theorem dX8_firstUnit_13 : decode cX8_firstUnit 13 = .ok (.bipush 10, 2) := by decide +kernel
theorem dX8_firstUnit_15 : decode cX8_firstUnit 15 = .ok (.if_icmp .lt 14, 3) := by decide +kernel
theorem dX8_firstUnit_18 : decode cX8_firstUnit 18 = .ok (.iload_n 1, 1) := by decide +kernel
theorem dX8_firstUnit_19 : decode cX8_firstUnit 19 = .ok (.bipush 10, 2) := by decide +kernel
theorem dX8_firstUnit_21 : decode cX8_firstUnit 21 = .ok (.imul, 1) := by decide +kernel
theorem dX8_firstUnit_22 : decode cX8_firstUnit 22 = .ok (.istore_n 1, 1) := by decide +kernel
theorem dX8_firstUnit_23 : decode cX8_firstUnit 23 = .ok (.iinc 2 1, 3) := by decide +kernel
theorem dX8_firstUnit_26 : decode cX8_firstUnit 26 = .ok (.goto (-22), 3) := by decide +kernel
theorem dX8_firstUnit_29 : decode cX8_firstUnit 29 = .ok (.iload_n 1, 1) := by decide +kernel
theorem dX8_firstUnit_30 : decode cX8_firstUnit 30 = .ok (.ireturn, 1) := by decide +kernel
theorem dX8_call_0 : decode cX8_call 0 = .ok (.aload_n 0, 1) := by decide +kernel
theorem dX8_call_1 : decode cX8_call 1 = .ok (.dup, 1) := by decide +kernel
theorem dX8_call_2 : decode cX8_call 2 = .ok (.getfield 35, 3) := by decide +kernel
theorem dX8_call_5 : decode cX8_call 5 = .ok (.aload_n 1, 1) := by decide +kernel
theorem dX8_call_6 : decode cX8_call 6 = .ok (.aload_n 0, 1) := by decide +kernel
theorem dX8_call_7 : decode cX8_call 7 = .ok (.getfield 38, 3) := by decide +kernel
theorem dX8_call_10 : decode cX8_call 10 = .ok (.aload_n 1, 1) := by decide +kernel
theorem dX8_call_11 : decode cX8_call 11 = .ok (.getfield 80, 3) := by decide +kernel
theorem dX8_call_14 : decode cX8_call 14 = .ok (.iload_n 2, 1) := by decide +kernel
theorem dX8_call_15 : decode cX8_call 15 = .ok (.iaload, 1) := by decide +kernel
theorem dX8_call_16 : decode cX8_call 16 = .ok (.invokevirtual 59, 3) := by decide +kernel
theorem dX8_call_19 : decode cX8_call 19 = .ok (.iadd, 1) := by decide +kernel
theorem dX8_call_20 : decode cX8_call 20 = .ok (.putfield 35, 3) := by decide +kernel
theorem dX8_call_23 : decode cX8_call 23 = .ok (.aload_n 0, 1) := by decide +kernel
theorem dX8_call_24 : decode cX8_call 24 = .ok (.aload_n 1, 1) := by decide +kernel
theorem dX8_call_25 : decode cX8_call 25 = .ok (.getfield 80, 3) := by decide +kernel
theorem dX8_call_28 : decode cX8_call 28 = .ok (.iload_n 2, 1) := by decide +kernel
theorem dX8_call_29 : decode cX8_call 29 = .ok (.iaload, 1) := by decide +kernel
theorem dX8_call_30 : decode cX8_call 30 = .ok (.putfield 38, 3) := by decide +kernel
theorem dX8_call_33 : decode cX8_call 33 = .ok (.aload_n 0, 1) := by decide +kernel
theorem dX8_call_34 : decode cX8_call 34 = .ok (.getfield 18, 3) := by decide +kernel
theorem dX8_call_37 : decode cX8_call 37 = .ok (.iload_n 2, 1) := by decide +kernel
theorem dX8_call_38 : decode cX8_call 38 = .ok (.aload_n 0, 1) := by decide +kernel
theorem dX8_call_39 : decode cX8_call 39 = .ok (.getfield 35, 3) := by decide +kernel
theorem dX8_call_42 : decode cX8_call 42 = .ok (.iastore, 1) := by decide +kernel
theorem dX8_call_43 : decode cX8_call 43 = .ok (.aload_n 0, 1) := by decide +kernel
theorem dX8_call_44 : decode cX8_call 44 = .ok (.getfield 12, 3) := by decide +kernel
theorem dX8_call_47 : decode cX8_call 47 = .ok (.iload_n 2, 1) := by decide +kernel
theorem dX8_call_48 : decode cX8_call 48 = .ok (.invokevirtual 82, 3) := by decide +kernel
theorem dX8_call_51 : decode cX8_call 51 = .ok (.ifCond .ne 4, 3) := by decide +kernel
theorem dX8_call_54 : decode cX8_call 54 = .ok (.return_, 1) := by decide +kernel
theorem dX8_call_55 : decode cX8_call 55 = .ok (.aload_n 0, 1) := by decide +kernel
theorem dX8_call_56 : decode cX8_call 56 = .ok (.dup, 1) := by decide +kernel
theorem dX8_call_57 : decode cX8_call 57 = .ok (.getfield 32, 3) := by decide +kernel
theorem dX8_call_60 : decode cX8_call 60 = .ok (.iconst 1, 1) := by decide +kernel
theorem dX8_call_61 : decode cX8_call 61 = .ok (.iadd, 1) := by decide +kernel
theorem dX8_call_62 : decode cX8_call 62 = .ok (.putfield 32, 3) := by decide +kernel
theorem dX8_call_65 : decode cX8_call 65 = .ok (.aload_n 0, 1) := by decide +kernel
theorem dX8_call_66 : decode cX8_call 66 = .ok (.getfield 32, 3) := by decide +kernel
theorem dX8_call_69 : decode cX8_call 69 = .ok (.iload_n 3, 1) := by decide +kernel
theorem dX8_call_70 : decode cX8_call 70 = .ok (.invokestatic 85, 3) := by decide +kernel
theorem dX8_call_73 : decode cX8_call 73 = .ok (.istore 4, 2) := by decide +kernel
theorem dX8_call_75 : decode cX8_call 75 = .ok (.aload_n 1, 1) := by decide +kernel
theorem dX8_call_76 : decode cX8_call 76 = .ok (.iload_n 2, 1) := by decide +kernel
theorem dX8_call_77 : decode cX8_call 77 = .ok (.aload_n 0, 1) := by decide +kernel
theorem dX8_call_78 : decode cX8_call 78 = .ok (.getfield 35, 3) := by decide +kernel
theorem dX8_call_81 : decode cX8_call 81 = .ok (.iload 4, 2) := by decide +kernel
theorem dX8_call_83 : decode cX8_call 83 = .ok (.aload_n 0, 1) := by decide +kernel
theorem dX8_call_84 : decode cX8_call 84 = .ok (.getfield 12, 3) := by decide +kernel
theorem dX8_call_87 : decode cX8_call 87 = .ok (.getfield 89, 3) := by decide +kernel
theorem dX8_call_90 : decode cX8_call 90 = .ok (.iload_n 2, 1) := by decide +kernel
theorem dX8_call_91 : decode cX8_call 91 = .ok (.iaload, 1) := by decide +kernel
theorem dX8_call_92 : decode cX8_call 92 = .ok (.invokevirtual 92, 3) := by decide +kernel
theorem dX8_call_95 : decode cX8_call 95 = .ok (.istore 5, 2) := by decide +kernel
theorem dX8_call_97 : decode cX8_call 97 = .ok (.aload_n 0, 1) := by decide +kernel
theorem dX8_call_98 : decode cX8_call 98 = .ok (.dup, 1) := by decide +kernel
theorem dX8_call_99 : decode cX8_call 99 = .ok (.getfield 35, 3) := by decide +kernel
theorem dX8_call_102 : decode cX8_call 102 = .ok (.aload_n 1, 1) := by decide +kernel
theorem dX8_call_103 : decode cX8_call 103 = .ok (.iload 4, 2) := by decide +kernel
theorem dX8_call_105 : decode cX8_call 105 = .ok (.iload 5, 2) := by decide +kernel
theorem dX8_call_107 : decode cX8_call 107 = .ok (.invokevirtual 96, 3) := by decide +kernel
theorem dX8_call_110 : decode cX8_call 110 = .ok (.iadd, 1) := by decide +kernel
theorem dX8_call_111 : decode cX8_call 111 = .ok (.putfield 35, 3) := by decide +kernel
theorem dX8_call_114 : decode cX8_call 114 = .ok (.aload_n 0, 1) := by decide +kernel
theorem dX8_call_115 : decode cX8_call 115 = .ok (.getfield 12, 3) := by decide +kernel
theorem dX8_call_118 : decode cX8_call 118 = .ok (.getfield 100, 3) := by decide +kernel
theorem dX8_call_121 : decode cX8_call 121 = .ok (.iload_n 2, 1) := by decide +kernel
theorem dX8_call_122 : decode cX8_call 122 = .ok (.iload 5, 2) := by decide +kernel
theorem dX8_call_124 : decode cX8_call 124 = .ok (.iastore, 1) := by decide +kernel
theorem dX8_call_125 : decode cX8_call 125 = .ok (.iload 5, 2) := by decide +kernel
theorem dX8_call_127 : decode cX8_call 127 = .ok (.iconst 2, 1) := by decide +kernel
theorem dX8_call_128 : decode cX8_call 128 = .ok (.if_icmp .ne 16, 3) := by decide +kernel
theorem dX8_call_131 : decode cX8_call 131 = .ok (.aload_n 0, 1) := by decide +kernel
theorem dX8_call_132 : decode cX8_call 132 = .ok (.dup, 1) := by decide +kernel
theorem dX8_call_133 : decode cX8_call 133 = .ok (.getfield 26, 3) := by decide +kernel
theorem dX8_call_136 : decode cX8_call 136 = .ok (.iconst 1, 1) := by decide +kernel
theorem dX8_call_137 : decode cX8_call 137 = .ok (.iadd, 1) := by decide +kernel
theorem dX8_call_138 : decode cX8_call 138 = .ok (.putfield 26, 3) := by decide +kernel
theorem dX8_call_141 : decode cX8_call 141 = .ok (.goto 37, 3) := by decide +kernel
theorem dX8_call_144 : decode cX8_call 144 = .ok (.iload 5, 2) := by decide +kernel
theorem dX8_call_146 : decode cX8_call 146 = .ok (.iconst 3, 1) := by decide +kernel
theorem dX8_call_147 : decode cX8_call 147 = .ok (.if_icmp .ne 19, 3) := by decide +kernel
theorem dX8_call_150 : decode cX8_call 150 = .ok (.aload_n 0, 1) := by decide +kernel
theorem dX8_call_151 : decode cX8_call 151 = .ok (.getfield 12, 3) := by decide +kernel
theorem dX8_call_154 : decode cX8_call 154 = .ok (.getfield 89, 3) := by decide +kernel
theorem dX8_call_157 : decode cX8_call 157 = .ok (.iload_n 2, 1) := by decide +kernel
theorem dX8_call_158 : decode cX8_call 158 = .ok (.dup2, 1) := by decide +kernel
theorem dX8_call_159 : decode cX8_call 159 = .ok (.iaload, 1) := by decide +kernel
theorem dX8_call_160 : decode cX8_call 160 = .ok (.iconst 1, 1) := by decide +kernel
theorem dX8_call_161 : decode cX8_call 161 = .ok (.iadd, 1) := by decide +kernel
theorem dX8_call_162 : decode cX8_call 162 = .ok (.iastore, 1) := by decide +kernel
theorem dX8_call_163 : decode cX8_call 163 = .ok (.goto 15, 3) := by decide +kernel
theorem dX8_call_166 : decode cX8_call 166 = .ok (.aload_n 0, 1) := by decide +kernel
theorem dX8_call_167 : decode cX8_call 167 = .ok (.dup, 1) := by decide +kernel
theorem dX8_call_168 : decode cX8_call 168 = .ok (.getfield 29, 3) := by decide +kernel
theorem dX8_call_171 : decode cX8_call 171 = .ok (.iconst 1, 1) := by decide +kernel
theorem dX8_call_172 : decode cX8_call 172 = .ok (.iload_n 2, 1) := by decide +kernel
theorem dX8_call_173 : decode cX8_call 173 = .ok (.ishl, 1) := by decide +kernel
theorem dX8_call_174 : decode cX8_call 174 = .ok (.ior, 1) := by decide +kernel
theorem dX8_call_175 : decode cX8_call 175 = .ok (.putfield 29, 3) := by decide +kernel
theorem dX8_call_178 : decode cX8_call 178 = .ok (.return_, 1) := by decide +kernel
end
section
theorem dX9_init_0 : decode cX9_init 0 = .ok (.aload_n 0, 1) := by decide +kernel
theorem dX9_init_1 : decode cX9_init 1 = .ok (.invokespecial 1, 3) := by decide +kernel
theorem dX9_init_4 : decode cX9_init 4 = .ok (.aload_n 0, 1) := by decide +kernel
theorem dX9_init_5 : decode cX9_init 5 = .ok (.new 7, 3) := by decide +kernel
theorem dX9_init_8 : decode cX9_init 8 = .ok (.dup, 1) := by decide +kernel
theorem dX9_init_9 : decode cX9_init 9 = .ok (.invokespecial 9, 3) := by decide +kernel
theorem dX9_init_12 : decode cX9_init 12 = .ok (.putfield 10, 3) := by decide +kernel
theorem dX9_init_15 : decode cX9_init 15 = .ok (.aload_n 0, 1) := by decide +kernel
theorem dX9_init_16 : decode cX9_init 16 = .ok (.new 16, 3) := by decide +kernel
theorem dX9_init_19 : decode cX9_init 19 = .ok (.dup, 1) := by decide +kernel
theorem dX9_init_20 : decode cX9_init 20 = .ok (.invokespecial 18, 3) := by decide +kernel
theorem dX9_init_23 : decode cX9_init 23 = .ok (.putfield 19, 3) := by decide +kernel
theorem dX9_init_26 : decode cX9_init 26 = .ok (.aload_n 0, 1) := by decide +kernel
theorem dX9_init_27 : decode cX9_init 27 = .ok (.new 16, 3) := by decide +kernel
theorem dX9_init_30 : decode cX9_init 30 = .ok (.dup, 1) := by decide +kernel
theorem dX9_init_31 : decode cX9_init 31 = .ok (.invokespecial 18, 3) := by decide +kernel
theorem dX9_init_34 : decode cX9_init 34 = .ok (.putfield 23, 3) := by decide +kernel
theorem dX9_init_37 : decode cX9_init 37 = .ok (.aload_n 0, 1) := by decide +kernel
theorem dX9_init_38 : decode cX9_init 38 = .ok (.new 26, 3) := by decide +kernel
theorem dX9_init_41 : decode cX9_init 41 = .ok (.dup, 1) := by decide +kernel
theorem dX9_init_42 : decode cX9_init 42 = .ok (.invokespecial 28, 3) := by decide +kernel
theorem dX9_init_45 : decode cX9_init 45 = .ok (.putfield 29, 3) := by decide +kernel
theorem dX9_init_48 : decode cX9_init 48 = .ok (.aload_n 0, 1) := by decide +kernel
theorem dX9_init_49 : decode cX9_init 49 = .ok (.new 26, 3) := by decide +kernel
theorem dX9_init_52 : decode cX9_init 52 = .ok (.dup, 1) := by decide +kernel
theorem dX9_init_53 : decode cX9_init 53 = .ok (.invokespecial 28, 3) := by decide +kernel
theorem dX9_init_56 : decode cX9_init 56 = .ok (.putfield 33, 3) := by decide +kernel
theorem dX9_init_59 : decode cX9_init 59 = .ok (.aload_n 0, 1) := by decide +kernel
theorem dX9_init_60 : decode cX9_init 60 = .ok (.new 36, 3) := by decide +kernel
theorem dX9_init_63 : decode cX9_init 63 = .ok (.dup, 1) := by decide +kernel
theorem dX9_init_64 : decode cX9_init 64 = .ok (.invokespecial 38, 3) := by decide +kernel
theorem dX9_init_67 : decode cX9_init 67 = .ok (.putfield 39, 3) := by decide +kernel
theorem dX9_init_70 : decode cX9_init 70 = .ok (.aload_n 0, 1) := by decide +kernel
theorem dX9_init_71 : decode cX9_init 71 = .ok (.new 43, 3) := by decide +kernel
theorem dX9_init_74 : decode cX9_init 74 = .ok (.dup, 1) := by decide +kernel
theorem dX9_init_75 : decode cX9_init 75 = .ok (.invokespecial 45, 3) := by decide +kernel
theorem dX9_init_78 : decode cX9_init 78 = .ok (.putfield 46, 3) := by decide +kernel
theorem dX9_init_81 : decode cX9_init 81 = .ok (.aload_n 0, 1) := by decide +kernel
theorem dX9_init_82 : decode cX9_init 82 = .ok (.new 50, 3) := by decide +kernel
theorem dX9_init_85 : decode cX9_init 85 = .ok (.dup, 1) := by decide +kernel
theorem dX9_init_86 : decode cX9_init 86 = .ok (.invokespecial 52, 3) := by decide +kernel
theorem dX9_init_89 : decode cX9_init 89 = .ok (.putfield 53, 3) := by decide +kernel
theorem dX9_init_92 : decode cX9_init 92 = .ok (.aload_n 0, 1) := by decide +kernel
theorem dX9_init_93 : decode cX9_init 93 = .ok (.new 57, 3) := by decide +kernel
theorem dX9_init_96 : decode cX9_init 96 = .ok (.dup, 1) := by decide +kernel
theorem dX9_init_97 : decode cX9_init 97 = .ok (.invokespecial 59, 3) := by decide +kernel
theorem dX9_init_100 : decode cX9_init 100 = .ok (.putfield 60, 3) := by decide +kernel
theorem dX9_init_103 : decode cX9_init 103 = .ok (.aload_n 0, 1) := by decide +kernel
theorem dX9_init_104 : decode cX9_init 104 = .ok (.iconst 2, 1) := by decide +kernel
theorem dX9_init_105 : decode cX9_init 105 = .ok (.anewarray 64, 3) := by decide +kernel
theorem dX9_init_108 : decode cX9_init 108 = .ok (.dup, 1) := by decide +kernel
theorem dX9_init_109 : decode cX9_init 109 = .ok (.iconst 0, 1) := by decide +kernel
theorem dX9_init_110 : decode cX9_init 110 = .ok (.new 64, 3) := by decide +kernel
theorem dX9_init_113 : decode cX9_init 113 = .ok (.dup, 1) := by decide +kernel
theorem dX9_init_114 : decode cX9_init 114 = .ok (.invokespecial 66, 3) := by decide +kernel
theorem dX9_init_117 : decode cX9_init 117 = .ok (.aastore, 1) := by decide +kernel
theorem dX9_init_118 : decode cX9_init 118 = .ok (.dup, 1) := by decide +kernel
theorem dX9_init_119 : decode cX9_init 119 = .ok (.iconst 1, 1) := by decide +kernel
theorem dX9_init_120 : decode cX9_init 120 = .ok (.new 64, 3) := by decide +kernel
theorem dX9_init_123 : decode cX9_init 123 = .ok (.dup, 1) := by decide +kernel
theorem dX9_init_124 : decode cX9_init 124 = .ok (.invokespecial 66, 3) := by decide +kernel
theorem dX9_init_127 : decode cX9_init 127 = .ok (.aastore, 1) := by decide +kernel
theorem dX9_init_128 : decode cX9_init 128 = .ok (.putfield 67, 3) := by decide +kernel
theorem dX9_init_131 : decode cX9_init 131 = .ok (.aload_n 0, 1) := by decide +kernel
theorem dX9_init_132 : decode cX9_init 132 = .ok (.iconst 4, 1) := by decide +kernel
theorem dX9_init_133 : decode cX9_init 133 = .ok (.newarray .int, 2) := by decide +kernel
theorem dX9_init_135 : decode cX9_init 135 = .ok (.putfield 71, 3) := by decide +kernel
theorem dX9_init_138 : decode cX9_init 138 = .ok (.aload_n 0, 1) := by decide +kernel
theorem dX9_init_139 : decode cX9_init 139 = .ok (.iconst 0, 1) := by decide +kernel
theorem dX9_init_140 : decode cX9_init 140 = .ok (.putfield 75, 3) := by decide +kernel
theorem dX9_init_143 : decode cX9_init 143 = .ok (.return_, 1) := by decide +kernel
theorem dX9_feed_0 : decode cX9_feed 0 = .ok (.iload_n 1, 1) := by decide +kernel
theorem dX9_feed_1 : decode cX9_feed 1 = .ok (.iconst 0, 1) := by decide +kernel
theorem dX9_feed_2 : decode cX9_feed 2 = .ok (.sipush 255, 3) := by decide +kernel
theorem dX9_feed_5 : decode cX9_feed 5 = .ok (.invokestatic 79, 3) := by decide +kernel
theorem dX9_feed_8 : decode cX9_feed 8 = .ok (.ifCond .ne 6, 3) := by decide +kernel
theorem dX9_feed_11 : decode cX9_feed 11 = .ok (.ldc 83, 2) := by decide +kernel
theorem dX9_feed_13 : decode cX9_feed 13 = .ok (.ireturn, 1) := by decide +kernel
theorem dX9_feed_14 : decode cX9_feed 14 = .ok (.aload_n 0, 1) := by decide +kernel
theorem dX9_feed_15 : decode cX9_feed 15 = .ok (.getfield 10, 3) := by decide +kernel
theorem dX9_feed_18 : decode cX9_feed 18 = .ok (.iload_n 1, 1) := by decide +kernel
theorem dX9_feed_19 : decode cX9_feed 19 = .ok (.invokevirtual 84, 3) := by decide +kernel
theorem dX9_feed_22 : decode cX9_feed 22 = .ok (.ifCond .eq 13, 3) := by decide +kernel
theorem dX9_feed_25 : decode cX9_feed 25 = .ok (.aload_n 0, 1) := by decide +kernel
theorem dX9_feed_26 : decode cX9_feed 26 = .ok (.getfield 10, 3) := by decide +kernel
theorem dX9_feed_29 : decode cX9_feed 29 = .ok (.getfield 88, 3) := by decide +kernel
theorem dX9_feed_32 : decode cX9_feed 32 = .ok (.goto 5, 3) := by decide +kernel
theorem dX9_feed_35 : decode cX9_feed 35 = .ok (.ldc 91, 2) := by decide +kernel
theorem dX9_feed_37 : decode cX9_feed 37 = .ok (.ireturn, 1) := by decide +kernel
theorem dX9_street_0 : decode cX9_street 0 = .ok (.aload_n 0, 1) := by decide +kernel
theorem dX9_street_1 : decode cX9_street 1 = .ok (.getfield 10, 3) := by decide +kernel
theorem dX9_street_4 : decode cX9_street 4 = .ok (.aload_n 0, 1) := by decide +kernel
theorem dX9_street_5 : decode cX9_street 5 = .ok (.getfield 19, 3) := by decide +kernel
theorem dX9_street_8 : decode cX9_street 8 = .ok (.invokevirtual 92, 3) := by decide +kernel
theorem dX9_street_11 : decode cX9_street 11 = .ok (.aload_n 0, 1) := by decide +kernel
theorem dX9_street_12 : decode cX9_street 12 = .ok (.getfield 10, 3) := by decide +kernel
theorem dX9_street_15 : decode cX9_street 15 = .ok (.invokevirtual 96, 3) := by decide +kernel
theorem dX9_street_18 : decode cX9_street 18 = .ok (.aload_n 0, 1) := by decide +kernel
theorem dX9_street_19 : decode cX9_street 19 = .ok (.getfield 10, 3) := by decide +kernel
theorem dX9_street_22 : decode cX9_street 22 = .ok (.getfield 99, 3) := by decide +kernel
theorem dX9_street_25 : decode cX9_street 25 = .ok (.ifCond .eq 14, 3) := by decide +kernel
theorem dX9_street_28 : decode cX9_street 28 = .ok (.bipush (-10), 2) := by decide +kernel
theorem dX9_street_30 : decode cX9_street 30 = .ok (.aload_n 0, 1) := by decide +kernel
theorem dX9_street_31 : decode cX9_street 31 = .ok (.getfield 10, 3) := by decide +kernel
theorem dX9_street_34 : decode cX9_street 34 = .ok (.getfield 99, 3) := by decide +kernel
theorem dX9_street_37 : decode cX9_street 37 = .ok (.isub, 1) := by decide +kernel
theorem dX9_street_38 : decode cX9_street 38 = .ok (.ireturn, 1) := by decide +kernel
theorem dX9_street_39 : decode cX9_street 39 = .ok (.aload_n 0, 1) := by decide +kernel
theorem dX9_street_40 : decode cX9_street 40 = .ok (.getfield 23, 3) := by decide +kernel
theorem dX9_street_43 : decode cX9_street 43 = .ok (.aload_n 0, 1) := by decide +kernel
theorem dX9_street_44 : decode cX9_street 44 = .ok (.getfield 19, 3) := by decide +kernel
theorem dX9_street_47 : decode cX9_street 47 = .ok (.invokevirtual 102, 3) := by decide +kernel
theorem dX9_street_50 : decode cX9_street 50 = .ok (.aload_n 0, 1) := by decide +kernel
theorem dX9_street_51 : decode cX9_street 51 = .ok (.getfield 29, 3) := by decide +kernel
theorem dX9_street_54 : decode cX9_street 54 = .ok (.invokevirtual 105, 3) := by decide +kernel
theorem dX9_street_57 : decode cX9_street 57 = .ok (.aload_n 0, 1) := by decide +kernel
theorem dX9_street_58 : decode cX9_street 58 = .ok (.getfield 46, 3) := by decide +kernel
theorem dX9_street_61 : decode cX9_street 61 = .ok (.invokevirtual 108, 3) := by decide +kernel
theorem dX9_street_64 : decode cX9_street 64 = .ok (.aload_n 0, 1) := by decide +kernel
theorem dX9_street_65 : decode cX9_street 65 = .ok (.getfield 53, 3) := by decide +kernel
theorem dX9_street_68 : decode cX9_street 68 = .ok (.invokevirtual 111, 3) := by decide +kernel
theorem dX9_street_71 : decode cX9_street 71 = .ok (.aload_n 0, 1) := by decide +kernel
theorem dX9_street_72 : decode cX9_street 72 = .ok (.getfield 60, 3) := by decide +kernel
theorem dX9_street_75 : decode cX9_street 75 = .ok (.invokevirtual 112, 3) := by decide +kernel
theorem dX9_street_78 : decode cX9_street 78 = .ok (.iconst 0, 1) := by decide +kernel
theorem dX9_street_79 : decode cX9_street 79 = .ok (.istore_n 1, 1) := by decide +kernel
theorem dX9_street_80 : decode cX9_street 80 = .ok (.iload_n 1, 1) := by decide +kernel
theorem dX9_street_81 : decode cX9_street 81 = .ok (.iconst 2, 1) := by decide +kernel
theorem dX9_street_82 : decode cX9_street 82 = .ok (.if_icmp .ge 19, 3) := by decide +kernel
theorem dX9_street_85 : decode cX9_street 85 = .ok (.aload_n 0, 1) := by decide +kernel
theorem dX9_street_86 : decode cX9_street 86 = .ok (.getfield 67, 3) := by decide +kernel
theorem dX9_street_89 : decode cX9_street 89 = .ok (.iload_n 1, 1) := by decide +kernel
theorem dX9_street_90 : decode cX9_street 90 = .ok (.aaload, 1) := by decide +kernel
theorem dX9_street_91 : decode cX9_street 91 = .ok (.iconst 0, 1) := by decide +kernel
theorem dX9_street_92 : decode cX9_street 92 = .ok (.putfield 113, 3) := by decide +kernel
theorem dX9_street_95 : decode cX9_street 95 = .ok (.iinc 1 1, 3) := by decide +kernel
theorem dX9_street_98 : decode cX9_street 98 = .ok (.goto (-18), 3) := by decide +kernel
theorem dX9_street_101 : decode cX9_street 101 = .ok (.aload_n 0, 1) := by decide +kernel
theorem dX9_street_102 : decode cX9_street 102 = .ok (.getfield 23, 3) := by decide +kernel
theorem dX9_street_105 : decode cX9_street 105 = .ok (.getfield 117, 3) := by decide +kernel
theorem dX9_street_108 : decode cX9_street 108 = .ok (.ireturn, 1) := by decide +kernel
theorem dX9_fault_0 : decode cX9_fault 0 = .ok (.aload_n 0, 1) := by decide +kernel
theorem dX9_fault_1 : decode cX9_fault 1 = .ok (.getfield 10, 3) := by decide +kernel
theorem dX9_fault_4 : decode cX9_fault 4 = .ok (.getfield 120, 3) := by decide +kernel
theorem dX9_fault_7 : decode cX9_fault 7 = .ok (.ireturn, 1) := by decide +kernel
theorem dX9_told_0 : decode cX9_told 0 = .ok (.iload_n 1, 1) := by decide +kernel
theorem dX9_told_1 : decode cX9_told 1 = .ok (.tableswitch 227 0 14 #[75, 83, 91, 99, 107, 115, 123, 131, 139, 155, 171, 187, 203, 211, 219], 75) := by decide +kernel
theorem dX9_told_76 : decode cX9_told 76 = .ok (.aload_n 0, 1) := by decide +kernel
theorem dX9_told_77 : decode cX9_told 77 = .ok (.getfield 23, 3) := by decide +kernel
theorem dX9_told_80 : decode cX9_told 80 = .ok (.getfield 123, 3) := by decide +kernel
theorem dX9_told_83 : decode cX9_told 83 = .ok (.ireturn, 1) := by decide +kernel
theorem dX9_told_84 : decode cX9_told 84 = .ok (.aload_n 0, 1) := by decide +kernel
theorem dX9_told_85 : decode cX9_told 85 = .ok (.getfield 23, 3) := by decide +kernel
theorem dX9_told_88 : decode cX9_told 88 = .ok (.getfield 126, 3) := by decide +kernel
theorem dX9_told_91 : decode cX9_told 91 = .ok (.ireturn, 1) := by decide +kernel
theorem dX9_told_92 : decode cX9_told 92 = .ok (.aload_n 0, 1) := by decide +kernel
theorem dX9_told_93 : decode cX9_told 93 = .ok (.getfield 23, 3) := by decide +kernel
theorem dX9_told_96 : decode cX9_told 96 = .ok (.getfield 129, 3) := by decide +kernel
theorem dX9_told_99 : decode cX9_told 99 = .ok (.ireturn, 1) := by decide +kernel
theorem dX9_told_100 : decode cX9_told 100 = .ok (.aload_n 0, 1) := by decide +kernel
theorem dX9_told_101 : decode cX9_told 101 = .ok (.getfield 23, 3) := by decide +kernel
theorem dX9_told_104 : decode cX9_told 104 = .ok (.getfield 117, 3) := by decide +kernel
theorem dX9_told_107 : decode cX9_told 107 = .ok (.ireturn, 1) := by decide +kernel
theorem dX9_told_108 : decode cX9_told 108 = .ok (.aload_n 0, 1) := by decide +kernel
theorem dX9_told_109 : decode cX9_told 109 = .ok (.getfield 10, 3) := by decide +kernel
theorem dX9_told_112 : decode cX9_told 112 = .ok (.getfield 88, 3) := by decide +kernel
theorem dX9_told_115 : decode cX9_told 115 = .ok (.ireturn, 1) := by decide +kernel
theorem dX9_told_116 : decode cX9_told 116 = .ok (.aload_n 0, 1) := by decide +kernel
theorem dX9_told_117 : decode cX9_told 117 = .ok (.getfield 29, 3) := by decide +kernel
theorem dX9_told_120 : decode cX9_told 120 = .ok (.getfield 132, 3) := by decide +kernel
theorem dX9_told_123 : decode cX9_told 123 = .ok (.ireturn, 1) := by decide +kernel
theorem dX9_told_124 : decode cX9_told 124 = .ok (.aload_n 0, 1) := by decide +kernel
theorem dX9_told_125 : decode cX9_told 125 = .ok (.getfield 29, 3) := by decide +kernel
theorem dX9_told_128 : decode cX9_told 128 = .ok (.getfield 135, 3) := by decide +kernel
theorem dX9_told_131 : decode cX9_told 131 = .ok (.ireturn, 1) := by decide +kernel
theorem dX9_told_132 : decode cX9_told 132 = .ok (.aload_n 0, 1) := by decide +kernel
theorem dX9_told_133 : decode cX9_told 133 = .ok (.getfield 29, 3) := by decide +kernel
theorem dX9_told_136 : decode cX9_told 136 = .ok (.getfield 138, 3) := by decide +kernel
theorem dX9_told_139 : decode cX9_told 139 = .ok (.ireturn, 1) := by decide +kernel
theorem dX9_told_140 : decode cX9_told 140 = .ok (.aload_n 0, 1) := by decide +kernel
theorem dX9_told_141 : decode cX9_told 141 = .ok (.getfield 29, 3) := by decide +kernel
theorem dX9_told_144 : decode cX9_told 144 = .ok (.iconst 1, 1) := by decide +kernel
theorem dX9_told_145 : decode cX9_told 145 = .ok (.aload_n 0, 1) := by decide +kernel
theorem dX9_told_146 : decode cX9_told 146 = .ok (.getfield 23, 3) := by decide +kernel
theorem dX9_told_149 : decode cX9_told 149 = .ok (.getfield 117, 3) := by decide +kernel
theorem dX9_told_152 : decode cX9_told 152 = .ok (.invokevirtual 141, 3) := by decide +kernel
theorem dX9_told_155 : decode cX9_told 155 = .ok (.ireturn, 1) := by decide +kernel
theorem dX9_told_156 : decode cX9_told 156 = .ok (.aload_n 0, 1) := by decide +kernel
theorem dX9_told_157 : decode cX9_told 157 = .ok (.getfield 29, 3) := by decide +kernel
theorem dX9_told_160 : decode cX9_told 160 = .ok (.iconst 2, 1) := by decide +kernel
theorem dX9_told_161 : decode cX9_told 161 = .ok (.aload_n 0, 1) := by decide +kernel
theorem dX9_told_162 : decode cX9_told 162 = .ok (.getfield 23, 3) := by decide +kernel
theorem dX9_told_165 : decode cX9_told 165 = .ok (.getfield 117, 3) := by decide +kernel
theorem dX9_told_168 : decode cX9_told 168 = .ok (.invokevirtual 141, 3) := by decide +kernel
theorem dX9_told_171 : decode cX9_told 171 = .ok (.ireturn, 1) := by decide +kernel
theorem dX9_told_172 : decode cX9_told 172 = .ok (.aload_n 0, 1) := by decide +kernel
theorem dX9_told_173 : decode cX9_told 173 = .ok (.getfield 29, 3) := by decide +kernel
theorem dX9_told_176 : decode cX9_told 176 = .ok (.iconst 3, 1) := by decide +kernel
theorem dX9_told_177 : decode cX9_told 177 = .ok (.aload_n 0, 1) := by decide +kernel
theorem dX9_told_178 : decode cX9_told 178 = .ok (.getfield 23, 3) := by decide +kernel
theorem dX9_told_181 : decode cX9_told 181 = .ok (.getfield 117, 3) := by decide +kernel
theorem dX9_told_184 : decode cX9_told 184 = .ok (.invokevirtual 141, 3) := by decide +kernel
theorem dX9_told_187 : decode cX9_told 187 = .ok (.ireturn, 1) := by decide +kernel
theorem dX9_told_188 : decode cX9_told 188 = .ok (.aload_n 0, 1) := by decide +kernel
theorem dX9_told_189 : decode cX9_told 189 = .ok (.getfield 29, 3) := by decide +kernel
theorem dX9_told_192 : decode cX9_told 192 = .ok (.iconst 4, 1) := by decide +kernel
theorem dX9_told_193 : decode cX9_told 193 = .ok (.aload_n 0, 1) := by decide +kernel
theorem dX9_told_194 : decode cX9_told 194 = .ok (.getfield 23, 3) := by decide +kernel
theorem dX9_told_197 : decode cX9_told 197 = .ok (.getfield 117, 3) := by decide +kernel
theorem dX9_told_200 : decode cX9_told 200 = .ok (.invokevirtual 141, 3) := by decide +kernel
theorem dX9_told_203 : decode cX9_told 203 = .ok (.ireturn, 1) := by decide +kernel
theorem dX9_told_204 : decode cX9_told 204 = .ok (.aload_n 0, 1) := by decide +kernel
theorem dX9_told_205 : decode cX9_told 205 = .ok (.getfield 53, 3) := by decide +kernel
theorem dX9_told_208 : decode cX9_told 208 = .ok (.getfield 145, 3) := by decide +kernel
theorem dX9_told_211 : decode cX9_told 211 = .ok (.ireturn, 1) := by decide +kernel
theorem dX9_told_212 : decode cX9_told 212 = .ok (.aload_n 0, 1) := by decide +kernel
theorem dX9_told_213 : decode cX9_told 213 = .ok (.getfield 60, 3) := by decide +kernel
theorem dX9_told_216 : decode cX9_told 216 = .ok (.getfield 148, 3) := by decide +kernel
theorem dX9_told_219 : decode cX9_told 219 = .ok (.ireturn, 1) := by decide +kernel
theorem dX9_told_220 : decode cX9_told 220 = .ok (.aload_n 0, 1) := by decide +kernel
theorem dX9_told_221 : decode cX9_told 221 = .ok (.getfield 46, 3) := by decide +kernel
theorem dX9_told_224 : decode cX9_told 224 = .ok (.getfield 149, 3) := by decide +kernel
theorem dX9_told_227 : decode cX9_told 227 = .ok (.ireturn, 1) := by decide +kernel
theorem dX9_told_228 : decode cX9_told 228 = .ok (.ldc 83, 2) := by decide +kernel
theorem dX9_told_230 : decode cX9_told 230 = .ok (.ireturn, 1) := by decide +kernel
theorem dX9_stop_0 : decode cX9_stop 0 = .ok (.aload_n 0, 1) := by decide +kernel
theorem dX9_stop_1 : decode cX9_stop 1 = .ok (.getfield 23, 3) := by decide +kernel
theorem dX9_stop_4 : decode cX9_stop 4 = .ok (.iload_n 1, 1) := by decide +kernel
theorem dX9_stop_5 : decode cX9_stop 5 = .ok (.invokevirtual 150, 3) := by decide +kernel
theorem dX9_stop_8 : decode cX9_stop 8 = .ok (.ifCond .ne 6, 3) := by decide +kernel
theorem dX9_stop_11 : decode cX9_stop 11 = .ok (.ldc 153, 2) := by decide +kernel
theorem dX9_stop_13 : decode cX9_stop 13 = .ok (.ireturn, 1) := by decide +kernel
theorem dX9_stop_14 : decode cX9_stop 14 = .ok (.iload_n 2, 1) := by decide +kernel
theorem dX9_stop_15 : decode cX9_stop 15 = .ok (.tableswitch 111 0 6 #[41, 51, 61, 71, 81, 91, 101], 41) := by decide +kernel
theorem dX9_stop_56 : decode cX9_stop 56 = .ok (.aload_n 0, 1) := by decide +kernel
theorem dX9_stop_57 : decode cX9_stop 57 = .ok (.getfield 23, 3) := by decide +kernel
theorem dX9_stop_60 : decode cX9_stop 60 = .ok (.getfield 154, 3) := by decide +kernel
theorem dX9_stop_63 : decode cX9_stop 63 = .ok (.iload_n 1, 1) := by decide +kernel
theorem dX9_stop_64 : decode cX9_stop 64 = .ok (.iaload, 1) := by decide +kernel
theorem dX9_stop_65 : decode cX9_stop 65 = .ok (.ireturn, 1) := by decide +kernel
theorem dX9_stop_66 : decode cX9_stop 66 = .ok (.aload_n 0, 1) := by decide +kernel
theorem dX9_stop_67 : decode cX9_stop 67 = .ok (.getfield 23, 3) := by decide +kernel
theorem dX9_stop_70 : decode cX9_stop 70 = .ok (.getfield 157, 3) := by decide +kernel
theorem dX9_stop_73 : decode cX9_stop 73 = .ok (.iload_n 1, 1) := by decide +kernel
theorem dX9_stop_74 : decode cX9_stop 74 = .ok (.iaload, 1) := by decide +kernel
theorem dX9_stop_75 : decode cX9_stop 75 = .ok (.ireturn, 1) := by decide +kernel
theorem dX9_stop_76 : decode cX9_stop 76 = .ok (.aload_n 0, 1) := by decide +kernel
theorem dX9_stop_77 : decode cX9_stop 77 = .ok (.getfield 23, 3) := by decide +kernel
theorem dX9_stop_80 : decode cX9_stop 80 = .ok (.getfield 160, 3) := by decide +kernel
theorem dX9_stop_83 : decode cX9_stop 83 = .ok (.iload_n 1, 1) := by decide +kernel
theorem dX9_stop_84 : decode cX9_stop 84 = .ok (.iaload, 1) := by decide +kernel
theorem dX9_stop_85 : decode cX9_stop 85 = .ok (.ireturn, 1) := by decide +kernel
theorem dX9_stop_86 : decode cX9_stop 86 = .ok (.aload_n 0, 1) := by decide +kernel
theorem dX9_stop_87 : decode cX9_stop 87 = .ok (.getfield 29, 3) := by decide +kernel
theorem dX9_stop_90 : decode cX9_stop 90 = .ok (.getfield 163, 3) := by decide +kernel
theorem dX9_stop_93 : decode cX9_stop 93 = .ok (.iload_n 1, 1) := by decide +kernel
theorem dX9_stop_94 : decode cX9_stop 94 = .ok (.iaload, 1) := by decide +kernel
theorem dX9_stop_95 : decode cX9_stop 95 = .ok (.ireturn, 1) := by decide +kernel
theorem dX9_stop_96 : decode cX9_stop 96 = .ok (.aload_n 0, 1) := by decide +kernel
theorem dX9_stop_97 : decode cX9_stop 97 = .ok (.getfield 23, 3) := by decide +kernel
theorem dX9_stop_100 : decode cX9_stop 100 = .ok (.getfield 166, 3) := by decide +kernel
theorem dX9_stop_103 : decode cX9_stop 103 = .ok (.iload_n 1, 1) := by decide +kernel
theorem dX9_stop_104 : decode cX9_stop 104 = .ok (.iaload, 1) := by decide +kernel
theorem dX9_stop_105 : decode cX9_stop 105 = .ok (.ireturn, 1) := by decide +kernel
theorem dX9_stop_106 : decode cX9_stop 106 = .ok (.aload_n 0, 1) := by decide +kernel
theorem dX9_stop_107 : decode cX9_stop 107 = .ok (.getfield 23, 3) := by decide +kernel
theorem dX9_stop_110 : decode cX9_stop 110 = .ok (.getfield 169, 3) := by decide +kernel
theorem dX9_stop_113 : decode cX9_stop 113 = .ok (.iload_n 1, 1) := by decide +kernel
theorem dX9_stop_114 : decode cX9_stop 114 = .ok (.iaload, 1) := by decide +kernel
theorem dX9_stop_115 : decode cX9_stop 115 = .ok (.ireturn, 1) := by decide +kernel
theorem dX9_stop_116 : decode cX9_stop 116 = .ok (.aload_n 0, 1) := by decide +kernel
theorem dX9_stop_117 : decode cX9_stop 117 = .ok (.getfield 29, 3) := by decide +kernel
theorem dX9_stop_120 : decode cX9_stop 120 = .ok (.getfield 172, 3) := by decide +kernel
theorem dX9_stop_123 : decode cX9_stop 123 = .ok (.iload_n 1, 1) := by decide +kernel
theorem dX9_stop_124 : decode cX9_stop 124 = .ok (.iaload, 1) := by decide +kernel
theorem dX9_stop_125 : decode cX9_stop 125 = .ok (.ireturn, 1) := by decide +kernel
theorem dX9_stop_126 : decode cX9_stop 126 = .ok (.ldc 83, 2) := by decide +kernel
theorem dX9_stop_128 : decode cX9_stop 128 = .ok (.ireturn, 1) := by decide +kernel
theorem dX9_din_0 : decode cX9_din 0 = .ok (.iload_n 1, 1) := by decide +kernel
theorem dX9_din_1 : decode cX9_din 1 = .ok (.iconst 0, 1) := by decide +kernel
theorem dX9_din_2 : decode cX9_din 2 = .ok (.bipush 11, 2) := by decide +kernel
theorem dX9_din_4 : decode cX9_din 4 = .ok (.invokestatic 79, 3) := by decide +kernel
theorem dX9_din_7 : decode cX9_din 7 = .ok (.ifCond .eq 14, 3) := by decide +kernel
theorem dX9_din_10 : decode cX9_din 10 = .ok (.aload_n 0, 1) := by decide +kernel
theorem dX9_din_11 : decode cX9_din 11 = .ok (.getfield 23, 3) := by decide +kernel
theorem dX9_din_14 : decode cX9_din 14 = .ok (.iload_n 1, 1) := by decide +kernel
theorem dX9_din_15 : decode cX9_din 15 = .ok (.invokevirtual 175, 3) := by decide +kernel
theorem dX9_din_18 : decode cX9_din 18 = .ok (.goto 5, 3) := by decide +kernel
theorem dX9_din_21 : decode cX9_din 21 = .ok (.ldc 83, 2) := by decide +kernel
theorem dX9_din_23 : decode cX9_din 23 = .ok (.ireturn, 1) := by decide +kernel
theorem dX9_round_0 : decode cX9_round 0 = .ok (.aload_n 0, 1) := by decide +kernel
theorem dX9_round_1 : decode cX9_round 1 = .ok (.iload_n 1, 1) := by decide +kernel
theorem dX9_round_2 : decode cX9_round 2 = .ok (.iload_n 2, 1) := by decide +kernel
theorem dX9_round_3 : decode cX9_round 3 = .ok (.invokevirtual 179, 3) := by decide +kernel
theorem dX9_round_6 : decode cX9_round 6 = .ok (.istore_n 3, 1) := by decide +kernel
theorem dX9_round_7 : decode cX9_round 7 = .ok (.iload_n 3, 1) := by decide +kernel
theorem dX9_round_8 : decode cX9_round 8 = .ok (.ifCond .eq 5, 3) := by decide +kernel
theorem dX9_round_11 : decode cX9_round 11 = .ok (.iload_n 3, 1) := by decide +kernel
theorem dX9_round_12 : decode cX9_round 12 = .ok (.ireturn, 1) := by decide +kernel
theorem dX9_round_13 : decode cX9_round 13 = .ok (.aload_n 0, 1) := by decide +kernel
theorem dX9_round_14 : decode cX9_round 14 = .ok (.getfield 29, 3) := by decide +kernel
theorem dX9_round_17 : decode cX9_round 17 = .ok (.getfield 132, 3) := by decide +kernel
theorem dX9_round_20 : decode cX9_round 20 = .ok (.sipush 9000, 3) := by decide +kernel
theorem dX9_round_23 : decode cX9_round 23 = .ok (.if_icmp .le 6, 3) := by decide +kernel
theorem dX9_round_26 : decode cX9_round 26 = .ok (.ldc 91, 2) := by decide +kernel
theorem dX9_round_28 : decode cX9_round 28 = .ok (.ireturn, 1) := by decide +kernel
theorem dX9_round_29 : decode cX9_round 29 = .ok (.aload_n 0, 1) := by decide +kernel
theorem dX9_round_30 : decode cX9_round 30 = .ok (.getfield 46, 3) := by decide +kernel
theorem dX9_round_33 : decode cX9_round 33 = .ok (.aload_n 0, 1) := by decide +kernel
theorem dX9_round_34 : decode cX9_round 34 = .ok (.getfield 29, 3) := by decide +kernel
theorem dX9_round_37 : decode cX9_round 37 = .ok (.invokevirtual 182, 3) := by decide +kernel
theorem dX9_round_40 : decode cX9_round 40 = .ok (.aload_n 0, 1) := by decide +kernel
theorem dX9_round_41 : decode cX9_round 41 = .ok (.iload_n 1, 1) := by decide +kernel
theorem dX9_round_42 : decode cX9_round 42 = .ok (.iload_n 2, 1) := by decide +kernel
theorem dX9_round_43 : decode cX9_round 43 = .ok (.invokevirtual 186, 3) := by decide +kernel
theorem dX9_round_46 : decode cX9_round 46 = .ok (.aload_n 0, 1) := by decide +kernel
theorem dX9_round_47 : decode cX9_round 47 = .ok (.getfield 39, 3) := by decide +kernel
theorem dX9_round_50 : decode cX9_round 50 = .ok (.getfield 190, 3) := by decide +kernel
theorem dX9_round_53 : decode cX9_round 53 = .ok (.ireturn, 1) := by decide +kernel
theorem dX9_fetch_0 : decode cX9_fetch 0 = .ok (.aload_n 0, 1) := by decide +kernel
theorem dX9_fetch_1 : decode cX9_fetch 1 = .ok (.getfield 23, 3) := by decide +kernel
theorem dX9_fetch_4 : decode cX9_fetch 4 = .ok (.iload_n 1, 1) := by decide +kernel
theorem dX9_fetch_5 : decode cX9_fetch 5 = .ok (.invokevirtual 150, 3) := by decide +kernel
theorem dX9_fetch_8 : decode cX9_fetch 8 = .ok (.ifCond .ne 6, 3) := by decide +kernel
theorem dX9_fetch_11 : decode cX9_fetch 11 = .ok (.ldc 153, 2) := by decide +kernel
theorem dX9_fetch_13 : decode cX9_fetch 13 = .ok (.ireturn, 1) := by decide +kernel
theorem dX9_fetch_14 : decode cX9_fetch 14 = .ok (.aload_n 0, 1) := by decide +kernel
theorem dX9_fetch_15 : decode cX9_fetch 15 = .ok (.getfield 29, 3) := by decide +kernel
theorem dX9_fetch_18 : decode cX9_fetch 18 = .ok (.getfield 163, 3) := by decide +kernel
theorem dX9_fetch_21 : decode cX9_fetch 21 = .ok (.iload_n 1, 1) := by decide +kernel
theorem dX9_fetch_22 : decode cX9_fetch 22 = .ok (.iaload, 1) := by decide +kernel
theorem dX9_fetch_23 : decode cX9_fetch 23 = .ok (.istore_n 2, 1) := by decide +kernel
theorem dX9_fetch_24 : decode cX9_fetch 24 = .ok (.iload_n 2, 1) := by decide +kernel
theorem dX9_fetch_25 : decode cX9_fetch 25 = .ok (.iconst 3, 1) := by decide +kernel
theorem dX9_fetch_26 : decode cX9_fetch 26 = .ok (.if_icmp .eq 11, 3) := by decide +kernel
theorem dX9_fetch_29 : decode cX9_fetch 29 = .ok (.iload_n 2, 1) := by decide +kernel
theorem dX9_fetch_30 : decode cX9_fetch 30 = .ok (.iconst 4, 1) := by decide +kernel
theorem dX9_fetch_31 : decode cX9_fetch 31 = .ok (.if_icmp .eq 6, 3) := by decide +kernel
theorem dX9_fetch_34 : decode cX9_fetch 34 = .ok (.ldc 193, 2) := by decide +kernel
theorem dX9_fetch_36 : decode cX9_fetch 36 = .ok (.ireturn, 1) := by decide +kernel
theorem dX9_fetch_37 : decode cX9_fetch 37 = .ok (.aload_n 0, 1) := by decide +kernel
theorem dX9_fetch_38 : decode cX9_fetch 38 = .ok (.getfield 46, 3) := by decide +kernel
theorem dX9_fetch_41 : decode cX9_fetch 41 = .ok (.aload_n 0, 1) := by decide +kernel
theorem dX9_fetch_42 : decode cX9_fetch 42 = .ok (.getfield 29, 3) := by decide +kernel
theorem dX9_fetch_45 : decode cX9_fetch 45 = .ok (.invokevirtual 182, 3) := by decide +kernel
theorem dX9_fetch_48 : decode cX9_fetch 48 = .ok (.aload_n 0, 1) := by decide +kernel
theorem dX9_fetch_49 : decode cX9_fetch 49 = .ok (.getfield 29, 3) := by decide +kernel
theorem dX9_fetch_52 : decode cX9_fetch 52 = .ok (.getfield 163, 3) := by decide +kernel
theorem dX9_fetch_55 : decode cX9_fetch 55 = .ok (.iload_n 1, 1) := by decide +kernel
theorem dX9_fetch_56 : decode cX9_fetch 56 = .ok (.iconst 2, 1) := by decide +kernel
theorem dX9_fetch_57 : decode cX9_fetch 57 = .ok (.iastore, 1) := by decide +kernel
theorem dX9_fetch_58 : decode cX9_fetch 58 = .ok (.iload_n 2, 1) := by decide +kernel
theorem dX9_fetch_59 : decode cX9_fetch 59 = .ok (.iconst 3, 1) := by decide +kernel
theorem dX9_fetch_60 : decode cX9_fetch 60 = .ok (.if_icmp .ne 7, 3) := by decide +kernel
theorem dX9_fetch_63 : decode cX9_fetch 63 = .ok (.iconst 1, 1) := by decide +kernel
theorem dX9_fetch_64 : decode cX9_fetch 64 = .ok (.goto 4, 3) := by decide +kernel
theorem dX9_fetch_67 : decode cX9_fetch 67 = .ok (.iconst 0, 1) := by decide +kernel
theorem dX9_fetch_68 : decode cX9_fetch 68 = .ok (.ireturn, 1) := by decide +kernel
theorem dX9_order_0 : decode cX9_order 0 = .ok (.aload_n 0, 1) := by decide +kernel
theorem dX9_order_1 : decode cX9_order 1 = .ok (.getfield 23, 3) := by decide +kernel
theorem dX9_order_4 : decode cX9_order 4 = .ok (.iload_n 1, 1) := by decide +kernel
theorem dX9_order_5 : decode cX9_order 5 = .ok (.invokevirtual 150, 3) := by decide +kernel
theorem dX9_order_8 : decode cX9_order 8 = .ok (.ifCond .ne 6, 3) := by decide +kernel
theorem dX9_order_11 : decode cX9_order 11 = .ok (.ldc 153, 2) := by decide +kernel
theorem dX9_order_13 : decode cX9_order 13 = .ok (.ireturn, 1) := by decide +kernel
theorem dX9_order_14 : decode cX9_order 14 = .ok (.aload_n 0, 1) := by decide +kernel
theorem dX9_order_15 : decode cX9_order 15 = .ok (.getfield 29, 3) := by decide +kernel
theorem dX9_order_18 : decode cX9_order 18 = .ok (.getfield 163, 3) := by decide +kernel
theorem dX9_order_21 : decode cX9_order 21 = .ok (.iload_n 1, 1) := by decide +kernel
theorem dX9_order_22 : decode cX9_order 22 = .ok (.iaload, 1) := by decide +kernel
theorem dX9_order_23 : decode cX9_order 23 = .ok (.iconst 2, 1) := by decide +kernel
theorem dX9_order_24 : decode cX9_order 24 = .ok (.if_icmp .eq 6, 3) := by decide +kernel
theorem dX9_order_27 : decode cX9_order 27 = .ok (.ldc 193, 2) := by decide +kernel
theorem dX9_order_29 : decode cX9_order 29 = .ok (.ireturn, 1) := by decide +kernel
theorem dX9_order_30 : decode cX9_order 30 = .ok (.aload_n 0, 1) := by decide +kernel
theorem dX9_order_31 : decode cX9_order 31 = .ok (.getfield 46, 3) := by decide +kernel
theorem dX9_order_34 : decode cX9_order 34 = .ok (.aload_n 0, 1) := by decide +kernel
theorem dX9_order_35 : decode cX9_order 35 = .ok (.getfield 29, 3) := by decide +kernel
theorem dX9_order_38 : decode cX9_order 38 = .ok (.invokevirtual 182, 3) := by decide +kernel
theorem dX9_order_41 : decode cX9_order 41 = .ok (.aload_n 0, 1) := by decide +kernel
theorem dX9_order_42 : decode cX9_order 42 = .ok (.getfield 29, 3) := by decide +kernel
theorem dX9_order_45 : decode cX9_order 45 = .ok (.getfield 163, 3) := by decide +kernel
theorem dX9_order_48 : decode cX9_order 48 = .ok (.iload_n 1, 1) := by decide +kernel
theorem dX9_order_49 : decode cX9_order 49 = .ok (.iconst 1, 1) := by decide +kernel
theorem dX9_order_50 : decode cX9_order 50 = .ok (.iastore, 1) := by decide +kernel
theorem dX9_order_51 : decode cX9_order 51 = .ok (.iconst 1, 1) := by decide +kernel
theorem dX9_order_52 : decode cX9_order 52 = .ok (.ireturn, 1) := by decide +kernel
theorem dX9_thank_0 : decode cX9_thank 0 = .ok (.aload_n 0, 1) := by decide +kernel
theorem dX9_thank_1 : decode cX9_thank 1 = .ok (.getfield 23, 3) := by decide +kernel
theorem dX9_thank_4 : decode cX9_thank 4 = .ok (.iload_n 1, 1) := by decide +kernel
theorem dX9_thank_5 : decode cX9_thank 5 = .ok (.invokevirtual 150, 3) := by decide +kernel
theorem dX9_thank_8 : decode cX9_thank 8 = .ok (.ifCond .ne 6, 3) := by decide +kernel
theorem dX9_thank_11 : decode cX9_thank 11 = .ok (.ldc 153, 2) := by decide +kernel
theorem dX9_thank_13 : decode cX9_thank 13 = .ok (.ireturn, 1) := by decide +kernel
theorem dX9_thank_14 : decode cX9_thank 14 = .ok (.aload_n 0, 1) := by decide +kernel
theorem dX9_thank_15 : decode cX9_thank 15 = .ok (.getfield 23, 3) := by decide +kernel
theorem dX9_thank_18 : decode cX9_thank 18 = .ok (.getfield 166, 3) := by decide +kernel
theorem dX9_thank_21 : decode cX9_thank 21 = .ok (.iload_n 1, 1) := by decide +kernel
theorem dX9_thank_22 : decode cX9_thank 22 = .ok (.iaload, 1) := by decide +kernel
theorem dX9_thank_23 : decode cX9_thank 23 = .ok (.iconst (-1), 1) := by decide +kernel
theorem dX9_thank_24 : decode cX9_thank 24 = .ok (.if_icmp .ne 6, 3) := by decide +kernel
theorem dX9_thank_27 : decode cX9_thank 27 = .ok (.ldc 193, 2) := by decide +kernel
theorem dX9_thank_29 : decode cX9_thank 29 = .ok (.ireturn, 1) := by decide +kernel
theorem dX9_thank_30 : decode cX9_thank 30 = .ok (.aload_n 0, 1) := by decide +kernel
theorem dX9_thank_31 : decode cX9_thank 31 = .ok (.getfield 46, 3) := by decide +kernel
theorem dX9_thank_34 : decode cX9_thank 34 = .ok (.aload_n 0, 1) := by decide +kernel
theorem dX9_thank_35 : decode cX9_thank 35 = .ok (.getfield 29, 3) := by decide +kernel
theorem dX9_thank_38 : decode cX9_thank 38 = .ok (.invokevirtual 182, 3) := by decide +kernel
theorem dX9_thank_41 : decode cX9_thank 41 = .ok (.aload_n 0, 1) := by decide +kernel
theorem dX9_thank_42 : decode cX9_thank 42 = .ok (.getfield 29, 3) := by decide +kernel
theorem dX9_thank_45 : decode cX9_thank 45 = .ok (.getfield 172, 3) := by decide +kernel
theorem dX9_thank_48 : decode cX9_thank 48 = .ok (.iload_n 1, 1) := by decide +kernel
theorem dX9_thank_49 : decode cX9_thank 49 = .ok (.iaload, 1) := by decide +kernel
theorem dX9_thank_50 : decode cX9_thank 50 = .ok (.istore_n 2, 1) := by decide +kernel
theorem dX9_thank_51 : decode cX9_thank 51 = .ok (.aload_n 0, 1) := by decide +kernel
theorem dX9_thank_52 : decode cX9_thank 52 = .ok (.getfield 29, 3) := by decide +kernel
theorem dX9_thank_55 : decode cX9_thank 55 = .ok (.getfield 172, 3) := by decide +kernel
theorem dX9_thank_58 : decode cX9_thank 58 = .ok (.iload_n 1, 1) := by decide +kernel
theorem dX9_thank_59 : decode cX9_thank 59 = .ok (.iconst 0, 1) := by decide +kernel
theorem dX9_thank_60 : decode cX9_thank 60 = .ok (.iastore, 1) := by decide +kernel
theorem dX9_thank_61 : decode cX9_thank 61 = .ok (.iload_n 2, 1) := by decide +kernel
theorem dX9_thank_62 : decode cX9_thank 62 = .ok (.ireturn, 1) := by decide +kernel
theorem dX9_drift_0 : decode cX9_drift 0 = .ok (.iload_n 1, 1) := by decide +kernel
theorem dX9_drift_1 : decode cX9_drift 1 = .ok (.iconst 1, 1) := by decide +kernel
theorem dX9_drift_2 : decode cX9_drift 2 = .ok (.bipush 20, 2) := by decide +kernel
theorem dX9_drift_4 : decode cX9_drift 4 = .ok (.invokestatic 79, 3) := by decide +kernel
theorem dX9_drift_7 : decode cX9_drift 7 = .ok (.ifCond .ne 6, 3) := by decide +kernel
theorem dX9_drift_10 : decode cX9_drift 10 = .ok (.ldc 83, 2) := by decide +kernel
theorem dX9_drift_12 : decode cX9_drift 12 = .ok (.ireturn, 1) := by decide +kernel
theorem dX9_drift_13 : decode cX9_drift 13 = .ok (.aload_n 0, 1) := by decide +kernel
theorem dX9_drift_14 : decode cX9_drift 14 = .ok (.getfield 23, 3) := by decide +kernel
theorem dX9_drift_17 : decode cX9_drift 17 = .ok (.getfield 117, 3) := by decide +kernel
theorem dX9_drift_20 : decode cX9_drift 20 = .ok (.ifCond .ne 6, 3) := by decide +kernel
theorem dX9_drift_23 : decode cX9_drift 23 = .ok (.ldc 193, 2) := by decide +kernel
theorem dX9_drift_25 : decode cX9_drift 25 = .ok (.ireturn, 1) := by decide +kernel
theorem dX9_drift_26 : decode cX9_drift 26 = .ok (.aload_n 0, 1) := by decide +kernel
theorem dX9_drift_27 : decode cX9_drift 27 = .ok (.getfield 29, 3) := by decide +kernel
theorem dX9_drift_30 : decode cX9_drift 30 = .ok (.getfield 132, 3) := by decide +kernel
theorem dX9_drift_33 : decode cX9_drift 33 = .ok (.sipush 9000, 3) := by decide +kernel
theorem dX9_drift_36 : decode cX9_drift 36 = .ok (.if_icmp .le 6, 3) := by decide +kernel
theorem dX9_drift_39 : decode cX9_drift 39 = .ok (.ldc 91, 2) := by decide +kernel
theorem dX9_drift_41 : decode cX9_drift 41 = .ok (.ireturn, 1) := by decide +kernel
theorem dX9_drift_42 : decode cX9_drift 42 = .ok (.aload_n 0, 1) := by decide +kernel
theorem dX9_drift_43 : decode cX9_drift 43 = .ok (.getfield 23, 3) := by decide +kernel
theorem dX9_drift_46 : decode cX9_drift 46 = .ok (.invokevirtual 194, 3) := by decide +kernel
theorem dX9_drift_49 : decode cX9_drift 49 = .ok (.istore_n 2, 1) := by decide +kernel
theorem dX9_drift_50 : decode cX9_drift 50 = .ok (.iconst 0, 1) := by decide +kernel
theorem dX9_drift_51 : decode cX9_drift 51 = .ok (.istore_n 3, 1) := by decide +kernel
theorem dX9_drift_52 : decode cX9_drift 52 = .ok (.iload_n 3, 1) := by decide +kernel
theorem dX9_drift_53 : decode cX9_drift 53 = .ok (.iload_n 1, 1) := by decide +kernel
theorem dX9_drift_54 : decode cX9_drift 54 = .ok (.if_icmp .ge 34, 3) := by decide +kernel
theorem dX9_drift_57 : decode cX9_drift 57 = .ok (.aload_n 0, 1) := by decide +kernel
theorem dX9_drift_58 : decode cX9_drift 58 = .ok (.getfield 46, 3) := by decide +kernel
theorem dX9_drift_61 : decode cX9_drift 61 = .ok (.aload_n 0, 1) := by decide +kernel
theorem dX9_drift_62 : decode cX9_drift 62 = .ok (.getfield 29, 3) := by decide +kernel
theorem dX9_drift_65 : decode cX9_drift 65 = .ok (.invokevirtual 182, 3) := by decide +kernel
theorem dX9_drift_68 : decode cX9_drift 68 = .ok (.aload_n 0, 1) := by decide +kernel
theorem dX9_drift_69 : decode cX9_drift 69 = .ok (.invokevirtual 198, 3) := by decide +kernel
theorem dX9_drift_72 : decode cX9_drift 72 = .ok (.aload_n 0, 1) := by decide +kernel
theorem dX9_drift_73 : decode cX9_drift 73 = .ok (.iload_n 2, 1) := by decide +kernel
theorem dX9_drift_74 : decode cX9_drift 74 = .ok (.aload_n 0, 1) := by decide +kernel
theorem dX9_drift_75 : decode cX9_drift 75 = .ok (.iconst 4, 1) := by decide +kernel
theorem dX9_drift_76 : decode cX9_drift 76 = .ok (.invokevirtual 201, 3) := by decide +kernel
theorem dX9_drift_79 : decode cX9_drift 79 = .ok (.invokevirtual 186, 3) := by decide +kernel
theorem dX9_drift_82 : decode cX9_drift 82 = .ok (.iinc 3 1, 3) := by decide +kernel
theorem dX9_drift_85 : decode cX9_drift 85 = .ok (.goto (-33), 3) := by decide +kernel
theorem dX9_drift_88 : decode cX9_drift 88 = .ok (.aload_n 0, 1) := by decide +kernel
theorem dX9_drift_89 : decode cX9_drift 89 = .ok (.getfield 29, 3) := by decide +kernel
theorem dX9_drift_92 : decode cX9_drift 92 = .ok (.getfield 135, 3) := by decide +kernel
theorem dX9_drift_95 : decode cX9_drift 95 = .ok (.ireturn, 1) := by decide +kernel
theorem dX9_undo_0 : decode cX9_undo 0 = .ok (.iload_n 1, 1) := by decide +kernel
theorem dX9_undo_1 : decode cX9_undo 1 = .ok (.iconst 1, 1) := by decide +kernel
theorem dX9_undo_2 : decode cX9_undo 2 = .ok (.bipush 30, 2) := by decide +kernel
theorem dX9_undo_4 : decode cX9_undo 4 = .ok (.invokestatic 79, 3) := by decide +kernel
theorem dX9_undo_7 : decode cX9_undo 7 = .ok (.ifCond .ne 6, 3) := by decide +kernel
theorem dX9_undo_10 : decode cX9_undo 10 = .ok (.ldc 83, 2) := by decide +kernel
theorem dX9_undo_12 : decode cX9_undo 12 = .ok (.ireturn, 1) := by decide +kernel
theorem dX9_undo_13 : decode cX9_undo 13 = .ok (.iload_n 1, 1) := by decide +kernel
theorem dX9_undo_14 : decode cX9_undo 14 = .ok (.aload_n 0, 1) := by decide +kernel
theorem dX9_undo_15 : decode cX9_undo 15 = .ok (.getfield 46, 3) := by decide +kernel
theorem dX9_undo_18 : decode cX9_undo 18 = .ok (.getfield 149, 3) := by decide +kernel
theorem dX9_undo_21 : decode cX9_undo 21 = .ok (.if_icmp .le 6, 3) := by decide +kernel
theorem dX9_undo_24 : decode cX9_undo 24 = .ok (.ldc 193, 2) := by decide +kernel
theorem dX9_undo_26 : decode cX9_undo 26 = .ok (.ireturn, 1) := by decide +kernel
theorem dX9_undo_27 : decode cX9_undo 27 = .ok (.aload_n 0, 1) := by decide +kernel
theorem dX9_undo_28 : decode cX9_undo 28 = .ok (.getfield 46, 3) := by decide +kernel
theorem dX9_undo_31 : decode cX9_undo 31 = .ok (.iload_n 1, 1) := by decide +kernel
theorem dX9_undo_32 : decode cX9_undo 32 = .ok (.aload_n 0, 1) := by decide +kernel
theorem dX9_undo_33 : decode cX9_undo 33 = .ok (.getfield 29, 3) := by decide +kernel
theorem dX9_undo_36 : decode cX9_undo 36 = .ok (.invokevirtual 204, 3) := by decide +kernel
theorem dX9_undo_39 : decode cX9_undo 39 = .ok (.aload_n 0, 1) := by decide +kernel
theorem dX9_undo_40 : decode cX9_undo 40 = .ok (.getfield 29, 3) := by decide +kernel
theorem dX9_undo_43 : decode cX9_undo 43 = .ok (.getfield 132, 3) := by decide +kernel
theorem dX9_undo_46 : decode cX9_undo 46 = .ok (.ireturn, 1) := by decide +kernel
theorem dX9_comes_0 : decode cX9_comes 0 = .ok (.aload_n 0, 1) := by decide +kernel
theorem dX9_comes_1 : decode cX9_comes 1 = .ok (.getfield 23, 3) := by decide +kernel
theorem dX9_comes_4 : decode cX9_comes 4 = .ok (.iload_n 1, 1) := by decide +kernel
theorem dX9_comes_5 : decode cX9_comes 5 = .ok (.invokevirtual 150, 3) := by decide +kernel
theorem dX9_comes_8 : decode cX9_comes 8 = .ok (.ifCond .ne 6, 3) := by decide +kernel
theorem dX9_comes_11 : decode cX9_comes 11 = .ok (.ldc 153, 2) := by decide +kernel
theorem dX9_comes_13 : decode cX9_comes 13 = .ok (.ireturn, 1) := by decide +kernel
theorem dX9_comes_14 : decode cX9_comes 14 = .ok (.aload_n 0, 1) := by decide +kernel
theorem dX9_comes_15 : decode cX9_comes 15 = .ok (.iload_n 2, 1) := by decide +kernel
theorem dX9_comes_16 : decode cX9_comes 16 = .ok (.iload_n 3, 1) := by decide +kernel
theorem dX9_comes_17 : decode cX9_comes 17 = .ok (.invokevirtual 179, 3) := by decide +kernel
theorem dX9_comes_20 : decode cX9_comes 20 = .ok (.istore 4, 2) := by decide +kernel
theorem dX9_comes_22 : decode cX9_comes 22 = .ok (.iload 4, 2) := by decide +kernel
theorem dX9_comes_24 : decode cX9_comes 24 = .ok (.ifCond .eq 6, 3) := by decide +kernel
theorem dX9_comes_27 : decode cX9_comes 27 = .ok (.iload 4, 2) := by decide +kernel
theorem dX9_comes_29 : decode cX9_comes 29 = .ok (.ireturn, 1) := by decide +kernel
theorem dX9_comes_30 : decode cX9_comes 30 = .ok (.aload_n 0, 1) := by decide +kernel
theorem dX9_comes_31 : decode cX9_comes 31 = .ok (.getfield 39, 3) := by decide +kernel
theorem dX9_comes_34 : decode cX9_comes 34 = .ok (.aload_n 0, 1) := by decide +kernel
theorem dX9_comes_35 : decode cX9_comes 35 = .ok (.getfield 23, 3) := by decide +kernel
theorem dX9_comes_38 : decode cX9_comes 38 = .ok (.iload_n 2, 1) := by decide +kernel
theorem dX9_comes_39 : decode cX9_comes 39 = .ok (.aload_n 0, 1) := by decide +kernel
theorem dX9_comes_40 : decode cX9_comes 40 = .ok (.getfield 29, 3) := by decide +kernel
theorem dX9_comes_43 : decode cX9_comes 43 = .ok (.iload_n 3, 1) := by decide +kernel
theorem dX9_comes_44 : decode cX9_comes 44 = .ok (.invokevirtual 208, 3) := by decide +kernel
theorem dX9_comes_47 : decode cX9_comes 47 = .ok (.aload_n 0, 1) := by decide +kernel
theorem dX9_comes_48 : decode cX9_comes 48 = .ok (.getfield 39, 3) := by decide +kernel
theorem dX9_comes_51 : decode cX9_comes 51 = .ok (.getfield 212, 3) := by decide +kernel
theorem dX9_comes_54 : decode cX9_comes 54 = .ok (.iload_n 1, 1) := by decide +kernel
theorem dX9_comes_55 : decode cX9_comes 55 = .ok (.iaload, 1) := by decide +kernel
theorem dX9_comes_56 : decode cX9_comes 56 = .ok (.ireturn, 1) := by decide +kernel
theorem dX9_home_0 : decode cX9_home 0 = .ok (.aload_n 0, 1) := by decide +kernel
theorem dX9_home_1 : decode cX9_home 1 = .ok (.iload_n 1, 1) := by decide +kernel
theorem dX9_home_2 : decode cX9_home 2 = .ok (.iload_n 2, 1) := by decide +kernel
theorem dX9_home_3 : decode cX9_home 3 = .ok (.invokevirtual 179, 3) := by decide +kernel
theorem dX9_home_6 : decode cX9_home 6 = .ok (.istore_n 3, 1) := by decide +kernel
theorem dX9_home_7 : decode cX9_home 7 = .ok (.iload_n 3, 1) := by decide +kernel
theorem dX9_home_8 : decode cX9_home 8 = .ok (.ifCond .eq 5, 3) := by decide +kernel
theorem dX9_home_11 : decode cX9_home 11 = .ok (.iload_n 3, 1) := by decide +kernel
theorem dX9_home_12 : decode cX9_home 12 = .ok (.ireturn, 1) := by decide +kernel
theorem dX9_home_13 : decode cX9_home 13 = .ok (.aload_n 0, 1) := by decide +kernel
theorem dX9_home_14 : decode cX9_home 14 = .ok (.getfield 39, 3) := by decide +kernel
theorem dX9_home_17 : decode cX9_home 17 = .ok (.aload_n 0, 1) := by decide +kernel
theorem dX9_home_18 : decode cX9_home 18 = .ok (.getfield 23, 3) := by decide +kernel
theorem dX9_home_21 : decode cX9_home 21 = .ok (.iload_n 1, 1) := by decide +kernel
theorem dX9_home_22 : decode cX9_home 22 = .ok (.aload_n 0, 1) := by decide +kernel
theorem dX9_home_23 : decode cX9_home 23 = .ok (.getfield 29, 3) := by decide +kernel
theorem dX9_home_26 : decode cX9_home 26 = .ok (.iload_n 2, 1) := by decide +kernel
theorem dX9_home_27 : decode cX9_home 27 = .ok (.invokevirtual 208, 3) := by decide +kernel
theorem dX9_home_30 : decode cX9_home 30 = .ok (.aload_n 0, 1) := by decide +kernel
theorem dX9_home_31 : decode cX9_home 31 = .ok (.getfield 39, 3) := by decide +kernel
theorem dX9_home_34 : decode cX9_home 34 = .ok (.getfield 190, 3) := by decide +kernel
theorem dX9_home_37 : decode cX9_home 37 = .ok (.ireturn, 1) := by decide +kernel
theorem dX9_outcome_0 : decode cX9_outcome 0 = .ok (.aload_n 0, 1) := by decide +kernel
theorem dX9_outcome_1 : decode cX9_outcome 1 = .ok (.iload_n 1, 1) := by decide +kernel
theorem dX9_outcome_2 : decode cX9_outcome 2 = .ok (.iload_n 2, 1) := by decide +kernel
theorem dX9_outcome_3 : decode cX9_outcome 3 = .ok (.invokevirtual 179, 3) := by decide +kernel
theorem dX9_outcome_6 : decode cX9_outcome 6 = .ok (.istore_n 3, 1) := by decide +kernel
theorem dX9_outcome_7 : decode cX9_outcome 7 = .ok (.iload_n 3, 1) := by decide +kernel
theorem dX9_outcome_8 : decode cX9_outcome 8 = .ok (.ifCond .eq 5, 3) := by decide +kernel
theorem dX9_outcome_11 : decode cX9_outcome 11 = .ok (.iload_n 3, 1) := by decide +kernel
theorem dX9_outcome_12 : decode cX9_outcome 12 = .ok (.ireturn, 1) := by decide +kernel
theorem dX9_outcome_13 : decode cX9_outcome 13 = .ok (.aload_n 0, 1) := by decide +kernel
theorem dX9_outcome_14 : decode cX9_outcome 14 = .ok (.getfield 39, 3) := by decide +kernel
theorem dX9_outcome_17 : decode cX9_outcome 17 = .ok (.aload_n 0, 1) := by decide +kernel
theorem dX9_outcome_18 : decode cX9_outcome 18 = .ok (.getfield 23, 3) := by decide +kernel
theorem dX9_outcome_21 : decode cX9_outcome 21 = .ok (.iload_n 1, 1) := by decide +kernel
theorem dX9_outcome_22 : decode cX9_outcome 22 = .ok (.aload_n 0, 1) := by decide +kernel
theorem dX9_outcome_23 : decode cX9_outcome 23 = .ok (.getfield 29, 3) := by decide +kernel
theorem dX9_outcome_26 : decode cX9_outcome 26 = .ok (.iload_n 2, 1) := by decide +kernel
theorem dX9_outcome_27 : decode cX9_outcome 27 = .ok (.invokevirtual 208, 3) := by decide +kernel
theorem dX9_outcome_30 : decode cX9_outcome 30 = .ok (.iconst 0, 1) := by decide +kernel
theorem dX9_outcome_31 : decode cX9_outcome 31 = .ok (.istore 4, 2) := by decide +kernel
theorem dX9_outcome_33 : decode cX9_outcome 33 = .ok (.iconst 0, 1) := by decide +kernel
theorem dX9_outcome_34 : decode cX9_outcome 34 = .ok (.istore 5, 2) := by decide +kernel
theorem dX9_outcome_36 : decode cX9_outcome 36 = .ok (.iload 5, 2) := by decide +kernel
theorem dX9_outcome_38 : decode cX9_outcome 38 = .ok (.aload_n 0, 1) := by decide +kernel
theorem dX9_outcome_39 : decode cX9_outcome 39 = .ok (.getfield 23, 3) := by decide +kernel
theorem dX9_outcome_42 : decode cX9_outcome 42 = .ok (.getfield 117, 3) := by decide +kernel
theorem dX9_outcome_45 : decode cX9_outcome 45 = .ok (.if_icmp .ge 30, 3) := by decide +kernel
theorem dX9_outcome_48 : decode cX9_outcome 48 = .ok (.iload 4, 2) := by decide +kernel
theorem dX9_outcome_50 : decode cX9_outcome 50 = .ok (.bipush 10, 2) := by decide +kernel
theorem dX9_outcome_52 : decode cX9_outcome 52 = .ok (.imul, 1) := by decide +kernel
theorem dX9_outcome_53 : decode cX9_outcome 53 = .ok (.aload_n 0, 1) := by decide +kernel
theorem dX9_outcome_54 : decode cX9_outcome 54 = .ok (.getfield 39, 3) := by decide +kernel
theorem dX9_outcome_57 : decode cX9_outcome 57 = .ok (.getfield 215, 3) := by decide +kernel
theorem dX9_outcome_60 : decode cX9_outcome 60 = .ok (.getfield 163, 3) := by decide +kernel
theorem dX9_outcome_63 : decode cX9_outcome 63 = .ok (.iload 5, 2) := by decide +kernel
theorem dX9_outcome_65 : decode cX9_outcome 65 = .ok (.iaload, 1) := by decide +kernel
theorem dX9_outcome_66 : decode cX9_outcome 66 = .ok (.iadd, 1) := by decide +kernel
theorem dX9_outcome_67 : decode cX9_outcome 67 = .ok (.istore 4, 2) := by decide +kernel
theorem dX9_outcome_69 : decode cX9_outcome 69 = .ok (.iinc 5 1, 3) := by decide +kernel
theorem dX9_outcome_72 : decode cX9_outcome 72 = .ok (.goto (-36), 3) := by decide +kernel
theorem dX9_outcome_75 : decode cX9_outcome 75 = .ok (.iload 4, 2) := by decide +kernel
theorem dX9_outcome_77 : decode cX9_outcome 77 = .ok (.ireturn, 1) := by decide +kernel
theorem dX9_bath_0 : decode cX9_bath 0 = .ok (.aload_n 0, 1) := by decide +kernel
theorem dX9_bath_1 : decode cX9_bath 1 = .ok (.getfield 23, 3) := by decide +kernel
theorem dX9_bath_4 : decode cX9_bath 4 = .ok (.iload_n 1, 1) := by decide +kernel
theorem dX9_bath_5 : decode cX9_bath 5 = .ok (.invokevirtual 150, 3) := by decide +kernel
theorem dX9_bath_8 : decode cX9_bath 8 = .ok (.ifCond .eq 25, 3) := by decide +kernel
theorem dX9_bath_11 : decode cX9_bath 11 = .ok (.aload_n 0, 1) := by decide +kernel
theorem dX9_bath_12 : decode cX9_bath 12 = .ok (.getfield 23, 3) := by decide +kernel
theorem dX9_bath_15 : decode cX9_bath 15 = .ok (.iload_n 2, 1) := by decide +kernel
theorem dX9_bath_16 : decode cX9_bath 16 = .ok (.invokevirtual 218, 3) := by decide +kernel
theorem dX9_bath_19 : decode cX9_bath 19 = .ok (.ifCond .eq 14, 3) := by decide +kernel
theorem dX9_bath_22 : decode cX9_bath 22 = .ok (.aload_n 0, 1) := by decide +kernel
theorem dX9_bath_23 : decode cX9_bath 23 = .ok (.getfield 23, 3) := by decide +kernel
theorem dX9_bath_26 : decode cX9_bath 26 = .ok (.iload_n 3, 1) := by decide +kernel
theorem dX9_bath_27 : decode cX9_bath 27 = .ok (.invokevirtual 218, 3) := by decide +kernel
theorem dX9_bath_30 : decode cX9_bath 30 = .ok (.ifCond .ne 6, 3) := by decide +kernel
theorem dX9_bath_33 : decode cX9_bath 33 = .ok (.ldc 153, 2) := by decide +kernel
theorem dX9_bath_35 : decode cX9_bath 35 = .ok (.ireturn, 1) := by decide +kernel
theorem dX9_bath_36 : decode cX9_bath 36 = .ok (.iload 4, 2) := by decide +kernel
theorem dX9_bath_38 : decode cX9_bath 38 = .ok (.iconst 1, 1) := by decide +kernel
theorem dX9_bath_39 : decode cX9_bath 39 = .ok (.bipush 99, 2) := by decide +kernel
theorem dX9_bath_41 : decode cX9_bath 41 = .ok (.invokestatic 79, 3) := by decide +kernel
theorem dX9_bath_44 : decode cX9_bath 44 = .ok (.ifCond .ne 6, 3) := by decide +kernel
theorem dX9_bath_47 : decode cX9_bath 47 = .ok (.ldc 83, 2) := by decide +kernel
theorem dX9_bath_49 : decode cX9_bath 49 = .ok (.ireturn, 1) := by decide +kernel
theorem dX9_bath_50 : decode cX9_bath 50 = .ok (.aload_n 0, 1) := by decide +kernel
theorem dX9_bath_51 : decode cX9_bath 51 = .ok (.getfield 39, 3) := by decide +kernel
theorem dX9_bath_54 : decode cX9_bath 54 = .ok (.aload_n 0, 1) := by decide +kernel
theorem dX9_bath_55 : decode cX9_bath 55 = .ok (.getfield 23, 3) := by decide +kernel
theorem dX9_bath_58 : decode cX9_bath 58 = .ok (.iload_n 2, 1) := by decide +kernel
theorem dX9_bath_59 : decode cX9_bath 59 = .ok (.aload_n 0, 1) := by decide +kernel
theorem dX9_bath_60 : decode cX9_bath 60 = .ok (.getfield 29, 3) := by decide +kernel
theorem dX9_bath_63 : decode cX9_bath 63 = .ok (.iconst 0, 1) := by decide +kernel
theorem dX9_bath_64 : decode cX9_bath 64 = .ok (.invokevirtual 208, 3) := by decide +kernel
theorem dX9_bath_67 : decode cX9_bath 67 = .ok (.aload_n 0, 1) := by decide +kernel
theorem dX9_bath_68 : decode cX9_bath 68 = .ok (.getfield 39, 3) := by decide +kernel
theorem dX9_bath_71 : decode cX9_bath 71 = .ok (.getfield 212, 3) := by decide +kernel
theorem dX9_bath_74 : decode cX9_bath 74 = .ok (.iload_n 1, 1) := by decide +kernel
theorem dX9_bath_75 : decode cX9_bath 75 = .ok (.iaload, 1) := by decide +kernel
theorem dX9_bath_76 : decode cX9_bath 76 = .ok (.istore 5, 2) := by decide +kernel
theorem dX9_bath_78 : decode cX9_bath 78 = .ok (.aload_n 0, 1) := by decide +kernel
theorem dX9_bath_79 : decode cX9_bath 79 = .ok (.getfield 39, 3) := by decide +kernel
theorem dX9_bath_82 : decode cX9_bath 82 = .ok (.aload_n 0, 1) := by decide +kernel
theorem dX9_bath_83 : decode cX9_bath 83 = .ok (.getfield 23, 3) := by decide +kernel
theorem dX9_bath_86 : decode cX9_bath 86 = .ok (.iload_n 3, 1) := by decide +kernel
theorem dX9_bath_87 : decode cX9_bath 87 = .ok (.aload_n 0, 1) := by decide +kernel
theorem dX9_bath_88 : decode cX9_bath 88 = .ok (.getfield 29, 3) := by decide +kernel
theorem dX9_bath_91 : decode cX9_bath 91 = .ok (.iconst 0, 1) := by decide +kernel
theorem dX9_bath_92 : decode cX9_bath 92 = .ok (.invokevirtual 208, 3) := by decide +kernel
theorem dX9_bath_95 : decode cX9_bath 95 = .ok (.aload_n 0, 1) := by decide +kernel
theorem dX9_bath_96 : decode cX9_bath 96 = .ok (.getfield 39, 3) := by decide +kernel
theorem dX9_bath_99 : decode cX9_bath 99 = .ok (.getfield 212, 3) := by decide +kernel
theorem dX9_bath_102 : decode cX9_bath 102 = .ok (.iload_n 1, 1) := by decide +kernel
theorem dX9_bath_103 : decode cX9_bath 103 = .ok (.iaload, 1) := by decide +kernel
theorem dX9_bath_104 : decode cX9_bath 104 = .ok (.istore 6, 2) := by decide +kernel
theorem dX9_bath_106 : decode cX9_bath 106 = .ok (.iconst 0, 1) := by decide +kernel
theorem dX9_bath_107 : decode cX9_bath 107 = .ok (.istore 7, 2) := by decide +kernel
theorem dX9_bath_109 : decode cX9_bath 109 = .ok (.iload 7, 2) := by decide +kernel
theorem dX9_bath_111 : decode cX9_bath 111 = .ok (.sipush 719, 3) := by decide +kernel
theorem dX9_bath_114 : decode cX9_bath 114 = .ok (.iload 4, 2) := by decide +kernel
theorem dX9_bath_116 : decode cX9_bath 116 = .ok (.isub, 1) := by decide +kernel
theorem dX9_bath_117 : decode cX9_bath 117 = .ok (.if_icmp .gt 55, 3) := by decide +kernel
theorem dX9_bath_120 : decode cX9_bath 120 = .ok (.bipush 60, 2) := by decide +kernel
theorem dX9_bath_122 : decode cX9_bath 122 = .ok (.iload 7, 2) := by decide +kernel
theorem dX9_bath_124 : decode cX9_bath 124 = .ok (.imul, 1) := by decide +kernel
theorem dX9_bath_125 : decode cX9_bath 125 = .ok (.istore 8, 2) := by decide +kernel
theorem dX9_bath_127 : decode cX9_bath 127 = .ok (.bipush 60, 2) := by decide +kernel
theorem dX9_bath_129 : decode cX9_bath 129 = .ok (.iload 7, 2) := by decide +kernel
theorem dX9_bath_131 : decode cX9_bath 131 = .ok (.iload 4, 2) := by decide +kernel
theorem dX9_bath_133 : decode cX9_bath 133 = .ok (.iadd, 1) := by decide +kernel
theorem dX9_bath_134 : decode cX9_bath 134 = .ok (.imul, 1) := by decide +kernel
theorem dX9_bath_135 : decode cX9_bath 135 = .ok (.iconst 1, 1) := by decide +kernel
theorem dX9_bath_136 : decode cX9_bath 136 = .ok (.isub, 1) := by decide +kernel
theorem dX9_bath_137 : decode cX9_bath 137 = .ok (.istore 9, 2) := by decide +kernel
theorem dX9_bath_139 : decode cX9_bath 139 = .ok (.iload 5, 2) := by decide +kernel
theorem dX9_bath_141 : decode cX9_bath 141 = .ok (.iload 8, 2) := by decide +kernel
theorem dX9_bath_143 : decode cX9_bath 143 = .ok (.iload 9, 2) := by decide +kernel
theorem dX9_bath_145 : decode cX9_bath 145 = .ok (.invokestatic 79, 3) := by decide +kernel
theorem dX9_bath_148 : decode cX9_bath 148 = .ok (.ifCond .ne 18, 3) := by decide +kernel
theorem dX9_bath_151 : decode cX9_bath 151 = .ok (.iload 6, 2) := by decide +kernel
theorem dX9_bath_153 : decode cX9_bath 153 = .ok (.iload 8, 2) := by decide +kernel
theorem dX9_bath_155 : decode cX9_bath 155 = .ok (.iload 9, 2) := by decide +kernel
theorem dX9_bath_157 : decode cX9_bath 157 = .ok (.invokestatic 79, 3) := by decide +kernel
theorem dX9_bath_160 : decode cX9_bath 160 = .ok (.ifCond .ne 6, 3) := by decide +kernel
theorem dX9_bath_163 : decode cX9_bath 163 = .ok (.iload 7, 2) := by decide +kernel
theorem dX9_bath_165 : decode cX9_bath 165 = .ok (.ireturn, 1) := by decide +kernel
theorem dX9_bath_166 : decode cX9_bath 166 = .ok (.iinc 7 1, 3) := by decide +kernel
theorem dX9_bath_169 : decode cX9_bath 169 = .ok (.goto (-60), 3) := by decide +kernel
theorem dX9_bath_172 : decode cX9_bath 172 = .ok (.iconst (-1), 1) := by decide +kernel
theorem dX9_bath_173 : decode cX9_bath 173 = .ok (.ireturn, 1) := by decide +kernel
theorem dX9_bestWay_0 : decode cX9_bestWay 0 = .ok (.iload_n 1, 1) := by decide +kernel
theorem dX9_bestWay_1 : decode cX9_bestWay 1 = .ok (.iconst 0, 1) := by decide +kernel
theorem dX9_bestWay_2 : decode cX9_bestWay 2 = .ok (.iconst 3, 1) := by decide +kernel
theorem dX9_bestWay_3 : decode cX9_bestWay 3 = .ok (.invokestatic 79, 3) := by decide +kernel
theorem dX9_bestWay_6 : decode cX9_bestWay 6 = .ok (.ifCond .eq 12, 3) := by decide +kernel
theorem dX9_bestWay_9 : decode cX9_bestWay 9 = .ok (.iload_n 2, 1) := by decide +kernel
theorem dX9_bestWay_10 : decode cX9_bestWay 10 = .ok (.iconst 0, 1) := by decide +kernel
theorem dX9_bestWay_11 : decode cX9_bestWay 11 = .ok (.iconst 2, 1) := by decide +kernel
theorem dX9_bestWay_12 : decode cX9_bestWay 12 = .ok (.invokestatic 79, 3) := by decide +kernel
theorem dX9_bestWay_15 : decode cX9_bestWay 15 = .ok (.ifCond .ne 6, 3) := by decide +kernel
theorem dX9_bestWay_18 : decode cX9_bestWay 18 = .ok (.ldc 83, 2) := by decide +kernel
theorem dX9_bestWay_20 : decode cX9_bestWay 20 = .ok (.ireturn, 1) := by decide +kernel
theorem dX9_bestWay_21 : decode cX9_bestWay 21 = .ok (.new 221, 3) := by decide +kernel
theorem dX9_bestWay_24 : decode cX9_bestWay 24 = .ok (.dup, 1) := by decide +kernel
theorem dX9_bestWay_25 : decode cX9_bestWay 25 = .ok (.aload_n 0, 1) := by decide +kernel
theorem dX9_bestWay_26 : decode cX9_bestWay 26 = .ok (.getfield 23, 3) := by decide +kernel
theorem dX9_bestWay_29 : decode cX9_bestWay 29 = .ok (.aload_n 0, 1) := by decide +kernel
theorem dX9_bestWay_30 : decode cX9_bestWay 30 = .ok (.getfield 29, 3) := by decide +kernel
theorem dX9_bestWay_33 : decode cX9_bestWay 33 = .ok (.iload_n 1, 1) := by decide +kernel
theorem dX9_bestWay_34 : decode cX9_bestWay 34 = .ok (.invokespecial 223, 3) := by decide +kernel
theorem dX9_bestWay_37 : decode cX9_bestWay 37 = .ok (.astore_n 3, 1) := by decide +kernel
theorem dX9_bestWay_38 : decode cX9_bestWay 38 = .ok (.aload_n 3, 1) := by decide +kernel
theorem dX9_bestWay_39 : decode cX9_bestWay 39 = .ok (.invokevirtual 226, 3) := by decide +kernel
theorem dX9_bestWay_42 : decode cX9_bestWay 42 = .ok (.iload_n 2, 1) := by decide +kernel
theorem dX9_bestWay_43 : decode cX9_bestWay 43 = .ok (.lookupswitch 35 #[(0, 25), (1, 30)], 25) := by decide +kernel
theorem dX9_bestWay_68 : decode cX9_bestWay 68 = .ok (.aload_n 3, 1) := by decide +kernel
theorem dX9_bestWay_69 : decode cX9_bestWay 69 = .ok (.getfield 229, 3) := by decide +kernel
theorem dX9_bestWay_72 : decode cX9_bestWay 72 = .ok (.ireturn, 1) := by decide +kernel
theorem dX9_bestWay_73 : decode cX9_bestWay 73 = .ok (.aload_n 3, 1) := by decide +kernel
theorem dX9_bestWay_74 : decode cX9_bestWay 74 = .ok (.getfield 232, 3) := by decide +kernel
theorem dX9_bestWay_77 : decode cX9_bestWay 77 = .ok (.ireturn, 1) := by decide +kernel
theorem dX9_bestWay_78 : decode cX9_bestWay 78 = .ok (.aload_n 3, 1) := by decide +kernel
theorem dX9_bestWay_79 : decode cX9_bestWay 79 = .ok (.getfield 235, 3) := by decide +kernel
theorem dX9_bestWay_82 : decode cX9_bestWay 82 = .ok (.ireturn, 1) := by decide +kernel
theorem dX9_pretends_0 : decode cX9_pretends 0 = .ok (.aload_n 0, 1) := by decide +kernel
theorem dX9_pretends_1 : decode cX9_pretends 1 = .ok (.iload_n 1, 1) := by decide +kernel
theorem dX9_pretends_2 : decode cX9_pretends 2 = .ok (.iload_n 2, 1) := by decide +kernel
theorem dX9_pretends_3 : decode cX9_pretends 3 = .ok (.invokevirtual 179, 3) := by decide +kernel
theorem dX9_pretends_6 : decode cX9_pretends 6 = .ok (.istore 4, 2) := by decide +kernel
theorem dX9_pretends_8 : decode cX9_pretends 8 = .ok (.iload 4, 2) := by decide +kernel
theorem dX9_pretends_10 : decode cX9_pretends 10 = .ok (.ifCond .eq 6, 3) := by decide +kernel
theorem dX9_pretends_13 : decode cX9_pretends 13 = .ok (.iload 4, 2) := by decide +kernel
theorem dX9_pretends_15 : decode cX9_pretends 15 = .ok (.ireturn, 1) := by decide +kernel
theorem dX9_pretends_16 : decode cX9_pretends 16 = .ok (.iload_n 3, 1) := by decide +kernel
theorem dX9_pretends_17 : decode cX9_pretends 17 = .ok (.iconst 0, 1) := by decide +kernel
theorem dX9_pretends_18 : decode cX9_pretends 18 = .ok (.iconst 1, 1) := by decide +kernel
theorem dX9_pretends_19 : decode cX9_pretends 19 = .ok (.invokestatic 79, 3) := by decide +kernel
theorem dX9_pretends_22 : decode cX9_pretends 22 = .ok (.ifCond .ne 6, 3) := by decide +kernel
theorem dX9_pretends_25 : decode cX9_pretends 25 = .ok (.ldc 83, 2) := by decide +kernel
theorem dX9_pretends_27 : decode cX9_pretends 27 = .ok (.ireturn, 1) := by decide +kernel
theorem dX9_pretends_28 : decode cX9_pretends 28 = .ok (.aload_n 0, 1) := by decide +kernel
theorem dX9_pretends_29 : decode cX9_pretends 29 = .ok (.getfield 39, 3) := by decide +kernel
theorem dX9_pretends_32 : decode cX9_pretends 32 = .ok (.aload_n 0, 1) := by decide +kernel
theorem dX9_pretends_33 : decode cX9_pretends 33 = .ok (.getfield 23, 3) := by decide +kernel
theorem dX9_pretends_36 : decode cX9_pretends 36 = .ok (.iload_n 1, 1) := by decide +kernel
theorem dX9_pretends_37 : decode cX9_pretends 37 = .ok (.aload_n 0, 1) := by decide +kernel
theorem dX9_pretends_38 : decode cX9_pretends 38 = .ok (.getfield 29, 3) := by decide +kernel
theorem dX9_pretends_41 : decode cX9_pretends 41 = .ok (.iconst 0, 1) := by decide +kernel
theorem dX9_pretends_42 : decode cX9_pretends 42 = .ok (.invokevirtual 208, 3) := by decide +kernel
theorem dX9_pretends_45 : decode cX9_pretends 45 = .ok (.aload_n 0, 1) := by decide +kernel
theorem dX9_pretends_46 : decode cX9_pretends 46 = .ok (.getfield 39, 3) := by decide +kernel
theorem dX9_pretends_49 : decode cX9_pretends 49 = .ok (.getfield 190, 3) := by decide +kernel
theorem dX9_pretends_52 : decode cX9_pretends 52 = .ok (.istore 5, 2) := by decide +kernel
theorem dX9_pretends_54 : decode cX9_pretends 54 = .ok (.aload_n 0, 1) := by decide +kernel
theorem dX9_pretends_55 : decode cX9_pretends 55 = .ok (.getfield 39, 3) := by decide +kernel
theorem dX9_pretends_58 : decode cX9_pretends 58 = .ok (.getfield 236, 3) := by decide +kernel
theorem dX9_pretends_61 : decode cX9_pretends 61 = .ok (.istore 6, 2) := by decide +kernel
theorem dX9_pretends_63 : decode cX9_pretends 63 = .ok (.aload_n 0, 1) := by decide +kernel
theorem dX9_pretends_64 : decode cX9_pretends 64 = .ok (.getfield 39, 3) := by decide +kernel
theorem dX9_pretends_67 : decode cX9_pretends 67 = .ok (.aload_n 0, 1) := by decide +kernel
theorem dX9_pretends_68 : decode cX9_pretends 68 = .ok (.getfield 23, 3) := by decide +kernel
theorem dX9_pretends_71 : decode cX9_pretends 71 = .ok (.iload_n 1, 1) := by decide +kernel
theorem dX9_pretends_72 : decode cX9_pretends 72 = .ok (.aload_n 0, 1) := by decide +kernel
theorem dX9_pretends_73 : decode cX9_pretends 73 = .ok (.getfield 29, 3) := by decide +kernel
theorem dX9_pretends_76 : decode cX9_pretends 76 = .ok (.iload_n 2, 1) := by decide +kernel
theorem dX9_pretends_77 : decode cX9_pretends 77 = .ok (.invokevirtual 208, 3) := by decide +kernel
theorem dX9_pretends_80 : decode cX9_pretends 80 = .ok (.iload_n 3, 1) := by decide +kernel
theorem dX9_pretends_81 : decode cX9_pretends 81 = .ok (.ifCond .ne 16, 3) := by decide +kernel
theorem dX9_pretends_84 : decode cX9_pretends 84 = .ok (.iload 5, 2) := by decide +kernel
theorem dX9_pretends_86 : decode cX9_pretends 86 = .ok (.aload_n 0, 1) := by decide +kernel
theorem dX9_pretends_87 : decode cX9_pretends 87 = .ok (.getfield 39, 3) := by decide +kernel
theorem dX9_pretends_90 : decode cX9_pretends 90 = .ok (.getfield 190, 3) := by decide +kernel
theorem dX9_pretends_93 : decode cX9_pretends 93 = .ok (.isub, 1) := by decide +kernel
theorem dX9_pretends_94 : decode cX9_pretends 94 = .ok (.goto 16, 3) := by decide +kernel
theorem dX9_pretends_97 : decode cX9_pretends 97 = .ok (.iload 6, 2) := by decide +kernel
theorem dX9_pretends_99 : decode cX9_pretends 99 = .ok (.aload_n 0, 1) := by decide +kernel
theorem dX9_pretends_100 : decode cX9_pretends 100 = .ok (.getfield 39, 3) := by decide +kernel
theorem dX9_pretends_103 : decode cX9_pretends 103 = .ok (.getfield 236, 3) := by decide +kernel
theorem dX9_pretends_106 : decode cX9_pretends 106 = .ok (.isub, 1) := by decide +kernel
theorem dX9_pretends_107 : decode cX9_pretends 107 = .ok (.bipush 100, 2) := by decide +kernel
theorem dX9_pretends_109 : decode cX9_pretends 109 = .ok (.iadd, 1) := by decide +kernel
theorem dX9_pretends_110 : decode cX9_pretends 110 = .ok (.ireturn, 1) := by decide +kernel
theorem dX9_locker_0 : decode cX9_locker 0 = .ok (.aload_n 0, 1) := by decide +kernel
theorem dX9_locker_1 : decode cX9_locker 1 = .ok (.getfield 23, 3) := by decide +kernel
theorem dX9_locker_4 : decode cX9_locker 4 = .ok (.iload_n 1, 1) := by decide +kernel
theorem dX9_locker_5 : decode cX9_locker 5 = .ok (.invokevirtual 218, 3) := by decide +kernel
theorem dX9_locker_8 : decode cX9_locker 8 = .ok (.ifCond .ne 6, 3) := by decide +kernel
theorem dX9_locker_11 : decode cX9_locker 11 = .ok (.ldc 153, 2) := by decide +kernel
theorem dX9_locker_13 : decode cX9_locker 13 = .ok (.ireturn, 1) := by decide +kernel
theorem dX9_locker_14 : decode cX9_locker 14 = .ok (.iload_n 2, 1) := by decide +kernel
theorem dX9_locker_15 : decode cX9_locker 15 = .ok (.iconst 0, 1) := by decide +kernel
theorem dX9_locker_16 : decode cX9_locker 16 = .ok (.bipush 99, 2) := by decide +kernel
theorem dX9_locker_18 : decode cX9_locker 18 = .ok (.invokestatic 79, 3) := by decide +kernel
theorem dX9_locker_21 : decode cX9_locker 21 = .ok (.ifCond .eq 12, 3) := by decide +kernel
theorem dX9_locker_24 : decode cX9_locker 24 = .ok (.iload_n 3, 1) := by decide +kernel
theorem dX9_locker_25 : decode cX9_locker 25 = .ok (.iconst 0, 1) := by decide +kernel
theorem dX9_locker_26 : decode cX9_locker 26 = .ok (.iconst 1, 1) := by decide +kernel
theorem dX9_locker_27 : decode cX9_locker 27 = .ok (.invokestatic 79, 3) := by decide +kernel
theorem dX9_locker_30 : decode cX9_locker 30 = .ok (.ifCond .ne 6, 3) := by decide +kernel
theorem dX9_locker_33 : decode cX9_locker 33 = .ok (.ldc 83, 2) := by decide +kernel
theorem dX9_locker_35 : decode cX9_locker 35 = .ok (.ireturn, 1) := by decide +kernel
theorem dX9_locker_36 : decode cX9_locker 36 = .ok (.aload_n 0, 1) := by decide +kernel
theorem dX9_locker_37 : decode cX9_locker 37 = .ok (.getfield 39, 3) := by decide +kernel
theorem dX9_locker_40 : decode cX9_locker 40 = .ok (.aload_n 0, 1) := by decide +kernel
theorem dX9_locker_41 : decode cX9_locker 41 = .ok (.getfield 23, 3) := by decide +kernel
theorem dX9_locker_44 : decode cX9_locker 44 = .ok (.iload_n 1, 1) := by decide +kernel
theorem dX9_locker_45 : decode cX9_locker 45 = .ok (.aload_n 0, 1) := by decide +kernel
theorem dX9_locker_46 : decode cX9_locker 46 = .ok (.getfield 29, 3) := by decide +kernel
theorem dX9_locker_49 : decode cX9_locker 49 = .ok (.iconst 0, 1) := by decide +kernel
theorem dX9_locker_50 : decode cX9_locker 50 = .ok (.invokevirtual 208, 3) := by decide +kernel
theorem dX9_locker_53 : decode cX9_locker 53 = .ok (.iconst 0, 1) := by decide +kernel
theorem dX9_locker_54 : decode cX9_locker 54 = .ok (.istore 4, 2) := by decide +kernel
theorem dX9_locker_56 : decode cX9_locker 56 = .ok (.iconst 0, 1) := by decide +kernel
theorem dX9_locker_57 : decode cX9_locker 57 = .ok (.istore 5, 2) := by decide +kernel
theorem dX9_locker_59 : decode cX9_locker 59 = .ok (.iconst 0, 1) := by decide +kernel
theorem dX9_locker_60 : decode cX9_locker 60 = .ok (.istore 6, 2) := by decide +kernel
theorem dX9_locker_62 : decode cX9_locker 62 = .ok (.iload 6, 2) := by decide +kernel
theorem dX9_locker_64 : decode cX9_locker 64 = .ok (.bipush 100, 2) := by decide +kernel
theorem dX9_locker_66 : decode cX9_locker 66 = .ok (.if_icmp .ge 43, 3) := by decide +kernel
theorem dX9_locker_69 : decode cX9_locker 69 = .ok (.aload_n 0, 1) := by decide +kernel
theorem dX9_locker_70 : decode cX9_locker 70 = .ok (.getfield 23, 3) := by decide +kernel
theorem dX9_locker_73 : decode cX9_locker 73 = .ok (.aload_n 0, 1) := by decide +kernel
theorem dX9_locker_74 : decode cX9_locker 74 = .ok (.getfield 39, 3) := by decide +kernel
theorem dX9_locker_77 : decode cX9_locker 77 = .ok (.getfield 237, 3) := by decide +kernel
theorem dX9_locker_80 : decode cX9_locker 80 = .ok (.iload 6, 2) := by decide +kernel
theorem dX9_locker_82 : decode cX9_locker 82 = .ok (.iload_n 2, 1) := by decide +kernel
theorem dX9_locker_83 : decode cX9_locker 83 = .ok (.invokevirtual 240, 3) := by decide +kernel
theorem dX9_locker_86 : decode cX9_locker 86 = .ok (.istore 7, 2) := by decide +kernel
theorem dX9_locker_88 : decode cX9_locker 88 = .ok (.iload 7, 2) := by decide +kernel
theorem dX9_locker_90 : decode cX9_locker 90 = .ok (.iload 5, 2) := by decide +kernel
theorem dX9_locker_92 : decode cX9_locker 92 = .ok (.if_icmp .le 11, 3) := by decide +kernel
theorem dX9_locker_95 : decode cX9_locker 95 = .ok (.iload 7, 2) := by decide +kernel
theorem dX9_locker_97 : decode cX9_locker 97 = .ok (.istore 5, 2) := by decide +kernel
theorem dX9_locker_99 : decode cX9_locker 99 = .ok (.iload 6, 2) := by decide +kernel
theorem dX9_locker_101 : decode cX9_locker 101 = .ok (.istore 4, 2) := by decide +kernel
theorem dX9_locker_103 : decode cX9_locker 103 = .ok (.iinc 6 1, 3) := by decide +kernel
theorem dX9_locker_106 : decode cX9_locker 106 = .ok (.goto (-44), 3) := by decide +kernel
theorem dX9_locker_109 : decode cX9_locker 109 = .ok (.iload_n 3, 1) := by decide +kernel
theorem dX9_locker_110 : decode cX9_locker 110 = .ok (.ifCond .ne 8, 3) := by decide +kernel
theorem dX9_locker_113 : decode cX9_locker 113 = .ok (.iload 4, 2) := by decide +kernel
theorem dX9_locker_115 : decode cX9_locker 115 = .ok (.goto 5, 3) := by decide +kernel
theorem dX9_locker_118 : decode cX9_locker 118 = .ok (.iload 5, 2) := by decide +kernel
theorem dX9_locker_120 : decode cX9_locker 120 = .ok (.ireturn, 1) := by decide +kernel
theorem dX9_bears_0 : decode cX9_bears 0 = .ok (.aload_n 0, 1) := by decide +kernel
theorem dX9_bears_1 : decode cX9_bears 1 = .ok (.getfield 23, 3) := by decide +kernel
theorem dX9_bears_4 : decode cX9_bears 4 = .ok (.iload_n 1, 1) := by decide +kernel
theorem dX9_bears_5 : decode cX9_bears 5 = .ok (.invokevirtual 150, 3) := by decide +kernel
theorem dX9_bears_8 : decode cX9_bears 8 = .ok (.ifCond .eq 25, 3) := by decide +kernel
theorem dX9_bears_11 : decode cX9_bears 11 = .ok (.aload_n 0, 1) := by decide +kernel
theorem dX9_bears_12 : decode cX9_bears 12 = .ok (.getfield 23, 3) := by decide +kernel
theorem dX9_bears_15 : decode cX9_bears 15 = .ok (.getfield 169, 3) := by decide +kernel
theorem dX9_bears_18 : decode cX9_bears 18 = .ok (.iload_n 1, 1) := by decide +kernel
theorem dX9_bears_19 : decode cX9_bears 19 = .ok (.iaload, 1) := by decide +kernel
theorem dX9_bears_20 : decode cX9_bears 20 = .ok (.aload_n 0, 1) := by decide +kernel
theorem dX9_bears_21 : decode cX9_bears 21 = .ok (.getfield 29, 3) := by decide +kernel
theorem dX9_bears_24 : decode cX9_bears 24 = .ok (.getfield 172, 3) := by decide +kernel
theorem dX9_bears_27 : decode cX9_bears 27 = .ok (.iload_n 1, 1) := by decide +kernel
theorem dX9_bears_28 : decode cX9_bears 28 = .ok (.iaload, 1) := by decide +kernel
theorem dX9_bears_29 : decode cX9_bears 29 = .ok (.isub, 1) := by decide +kernel
theorem dX9_bears_30 : decode cX9_bears 30 = .ok (.goto 5, 3) := by decide +kernel
theorem dX9_bears_33 : decode cX9_bears 33 = .ok (.ldc 153, 2) := by decide +kernel
theorem dX9_bears_35 : decode cX9_bears 35 = .ok (.ireturn, 1) := by decide +kernel
theorem dX9_heard_0 : decode cX9_heard 0 = .ok (.iload_n 1, 1) := by decide +kernel
theorem dX9_heard_1 : decode cX9_heard 1 = .ok (.iconst 0, 1) := by decide +kernel
theorem dX9_heard_2 : decode cX9_heard 2 = .ok (.bipush 60, 2) := by decide +kernel
theorem dX9_heard_4 : decode cX9_heard 4 = .ok (.invokestatic 79, 3) := by decide +kernel
theorem dX9_heard_7 : decode cX9_heard 7 = .ok (.ifCond .eq 13, 3) := by decide +kernel
theorem dX9_heard_10 : decode cX9_heard 10 = .ok (.iload_n 2, 1) := by decide +kernel
theorem dX9_heard_11 : decode cX9_heard 11 = .ok (.iconst 0, 1) := by decide +kernel
theorem dX9_heard_12 : decode cX9_heard 12 = .ok (.bipush 100, 2) := by decide +kernel
theorem dX9_heard_14 : decode cX9_heard 14 = .ok (.invokestatic 79, 3) := by decide +kernel
theorem dX9_heard_17 : decode cX9_heard 17 = .ok (.ifCond .ne 6, 3) := by decide +kernel
theorem dX9_heard_20 : decode cX9_heard 20 = .ok (.ldc 83, 2) := by decide +kernel
theorem dX9_heard_22 : decode cX9_heard 22 = .ok (.ireturn, 1) := by decide +kernel
theorem dX9_heard_23 : decode cX9_heard 23 = .ok (.ldc2_w 244, 3) := by decide +kernel
theorem dX9_heard_26 : decode cX9_heard 26 = .ok (.lstore_n 3, 1) := by decide +kernel
theorem dX9_heard_27 : decode cX9_heard 27 = .ok (.iconst 0, 1) := by decide +kernel
theorem dX9_heard_28 : decode cX9_heard 28 = .ok (.istore 5, 2) := by decide +kernel
theorem dX9_heard_30 : decode cX9_heard 30 = .ok (.iload 5, 2) := by decide +kernel
theorem dX9_heard_32 : decode cX9_heard 32 = .ok (.iload_n 1, 1) := by decide +kernel
theorem dX9_heard_33 : decode cX9_heard 33 = .ok (.if_icmp .ge 21, 3) := by decide +kernel
theorem dX9_heard_36 : decode cX9_heard 36 = .ok (.lload_n 3, 1) := by decide +kernel
theorem dX9_heard_37 : decode cX9_heard 37 = .ok (.bipush 100, 2) := by decide +kernel
theorem dX9_heard_39 : decode cX9_heard 39 = .ok (.iload_n 2, 1) := by decide +kernel
theorem dX9_heard_40 : decode cX9_heard 40 = .ok (.isub, 1) := by decide +kernel
theorem dX9_heard_41 : decode cX9_heard 41 = .ok (.i2l, 1) := by decide +kernel
theorem dX9_heard_42 : decode cX9_heard 42 = .ok (.lmul, 1) := by decide +kernel
theorem dX9_heard_43 : decode cX9_heard 43 = .ok (.ldc2_w 246, 3) := by decide +kernel
theorem dX9_heard_46 : decode cX9_heard 46 = .ok (.ldiv, 1) := by decide +kernel
theorem dX9_heard_47 : decode cX9_heard 47 = .ok (.lstore_n 3, 1) := by decide +kernel
theorem dX9_heard_48 : decode cX9_heard 48 = .ok (.iinc 5 1, 3) := by decide +kernel
theorem dX9_heard_51 : decode cX9_heard 51 = .ok (.goto (-21), 3) := by decide +kernel
theorem dX9_heard_54 : decode cX9_heard 54 = .ok (.ldc2_w 244, 3) := by decide +kernel
theorem dX9_heard_57 : decode cX9_heard 57 = .ok (.lload_n 3, 1) := by decide +kernel
theorem dX9_heard_58 : decode cX9_heard 58 = .ok (.lsub, 1) := by decide +kernel
theorem dX9_heard_59 : decode cX9_heard 59 = .ok (.l2i, 1) := by decide +kernel
theorem dX9_heard_60 : decode cX9_heard 60 = .ok (.ireturn, 1) := by decide +kernel
theorem dX9_see_0 : decode cX9_see 0 = .ok (.aload_n 0, 1) := by decide +kernel
theorem dX9_see_1 : decode cX9_see 1 = .ok (.getfield 23, 3) := by decide +kernel
theorem dX9_see_4 : decode cX9_see 4 = .ok (.iload_n 1, 1) := by decide +kernel
theorem dX9_see_5 : decode cX9_see 5 = .ok (.invokevirtual 150, 3) := by decide +kernel
theorem dX9_see_8 : decode cX9_see 8 = .ok (.ifCond .ne 6, 3) := by decide +kernel
theorem dX9_see_11 : decode cX9_see 11 = .ok (.ldc 153, 2) := by decide +kernel
theorem dX9_see_13 : decode cX9_see 13 = .ok (.ireturn, 1) := by decide +kernel
theorem dX9_see_14 : decode cX9_see 14 = .ok (.aload_n 0, 1) := by decide +kernel
theorem dX9_see_15 : decode cX9_see 15 = .ok (.getfield 53, 3) := by decide +kernel
theorem dX9_see_18 : decode cX9_see 18 = .ok (.iload_n 1, 1) := by decide +kernel
theorem dX9_see_19 : decode cX9_see 19 = .ok (.iload_n 2, 1) := by decide +kernel
theorem dX9_see_20 : decode cX9_see 20 = .ok (.invokevirtual 248, 3) := by decide +kernel
theorem dX9_see_23 : decode cX9_see 23 = .ok (.ifCond .eq 13, 3) := by decide +kernel
theorem dX9_see_26 : decode cX9_see 26 = .ok (.aload_n 0, 1) := by decide +kernel
theorem dX9_see_27 : decode cX9_see 27 = .ok (.getfield 53, 3) := by decide +kernel
theorem dX9_see_30 : decode cX9_see 30 = .ok (.getfield 145, 3) := by decide +kernel
theorem dX9_see_33 : decode cX9_see 33 = .ok (.goto 5, 3) := by decide +kernel
theorem dX9_see_36 : decode cX9_see 36 = .ok (.ldc 91, 2) := by decide +kernel
theorem dX9_see_38 : decode cX9_see 38 = .ok (.ireturn, 1) := by decide +kernel
theorem dX9_rang_0 : decode cX9_rang 0 = .ok (.aload_n 0, 1) := by decide +kernel
theorem dX9_rang_1 : decode cX9_rang 1 = .ok (.getfield 23, 3) := by decide +kernel
theorem dX9_rang_4 : decode cX9_rang 4 = .ok (.iload_n 1, 1) := by decide +kernel
theorem dX9_rang_5 : decode cX9_rang 5 = .ok (.invokevirtual 218, 3) := by decide +kernel
theorem dX9_rang_8 : decode cX9_rang 8 = .ok (.ifCond .ne 6, 3) := by decide +kernel
theorem dX9_rang_11 : decode cX9_rang 11 = .ok (.ldc 153, 2) := by decide +kernel
theorem dX9_rang_13 : decode cX9_rang 13 = .ok (.ireturn, 1) := by decide +kernel
theorem dX9_rang_14 : decode cX9_rang 14 = .ok (.iload_n 2, 1) := by decide +kernel
theorem dX9_rang_15 : decode cX9_rang 15 = .ok (.iconst 0, 1) := by decide +kernel
theorem dX9_rang_16 : decode cX9_rang 16 = .ok (.iconst 1, 1) := by decide +kernel
theorem dX9_rang_17 : decode cX9_rang 17 = .ok (.invokestatic 79, 3) := by decide +kernel
theorem dX9_rang_20 : decode cX9_rang 20 = .ok (.ifCond .ne 6, 3) := by decide +kernel
theorem dX9_rang_23 : decode cX9_rang 23 = .ok (.ldc 83, 2) := by decide +kernel
theorem dX9_rang_25 : decode cX9_rang 25 = .ok (.ireturn, 1) := by decide +kernel
theorem dX9_rang_26 : decode cX9_rang 26 = .ok (.iconst 0, 1) := by decide +kernel
theorem dX9_rang_27 : decode cX9_rang 27 = .ok (.istore_n 3, 1) := by decide +kernel
theorem dX9_rang_28 : decode cX9_rang 28 = .ok (.iconst 0, 1) := by decide +kernel
theorem dX9_rang_29 : decode cX9_rang 29 = .ok (.istore 4, 2) := by decide +kernel
theorem dX9_rang_31 : decode cX9_rang 31 = .ok (.iload 4, 2) := by decide +kernel
theorem dX9_rang_33 : decode cX9_rang 33 = .ok (.iconst 4, 1) := by decide +kernel
theorem dX9_rang_34 : decode cX9_rang 34 = .ok (.if_icmp .ge 65, 3) := by decide +kernel
theorem dX9_rang_37 : decode cX9_rang 37 = .ok (.aload_n 0, 1) := by decide +kernel
theorem dX9_rang_38 : decode cX9_rang 38 = .ok (.getfield 39, 3) := by decide +kernel
theorem dX9_rang_41 : decode cX9_rang 41 = .ok (.aload_n 0, 1) := by decide +kernel
theorem dX9_rang_42 : decode cX9_rang 42 = .ok (.getfield 23, 3) := by decide +kernel
theorem dX9_rang_45 : decode cX9_rang 45 = .ok (.iload_n 1, 1) := by decide +kernel
theorem dX9_rang_46 : decode cX9_rang 46 = .ok (.aload_n 0, 1) := by decide +kernel
theorem dX9_rang_47 : decode cX9_rang 47 = .ok (.getfield 33, 3) := by decide +kernel
theorem dX9_rang_50 : decode cX9_rang 50 = .ok (.iload 4, 2) := by decide +kernel
theorem dX9_rang_52 : decode cX9_rang 52 = .ok (.invokevirtual 208, 3) := by decide +kernel
theorem dX9_rang_55 : decode cX9_rang 55 = .ok (.aload_n 0, 1) := by decide +kernel
theorem dX9_rang_56 : decode cX9_rang 56 = .ok (.getfield 71, 3) := by decide +kernel
theorem dX9_rang_59 : decode cX9_rang 59 = .ok (.iload 4, 2) := by decide +kernel
theorem dX9_rang_61 : decode cX9_rang 61 = .ok (.aload_n 0, 1) := by decide +kernel
theorem dX9_rang_62 : decode cX9_rang 62 = .ok (.getfield 39, 3) := by decide +kernel
theorem dX9_rang_65 : decode cX9_rang 65 = .ok (.getfield 237, 3) := by decide +kernel
theorem dX9_rang_68 : decode cX9_rang 68 = .ok (.iastore, 1) := by decide +kernel
theorem dX9_rang_69 : decode cX9_rang 69 = .ok (.aload_n 0, 1) := by decide +kernel
theorem dX9_rang_70 : decode cX9_rang 70 = .ok (.getfield 53, 3) := by decide +kernel
theorem dX9_rang_73 : decode cX9_rang 73 = .ok (.aload_n 0, 1) := by decide +kernel
theorem dX9_rang_74 : decode cX9_rang 74 = .ok (.getfield 39, 3) := by decide +kernel
theorem dX9_rang_77 : decode cX9_rang 77 = .ok (.getfield 237, 3) := by decide +kernel
theorem dX9_rang_80 : decode cX9_rang 80 = .ok (.invokevirtual 251, 3) := by decide +kernel
theorem dX9_rang_83 : decode cX9_rang 83 = .ok (.ifCond .eq 10, 3) := by decide +kernel
theorem dX9_rang_86 : decode cX9_rang 86 = .ok (.iload_n 3, 1) := by decide +kernel
theorem dX9_rang_87 : decode cX9_rang 87 = .ok (.iconst 1, 1) := by decide +kernel
theorem dX9_rang_88 : decode cX9_rang 88 = .ok (.iload 4, 2) := by decide +kernel
theorem dX9_rang_90 : decode cX9_rang 90 = .ok (.ishl, 1) := by decide +kernel
theorem dX9_rang_91 : decode cX9_rang 91 = .ok (.ior, 1) := by decide +kernel
theorem dX9_rang_92 : decode cX9_rang 92 = .ok (.istore_n 3, 1) := by decide +kernel
theorem dX9_rang_93 : decode cX9_rang 93 = .ok (.iinc 4 1, 3) := by decide +kernel
theorem dX9_rang_96 : decode cX9_rang 96 = .ok (.goto (-65), 3) := by decide +kernel
theorem dX9_rang_99 : decode cX9_rang 99 = .ok (.iload_n 2, 1) := by decide +kernel
theorem dX9_rang_100 : decode cX9_rang 100 = .ok (.ifCond .ne 7, 3) := by decide +kernel
theorem dX9_rang_103 : decode cX9_rang 103 = .ok (.iload_n 3, 1) := by decide +kernel
theorem dX9_rang_104 : decode cX9_rang 104 = .ok (.goto 8, 3) := by decide +kernel
theorem dX9_rang_107 : decode cX9_rang 107 = .ok (.aload_n 0, 1) := by decide +kernel
theorem dX9_rang_108 : decode cX9_rang 108 = .ok (.iload_n 3, 1) := by decide +kernel
theorem dX9_rang_109 : decode cX9_rang 109 = .ok (.invokevirtual 254, 3) := by decide +kernel
theorem dX9_rang_112 : decode cX9_rang 112 = .ok (.ireturn, 1) := by decide +kernel
theorem dX9_write_0 : decode cX9_write 0 = .ok (.aload_n 0, 1) := by decide +kernel
theorem dX9_write_1 : decode cX9_write 1 = .ok (.getfield 23, 3) := by decide +kernel
theorem dX9_write_4 : decode cX9_write 4 = .ok (.iload_n 1, 1) := by decide +kernel
theorem dX9_write_5 : decode cX9_write 5 = .ok (.invokevirtual 150, 3) := by decide +kernel
theorem dX9_write_8 : decode cX9_write 8 = .ok (.ifCond .ne 6, 3) := by decide +kernel
theorem dX9_write_11 : decode cX9_write 11 = .ok (.ldc 153, 2) := by decide +kernel
theorem dX9_write_13 : decode cX9_write 13 = .ok (.ireturn, 1) := by decide +kernel
theorem dX9_write_14 : decode cX9_write 14 = .ok (.iload_n 2, 1) := by decide +kernel
theorem dX9_write_15 : decode cX9_write 15 = .ok (.iconst 1, 1) := by decide +kernel
theorem dX9_write_16 : decode cX9_write 16 = .ok (.iconst 4, 1) := by decide +kernel
theorem dX9_write_17 : decode cX9_write 17 = .ok (.invokestatic 79, 3) := by decide +kernel
theorem dX9_write_20 : decode cX9_write 20 = .ok (.ifCond .ne 6, 3) := by decide +kernel
theorem dX9_write_23 : decode cX9_write 23 = .ok (.ldc 83, 2) := by decide +kernel
theorem dX9_write_25 : decode cX9_write 25 = .ok (.ireturn, 1) := by decide +kernel
theorem dX9_write_26 : decode cX9_write 26 = .ok (.aload_n 0, 1) := by decide +kernel
theorem dX9_write_27 : decode cX9_write 27 = .ok (.getfield 60, 3) := by decide +kernel
theorem dX9_write_30 : decode cX9_write 30 = .ok (.iload_n 1, 1) := by decide +kernel
theorem dX9_write_31 : decode cX9_write 31 = .ok (.iload_n 2, 1) := by decide +kernel
theorem dX9_write_32 : decode cX9_write 32 = .ok (.invokevirtual 257, 3) := by decide +kernel
theorem dX9_write_35 : decode cX9_write 35 = .ok (.ifCond .eq 13, 3) := by decide +kernel
theorem dX9_write_38 : decode cX9_write 38 = .ok (.aload_n 0, 1) := by decide +kernel
theorem dX9_write_39 : decode cX9_write 39 = .ok (.getfield 60, 3) := by decide +kernel
theorem dX9_write_42 : decode cX9_write 42 = .ok (.getfield 148, 3) := by decide +kernel
theorem dX9_write_45 : decode cX9_write 45 = .ok (.goto 5, 3) := by decide +kernel
theorem dX9_write_48 : decode cX9_write 48 = .ok (.ldc 91, 2) := by decide +kernel
theorem dX9_write_50 : decode cX9_write 50 = .ok (.ireturn, 1) := by decide +kernel
theorem dX9_judge_0 : decode cX9_judge 0 = .ok (.aload_n 0, 1) := by decide +kernel
theorem dX9_judge_1 : decode cX9_judge 1 = .ok (.getfield 60, 3) := by decide +kernel
theorem dX9_judge_4 : decode cX9_judge 4 = .ok (.aload_n 0, 1) := by decide +kernel
theorem dX9_judge_5 : decode cX9_judge 5 = .ok (.getfield 29, 3) := by decide +kernel
theorem dX9_judge_8 : decode cX9_judge 8 = .ok (.invokevirtual 260, 3) := by decide +kernel
theorem dX9_judge_11 : decode cX9_judge 11 = .ok (.ireturn, 1) := by decide +kernel
theorem dX9_tear_0 : decode cX9_tear 0 = .ok (.aload_n 0, 1) := by decide +kernel
theorem dX9_tear_1 : decode cX9_tear 1 = .ok (.getfield 53, 3) := by decide +kernel
theorem dX9_tear_4 : decode cX9_tear 4 = .ok (.getfield 145, 3) := by decide +kernel
theorem dX9_tear_7 : decode cX9_tear 7 = .ok (.aload_n 0, 1) := by decide +kernel
theorem dX9_tear_8 : decode cX9_tear 8 = .ok (.getfield 60, 3) := by decide +kernel
theorem dX9_tear_11 : decode cX9_tear 11 = .ok (.getfield 148, 3) := by decide +kernel
theorem dX9_tear_14 : decode cX9_tear 14 = .ok (.iadd, 1) := by decide +kernel
theorem dX9_tear_15 : decode cX9_tear 15 = .ok (.istore_n 1, 1) := by decide +kernel
theorem dX9_tear_16 : decode cX9_tear 16 = .ok (.aload_n 0, 1) := by decide +kernel
theorem dX9_tear_17 : decode cX9_tear 17 = .ok (.getfield 53, 3) := by decide +kernel
theorem dX9_tear_20 : decode cX9_tear 20 = .ok (.invokevirtual 111, 3) := by decide +kernel
theorem dX9_tear_23 : decode cX9_tear 23 = .ok (.aload_n 0, 1) := by decide +kernel
theorem dX9_tear_24 : decode cX9_tear 24 = .ok (.getfield 60, 3) := by decide +kernel
theorem dX9_tear_27 : decode cX9_tear 27 = .ok (.invokevirtual 112, 3) := by decide +kernel
theorem dX9_tear_30 : decode cX9_tear 30 = .ok (.iload_n 1, 1) := by decide +kernel
theorem dX9_tear_31 : decode cX9_tear 31 = .ok (.ireturn, 1) := by decide +kernel
theorem dX9_seed_0 : decode cX9_seed 0 = .ok (.iload_n 1, 1) := by decide +kernel
theorem dX9_seed_1 : decode cX9_seed 1 = .ok (.ifCond .ge 6, 3) := by decide +kernel
theorem dX9_seed_4 : decode cX9_seed 4 = .ok (.ldc 83, 2) := by decide +kernel
theorem dX9_seed_6 : decode cX9_seed 6 = .ok (.ireturn, 1) := by decide +kernel
theorem dX9_seed_7 : decode cX9_seed 7 = .ok (.aload_n 0, 1) := by decide +kernel
theorem dX9_seed_8 : decode cX9_seed 8 = .ok (.getfield 75, 3) := by decide +kernel
theorem dX9_seed_11 : decode cX9_seed 11 = .ok (.istore_n 2, 1) := by decide +kernel
theorem dX9_seed_12 : decode cX9_seed 12 = .ok (.aload_n 0, 1) := by decide +kernel
theorem dX9_seed_13 : decode cX9_seed 13 = .ok (.iload_n 1, 1) := by decide +kernel
theorem dX9_seed_14 : decode cX9_seed 14 = .ok (.putfield 75, 3) := by decide +kernel
theorem dX9_seed_17 : decode cX9_seed 17 = .ok (.iload_n 2, 1) := by decide +kernel
theorem dX9_seed_18 : decode cX9_seed 18 = .ok (.ireturn, 1) := by decide +kernel
theorem dX9_keep_0 : decode cX9_keep 0 = .ok (.iload_n 1, 1) := by decide +kernel
theorem dX9_keep_1 : decode cX9_keep 1 = .ok (.iconst 0, 1) := by decide +kernel
theorem dX9_keep_2 : decode cX9_keep 2 = .ok (.iconst 1, 1) := by decide +kernel
theorem dX9_keep_3 : decode cX9_keep 3 = .ok (.invokestatic 79, 3) := by decide +kernel
theorem dX9_keep_6 : decode cX9_keep 6 = .ok (.ifCond .ne 6, 3) := by decide +kernel
theorem dX9_keep_9 : decode cX9_keep 9 = .ok (.ldc 153, 2) := by decide +kernel
theorem dX9_keep_11 : decode cX9_keep 11 = .ok (.ireturn, 1) := by decide +kernel
theorem dX9_keep_12 : decode cX9_keep 12 = .ok (.aload_n 0, 1) := by decide +kernel
theorem dX9_keep_13 : decode cX9_keep 13 = .ok (.getfield 67, 3) := by decide +kernel
theorem dX9_keep_16 : decode cX9_keep 16 = .ok (.iload_n 1, 1) := by decide +kernel
theorem dX9_keep_17 : decode cX9_keep 17 = .ok (.aaload, 1) := by decide +kernel
theorem dX9_keep_18 : decode cX9_keep 18 = .ok (.getfield 264, 3) := by decide +kernel
theorem dX9_keep_21 : decode cX9_keep 21 = .ok (.aload_n 0, 1) := by decide +kernel
theorem dX9_keep_22 : decode cX9_keep 22 = .ok (.getfield 29, 3) := by decide +kernel
theorem dX9_keep_25 : decode cX9_keep 25 = .ok (.invokevirtual 267, 3) := by decide +kernel
theorem dX9_keep_28 : decode cX9_keep 28 = .ok (.aload_n 0, 1) := by decide +kernel
theorem dX9_keep_29 : decode cX9_keep 29 = .ok (.getfield 67, 3) := by decide +kernel
theorem dX9_keep_32 : decode cX9_keep 32 = .ok (.iload_n 1, 1) := by decide +kernel
theorem dX9_keep_33 : decode cX9_keep 33 = .ok (.aaload, 1) := by decide +kernel
theorem dX9_keep_34 : decode cX9_keep 34 = .ok (.aload_n 0, 1) := by decide +kernel
theorem dX9_keep_35 : decode cX9_keep 35 = .ok (.getfield 75, 3) := by decide +kernel
theorem dX9_keep_38 : decode cX9_keep 38 = .ok (.putfield 269, 3) := by decide +kernel
theorem dX9_keep_41 : decode cX9_keep 41 = .ok (.aload_n 0, 1) := by decide +kernel
theorem dX9_keep_42 : decode cX9_keep 42 = .ok (.getfield 67, 3) := by decide +kernel
theorem dX9_keep_45 : decode cX9_keep 45 = .ok (.iload_n 1, 1) := by decide +kernel
theorem dX9_keep_46 : decode cX9_keep 46 = .ok (.aaload, 1) := by decide +kernel
theorem dX9_keep_47 : decode cX9_keep 47 = .ok (.iconst 1, 1) := by decide +kernel
theorem dX9_keep_48 : decode cX9_keep 48 = .ok (.putfield 113, 3) := by decide +kernel
theorem dX9_keep_51 : decode cX9_keep 51 = .ok (.aload_n 0, 1) := by decide +kernel
theorem dX9_keep_52 : decode cX9_keep 52 = .ok (.getfield 46, 3) := by decide +kernel
theorem dX9_keep_55 : decode cX9_keep 55 = .ok (.invokevirtual 108, 3) := by decide +kernel
theorem dX9_keep_58 : decode cX9_keep 58 = .ok (.iconst 1, 1) := by decide +kernel
theorem dX9_keep_59 : decode cX9_keep 59 = .ok (.ireturn, 1) := by decide +kernel
theorem dX9_goBack_0 : decode cX9_goBack 0 = .ok (.iload_n 1, 1) := by decide +kernel
theorem dX9_goBack_1 : decode cX9_goBack 1 = .ok (.iconst 0, 1) := by decide +kernel
theorem dX9_goBack_2 : decode cX9_goBack 2 = .ok (.iconst 1, 1) := by decide +kernel
theorem dX9_goBack_3 : decode cX9_goBack 3 = .ok (.invokestatic 79, 3) := by decide +kernel
theorem dX9_goBack_6 : decode cX9_goBack 6 = .ok (.ifCond .ne 6, 3) := by decide +kernel
theorem dX9_goBack_9 : decode cX9_goBack 9 = .ok (.ldc 153, 2) := by decide +kernel
theorem dX9_goBack_11 : decode cX9_goBack 11 = .ok (.ireturn, 1) := by decide +kernel
theorem dX9_goBack_12 : decode cX9_goBack 12 = .ok (.aload_n 0, 1) := by decide +kernel
theorem dX9_goBack_13 : decode cX9_goBack 13 = .ok (.getfield 67, 3) := by decide +kernel
theorem dX9_goBack_16 : decode cX9_goBack 16 = .ok (.iload_n 1, 1) := by decide +kernel
theorem dX9_goBack_17 : decode cX9_goBack 17 = .ok (.aaload, 1) := by decide +kernel
theorem dX9_goBack_18 : decode cX9_goBack 18 = .ok (.getfield 113, 3) := by decide +kernel
theorem dX9_goBack_21 : decode cX9_goBack 21 = .ok (.ifCond .ne 6, 3) := by decide +kernel
theorem dX9_goBack_24 : decode cX9_goBack 24 = .ok (.ldc 193, 2) := by decide +kernel
theorem dX9_goBack_26 : decode cX9_goBack 26 = .ok (.ireturn, 1) := by decide +kernel
theorem dX9_goBack_27 : decode cX9_goBack 27 = .ok (.aload_n 0, 1) := by decide +kernel
theorem dX9_goBack_28 : decode cX9_goBack 28 = .ok (.getfield 29, 3) := by decide +kernel
theorem dX9_goBack_31 : decode cX9_goBack 31 = .ok (.aload_n 0, 1) := by decide +kernel
theorem dX9_goBack_32 : decode cX9_goBack 32 = .ok (.getfield 67, 3) := by decide +kernel
theorem dX9_goBack_35 : decode cX9_goBack 35 = .ok (.iload_n 1, 1) := by decide +kernel
theorem dX9_goBack_36 : decode cX9_goBack 36 = .ok (.aaload, 1) := by decide +kernel
theorem dX9_goBack_37 : decode cX9_goBack 37 = .ok (.getfield 264, 3) := by decide +kernel
theorem dX9_goBack_40 : decode cX9_goBack 40 = .ok (.invokevirtual 267, 3) := by decide +kernel
theorem dX9_goBack_43 : decode cX9_goBack 43 = .ok (.aload_n 0, 1) := by decide +kernel
theorem dX9_goBack_44 : decode cX9_goBack 44 = .ok (.aload_n 0, 1) := by decide +kernel
theorem dX9_goBack_45 : decode cX9_goBack 45 = .ok (.getfield 67, 3) := by decide +kernel
theorem dX9_goBack_48 : decode cX9_goBack 48 = .ok (.iload_n 1, 1) := by decide +kernel
theorem dX9_goBack_49 : decode cX9_goBack 49 = .ok (.aaload, 1) := by decide +kernel
theorem dX9_goBack_50 : decode cX9_goBack 50 = .ok (.getfield 269, 3) := by decide +kernel
theorem dX9_goBack_53 : decode cX9_goBack 53 = .ok (.putfield 75, 3) := by decide +kernel
theorem dX9_goBack_56 : decode cX9_goBack 56 = .ok (.aload_n 0, 1) := by decide +kernel
theorem dX9_goBack_57 : decode cX9_goBack 57 = .ok (.getfield 46, 3) := by decide +kernel
theorem dX9_goBack_60 : decode cX9_goBack 60 = .ok (.invokevirtual 108, 3) := by decide +kernel
theorem dX9_goBack_63 : decode cX9_goBack 63 = .ok (.iconst 1, 1) := by decide +kernel
theorem dX9_goBack_64 : decode cX9_goBack 64 = .ok (.ireturn, 1) := by decide +kernel
theorem dX9_within_0 : decode cX9_within 0 = .ok (.iload_n 0, 1) := by decide +kernel
theorem dX9_within_1 : decode cX9_within 1 = .ok (.iload_n 1, 1) := by decide +kernel
theorem dX9_within_2 : decode cX9_within 2 = .ok (.if_icmp .lt 12, 3) := by decide +kernel
theorem dX9_within_5 : decode cX9_within 5 = .ok (.iload_n 0, 1) := by decide +kernel
theorem dX9_within_6 : decode cX9_within 6 = .ok (.iload_n 2, 1) := by decide +kernel
theorem dX9_within_7 : decode cX9_within 7 = .ok (.if_icmp .gt 7, 3) := by decide +kernel
theorem dX9_within_10 : decode cX9_within 10 = .ok (.iconst 1, 1) := by decide +kernel
theorem dX9_within_11 : decode cX9_within 11 = .ok (.goto 4, 3) := by decide +kernel
theorem dX9_within_14 : decode cX9_within 14 = .ok (.iconst 0, 1) := by decide +kernel
theorem dX9_within_15 : decode cX9_within 15 = .ok (.ireturn, 1) := by decide +kernel
theorem dX9_ringsAt_0 : decode cX9_ringsAt 0 = .ok (.iload_n 1, 1) := by decide +kernel
theorem dX9_ringsAt_1 : decode cX9_ringsAt 1 = .ok (.iconst 1, 1) := by decide +kernel
theorem dX9_ringsAt_2 : decode cX9_ringsAt 2 = .ok (.iconst 3, 1) := by decide +kernel
theorem dX9_ringsAt_3 : decode cX9_ringsAt 3 = .ok (.invokestatic 79, 3) := by decide +kernel
theorem dX9_ringsAt_6 : decode cX9_ringsAt 6 = .ok (.ifCond .eq 11, 3) := by decide +kernel
theorem dX9_ringsAt_9 : decode cX9_ringsAt 9 = .ok (.iload_n 0, 1) := by decide +kernel
theorem dX9_ringsAt_10 : decode cX9_ringsAt 10 = .ok (.iconst 5, 1) := by decide +kernel
theorem dX9_ringsAt_11 : decode cX9_ringsAt 11 = .ok (.iload_n 1, 1) := by decide +kernel
theorem dX9_ringsAt_12 : decode cX9_ringsAt 12 = .ok (.isub, 1) := by decide +kernel
theorem dX9_ringsAt_13 : decode cX9_ringsAt 13 = .ok (.irem, 1) := by decide +kernel
theorem dX9_ringsAt_14 : decode cX9_ringsAt 14 = .ok (.ifCond .eq 7, 3) := by decide +kernel
theorem dX9_ringsAt_17 : decode cX9_ringsAt 17 = .ok (.iconst 1, 1) := by decide +kernel
theorem dX9_ringsAt_18 : decode cX9_ringsAt 18 = .ok (.goto 4, 3) := by decide +kernel
theorem dX9_ringsAt_21 : decode cX9_ringsAt 21 = .ok (.iconst 0, 1) := by decide +kernel
theorem dX9_ringsAt_22 : decode cX9_ringsAt 22 = .ok (.ireturn, 1) := by decide +kernel
theorem dX9_refusalOfTrip_0 : decode cX9_refusalOfTrip 0 = .ok (.aload_n 0, 1) := by decide +kernel
theorem dX9_refusalOfTrip_1 : decode cX9_refusalOfTrip 1 = .ok (.getfield 23, 3) := by decide +kernel
theorem dX9_refusalOfTrip_4 : decode cX9_refusalOfTrip 4 = .ok (.iload_n 1, 1) := by decide +kernel
theorem dX9_refusalOfTrip_5 : decode cX9_refusalOfTrip 5 = .ok (.invokevirtual 218, 3) := by decide +kernel
theorem dX9_refusalOfTrip_8 : decode cX9_refusalOfTrip 8 = .ok (.ifCond .ne 6, 3) := by decide +kernel
theorem dX9_refusalOfTrip_11 : decode cX9_refusalOfTrip 11 = .ok (.ldc 153, 2) := by decide +kernel
theorem dX9_refusalOfTrip_13 : decode cX9_refusalOfTrip 13 = .ok (.ireturn, 1) := by decide +kernel
theorem dX9_refusalOfTrip_14 : decode cX9_refusalOfTrip 14 = .ok (.iload_n 2, 1) := by decide +kernel
theorem dX9_refusalOfTrip_15 : decode cX9_refusalOfTrip 15 = .ok (.iconst 0, 1) := by decide +kernel
theorem dX9_refusalOfTrip_16 : decode cX9_refusalOfTrip 16 = .ok (.iconst 3, 1) := by decide +kernel
theorem dX9_refusalOfTrip_17 : decode cX9_refusalOfTrip 17 = .ok (.invokestatic 79, 3) := by decide +kernel
theorem dX9_refusalOfTrip_20 : decode cX9_refusalOfTrip 20 = .ok (.ifCond .eq 7, 3) := by decide +kernel
theorem dX9_refusalOfTrip_23 : decode cX9_refusalOfTrip 23 = .ok (.iconst 0, 1) := by decide +kernel
theorem dX9_refusalOfTrip_24 : decode cX9_refusalOfTrip 24 = .ok (.goto 5, 3) := by decide +kernel
theorem dX9_refusalOfTrip_27 : decode cX9_refusalOfTrip 27 = .ok (.ldc 83, 2) := by decide +kernel
theorem dX9_refusalOfTrip_29 : decode cX9_refusalOfTrip 29 = .ok (.ireturn, 1) := by decide +kernel
theorem dX9_drive_0 : decode cX9_drive 0 = .ok (.aload_n 0, 1) := by decide +kernel
theorem dX9_drive_1 : decode cX9_drive 1 = .ok (.getfield 39, 3) := by decide +kernel
theorem dX9_drive_4 : decode cX9_drive 4 = .ok (.aload_n 0, 1) := by decide +kernel
theorem dX9_drive_5 : decode cX9_drive 5 = .ok (.getfield 23, 3) := by decide +kernel
theorem dX9_drive_8 : decode cX9_drive 8 = .ok (.iload_n 1, 1) := by decide +kernel
theorem dX9_drive_9 : decode cX9_drive 9 = .ok (.aload_n 0, 1) := by decide +kernel
theorem dX9_drive_10 : decode cX9_drive 10 = .ok (.getfield 29, 3) := by decide +kernel
theorem dX9_drive_13 : decode cX9_drive 13 = .ok (.iload_n 2, 1) := by decide +kernel
theorem dX9_drive_14 : decode cX9_drive 14 = .ok (.invokevirtual 208, 3) := by decide +kernel
theorem dX9_drive_17 : decode cX9_drive 17 = .ok (.aload_n 0, 1) := by decide +kernel
theorem dX9_drive_18 : decode cX9_drive 18 = .ok (.getfield 29, 3) := by decide +kernel
theorem dX9_drive_21 : decode cX9_drive 21 = .ok (.aload_n 0, 1) := by decide +kernel
theorem dX9_drive_22 : decode cX9_drive 22 = .ok (.getfield 39, 3) := by decide +kernel
theorem dX9_drive_25 : decode cX9_drive 25 = .ok (.getfield 215, 3) := by decide +kernel
theorem dX9_drive_28 : decode cX9_drive 28 = .ok (.invokevirtual 267, 3) := by decide +kernel
theorem dX9_drive_31 : decode cX9_drive 31 = .ok (.return_, 1) := by decide +kernel
theorem dX9_draw_0 : decode cX9_draw 0 = .ok (.aload_n 0, 1) := by decide +kernel
theorem dX9_draw_1 : decode cX9_draw 1 = .ok (.aload_n 0, 1) := by decide +kernel
theorem dX9_draw_2 : decode cX9_draw 2 = .ok (.getfield 75, 3) := by decide +kernel
theorem dX9_draw_5 : decode cX9_draw 5 = .ok (.i2l, 1) := by decide +kernel
theorem dX9_draw_6 : decode cX9_draw 6 = .ok (.ldc2_w 270, 3) := by decide +kernel
theorem dX9_draw_9 : decode cX9_draw 9 = .ok (.lmul, 1) := by decide +kernel
theorem dX9_draw_10 : decode cX9_draw 10 = .ok (.ldc2_w 272, 3) := by decide +kernel
theorem dX9_draw_13 : decode cX9_draw 13 = .ok (.ladd, 1) := by decide +kernel
theorem dX9_draw_14 : decode cX9_draw 14 = .ok (.ldc2_w 274, 3) := by decide +kernel
theorem dX9_draw_17 : decode cX9_draw 17 = .ok (.land, 1) := by decide +kernel
theorem dX9_draw_18 : decode cX9_draw 18 = .ok (.l2i, 1) := by decide +kernel
theorem dX9_draw_19 : decode cX9_draw 19 = .ok (.putfield 75, 3) := by decide +kernel
theorem dX9_draw_22 : decode cX9_draw 22 = .ok (.iload_n 1, 1) := by decide +kernel
theorem dX9_draw_23 : decode cX9_draw 23 = .ok (.iconst 1, 1) := by decide +kernel
theorem dX9_draw_24 : decode cX9_draw 24 = .ok (.if_icmp .ge 7, 3) := by decide +kernel
theorem dX9_draw_27 : decode cX9_draw 27 = .ok (.iconst 0, 1) := by decide +kernel
theorem dX9_draw_28 : decode cX9_draw 28 = .ok (.goto 13, 3) := by decide +kernel
theorem dX9_draw_31 : decode cX9_draw 31 = .ok (.aload_n 0, 1) := by decide +kernel
theorem dX9_draw_32 : decode cX9_draw 32 = .ok (.getfield 75, 3) := by decide +kernel
theorem dX9_draw_35 : decode cX9_draw 35 = .ok (.ldc_w 276, 3) := by decide +kernel
theorem dX9_draw_38 : decode cX9_draw 38 = .ok (.idiv, 1) := by decide +kernel
theorem dX9_draw_39 : decode cX9_draw 39 = .ok (.iload_n 1, 1) := by decide +kernel
theorem dX9_draw_40 : decode cX9_draw 40 = .ok (.irem, 1) := by decide +kernel
theorem dX9_draw_41 : decode cX9_draw 41 = .ok (.ireturn, 1) := by decide +kernel
theorem dX9_orderByDraw_0 : decode cX9_orderByDraw 0 = .ok (.aload_n 0, 1) := by decide +kernel
theorem dX9_orderByDraw_1 : decode cX9_orderByDraw 1 = .ok (.aload_n 0, 1) := by decide +kernel
theorem dX9_orderByDraw_2 : decode cX9_orderByDraw 2 = .ok (.getfield 23, 3) := by decide +kernel
theorem dX9_orderByDraw_5 : decode cX9_orderByDraw 5 = .ok (.getfield 117, 3) := by decide +kernel
theorem dX9_orderByDraw_8 : decode cX9_orderByDraw 8 = .ok (.invokevirtual 201, 3) := by decide +kernel
theorem dX9_orderByDraw_11 : decode cX9_orderByDraw 11 = .ok (.istore_n 1, 1) := by decide +kernel
theorem dX9_orderByDraw_12 : decode cX9_orderByDraw 12 = .ok (.aload_n 0, 1) := by decide +kernel
theorem dX9_orderByDraw_13 : decode cX9_orderByDraw 13 = .ok (.getfield 23, 3) := by decide +kernel
theorem dX9_orderByDraw_16 : decode cX9_orderByDraw 16 = .ok (.iload_n 1, 1) := by decide +kernel
theorem dX9_orderByDraw_17 : decode cX9_orderByDraw 17 = .ok (.invokevirtual 150, 3) := by decide +kernel
theorem dX9_orderByDraw_20 : decode cX9_orderByDraw 20 = .ok (.ifCond .eq 26, 3) := by decide +kernel
theorem dX9_orderByDraw_23 : decode cX9_orderByDraw 23 = .ok (.aload_n 0, 1) := by decide +kernel
theorem dX9_orderByDraw_24 : decode cX9_orderByDraw 24 = .ok (.getfield 29, 3) := by decide +kernel
theorem dX9_orderByDraw_27 : decode cX9_orderByDraw 27 = .ok (.getfield 163, 3) := by decide +kernel
theorem dX9_orderByDraw_30 : decode cX9_orderByDraw 30 = .ok (.iload_n 1, 1) := by decide +kernel
theorem dX9_orderByDraw_31 : decode cX9_orderByDraw 31 = .ok (.iaload, 1) := by decide +kernel
theorem dX9_orderByDraw_32 : decode cX9_orderByDraw 32 = .ok (.iconst 2, 1) := by decide +kernel
theorem dX9_orderByDraw_33 : decode cX9_orderByDraw 33 = .ok (.if_icmp .ne 13, 3) := by decide +kernel
theorem dX9_orderByDraw_36 : decode cX9_orderByDraw 36 = .ok (.aload_n 0, 1) := by decide +kernel
theorem dX9_orderByDraw_37 : decode cX9_orderByDraw 37 = .ok (.getfield 29, 3) := by decide +kernel
theorem dX9_orderByDraw_40 : decode cX9_orderByDraw 40 = .ok (.getfield 163, 3) := by decide +kernel
theorem dX9_orderByDraw_43 : decode cX9_orderByDraw 43 = .ok (.iload_n 1, 1) := by decide +kernel
theorem dX9_orderByDraw_44 : decode cX9_orderByDraw 44 = .ok (.iconst 1, 1) := by decide +kernel
theorem dX9_orderByDraw_45 : decode cX9_orderByDraw 45 = .ok (.iastore, 1) := by decide +kernel
theorem dX9_orderByDraw_46 : decode cX9_orderByDraw 46 = .ok (.return_, 1) := by decide +kernel
theorem dX9_bestToAsk_0 : decode cX9_bestToAsk 0 = .ok (.iload_n 1, 1) := by decide +kernel
theorem dX9_bestToAsk_1 : decode cX9_bestToAsk 1 = .ok (.invokestatic 277, 3) := by decide +kernel
theorem dX9_bestToAsk_4 : decode cX9_bestToAsk 4 = .ok (.istore_n 2, 1) := by decide +kernel
theorem dX9_bestToAsk_5 : decode cX9_bestToAsk 5 = .ok (.iload_n 2, 1) := by decide +kernel
theorem dX9_bestToAsk_6 : decode cX9_bestToAsk 6 = .ok (.istore_n 3, 1) := by decide +kernel
theorem dX9_bestToAsk_7 : decode cX9_bestToAsk 7 = .ok (.iconst (-1), 1) := by decide +kernel
theorem dX9_bestToAsk_8 : decode cX9_bestToAsk 8 = .ok (.istore 4, 2) := by decide +kernel
theorem dX9_bestToAsk_10 : decode cX9_bestToAsk 10 = .ok (.iconst 0, 1) := by decide +kernel
theorem dX9_bestToAsk_11 : decode cX9_bestToAsk 11 = .ok (.istore 5, 2) := by decide +kernel
theorem dX9_bestToAsk_13 : decode cX9_bestToAsk 13 = .ok (.iload 5, 2) := by decide +kernel
theorem dX9_bestToAsk_15 : decode cX9_bestToAsk 15 = .ok (.aload_n 0, 1) := by decide +kernel
theorem dX9_bestToAsk_16 : decode cX9_bestToAsk 16 = .ok (.getfield 23, 3) := by decide +kernel
theorem dX9_bestToAsk_19 : decode cX9_bestToAsk 19 = .ok (.getfield 117, 3) := by decide +kernel
theorem dX9_bestToAsk_22 : decode cX9_bestToAsk 22 = .ok (.if_icmp .ge 73, 3) := by decide +kernel
theorem dX9_bestToAsk_25 : decode cX9_bestToAsk 25 = .ok (.iconst 0, 1) := by decide +kernel
theorem dX9_bestToAsk_26 : decode cX9_bestToAsk 26 = .ok (.istore 6, 2) := by decide +kernel
theorem dX9_bestToAsk_28 : decode cX9_bestToAsk 28 = .ok (.iconst 0, 1) := by decide +kernel
theorem dX9_bestToAsk_29 : decode cX9_bestToAsk 29 = .ok (.istore 7, 2) := by decide +kernel
theorem dX9_bestToAsk_31 : decode cX9_bestToAsk 31 = .ok (.iload 7, 2) := by decide +kernel
theorem dX9_bestToAsk_33 : decode cX9_bestToAsk 33 = .ok (.iconst 4, 1) := by decide +kernel
theorem dX9_bestToAsk_34 : decode cX9_bestToAsk 34 = .ok (.if_icmp .ge 31, 3) := by decide +kernel
theorem dX9_bestToAsk_37 : decode cX9_bestToAsk 37 = .ok (.iload 6, 2) := by decide +kernel
theorem dX9_bestToAsk_39 : decode cX9_bestToAsk 39 = .ok (.iload_n 1, 1) := by decide +kernel
theorem dX9_bestToAsk_40 : decode cX9_bestToAsk 40 = .ok (.iload 7, 2) := by decide +kernel
theorem dX9_bestToAsk_42 : decode cX9_bestToAsk 42 = .ok (.ishr, 1) := by decide +kernel
theorem dX9_bestToAsk_43 : decode cX9_bestToAsk 43 = .ok (.aload_n 0, 1) := by decide +kernel
theorem dX9_bestToAsk_44 : decode cX9_bestToAsk 44 = .ok (.getfield 71, 3) := by decide +kernel
theorem dX9_bestToAsk_47 : decode cX9_bestToAsk 47 = .ok (.iload 7, 2) := by decide +kernel
theorem dX9_bestToAsk_49 : decode cX9_bestToAsk 49 = .ok (.iaload, 1) := by decide +kernel
theorem dX9_bestToAsk_50 : decode cX9_bestToAsk 50 = .ok (.iload 5, 2) := by decide +kernel
theorem dX9_bestToAsk_52 : decode cX9_bestToAsk 52 = .ok (.ishr, 1) := by decide +kernel
theorem dX9_bestToAsk_53 : decode cX9_bestToAsk 53 = .ok (.iand, 1) := by decide +kernel
theorem dX9_bestToAsk_54 : decode cX9_bestToAsk 54 = .ok (.iconst 1, 1) := by decide +kernel
theorem dX9_bestToAsk_55 : decode cX9_bestToAsk 55 = .ok (.iand, 1) := by decide +kernel
theorem dX9_bestToAsk_56 : decode cX9_bestToAsk 56 = .ok (.iadd, 1) := by decide +kernel
theorem dX9_bestToAsk_57 : decode cX9_bestToAsk 57 = .ok (.istore 6, 2) := by decide +kernel
theorem dX9_bestToAsk_59 : decode cX9_bestToAsk 59 = .ok (.iinc 7 1, 3) := by decide +kernel
theorem dX9_bestToAsk_62 : decode cX9_bestToAsk 62 = .ok (.goto (-31), 3) := by decide +kernel
theorem dX9_bestToAsk_65 : decode cX9_bestToAsk 65 = .ok (.iload 6, 2) := by decide +kernel
theorem dX9_bestToAsk_67 : decode cX9_bestToAsk 67 = .ok (.iload_n 2, 1) := by decide +kernel
theorem dX9_bestToAsk_68 : decode cX9_bestToAsk 68 = .ok (.iload 6, 2) := by decide +kernel
theorem dX9_bestToAsk_70 : decode cX9_bestToAsk 70 = .ok (.isub, 1) := by decide +kernel
theorem dX9_bestToAsk_71 : decode cX9_bestToAsk 71 = .ok (.invokestatic 282, 3) := by decide +kernel
theorem dX9_bestToAsk_74 : decode cX9_bestToAsk 74 = .ok (.istore 7, 2) := by decide +kernel
theorem dX9_bestToAsk_76 : decode cX9_bestToAsk 76 = .ok (.iload 7, 2) := by decide +kernel
theorem dX9_bestToAsk_78 : decode cX9_bestToAsk 78 = .ok (.iload_n 3, 1) := by decide +kernel
theorem dX9_bestToAsk_79 : decode cX9_bestToAsk 79 = .ok (.if_icmp .ge 10, 3) := by decide +kernel
theorem dX9_bestToAsk_82 : decode cX9_bestToAsk 82 = .ok (.iload 7, 2) := by decide +kernel
theorem dX9_bestToAsk_84 : decode cX9_bestToAsk 84 = .ok (.istore_n 3, 1) := by decide +kernel
theorem dX9_bestToAsk_85 : decode cX9_bestToAsk 85 = .ok (.iload 5, 2) := by decide +kernel
theorem dX9_bestToAsk_87 : decode cX9_bestToAsk 87 = .ok (.istore 4, 2) := by decide +kernel
theorem dX9_bestToAsk_89 : decode cX9_bestToAsk 89 = .ok (.iinc 5 1, 3) := by decide +kernel
theorem dX9_bestToAsk_92 : decode cX9_bestToAsk 92 = .ok (.goto (-79), 3) := by decide +kernel
theorem dX9_bestToAsk_95 : decode cX9_bestToAsk 95 = .ok (.iload 4, 2) := by decide +kernel
theorem dX9_bestToAsk_97 : decode cX9_bestToAsk 97 = .ok (.ireturn, 1) := by decide +kernel
end
section
theorem dX10_init_0 : decode cX10_init 0 = .ok (.aload_n 0, 1) := by decide +kernel
theorem dX10_init_1 : decode cX10_init 1 = .ok (.invokespecial 1, 3) := by decide +kernel
theorem dX10_init_4 : decode cX10_init 4 = .ok (.aload_n 0, 1) := by decide +kernel
theorem dX10_init_5 : decode cX10_init 5 = .ok (.sipush 612, 3) := by decide +kernel
theorem dX10_init_8 : decode cX10_init 8 = .ok (.newarray .int, 2) := by decide +kernel
theorem dX10_init_10 : decode cX10_init 10 = .ok (.putfield 7, 3) := by decide +kernel
theorem dX10_init_13 : decode cX10_init 13 = .ok (.aload_n 0, 1) := by decide +kernel
theorem dX10_init_14 : decode cX10_init 14 = .ok (.iconst 2, 1) := by decide +kernel
theorem dX10_init_15 : decode cX10_init 15 = .ok (.newarray .boolean, 2) := by decide +kernel
theorem dX10_init_17 : decode cX10_init 17 = .ok (.putfield 13, 3) := by decide +kernel
theorem dX10_init_20 : decode cX10_init 20 = .ok (.aload_n 0, 1) := by decide +kernel
theorem dX10_init_21 : decode cX10_init 21 = .ok (.bipush 6, 2) := by decide +kernel
theorem dX10_init_23 : decode cX10_init 23 = .ok (.newarray .int, 2) := by decide +kernel
theorem dX10_init_25 : decode cX10_init 25 = .ok (.putfield 17, 3) := by decide +kernel
theorem dX10_init_28 : decode cX10_init 28 = .ok (.aload_n 0, 1) := by decide +kernel
theorem dX10_init_29 : decode cX10_init 29 = .ok (.bipush 14, 2) := by decide +kernel
theorem dX10_init_31 : decode cX10_init 31 = .ok (.newarray .int, 2) := by decide +kernel
theorem dX10_init_33 : decode cX10_init 33 = .ok (.putfield 20, 3) := by decide +kernel
theorem dX10_init_36 : decode cX10_init 36 = .ok (.aload_n 0, 1) := by decide +kernel
theorem dX10_init_37 : decode cX10_init 37 = .ok (.bipush 14, 2) := by decide +kernel
theorem dX10_init_39 : decode cX10_init 39 = .ok (.newarray .int, 2) := by decide +kernel
theorem dX10_init_41 : decode cX10_init 41 = .ok (.putfield 23, 3) := by decide +kernel
theorem dX10_init_44 : decode cX10_init 44 = .ok (.aload_n 0, 1) := by decide +kernel
theorem dX10_init_45 : decode cX10_init 45 = .ok (.bipush 14, 2) := by decide +kernel
theorem dX10_init_47 : decode cX10_init 47 = .ok (.newarray .int, 2) := by decide +kernel
theorem dX10_init_49 : decode cX10_init 49 = .ok (.putfield 26, 3) := by decide +kernel
theorem dX10_init_52 : decode cX10_init 52 = .ok (.aload_n 0, 1) := by decide +kernel
theorem dX10_init_53 : decode cX10_init 53 = .ok (.bipush 14, 2) := by decide +kernel
theorem dX10_init_55 : decode cX10_init 55 = .ok (.newarray .int, 2) := by decide +kernel
theorem dX10_init_57 : decode cX10_init 57 = .ok (.putfield 29, 3) := by decide +kernel
theorem dX10_init_60 : decode cX10_init 60 = .ok (.aload_n 0, 1) := by decide +kernel
theorem dX10_init_61 : decode cX10_init 61 = .ok (.bipush 14, 2) := by decide +kernel
theorem dX10_init_63 : decode cX10_init 63 = .ok (.newarray .int, 2) := by decide +kernel
theorem dX10_init_65 : decode cX10_init 65 = .ok (.putfield 32, 3) := by decide +kernel
theorem dX10_init_68 : decode cX10_init 68 = .ok (.aload_n 0, 1) := by decide +kernel
theorem dX10_init_69 : decode cX10_init 69 = .ok (.bipush 24, 2) := by decide +kernel
theorem dX10_init_71 : decode cX10_init 71 = .ok (.newarray .int, 2) := by decide +kernel
theorem dX10_init_73 : decode cX10_init 73 = .ok (.putfield 35, 3) := by decide +kernel
theorem dX10_init_76 : decode cX10_init 76 = .ok (.aload_n 0, 1) := by decide +kernel
theorem dX10_init_77 : decode cX10_init 77 = .ok (.sipush 240, 3) := by decide +kernel
theorem dX10_init_80 : decode cX10_init 80 = .ok (.newarray .int, 2) := by decide +kernel
theorem dX10_init_82 : decode cX10_init 82 = .ok (.putfield 38, 3) := by decide +kernel
theorem dX10_init_85 : decode cX10_init 85 = .ok (.aload_n 0, 1) := by decide +kernel
theorem dX10_init_86 : decode cX10_init 86 = .ok (.iconst (-1), 1) := by decide +kernel
theorem dX10_init_87 : decode cX10_init 87 = .ok (.putfield 41, 3) := by decide +kernel
theorem dX10_init_90 : decode cX10_init 90 = .ok (.aload_n 0, 1) := by decide +kernel
theorem dX10_init_91 : decode cX10_init 91 = .ok (.bipush 7, 2) := by decide +kernel
theorem dX10_init_93 : decode cX10_init 93 = .ok (.newarray .int, 2) := by decide +kernel
theorem dX10_init_95 : decode cX10_init 95 = .ok (.putfield 45, 3) := by decide +kernel
theorem dX10_init_98 : decode cX10_init 98 = .ok (.aload_n 0, 1) := by decide +kernel
theorem dX10_init_99 : decode cX10_init 99 = .ok (.bipush 7, 2) := by decide +kernel
theorem dX10_init_101 : decode cX10_init 101 = .ok (.newarray .int, 2) := by decide +kernel
theorem dX10_init_103 : decode cX10_init 103 = .ok (.putfield 48, 3) := by decide +kernel
theorem dX10_init_106 : decode cX10_init 106 = .ok (.aload_n 0, 1) := by decide +kernel
theorem dX10_init_107 : decode cX10_init 107 = .ok (.bipush 6, 2) := by decide +kernel
theorem dX10_init_109 : decode cX10_init 109 = .ok (.newarray .int, 2) := by decide +kernel
theorem dX10_init_111 : decode cX10_init 111 = .ok (.putfield 51, 3) := by decide +kernel
theorem dX10_init_114 : decode cX10_init 114 = .ok (.aload_n 0, 1) := by decide +kernel
theorem dX10_init_115 : decode cX10_init 115 = .ok (.bipush 6, 2) := by decide +kernel
theorem dX10_init_117 : decode cX10_init 117 = .ok (.newarray .boolean, 2) := by decide +kernel
theorem dX10_init_119 : decode cX10_init 119 = .ok (.putfield 54, 3) := by decide +kernel
theorem dX10_init_122 : decode cX10_init 122 = .ok (.aload_n 0, 1) := by decide +kernel
theorem dX10_init_123 : decode cX10_init 123 = .ok (.iconst 4, 1) := by decide +kernel
theorem dX10_init_124 : decode cX10_init 124 = .ok (.newarray .int, 2) := by decide +kernel
theorem dX10_init_126 : decode cX10_init 126 = .ok (.putfield 57, 3) := by decide +kernel
theorem dX10_init_129 : decode cX10_init 129 = .ok (.aload_n 0, 1) := by decide +kernel
theorem dX10_init_130 : decode cX10_init 130 = .ok (.bipush 20, 2) := by decide +kernel
theorem dX10_init_132 : decode cX10_init 132 = .ok (.newarray .int, 2) := by decide +kernel
theorem dX10_init_134 : decode cX10_init 134 = .ok (.putfield 60, 3) := by decide +kernel
theorem dX10_init_137 : decode cX10_init 137 = .ok (.aload_n 0, 1) := by decide +kernel
theorem dX10_init_138 : decode cX10_init 138 = .ok (.bipush 20, 2) := by decide +kernel
theorem dX10_init_140 : decode cX10_init 140 = .ok (.newarray .int, 2) := by decide +kernel
theorem dX10_init_142 : decode cX10_init 142 = .ok (.putfield 63, 3) := by decide +kernel
theorem dX10_init_145 : decode cX10_init 145 = .ok (.return_, 1) := by decide +kernel
theorem dX10_in_0 : decode cX10_in 0 = .ok (.lload_n 0, 1) := by decide +kernel
theorem dX10_in_1 : decode cX10_in 1 = .ok (.lload_n 2, 1) := by decide +kernel
theorem dX10_in_2 : decode cX10_in 2 = .ok (.lcmp, 1) := by decide +kernel
theorem dX10_in_3 : decode cX10_in 3 = .ok (.ifCond .lt 14, 3) := by decide +kernel
theorem dX10_in_6 : decode cX10_in 6 = .ok (.lload_n 0, 1) := by decide +kernel
theorem dX10_in_7 : decode cX10_in 7 = .ok (.lload 4, 2) := by decide +kernel
theorem dX10_in_9 : decode cX10_in 9 = .ok (.lcmp, 1) := by decide +kernel
theorem dX10_in_10 : decode cX10_in 10 = .ok (.ifCond .gt 7, 3) := by decide +kernel
theorem dX10_in_13 : decode cX10_in 13 = .ok (.iconst 1, 1) := by decide +kernel
theorem dX10_in_14 : decode cX10_in 14 = .ok (.goto 4, 3) := by decide +kernel
theorem dX10_in_17 : decode cX10_in 17 = .ok (.iconst 0, 1) := by decide +kernel
theorem dX10_in_18 : decode cX10_in 18 = .ok (.ireturn, 1) := by decide +kernel
theorem dX10_one_0 : decode cX10_one 0 = .ok (.iload_n 0, 1) := by decide +kernel
theorem dX10_one_1 : decode cX10_one 1 = .ok (.ifCond .eq 7, 3) := by decide +kernel
theorem dX10_one_4 : decode cX10_one 4 = .ok (.iconst 1, 1) := by decide +kernel
theorem dX10_one_5 : decode cX10_one 5 = .ok (.goto 4, 3) := by decide +kernel
theorem dX10_one_8 : decode cX10_one 8 = .ok (.iconst 0, 1) := by decide +kernel
theorem dX10_one_9 : decode cX10_one 9 = .ok (.ireturn, 1) := by decide +kernel
theorem dX10_has_0 : decode cX10_has 0 = .ok (.iload_n 0, 1) := by decide +kernel
theorem dX10_has_1 : decode cX10_has 1 = .ok (.iload_n 1, 1) := by decide +kernel
theorem dX10_has_2 : decode cX10_has 2 = .ok (.ishr, 1) := by decide +kernel
theorem dX10_has_3 : decode cX10_has 3 = .ok (.iconst 1, 1) := by decide +kernel
theorem dX10_has_4 : decode cX10_has 4 = .ok (.iand, 1) := by decide +kernel
theorem dX10_has_5 : decode cX10_has 5 = .ok (.iconst 1, 1) := by decide +kernel
theorem dX10_has_6 : decode cX10_has 6 = .ok (.if_icmp .ne 7, 3) := by decide +kernel
theorem dX10_has_9 : decode cX10_has 9 = .ok (.iconst 1, 1) := by decide +kernel
theorem dX10_has_10 : decode cX10_has 10 = .ok (.goto 4, 3) := by decide +kernel
theorem dX10_has_13 : decode cX10_has 13 = .ok (.iconst 0, 1) := by decide +kernel
theorem dX10_has_14 : decode cX10_has 14 = .ok (.ireturn, 1) := by decide +kernel
theorem dX10_far_0 : decode cX10_far 0 = .ok (.iload_n 0, 1) := by decide +kernel
theorem dX10_far_1 : decode cX10_far 1 = .ok (.iload_n 1, 1) := by decide +kernel
theorem dX10_far_2 : decode cX10_far 2 = .ok (.if_icmp .ge 9, 3) := by decide +kernel
theorem dX10_far_5 : decode cX10_far 5 = .ok (.iload_n 1, 1) := by decide +kernel
theorem dX10_far_6 : decode cX10_far 6 = .ok (.iload_n 0, 1) := by decide +kernel
theorem dX10_far_7 : decode cX10_far 7 = .ok (.isub, 1) := by decide +kernel
theorem dX10_far_8 : decode cX10_far 8 = .ok (.goto 6, 3) := by decide +kernel
theorem dX10_far_11 : decode cX10_far 11 = .ok (.iload_n 0, 1) := by decide +kernel
theorem dX10_far_12 : decode cX10_far 12 = .ok (.iload_n 1, 1) := by decide +kernel
theorem dX10_far_13 : decode cX10_far 13 = .ok (.isub, 1) := by decide +kernel
theorem dX10_far_14 : decode cX10_far 14 = .ok (.ireturn, 1) := by decide +kernel
theorem dX10_feed_0 : decode cX10_feed 0 = .ok (.iload_n 1, 1) := by decide +kernel
theorem dX10_feed_1 : decode cX10_feed 1 = .ok (.i2l, 1) := by decide +kernel
theorem dX10_feed_2 : decode cX10_feed 2 = .ok (.lconst 0, 1) := by decide +kernel
theorem dX10_feed_3 : decode cX10_feed 3 = .ok (.ldc2_w 66, 3) := by decide +kernel
theorem dX10_feed_6 : decode cX10_feed 6 = .ok (.invokestatic 68, 3) := by decide +kernel
theorem dX10_feed_9 : decode cX10_feed 9 = .ok (.ifCond .ne 6, 3) := by decide +kernel
theorem dX10_feed_12 : decode cX10_feed 12 = .ok (.ldc 72, 2) := by decide +kernel
theorem dX10_feed_14 : decode cX10_feed 14 = .ok (.ireturn, 1) := by decide +kernel
theorem dX10_feed_15 : decode cX10_feed 15 = .ok (.aload_n 0, 1) := by decide +kernel
theorem dX10_feed_16 : decode cX10_feed 16 = .ok (.getfield 73, 3) := by decide +kernel
theorem dX10_feed_19 : decode cX10_feed 19 = .ok (.sipush 240, 3) := by decide +kernel
theorem dX10_feed_22 : decode cX10_feed 22 = .ok (.if_icmp .ne 6, 3) := by decide +kernel
theorem dX10_feed_25 : decode cX10_feed 25 = .ok (.ldc 76, 2) := by decide +kernel
theorem dX10_feed_27 : decode cX10_feed 27 = .ok (.ireturn, 1) := by decide +kernel
theorem dX10_feed_28 : decode cX10_feed 28 = .ok (.aload_n 0, 1) := by decide +kernel
theorem dX10_feed_29 : decode cX10_feed 29 = .ok (.getfield 38, 3) := by decide +kernel
theorem dX10_feed_32 : decode cX10_feed 32 = .ok (.aload_n 0, 1) := by decide +kernel
theorem dX10_feed_33 : decode cX10_feed 33 = .ok (.getfield 73, 3) := by decide +kernel
theorem dX10_feed_36 : decode cX10_feed 36 = .ok (.iload_n 1, 1) := by decide +kernel
theorem dX10_feed_37 : decode cX10_feed 37 = .ok (.iastore, 1) := by decide +kernel
theorem dX10_feed_38 : decode cX10_feed 38 = .ok (.aload_n 0, 1) := by decide +kernel
theorem dX10_feed_39 : decode cX10_feed 39 = .ok (.dup, 1) := by decide +kernel
theorem dX10_feed_40 : decode cX10_feed 40 = .ok (.getfield 73, 3) := by decide +kernel
theorem dX10_feed_43 : decode cX10_feed 43 = .ok (.iconst 1, 1) := by decide +kernel
theorem dX10_feed_44 : decode cX10_feed 44 = .ok (.iadd, 1) := by decide +kernel
theorem dX10_feed_45 : decode cX10_feed 45 = .ok (.putfield 73, 3) := by decide +kernel
theorem dX10_feed_48 : decode cX10_feed 48 = .ok (.aload_n 0, 1) := by decide +kernel
theorem dX10_feed_49 : decode cX10_feed 49 = .ok (.getfield 73, 3) := by decide +kernel
theorem dX10_feed_52 : decode cX10_feed 52 = .ok (.ireturn, 1) := by decide +kernel
theorem dX10_here_0 : decode cX10_here 0 = .ok (.aload_n 0, 1) := by decide +kernel
theorem dX10_here_1 : decode cX10_here 1 = .ok (.getfield 77, 3) := by decide +kernel
theorem dX10_here_4 : decode cX10_here 4 = .ok (.aload_n 0, 1) := by decide +kernel
theorem dX10_here_5 : decode cX10_here 5 = .ok (.getfield 73, 3) := by decide +kernel
theorem dX10_here_8 : decode cX10_here 8 = .ok (.if_icmp .ge 30, 3) := by decide +kernel
theorem dX10_here_11 : decode cX10_here 11 = .ok (.aload_n 0, 1) := by decide +kernel
theorem dX10_here_12 : decode cX10_here 12 = .ok (.getfield 38, 3) := by decide +kernel
theorem dX10_here_15 : decode cX10_here 15 = .ok (.aload_n 0, 1) := by decide +kernel
theorem dX10_here_16 : decode cX10_here 16 = .ok (.getfield 77, 3) := by decide +kernel
theorem dX10_here_19 : decode cX10_here 19 = .ok (.iaload, 1) := by decide +kernel
theorem dX10_here_20 : decode cX10_here 20 = .ok (.bipush 32, 2) := by decide +kernel
theorem dX10_here_22 : decode cX10_here 22 = .ok (.if_icmp .ne 16, 3) := by decide +kernel
theorem dX10_here_25 : decode cX10_here 25 = .ok (.aload_n 0, 1) := by decide +kernel
theorem dX10_here_26 : decode cX10_here 26 = .ok (.dup, 1) := by decide +kernel
theorem dX10_here_27 : decode cX10_here 27 = .ok (.getfield 77, 3) := by decide +kernel
theorem dX10_here_30 : decode cX10_here 30 = .ok (.iconst 1, 1) := by decide +kernel
theorem dX10_here_31 : decode cX10_here 31 = .ok (.iadd, 1) := by decide +kernel
theorem dX10_here_32 : decode cX10_here 32 = .ok (.putfield 77, 3) := by decide +kernel
theorem dX10_here_35 : decode cX10_here 35 = .ok (.goto (-35), 3) := by decide +kernel
theorem dX10_here_38 : decode cX10_here 38 = .ok (.aload_n 0, 1) := by decide +kernel
theorem dX10_here_39 : decode cX10_here 39 = .ok (.getfield 77, 3) := by decide +kernel
theorem dX10_here_42 : decode cX10_here 42 = .ok (.aload_n 0, 1) := by decide +kernel
theorem dX10_here_43 : decode cX10_here 43 = .ok (.getfield 73, 3) := by decide +kernel
theorem dX10_here_46 : decode cX10_here 46 = .ok (.if_icmp .ge 15, 3) := by decide +kernel
theorem dX10_here_49 : decode cX10_here 49 = .ok (.aload_n 0, 1) := by decide +kernel
theorem dX10_here_50 : decode cX10_here 50 = .ok (.getfield 38, 3) := by decide +kernel
theorem dX10_here_53 : decode cX10_here 53 = .ok (.aload_n 0, 1) := by decide +kernel
theorem dX10_here_54 : decode cX10_here 54 = .ok (.getfield 77, 3) := by decide +kernel
theorem dX10_here_57 : decode cX10_here 57 = .ok (.iaload, 1) := by decide +kernel
theorem dX10_here_58 : decode cX10_here 58 = .ok (.goto 4, 3) := by decide +kernel
theorem dX10_here_61 : decode cX10_here 61 = .ok (.iconst (-1), 1) := by decide +kernel
theorem dX10_here_62 : decode cX10_here 62 = .ok (.ireturn, 1) := by decide +kernel
theorem dX10_want_0 : decode cX10_want 0 = .ok (.iload_n 1, 1) := by decide +kernel
theorem dX10_want_1 : decode cX10_want 1 = .ok (.ifCond .ne 20, 3) := by decide +kernel
theorem dX10_want_4 : decode cX10_want 4 = .ok (.aload_n 0, 1) := by decide +kernel
theorem dX10_want_5 : decode cX10_want 5 = .ok (.getfield 80, 3) := by decide +kernel
theorem dX10_want_8 : decode cX10_want 8 = .ok (.ifCond .ne 13, 3) := by decide +kernel
theorem dX10_want_11 : decode cX10_want 11 = .ok (.aload_n 0, 1) := by decide +kernel
theorem dX10_want_12 : decode cX10_want 12 = .ok (.iload_n 2, 1) := by decide +kernel
theorem dX10_want_13 : decode cX10_want 13 = .ok (.putfield 80, 3) := by decide +kernel
theorem dX10_want_16 : decode cX10_want 16 = .ok (.aload_n 0, 1) := by decide +kernel
theorem dX10_want_17 : decode cX10_want 17 = .ok (.iload_n 3, 1) := by decide +kernel
theorem dX10_want_18 : decode cX10_want 18 = .ok (.putfield 41, 3) := by decide +kernel
theorem dX10_want_21 : decode cX10_want 21 = .ok (.aload_n 0, 1) := by decide +kernel
theorem dX10_want_22 : decode cX10_want 22 = .ok (.getfield 80, 3) := by decide +kernel
theorem dX10_want_25 : decode cX10_want 25 = .ok (.ifCond .ne 7, 3) := by decide +kernel
theorem dX10_want_28 : decode cX10_want 28 = .ok (.iconst 1, 1) := by decide +kernel
theorem dX10_want_29 : decode cX10_want 29 = .ok (.goto 4, 3) := by decide +kernel
theorem dX10_want_32 : decode cX10_want 32 = .ok (.iconst 0, 1) := by decide +kernel
theorem dX10_want_33 : decode cX10_want 33 = .ok (.ireturn, 1) := by decide +kernel
theorem dX10_takeNumber_0 : decode cX10_takeNumber 0 = .ok (.aload_n 0, 1) := by decide +kernel
theorem dX10_takeNumber_1 : decode cX10_takeNumber 1 = .ok (.getfield 80, 3) := by decide +kernel
theorem dX10_takeNumber_4 : decode cX10_takeNumber 4 = .ok (.ifCond .le 5, 3) := by decide +kernel
theorem dX10_takeNumber_7 : decode cX10_takeNumber 7 = .ok (.iconst 0, 1) := by decide +kernel
theorem dX10_takeNumber_8 : decode cX10_takeNumber 8 = .ok (.ireturn, 1) := by decide +kernel
theorem dX10_takeNumber_9 : decode cX10_takeNumber 9 = .ok (.aload_n 0, 1) := by decide +kernel
theorem dX10_takeNumber_10 : decode cX10_takeNumber 10 = .ok (.invokevirtual 83, 3) := by decide +kernel
theorem dX10_takeNumber_13 : decode cX10_takeNumber 13 = .ok (.istore_n 1, 1) := by decide +kernel
theorem dX10_takeNumber_14 : decode cX10_takeNumber 14 = .ok (.aload_n 0, 1) := by decide +kernel
theorem dX10_takeNumber_15 : decode cX10_takeNumber 15 = .ok (.aload_n 0, 1) := by decide +kernel
theorem dX10_takeNumber_16 : decode cX10_takeNumber 16 = .ok (.getfield 77, 3) := by decide +kernel
theorem dX10_takeNumber_19 : decode cX10_takeNumber 19 = .ok (.putfield 87, 3) := by decide +kernel
theorem dX10_takeNumber_22 : decode cX10_takeNumber 22 = .ok (.aload_n 0, 1) := by decide +kernel
theorem dX10_takeNumber_23 : decode cX10_takeNumber 23 = .ok (.iload_n 1, 1) := by decide +kernel
theorem dX10_takeNumber_24 : decode cX10_takeNumber 24 = .ok (.i2l, 1) := by decide +kernel
theorem dX10_takeNumber_25 : decode cX10_takeNumber 25 = .ok (.ldc2_w 90, 3) := by decide +kernel
theorem dX10_takeNumber_28 : decode cX10_takeNumber 28 = .ok (.ldc2_w 92, 3) := by decide +kernel
theorem dX10_takeNumber_31 : decode cX10_takeNumber 31 = .ok (.invokestatic 68, 3) := by decide +kernel
theorem dX10_takeNumber_34 : decode cX10_takeNumber 34 = .ok (.iconst 1, 1) := by decide +kernel
theorem dX10_takeNumber_35 : decode cX10_takeNumber 35 = .ok (.aload_n 0, 1) := by decide +kernel
theorem dX10_takeNumber_36 : decode cX10_takeNumber 36 = .ok (.getfield 77, 3) := by decide +kernel
theorem dX10_takeNumber_39 : decode cX10_takeNumber 39 = .ok (.invokevirtual 94, 3) := by decide +kernel
theorem dX10_takeNumber_42 : decode cX10_takeNumber 42 = .ok (.ifCond .ne 5, 3) := by decide +kernel
theorem dX10_takeNumber_45 : decode cX10_takeNumber 45 = .ok (.iconst 0, 1) := by decide +kernel
theorem dX10_takeNumber_46 : decode cX10_takeNumber 46 = .ok (.ireturn, 1) := by decide +kernel
theorem dX10_takeNumber_47 : decode cX10_takeNumber 47 = .ok (.iconst 0, 1) := by decide +kernel
theorem dX10_takeNumber_48 : decode cX10_takeNumber 48 = .ok (.istore_n 2, 1) := by decide +kernel
theorem dX10_takeNumber_49 : decode cX10_takeNumber 49 = .ok (.aload_n 0, 1) := by decide +kernel
theorem dX10_takeNumber_50 : decode cX10_takeNumber 50 = .ok (.getfield 77, 3) := by decide +kernel
theorem dX10_takeNumber_53 : decode cX10_takeNumber 53 = .ok (.aload_n 0, 1) := by decide +kernel
theorem dX10_takeNumber_54 : decode cX10_takeNumber 54 = .ok (.getfield 73, 3) := by decide +kernel
theorem dX10_takeNumber_57 : decode cX10_takeNumber 57 = .ok (.if_icmp .ge 66, 3) := by decide +kernel
theorem dX10_takeNumber_60 : decode cX10_takeNumber 60 = .ok (.aload_n 0, 1) := by decide +kernel
theorem dX10_takeNumber_61 : decode cX10_takeNumber 61 = .ok (.getfield 38, 3) := by decide +kernel
theorem dX10_takeNumber_64 : decode cX10_takeNumber 64 = .ok (.aload_n 0, 1) := by decide +kernel
theorem dX10_takeNumber_65 : decode cX10_takeNumber 65 = .ok (.getfield 77, 3) := by decide +kernel
theorem dX10_takeNumber_68 : decode cX10_takeNumber 68 = .ok (.iaload, 1) := by decide +kernel
theorem dX10_takeNumber_69 : decode cX10_takeNumber 69 = .ok (.i2l, 1) := by decide +kernel
theorem dX10_takeNumber_70 : decode cX10_takeNumber 70 = .ok (.ldc2_w 90, 3) := by decide +kernel
theorem dX10_takeNumber_73 : decode cX10_takeNumber 73 = .ok (.ldc2_w 92, 3) := by decide +kernel
theorem dX10_takeNumber_76 : decode cX10_takeNumber 76 = .ok (.invokestatic 68, 3) := by decide +kernel
theorem dX10_takeNumber_79 : decode cX10_takeNumber 79 = .ok (.ifCond .eq 44, 3) := by decide +kernel
theorem dX10_takeNumber_82 : decode cX10_takeNumber 82 = .ok (.iload_n 2, 1) := by decide +kernel
theorem dX10_takeNumber_83 : decode cX10_takeNumber 83 = .ok (.ldc 98, 2) := by decide +kernel
theorem dX10_takeNumber_85 : decode cX10_takeNumber 85 = .ok (.if_icmp .le 7, 3) := by decide +kernel
theorem dX10_takeNumber_88 : decode cX10_takeNumber 88 = .ok (.iload_n 2, 1) := by decide +kernel
theorem dX10_takeNumber_89 : decode cX10_takeNumber 89 = .ok (.goto 20, 3) := by decide +kernel
theorem dX10_takeNumber_92 : decode cX10_takeNumber 92 = .ok (.bipush 10, 2) := by decide +kernel
theorem dX10_takeNumber_94 : decode cX10_takeNumber 94 = .ok (.iload_n 2, 1) := by decide +kernel
theorem dX10_takeNumber_95 : decode cX10_takeNumber 95 = .ok (.imul, 1) := by decide +kernel
theorem dX10_takeNumber_96 : decode cX10_takeNumber 96 = .ok (.aload_n 0, 1) := by decide +kernel
theorem dX10_takeNumber_97 : decode cX10_takeNumber 97 = .ok (.getfield 38, 3) := by decide +kernel
theorem dX10_takeNumber_100 : decode cX10_takeNumber 100 = .ok (.aload_n 0, 1) := by decide +kernel
theorem dX10_takeNumber_101 : decode cX10_takeNumber 101 = .ok (.getfield 77, 3) := by decide +kernel
theorem dX10_takeNumber_104 : decode cX10_takeNumber 104 = .ok (.iaload, 1) := by decide +kernel
theorem dX10_takeNumber_105 : decode cX10_takeNumber 105 = .ok (.iadd, 1) := by decide +kernel
theorem dX10_takeNumber_106 : decode cX10_takeNumber 106 = .ok (.bipush 48, 2) := by decide +kernel
theorem dX10_takeNumber_108 : decode cX10_takeNumber 108 = .ok (.isub, 1) := by decide +kernel
theorem dX10_takeNumber_109 : decode cX10_takeNumber 109 = .ok (.istore_n 2, 1) := by decide +kernel
theorem dX10_takeNumber_110 : decode cX10_takeNumber 110 = .ok (.aload_n 0, 1) := by decide +kernel
theorem dX10_takeNumber_111 : decode cX10_takeNumber 111 = .ok (.dup, 1) := by decide +kernel
theorem dX10_takeNumber_112 : decode cX10_takeNumber 112 = .ok (.getfield 77, 3) := by decide +kernel
theorem dX10_takeNumber_115 : decode cX10_takeNumber 115 = .ok (.iconst 1, 1) := by decide +kernel
theorem dX10_takeNumber_116 : decode cX10_takeNumber 116 = .ok (.iadd, 1) := by decide +kernel
theorem dX10_takeNumber_117 : decode cX10_takeNumber 117 = .ok (.putfield 77, 3) := by decide +kernel
theorem dX10_takeNumber_120 : decode cX10_takeNumber 120 = .ok (.goto (-71), 3) := by decide +kernel
theorem dX10_takeNumber_123 : decode cX10_takeNumber 123 = .ok (.aload_n 0, 1) := by decide +kernel
theorem dX10_takeNumber_124 : decode cX10_takeNumber 124 = .ok (.aload_n 0, 1) := by decide +kernel
theorem dX10_takeNumber_125 : decode cX10_takeNumber 125 = .ok (.getfield 77, 3) := by decide +kernel
theorem dX10_takeNumber_128 : decode cX10_takeNumber 128 = .ok (.aload_n 0, 1) := by decide +kernel
theorem dX10_takeNumber_129 : decode cX10_takeNumber 129 = .ok (.getfield 87, 3) := by decide +kernel
theorem dX10_takeNumber_132 : decode cX10_takeNumber 132 = .ok (.isub, 1) := by decide +kernel
theorem dX10_takeNumber_133 : decode cX10_takeNumber 133 = .ok (.iconst 5, 1) := by decide +kernel
theorem dX10_takeNumber_134 : decode cX10_takeNumber 134 = .ok (.if_icmp .ge 7, 3) := by decide +kernel
theorem dX10_takeNumber_137 : decode cX10_takeNumber 137 = .ok (.iconst 1, 1) := by decide +kernel
theorem dX10_takeNumber_138 : decode cX10_takeNumber 138 = .ok (.goto 4, 3) := by decide +kernel
theorem dX10_takeNumber_141 : decode cX10_takeNumber 141 = .ok (.iconst 0, 1) := by decide +kernel
theorem dX10_takeNumber_142 : decode cX10_takeNumber 142 = .ok (.iconst 2, 1) := by decide +kernel
theorem dX10_takeNumber_143 : decode cX10_takeNumber 143 = .ok (.aload_n 0, 1) := by decide +kernel
theorem dX10_takeNumber_144 : decode cX10_takeNumber 144 = .ok (.getfield 87, 3) := by decide +kernel
theorem dX10_takeNumber_147 : decode cX10_takeNumber 147 = .ok (.invokevirtual 94, 3) := by decide +kernel
theorem dX10_takeNumber_150 : decode cX10_takeNumber 150 = .ok (.istore_n 3, 1) := by decide +kernel
theorem dX10_takeNumber_151 : decode cX10_takeNumber 151 = .ok (.iload_n 2, 1) := by decide +kernel
theorem dX10_takeNumber_152 : decode cX10_takeNumber 152 = .ok (.ireturn, 1) := by decide +kernel
theorem dX10_takeIn_0 : decode cX10_takeIn 0 = .ok (.aload_n 0, 1) := by decide +kernel
theorem dX10_takeIn_1 : decode cX10_takeIn 1 = .ok (.invokevirtual 99, 3) := by decide +kernel
theorem dX10_takeIn_4 : decode cX10_takeIn 4 = .ok (.istore_n 3, 1) := by decide +kernel
theorem dX10_takeIn_5 : decode cX10_takeIn 5 = .ok (.aload_n 0, 1) := by decide +kernel
theorem dX10_takeIn_6 : decode cX10_takeIn 6 = .ok (.aload_n 0, 1) := by decide +kernel
theorem dX10_takeIn_7 : decode cX10_takeIn 7 = .ok (.getfield 80, 3) := by decide +kernel
theorem dX10_takeIn_10 : decode cX10_takeIn 10 = .ok (.ifCond .gt 15, 3) := by decide +kernel
theorem dX10_takeIn_13 : decode cX10_takeIn 13 = .ok (.iload_n 3, 1) := by decide +kernel
theorem dX10_takeIn_14 : decode cX10_takeIn 14 = .ok (.i2l, 1) := by decide +kernel
theorem dX10_takeIn_15 : decode cX10_takeIn 15 = .ok (.iload_n 1, 1) := by decide +kernel
theorem dX10_takeIn_16 : decode cX10_takeIn 16 = .ok (.i2l, 1) := by decide +kernel
theorem dX10_takeIn_17 : decode cX10_takeIn 17 = .ok (.iload_n 2, 1) := by decide +kernel
theorem dX10_takeIn_18 : decode cX10_takeIn 18 = .ok (.i2l, 1) := by decide +kernel
theorem dX10_takeIn_19 : decode cX10_takeIn 19 = .ok (.invokestatic 68, 3) := by decide +kernel
theorem dX10_takeIn_22 : decode cX10_takeIn 22 = .ok (.ifCond .eq 7, 3) := by decide +kernel
theorem dX10_takeIn_25 : decode cX10_takeIn 25 = .ok (.iconst 1, 1) := by decide +kernel
theorem dX10_takeIn_26 : decode cX10_takeIn 26 = .ok (.goto 4, 3) := by decide +kernel
theorem dX10_takeIn_29 : decode cX10_takeIn 29 = .ok (.iconst 0, 1) := by decide +kernel
theorem dX10_takeIn_30 : decode cX10_takeIn 30 = .ok (.iconst 2, 1) := by decide +kernel
theorem dX10_takeIn_31 : decode cX10_takeIn 31 = .ok (.aload_n 0, 1) := by decide +kernel
theorem dX10_takeIn_32 : decode cX10_takeIn 32 = .ok (.getfield 87, 3) := by decide +kernel
theorem dX10_takeIn_35 : decode cX10_takeIn 35 = .ok (.invokevirtual 94, 3) := by decide +kernel
theorem dX10_takeIn_38 : decode cX10_takeIn 38 = .ok (.istore 4, 2) := by decide +kernel
theorem dX10_takeIn_40 : decode cX10_takeIn 40 = .ok (.aload_n 0, 1) := by decide +kernel
theorem dX10_takeIn_41 : decode cX10_takeIn 41 = .ok (.getfield 80, 3) := by decide +kernel
theorem dX10_takeIn_44 : decode cX10_takeIn 44 = .ok (.ifCond .le 7, 3) := by decide +kernel
theorem dX10_takeIn_47 : decode cX10_takeIn 47 = .ok (.iconst 0, 1) := by decide +kernel
theorem dX10_takeIn_48 : decode cX10_takeIn 48 = .ok (.goto 4, 3) := by decide +kernel
theorem dX10_takeIn_51 : decode cX10_takeIn 51 = .ok (.iload_n 3, 1) := by decide +kernel
theorem dX10_takeIn_52 : decode cX10_takeIn 52 = .ok (.ireturn, 1) := by decide +kernel
theorem dX10_takeRule_0 : decode cX10_takeRule 0 = .ok (.aload_n 0, 1) := by decide +kernel
theorem dX10_takeRule_1 : decode cX10_takeRule 1 = .ok (.aload_n 0, 1) := by decide +kernel
theorem dX10_takeRule_2 : decode cX10_takeRule 2 = .ok (.getfield 17, 3) := by decide +kernel
theorem dX10_takeRule_5 : decode cX10_takeRule 5 = .ok (.iconst 3, 1) := by decide +kernel
theorem dX10_takeRule_6 : decode cX10_takeRule 6 = .ok (.iaload, 1) := by decide +kernel
theorem dX10_takeRule_7 : decode cX10_takeRule 7 = .ok (.ifCond .ne 7, 3) := by decide +kernel
theorem dX10_takeRule_10 : decode cX10_takeRule 10 = .ok (.iconst 1, 1) := by decide +kernel
theorem dX10_takeRule_11 : decode cX10_takeRule 11 = .ok (.goto 4, 3) := by decide +kernel
theorem dX10_takeRule_14 : decode cX10_takeRule 14 = .ok (.iconst 0, 1) := by decide +kernel
theorem dX10_takeRule_15 : decode cX10_takeRule 15 = .ok (.iconst 3, 1) := by decide +kernel
theorem dX10_takeRule_16 : decode cX10_takeRule 16 = .ok (.iload_n 1, 1) := by decide +kernel
theorem dX10_takeRule_17 : decode cX10_takeRule 17 = .ok (.invokevirtual 94, 3) := by decide +kernel
theorem dX10_takeRule_20 : decode cX10_takeRule 20 = .ok (.ifCond .eq 44, 3) := by decide +kernel
theorem dX10_takeRule_23 : decode cX10_takeRule 23 = .ok (.aload_n 0, 1) := by decide +kernel
theorem dX10_takeRule_24 : decode cX10_takeRule 24 = .ok (.iconst 1, 1) := by decide +kernel
theorem dX10_takeRule_25 : decode cX10_takeRule 25 = .ok (.bipush 90, 2) := by decide +kernel
theorem dX10_takeRule_27 : decode cX10_takeRule 27 = .ok (.invokevirtual 102, 3) := by decide +kernel
theorem dX10_takeRule_30 : decode cX10_takeRule 30 = .ok (.istore_n 2, 1) := by decide +kernel
theorem dX10_takeRule_31 : decode cX10_takeRule 31 = .ok (.aload_n 0, 1) := by decide +kernel
theorem dX10_takeRule_32 : decode cX10_takeRule 32 = .ok (.getfield 17, 3) := by decide +kernel
theorem dX10_takeRule_35 : decode cX10_takeRule 35 = .ok (.iconst 4, 1) := by decide +kernel
theorem dX10_takeRule_36 : decode cX10_takeRule 36 = .ok (.aload_n 0, 1) := by decide +kernel
theorem dX10_takeRule_37 : decode cX10_takeRule 37 = .ok (.iconst 0, 1) := by decide +kernel
theorem dX10_takeRule_38 : decode cX10_takeRule 38 = .ok (.bipush 99, 2) := by decide +kernel
theorem dX10_takeRule_40 : decode cX10_takeRule 40 = .ok (.invokevirtual 102, 3) := by decide +kernel
theorem dX10_takeRule_43 : decode cX10_takeRule 43 = .ok (.iastore, 1) := by decide +kernel
theorem dX10_takeRule_44 : decode cX10_takeRule 44 = .ok (.aload_n 0, 1) := by decide +kernel
theorem dX10_takeRule_45 : decode cX10_takeRule 45 = .ok (.getfield 17, 3) := by decide +kernel
theorem dX10_takeRule_48 : decode cX10_takeRule 48 = .ok (.iconst 5, 1) := by decide +kernel
theorem dX10_takeRule_49 : decode cX10_takeRule 49 = .ok (.aload_n 0, 1) := by decide +kernel
theorem dX10_takeRule_50 : decode cX10_takeRule 50 = .ok (.iconst 1, 1) := by decide +kernel
theorem dX10_takeRule_51 : decode cX10_takeRule 51 = .ok (.bipush 30, 2) := by decide +kernel
theorem dX10_takeRule_53 : decode cX10_takeRule 53 = .ok (.invokevirtual 102, 3) := by decide +kernel
theorem dX10_takeRule_56 : decode cX10_takeRule 56 = .ok (.iastore, 1) := by decide +kernel
theorem dX10_takeRule_57 : decode cX10_takeRule 57 = .ok (.aload_n 0, 1) := by decide +kernel
theorem dX10_takeRule_58 : decode cX10_takeRule 58 = .ok (.getfield 17, 3) := by decide +kernel
theorem dX10_takeRule_61 : decode cX10_takeRule 61 = .ok (.iconst 3, 1) := by decide +kernel
theorem dX10_takeRule_62 : decode cX10_takeRule 62 = .ok (.iload_n 2, 1) := by decide +kernel
theorem dX10_takeRule_63 : decode cX10_takeRule 63 = .ok (.iastore, 1) := by decide +kernel
theorem dX10_takeRule_64 : decode cX10_takeRule 64 = .ok (.return_, 1) := by decide +kernel
theorem dX10_takeStop_0 : decode cX10_takeStop 0 = .ok (.aload_n 0, 1) := by decide +kernel
theorem dX10_takeStop_1 : decode cX10_takeStop 1 = .ok (.aload_n 0, 1) := by decide +kernel
theorem dX10_takeStop_2 : decode cX10_takeStop 2 = .ok (.getfield 106, 3) := by decide +kernel
theorem dX10_takeStop_5 : decode cX10_takeStop 5 = .ok (.bipush 7, 2) := by decide +kernel
theorem dX10_takeStop_7 : decode cX10_takeStop 7 = .ok (.if_icmp .ge 7, 3) := by decide +kernel
theorem dX10_takeStop_10 : decode cX10_takeStop 10 = .ok (.iconst 1, 1) := by decide +kernel
theorem dX10_takeStop_11 : decode cX10_takeStop 11 = .ok (.goto 4, 3) := by decide +kernel
theorem dX10_takeStop_14 : decode cX10_takeStop 14 = .ok (.iconst 0, 1) := by decide +kernel
theorem dX10_takeStop_15 : decode cX10_takeStop 15 = .ok (.iconst 3, 1) := by decide +kernel
theorem dX10_takeStop_16 : decode cX10_takeStop 16 = .ok (.iload_n 1, 1) := by decide +kernel
theorem dX10_takeStop_17 : decode cX10_takeStop 17 = .ok (.invokevirtual 94, 3) := by decide +kernel
theorem dX10_takeStop_20 : decode cX10_takeStop 20 = .ok (.ifCond .eq 75, 3) := by decide +kernel
theorem dX10_takeStop_23 : decode cX10_takeStop 23 = .ok (.bipush 7, 2) := by decide +kernel
theorem dX10_takeStop_25 : decode cX10_takeStop 25 = .ok (.aload_n 0, 1) := by decide +kernel
theorem dX10_takeStop_26 : decode cX10_takeStop 26 = .ok (.getfield 106, 3) := by decide +kernel
theorem dX10_takeStop_29 : decode cX10_takeStop 29 = .ok (.iadd, 1) := by decide +kernel
theorem dX10_takeStop_30 : decode cX10_takeStop 30 = .ok (.istore_n 2, 1) := by decide +kernel
theorem dX10_takeStop_31 : decode cX10_takeStop 31 = .ok (.aload_n 0, 1) := by decide +kernel
theorem dX10_takeStop_32 : decode cX10_takeStop 32 = .ok (.getfield 20, 3) := by decide +kernel
theorem dX10_takeStop_35 : decode cX10_takeStop 35 = .ok (.iload_n 2, 1) := by decide +kernel
theorem dX10_takeStop_36 : decode cX10_takeStop 36 = .ok (.aload_n 0, 1) := by decide +kernel
theorem dX10_takeStop_37 : decode cX10_takeStop 37 = .ok (.iconst 0, 1) := by decide +kernel
theorem dX10_takeStop_38 : decode cX10_takeStop 38 = .ok (.bipush 99, 2) := by decide +kernel
theorem dX10_takeStop_40 : decode cX10_takeStop 40 = .ok (.invokevirtual 102, 3) := by decide +kernel
theorem dX10_takeStop_43 : decode cX10_takeStop 43 = .ok (.iastore, 1) := by decide +kernel
theorem dX10_takeStop_44 : decode cX10_takeStop 44 = .ok (.aload_n 0, 1) := by decide +kernel
theorem dX10_takeStop_45 : decode cX10_takeStop 45 = .ok (.getfield 23, 3) := by decide +kernel
theorem dX10_takeStop_48 : decode cX10_takeStop 48 = .ok (.iload_n 2, 1) := by decide +kernel
theorem dX10_takeStop_49 : decode cX10_takeStop 49 = .ok (.aload_n 0, 1) := by decide +kernel
theorem dX10_takeStop_50 : decode cX10_takeStop 50 = .ok (.iconst 0, 1) := by decide +kernel
theorem dX10_takeStop_51 : decode cX10_takeStop 51 = .ok (.sipush 4095, 3) := by decide +kernel
theorem dX10_takeStop_54 : decode cX10_takeStop 54 = .ok (.invokevirtual 102, 3) := by decide +kernel
theorem dX10_takeStop_57 : decode cX10_takeStop 57 = .ok (.iastore, 1) := by decide +kernel
theorem dX10_takeStop_58 : decode cX10_takeStop 58 = .ok (.aload_n 0, 1) := by decide +kernel
theorem dX10_takeStop_59 : decode cX10_takeStop 59 = .ok (.getfield 26, 3) := by decide +kernel
theorem dX10_takeStop_62 : decode cX10_takeStop 62 = .ok (.iload_n 2, 1) := by decide +kernel
theorem dX10_takeStop_63 : decode cX10_takeStop 63 = .ok (.aload_n 0, 1) := by decide +kernel
theorem dX10_takeStop_64 : decode cX10_takeStop 64 = .ok (.iconst 0, 1) := by decide +kernel
theorem dX10_takeStop_65 : decode cX10_takeStop 65 = .ok (.bipush 9, 2) := by decide +kernel
theorem dX10_takeStop_67 : decode cX10_takeStop 67 = .ok (.invokevirtual 102, 3) := by decide +kernel
theorem dX10_takeStop_70 : decode cX10_takeStop 70 = .ok (.iastore, 1) := by decide +kernel
theorem dX10_takeStop_71 : decode cX10_takeStop 71 = .ok (.aload_n 0, 1) := by decide +kernel
theorem dX10_takeStop_72 : decode cX10_takeStop 72 = .ok (.getfield 29, 3) := by decide +kernel
theorem dX10_takeStop_75 : decode cX10_takeStop 75 = .ok (.iload_n 2, 1) := by decide +kernel
theorem dX10_takeStop_76 : decode cX10_takeStop 76 = .ok (.iconst (-1), 1) := by decide +kernel
theorem dX10_takeStop_77 : decode cX10_takeStop 77 = .ok (.iastore, 1) := by decide +kernel
theorem dX10_takeStop_78 : decode cX10_takeStop 78 = .ok (.aload_n 0, 1) := by decide +kernel
theorem dX10_takeStop_79 : decode cX10_takeStop 79 = .ok (.getfield 32, 3) := by decide +kernel
theorem dX10_takeStop_82 : decode cX10_takeStop 82 = .ok (.iload_n 2, 1) := by decide +kernel
theorem dX10_takeStop_83 : decode cX10_takeStop 83 = .ok (.iconst 0, 1) := by decide +kernel
theorem dX10_takeStop_84 : decode cX10_takeStop 84 = .ok (.iastore, 1) := by decide +kernel
theorem dX10_takeStop_85 : decode cX10_takeStop 85 = .ok (.aload_n 0, 1) := by decide +kernel
theorem dX10_takeStop_86 : decode cX10_takeStop 86 = .ok (.dup, 1) := by decide +kernel
theorem dX10_takeStop_87 : decode cX10_takeStop 87 = .ok (.getfield 106, 3) := by decide +kernel
theorem dX10_takeStop_90 : decode cX10_takeStop 90 = .ok (.iconst 1, 1) := by decide +kernel
theorem dX10_takeStop_91 : decode cX10_takeStop 91 = .ok (.iadd, 1) := by decide +kernel
theorem dX10_takeStop_92 : decode cX10_takeStop 92 = .ok (.putfield 106, 3) := by decide +kernel
theorem dX10_takeStop_95 : decode cX10_takeStop 95 = .ok (.return_, 1) := by decide +kernel
theorem dX10_takeDins_0 : decode cX10_takeDins 0 = .ok (.aload_n 0, 1) := by decide +kernel
theorem dX10_takeDins_1 : decode cX10_takeDins 1 = .ok (.aload_n 0, 1) := by decide +kernel
theorem dX10_takeDins_2 : decode cX10_takeDins 2 = .ok (.getfield 109, 3) := by decide +kernel
theorem dX10_takeDins_5 : decode cX10_takeDins 5 = .ok (.ifCond .ne 7, 3) := by decide +kernel
theorem dX10_takeDins_8 : decode cX10_takeDins 8 = .ok (.iconst 1, 1) := by decide +kernel
theorem dX10_takeDins_9 : decode cX10_takeDins 9 = .ok (.goto 4, 3) := by decide +kernel
theorem dX10_takeDins_12 : decode cX10_takeDins 12 = .ok (.iconst 0, 1) := by decide +kernel
theorem dX10_takeDins_13 : decode cX10_takeDins 13 = .ok (.iconst 3, 1) := by decide +kernel
theorem dX10_takeDins_14 : decode cX10_takeDins 14 = .ok (.iload_n 1, 1) := by decide +kernel
theorem dX10_takeDins_15 : decode cX10_takeDins 15 = .ok (.invokevirtual 94, 3) := by decide +kernel
theorem dX10_takeDins_18 : decode cX10_takeDins 18 = .ok (.istore_n 2, 1) := by decide +kernel
theorem dX10_takeDins_19 : decode cX10_takeDins 19 = .ok (.iload_n 2, 1) := by decide +kernel
theorem dX10_takeDins_20 : decode cX10_takeDins 20 = .ok (.ifCond .eq 114, 3) := by decide +kernel
theorem dX10_takeDins_23 : decode cX10_takeDins 23 = .ok (.aload_n 0, 1) := by decide +kernel
theorem dX10_takeDins_24 : decode cX10_takeDins 24 = .ok (.getfield 35, 3) := by decide +kernel
theorem dX10_takeDins_27 : decode cX10_takeDins 27 = .ok (.bipush 12, 2) := by decide +kernel
theorem dX10_takeDins_29 : decode cX10_takeDins 29 = .ok (.aload_n 0, 1) := by decide +kernel
theorem dX10_takeDins_30 : decode cX10_takeDins 30 = .ok (.getfield 109, 3) := by decide +kernel
theorem dX10_takeDins_33 : decode cX10_takeDins 33 = .ok (.iadd, 1) := by decide +kernel
theorem dX10_takeDins_34 : decode cX10_takeDins 34 = .ok (.aload_n 0, 1) := by decide +kernel
theorem dX10_takeDins_35 : decode cX10_takeDins 35 = .ok (.iconst 0, 1) := by decide +kernel
theorem dX10_takeDins_36 : decode cX10_takeDins 36 = .ok (.bipush 9, 2) := by decide +kernel
theorem dX10_takeDins_38 : decode cX10_takeDins 38 = .ok (.invokevirtual 102, 3) := by decide +kernel
theorem dX10_takeDins_41 : decode cX10_takeDins 41 = .ok (.iastore, 1) := by decide +kernel
theorem dX10_takeDins_42 : decode cX10_takeDins 42 = .ok (.aload_n 0, 1) := by decide +kernel
theorem dX10_takeDins_43 : decode cX10_takeDins 43 = .ok (.dup, 1) := by decide +kernel
theorem dX10_takeDins_44 : decode cX10_takeDins 44 = .ok (.getfield 109, 3) := by decide +kernel
theorem dX10_takeDins_47 : decode cX10_takeDins 47 = .ok (.iconst 1, 1) := by decide +kernel
theorem dX10_takeDins_48 : decode cX10_takeDins 48 = .ok (.iadd, 1) := by decide +kernel
theorem dX10_takeDins_49 : decode cX10_takeDins 49 = .ok (.putfield 109, 3) := by decide +kernel
theorem dX10_takeDins_52 : decode cX10_takeDins 52 = .ok (.aload_n 0, 1) := by decide +kernel
theorem dX10_takeDins_53 : decode cX10_takeDins 53 = .ok (.getfield 80, 3) := by decide +kernel
theorem dX10_takeDins_56 : decode cX10_takeDins 56 = .ok (.ifCond .ne 16, 3) := by decide +kernel
theorem dX10_takeDins_59 : decode cX10_takeDins 59 = .ok (.aload_n 0, 1) := by decide +kernel
theorem dX10_takeDins_60 : decode cX10_takeDins 60 = .ok (.invokevirtual 83, 3) := by decide +kernel
theorem dX10_takeDins_63 : decode cX10_takeDins 63 = .ok (.bipush 44, 2) := by decide +kernel
theorem dX10_takeDins_65 : decode cX10_takeDins 65 = .ok (.if_icmp .ne 7, 3) := by decide +kernel
theorem dX10_takeDins_68 : decode cX10_takeDins 68 = .ok (.iconst 1, 1) := by decide +kernel
theorem dX10_takeDins_69 : decode cX10_takeDins 69 = .ok (.goto 4, 3) := by decide +kernel
theorem dX10_takeDins_72 : decode cX10_takeDins 72 = .ok (.iconst 0, 1) := by decide +kernel
theorem dX10_takeDins_73 : decode cX10_takeDins 73 = .ok (.istore_n 2, 1) := by decide +kernel
theorem dX10_takeDins_74 : decode cX10_takeDins 74 = .ok (.iload_n 2, 1) := by decide +kernel
theorem dX10_takeDins_75 : decode cX10_takeDins 75 = .ok (.ifCond .eq 39, 3) := by decide +kernel
theorem dX10_takeDins_78 : decode cX10_takeDins 78 = .ok (.aload_n 0, 1) := by decide +kernel
theorem dX10_takeDins_79 : decode cX10_takeDins 79 = .ok (.aload_n 0, 1) := by decide +kernel
theorem dX10_takeDins_80 : decode cX10_takeDins 80 = .ok (.getfield 109, 3) := by decide +kernel
theorem dX10_takeDins_83 : decode cX10_takeDins 83 = .ok (.bipush 12, 2) := by decide +kernel
theorem dX10_takeDins_85 : decode cX10_takeDins 85 = .ok (.if_icmp .ge 7, 3) := by decide +kernel
theorem dX10_takeDins_88 : decode cX10_takeDins 88 = .ok (.iconst 1, 1) := by decide +kernel
theorem dX10_takeDins_89 : decode cX10_takeDins 89 = .ok (.goto 4, 3) := by decide +kernel
theorem dX10_takeDins_92 : decode cX10_takeDins 92 = .ok (.iconst 0, 1) := by decide +kernel
theorem dX10_takeDins_93 : decode cX10_takeDins 93 = .ok (.iconst 1, 1) := by decide +kernel
theorem dX10_takeDins_94 : decode cX10_takeDins 94 = .ok (.aload_n 0, 1) := by decide +kernel
theorem dX10_takeDins_95 : decode cX10_takeDins 95 = .ok (.getfield 77, 3) := by decide +kernel
theorem dX10_takeDins_98 : decode cX10_takeDins 98 = .ok (.invokevirtual 94, 3) := by decide +kernel
theorem dX10_takeDins_101 : decode cX10_takeDins 101 = .ok (.ifCond .eq 13, 3) := by decide +kernel
theorem dX10_takeDins_104 : decode cX10_takeDins 104 = .ok (.aload_n 0, 1) := by decide +kernel
theorem dX10_takeDins_105 : decode cX10_takeDins 105 = .ok (.dup, 1) := by decide +kernel
theorem dX10_takeDins_106 : decode cX10_takeDins 106 = .ok (.getfield 77, 3) := by decide +kernel
theorem dX10_takeDins_109 : decode cX10_takeDins 109 = .ok (.iconst 1, 1) := by decide +kernel
theorem dX10_takeDins_110 : decode cX10_takeDins 110 = .ok (.iadd, 1) := by decide +kernel
theorem dX10_takeDins_111 : decode cX10_takeDins 111 = .ok (.putfield 77, 3) := by decide +kernel
theorem dX10_takeDins_114 : decode cX10_takeDins 114 = .ok (.iload_n 2, 1) := by decide +kernel
theorem dX10_takeDins_115 : decode cX10_takeDins 115 = .ok (.ifCond .eq 14, 3) := by decide +kernel
theorem dX10_takeDins_118 : decode cX10_takeDins 118 = .ok (.aload_n 0, 1) := by decide +kernel
theorem dX10_takeDins_119 : decode cX10_takeDins 119 = .ok (.getfield 80, 3) := by decide +kernel
theorem dX10_takeDins_122 : decode cX10_takeDins 122 = .ok (.ifCond .ne 7, 3) := by decide +kernel
theorem dX10_takeDins_125 : decode cX10_takeDins 125 = .ok (.iconst 1, 1) := by decide +kernel
theorem dX10_takeDins_126 : decode cX10_takeDins 126 = .ok (.goto 4, 3) := by decide +kernel
theorem dX10_takeDins_129 : decode cX10_takeDins 129 = .ok (.iconst 0, 1) := by decide +kernel
theorem dX10_takeDins_130 : decode cX10_takeDins 130 = .ok (.istore_n 2, 1) := by decide +kernel
theorem dX10_takeDins_131 : decode cX10_takeDins 131 = .ok (.goto (-112), 3) := by decide +kernel
theorem dX10_takeDins_134 : decode cX10_takeDins 134 = .ok (.return_, 1) := by decide +kernel
theorem dX10_takeNeighbour_0 : decode cX10_takeNeighbour 0 = .ok (.aload_n 0, 1) := by decide +kernel
theorem dX10_takeNeighbour_1 : decode cX10_takeNeighbour 1 = .ok (.iconst 0, 1) := by decide +kernel
theorem dX10_takeNeighbour_2 : decode cX10_takeNeighbour 2 = .ok (.aload_n 0, 1) := by decide +kernel
theorem dX10_takeNeighbour_3 : decode cX10_takeNeighbour 3 = .ok (.getfield 106, 3) := by decide +kernel
theorem dX10_takeNeighbour_6 : decode cX10_takeNeighbour 6 = .ok (.iconst 1, 1) := by decide +kernel
theorem dX10_takeNeighbour_7 : decode cX10_takeNeighbour 7 = .ok (.isub, 1) := by decide +kernel
theorem dX10_takeNeighbour_8 : decode cX10_takeNeighbour 8 = .ok (.invokevirtual 102, 3) := by decide +kernel
theorem dX10_takeNeighbour_11 : decode cX10_takeNeighbour 11 = .ok (.istore_n 1, 1) := by decide +kernel
theorem dX10_takeNeighbour_12 : decode cX10_takeNeighbour 12 = .ok (.aload_n 0, 1) := by decide +kernel
theorem dX10_takeNeighbour_13 : decode cX10_takeNeighbour 13 = .ok (.getfield 80, 3) := by decide +kernel
theorem dX10_takeNeighbour_16 : decode cX10_takeNeighbour 16 = .ok (.ifCond .gt 33, 3) := by decide +kernel
theorem dX10_takeNeighbour_19 : decode cX10_takeNeighbour 19 = .ok (.aload_n 0, 1) := by decide +kernel
theorem dX10_takeNeighbour_20 : decode cX10_takeNeighbour 20 = .ok (.aload_n 0, 1) := by decide +kernel
theorem dX10_takeNeighbour_21 : decode cX10_takeNeighbour 21 = .ok (.getfield 29, 3) := by decide +kernel
theorem dX10_takeNeighbour_24 : decode cX10_takeNeighbour 24 = .ok (.bipush 7, 2) := by decide +kernel
theorem dX10_takeNeighbour_26 : decode cX10_takeNeighbour 26 = .ok (.iload_n 1, 1) := by decide +kernel
theorem dX10_takeNeighbour_27 : decode cX10_takeNeighbour 27 = .ok (.iadd, 1) := by decide +kernel
theorem dX10_takeNeighbour_28 : decode cX10_takeNeighbour 28 = .ok (.iaload, 1) := by decide +kernel
theorem dX10_takeNeighbour_29 : decode cX10_takeNeighbour 29 = .ok (.iconst (-1), 1) := by decide +kernel
theorem dX10_takeNeighbour_30 : decode cX10_takeNeighbour 30 = .ok (.if_icmp .ne 7, 3) := by decide +kernel
theorem dX10_takeNeighbour_33 : decode cX10_takeNeighbour 33 = .ok (.iconst 1, 1) := by decide +kernel
theorem dX10_takeNeighbour_34 : decode cX10_takeNeighbour 34 = .ok (.goto 4, 3) := by decide +kernel
theorem dX10_takeNeighbour_37 : decode cX10_takeNeighbour 37 = .ok (.iconst 0, 1) := by decide +kernel
theorem dX10_takeNeighbour_38 : decode cX10_takeNeighbour 38 = .ok (.iconst 4, 1) := by decide +kernel
theorem dX10_takeNeighbour_39 : decode cX10_takeNeighbour 39 = .ok (.aload_n 0, 1) := by decide +kernel
theorem dX10_takeNeighbour_40 : decode cX10_takeNeighbour 40 = .ok (.getfield 87, 3) := by decide +kernel
theorem dX10_takeNeighbour_43 : decode cX10_takeNeighbour 43 = .ok (.invokevirtual 94, 3) := by decide +kernel
theorem dX10_takeNeighbour_46 : decode cX10_takeNeighbour 46 = .ok (.ifCond .ne 4, 3) := by decide +kernel
theorem dX10_takeNeighbour_49 : decode cX10_takeNeighbour 49 = .ok (.return_, 1) := by decide +kernel
theorem dX10_takeNeighbour_50 : decode cX10_takeNeighbour 50 = .ok (.aload_n 0, 1) := by decide +kernel
theorem dX10_takeNeighbour_51 : decode cX10_takeNeighbour 51 = .ok (.iconst 0, 1) := by decide +kernel
theorem dX10_takeNeighbour_52 : decode cX10_takeNeighbour 52 = .ok (.aload_n 0, 1) := by decide +kernel
theorem dX10_takeNeighbour_53 : decode cX10_takeNeighbour 53 = .ok (.getfield 106, 3) := by decide +kernel
theorem dX10_takeNeighbour_56 : decode cX10_takeNeighbour 56 = .ok (.iconst 1, 1) := by decide +kernel
theorem dX10_takeNeighbour_57 : decode cX10_takeNeighbour 57 = .ok (.isub, 1) := by decide +kernel
theorem dX10_takeNeighbour_58 : decode cX10_takeNeighbour 58 = .ok (.invokevirtual 102, 3) := by decide +kernel
theorem dX10_takeNeighbour_61 : decode cX10_takeNeighbour 61 = .ok (.istore_n 2, 1) := by decide +kernel
theorem dX10_takeNeighbour_62 : decode cX10_takeNeighbour 62 = .ok (.aload_n 0, 1) := by decide +kernel
theorem dX10_takeNeighbour_63 : decode cX10_takeNeighbour 63 = .ok (.getfield 80, 3) := by decide +kernel
theorem dX10_takeNeighbour_66 : decode cX10_takeNeighbour 66 = .ok (.ifCond .gt 25, 3) := by decide +kernel
theorem dX10_takeNeighbour_69 : decode cX10_takeNeighbour 69 = .ok (.aload_n 0, 1) := by decide +kernel
theorem dX10_takeNeighbour_70 : decode cX10_takeNeighbour 70 = .ok (.iload_n 2, 1) := by decide +kernel
theorem dX10_takeNeighbour_71 : decode cX10_takeNeighbour 71 = .ok (.iload_n 1, 1) := by decide +kernel
theorem dX10_takeNeighbour_72 : decode cX10_takeNeighbour 72 = .ok (.if_icmp .eq 7, 3) := by decide +kernel
theorem dX10_takeNeighbour_75 : decode cX10_takeNeighbour 75 = .ok (.iconst 1, 1) := by decide +kernel
theorem dX10_takeNeighbour_76 : decode cX10_takeNeighbour 76 = .ok (.goto 4, 3) := by decide +kernel
theorem dX10_takeNeighbour_79 : decode cX10_takeNeighbour 79 = .ok (.iconst 0, 1) := by decide +kernel
theorem dX10_takeNeighbour_80 : decode cX10_takeNeighbour 80 = .ok (.iconst 4, 1) := by decide +kernel
theorem dX10_takeNeighbour_81 : decode cX10_takeNeighbour 81 = .ok (.aload_n 0, 1) := by decide +kernel
theorem dX10_takeNeighbour_82 : decode cX10_takeNeighbour 82 = .ok (.getfield 87, 3) := by decide +kernel
theorem dX10_takeNeighbour_85 : decode cX10_takeNeighbour 85 = .ok (.invokevirtual 94, 3) := by decide +kernel
theorem dX10_takeNeighbour_88 : decode cX10_takeNeighbour 88 = .ok (.ifCond .ne 4, 3) := by decide +kernel
theorem dX10_takeNeighbour_91 : decode cX10_takeNeighbour 91 = .ok (.return_, 1) := by decide +kernel
theorem dX10_takeNeighbour_92 : decode cX10_takeNeighbour 92 = .ok (.aload_n 0, 1) := by decide +kernel
theorem dX10_takeNeighbour_93 : decode cX10_takeNeighbour 93 = .ok (.getfield 32, 3) := by decide +kernel
theorem dX10_takeNeighbour_96 : decode cX10_takeNeighbour 96 = .ok (.bipush 7, 2) := by decide +kernel
theorem dX10_takeNeighbour_98 : decode cX10_takeNeighbour 98 = .ok (.iload_n 1, 1) := by decide +kernel
theorem dX10_takeNeighbour_99 : decode cX10_takeNeighbour 99 = .ok (.iadd, 1) := by decide +kernel
theorem dX10_takeNeighbour_100 : decode cX10_takeNeighbour 100 = .ok (.aload_n 0, 1) := by decide +kernel
theorem dX10_takeNeighbour_101 : decode cX10_takeNeighbour 101 = .ok (.iconst 1, 1) := by decide +kernel
theorem dX10_takeNeighbour_102 : decode cX10_takeNeighbour 102 = .ok (.bipush 9, 2) := by decide +kernel
theorem dX10_takeNeighbour_104 : decode cX10_takeNeighbour 104 = .ok (.invokevirtual 102, 3) := by decide +kernel
theorem dX10_takeNeighbour_107 : decode cX10_takeNeighbour 107 = .ok (.iastore, 1) := by decide +kernel
theorem dX10_takeNeighbour_108 : decode cX10_takeNeighbour 108 = .ok (.aload_n 0, 1) := by decide +kernel
theorem dX10_takeNeighbour_109 : decode cX10_takeNeighbour 109 = .ok (.getfield 29, 3) := by decide +kernel
theorem dX10_takeNeighbour_112 : decode cX10_takeNeighbour 112 = .ok (.bipush 7, 2) := by decide +kernel
theorem dX10_takeNeighbour_114 : decode cX10_takeNeighbour 114 = .ok (.iload_n 1, 1) := by decide +kernel
theorem dX10_takeNeighbour_115 : decode cX10_takeNeighbour 115 = .ok (.iadd, 1) := by decide +kernel
theorem dX10_takeNeighbour_116 : decode cX10_takeNeighbour 116 = .ok (.iload_n 2, 1) := by decide +kernel
theorem dX10_takeNeighbour_117 : decode cX10_takeNeighbour 117 = .ok (.iastore, 1) := by decide +kernel
theorem dX10_takeNeighbour_118 : decode cX10_takeNeighbour 118 = .ok (.return_, 1) := by decide +kernel
theorem dX10_takeClause_0 : decode cX10_takeClause 0 = .ok (.aload_n 0, 1) := by decide +kernel
theorem dX10_takeClause_1 : decode cX10_takeClause 1 = .ok (.invokevirtual 83, 3) := by decide +kernel
theorem dX10_takeClause_4 : decode cX10_takeClause 4 = .ok (.istore_n 1, 1) := by decide +kernel
theorem dX10_takeClause_5 : decode cX10_takeClause 5 = .ok (.aload_n 0, 1) := by decide +kernel
theorem dX10_takeClause_6 : decode cX10_takeClause 6 = .ok (.getfield 77, 3) := by decide +kernel
theorem dX10_takeClause_9 : decode cX10_takeClause 9 = .ok (.istore_n 2, 1) := by decide +kernel
theorem dX10_takeClause_10 : decode cX10_takeClause 10 = .ok (.aload_n 0, 1) := by decide +kernel
theorem dX10_takeClause_11 : decode cX10_takeClause 11 = .ok (.dup, 1) := by decide +kernel
theorem dX10_takeClause_12 : decode cX10_takeClause 12 = .ok (.getfield 77, 3) := by decide +kernel
theorem dX10_takeClause_15 : decode cX10_takeClause 15 = .ok (.iconst 1, 1) := by decide +kernel
theorem dX10_takeClause_16 : decode cX10_takeClause 16 = .ok (.iadd, 1) := by decide +kernel
theorem dX10_takeClause_17 : decode cX10_takeClause 17 = .ok (.putfield 77, 3) := by decide +kernel
theorem dX10_takeClause_20 : decode cX10_takeClause 20 = .ok (.aload_n 0, 1) := by decide +kernel
theorem dX10_takeClause_21 : decode cX10_takeClause 21 = .ok (.iload_n 1, 1) := by decide +kernel
theorem dX10_takeClause_22 : decode cX10_takeClause 22 = .ok (.bipush 118, 2) := by decide +kernel
theorem dX10_takeClause_24 : decode cX10_takeClause 24 = .ok (.if_icmp .eq 12, 3) := by decide +kernel
theorem dX10_takeClause_27 : decode cX10_takeClause 27 = .ok (.aload_n 0, 1) := by decide +kernel
theorem dX10_takeClause_28 : decode cX10_takeClause 28 = .ok (.getfield 17, 3) := by decide +kernel
theorem dX10_takeClause_31 : decode cX10_takeClause 31 = .ok (.iconst 3, 1) := by decide +kernel
theorem dX10_takeClause_32 : decode cX10_takeClause 32 = .ok (.iaload, 1) := by decide +kernel
theorem dX10_takeClause_33 : decode cX10_takeClause 33 = .ok (.ifCond .le 7, 3) := by decide +kernel
theorem dX10_takeClause_36 : decode cX10_takeClause 36 = .ok (.iconst 1, 1) := by decide +kernel
theorem dX10_takeClause_37 : decode cX10_takeClause 37 = .ok (.goto 4, 3) := by decide +kernel
theorem dX10_takeClause_40 : decode cX10_takeClause 40 = .ok (.iconst 0, 1) := by decide +kernel
theorem dX10_takeClause_41 : decode cX10_takeClause 41 = .ok (.iconst 1, 1) := by decide +kernel
theorem dX10_takeClause_42 : decode cX10_takeClause 42 = .ok (.iload_n 2, 1) := by decide +kernel
theorem dX10_takeClause_43 : decode cX10_takeClause 43 = .ok (.invokevirtual 94, 3) := by decide +kernel
theorem dX10_takeClause_46 : decode cX10_takeClause 46 = .ok (.ifCond .ne 4, 3) := by decide +kernel
theorem dX10_takeClause_49 : decode cX10_takeClause 49 = .ok (.return_, 1) := by decide +kernel
theorem dX10_takeClause_50 : decode cX10_takeClause 50 = .ok (.iload_n 1, 1) := by decide +kernel
theorem dX10_takeClause_51 : decode cX10_takeClause 51 = .ok (.bipush 118, 2) := by decide +kernel
theorem dX10_takeClause_53 : decode cX10_takeClause 53 = .ok (.if_icmp .ne 11, 3) := by decide +kernel
theorem dX10_takeClause_56 : decode cX10_takeClause 56 = .ok (.aload_n 0, 1) := by decide +kernel
theorem dX10_takeClause_57 : decode cX10_takeClause 57 = .ok (.iload_n 2, 1) := by decide +kernel
theorem dX10_takeClause_58 : decode cX10_takeClause 58 = .ok (.invokevirtual 112, 3) := by decide +kernel
theorem dX10_takeClause_61 : decode cX10_takeClause 61 = .ok (.goto 55, 3) := by decide +kernel
theorem dX10_takeClause_64 : decode cX10_takeClause 64 = .ok (.iload_n 1, 1) := by decide +kernel
theorem dX10_takeClause_65 : decode cX10_takeClause 65 = .ok (.bipush 115, 2) := by decide +kernel
theorem dX10_takeClause_67 : decode cX10_takeClause 67 = .ok (.if_icmp .ne 11, 3) := by decide +kernel
theorem dX10_takeClause_70 : decode cX10_takeClause 70 = .ok (.aload_n 0, 1) := by decide +kernel
theorem dX10_takeClause_71 : decode cX10_takeClause 71 = .ok (.iload_n 2, 1) := by decide +kernel
theorem dX10_takeClause_72 : decode cX10_takeClause 72 = .ok (.invokevirtual 116, 3) := by decide +kernel
theorem dX10_takeClause_75 : decode cX10_takeClause 75 = .ok (.goto 41, 3) := by decide +kernel
theorem dX10_takeClause_78 : decode cX10_takeClause 78 = .ok (.iload_n 1, 1) := by decide +kernel
theorem dX10_takeClause_79 : decode cX10_takeClause 79 = .ok (.bipush 100, 2) := by decide +kernel
theorem dX10_takeClause_81 : decode cX10_takeClause 81 = .ok (.if_icmp .ne 11, 3) := by decide +kernel
theorem dX10_takeClause_84 : decode cX10_takeClause 84 = .ok (.aload_n 0, 1) := by decide +kernel
theorem dX10_takeClause_85 : decode cX10_takeClause 85 = .ok (.iload_n 2, 1) := by decide +kernel
theorem dX10_takeClause_86 : decode cX10_takeClause 86 = .ok (.invokevirtual 119, 3) := by decide +kernel
theorem dX10_takeClause_89 : decode cX10_takeClause 89 = .ok (.goto 27, 3) := by decide +kernel
theorem dX10_takeClause_92 : decode cX10_takeClause 92 = .ok (.aload_n 0, 1) := by decide +kernel
theorem dX10_takeClause_93 : decode cX10_takeClause 93 = .ok (.iload_n 1, 1) := by decide +kernel
theorem dX10_takeClause_94 : decode cX10_takeClause 94 = .ok (.bipush 110, 2) := by decide +kernel
theorem dX10_takeClause_96 : decode cX10_takeClause 96 = .ok (.if_icmp .ne 7, 3) := by decide +kernel
theorem dX10_takeClause_99 : decode cX10_takeClause 99 = .ok (.iconst 1, 1) := by decide +kernel
theorem dX10_takeClause_100 : decode cX10_takeClause 100 = .ok (.goto 4, 3) := by decide +kernel
theorem dX10_takeClause_103 : decode cX10_takeClause 103 = .ok (.iconst 0, 1) := by decide +kernel
theorem dX10_takeClause_104 : decode cX10_takeClause 104 = .ok (.iconst 1, 1) := by decide +kernel
theorem dX10_takeClause_105 : decode cX10_takeClause 105 = .ok (.iload_n 2, 1) := by decide +kernel
theorem dX10_takeClause_106 : decode cX10_takeClause 106 = .ok (.invokevirtual 94, 3) := by decide +kernel
theorem dX10_takeClause_109 : decode cX10_takeClause 109 = .ok (.ifCond .eq 7, 3) := by decide +kernel
theorem dX10_takeClause_112 : decode cX10_takeClause 112 = .ok (.aload_n 0, 1) := by decide +kernel
theorem dX10_takeClause_113 : decode cX10_takeClause 113 = .ok (.invokevirtual 122, 3) := by decide +kernel
theorem dX10_takeClause_116 : decode cX10_takeClause 116 = .ok (.return_, 1) := by decide +kernel
theorem dX10_street_0 : decode cX10_street 0 = .ok (.aload_n 0, 1) := by decide +kernel
theorem dX10_street_1 : decode cX10_street 1 = .ok (.iconst 0, 1) := by decide +kernel
theorem dX10_street_2 : decode cX10_street 2 = .ok (.putfield 77, 3) := by decide +kernel
theorem dX10_street_5 : decode cX10_street 5 = .ok (.aload_n 0, 1) := by decide +kernel
theorem dX10_street_6 : decode cX10_street 6 = .ok (.iconst 0, 1) := by decide +kernel
theorem dX10_street_7 : decode cX10_street 7 = .ok (.putfield 80, 3) := by decide +kernel
theorem dX10_street_10 : decode cX10_street 10 = .ok (.aload_n 0, 1) := by decide +kernel
theorem dX10_street_11 : decode cX10_street 11 = .ok (.iconst (-1), 1) := by decide +kernel
theorem dX10_street_12 : decode cX10_street 12 = .ok (.putfield 41, 3) := by decide +kernel
theorem dX10_street_15 : decode cX10_street 15 = .ok (.aload_n 0, 1) := by decide +kernel
theorem dX10_street_16 : decode cX10_street 16 = .ok (.iconst 0, 1) := by decide +kernel
theorem dX10_street_17 : decode cX10_street 17 = .ok (.putfield 106, 3) := by decide +kernel
theorem dX10_street_20 : decode cX10_street 20 = .ok (.aload_n 0, 1) := by decide +kernel
theorem dX10_street_21 : decode cX10_street 21 = .ok (.iconst 0, 1) := by decide +kernel
theorem dX10_street_22 : decode cX10_street 22 = .ok (.putfield 109, 3) := by decide +kernel
theorem dX10_street_25 : decode cX10_street 25 = .ok (.iconst 3, 1) := by decide +kernel
theorem dX10_street_26 : decode cX10_street 26 = .ok (.istore_n 1, 1) := by decide +kernel
theorem dX10_street_27 : decode cX10_street 27 = .ok (.iload_n 1, 1) := by decide +kernel
theorem dX10_street_28 : decode cX10_street 28 = .ok (.bipush 6, 2) := by decide +kernel
theorem dX10_street_30 : decode cX10_street 30 = .ok (.if_icmp .ge 16, 3) := by decide +kernel
theorem dX10_street_33 : decode cX10_street 33 = .ok (.aload_n 0, 1) := by decide +kernel
theorem dX10_street_34 : decode cX10_street 34 = .ok (.getfield 17, 3) := by decide +kernel
theorem dX10_street_37 : decode cX10_street 37 = .ok (.iload_n 1, 1) := by decide +kernel
theorem dX10_street_38 : decode cX10_street 38 = .ok (.iconst 0, 1) := by decide +kernel
theorem dX10_street_39 : decode cX10_street 39 = .ok (.iastore, 1) := by decide +kernel
theorem dX10_street_40 : decode cX10_street 40 = .ok (.iinc 1 1, 3) := by decide +kernel
theorem dX10_street_43 : decode cX10_street 43 = .ok (.goto (-16), 3) := by decide +kernel
theorem dX10_street_46 : decode cX10_street 46 = .ok (.aload_n 0, 1) := by decide +kernel
theorem dX10_street_47 : decode cX10_street 47 = .ok (.getfield 80, 3) := by decide +kernel
theorem dX10_street_50 : decode cX10_street 50 = .ok (.ifCond .ne 60, 3) := by decide +kernel
theorem dX10_street_53 : decode cX10_street 53 = .ok (.aload_n 0, 1) := by decide +kernel
theorem dX10_street_54 : decode cX10_street 54 = .ok (.invokevirtual 83, 3) := by decide +kernel
theorem dX10_street_57 : decode cX10_street 57 = .ok (.ifCond .lt 53, 3) := by decide +kernel
theorem dX10_street_60 : decode cX10_street 60 = .ok (.aload_n 0, 1) := by decide +kernel
theorem dX10_street_61 : decode cX10_street 61 = .ok (.invokevirtual 125, 3) := by decide +kernel
theorem dX10_street_64 : decode cX10_street 64 = .ok (.aload_n 0, 1) := by decide +kernel
theorem dX10_street_65 : decode cX10_street 65 = .ok (.getfield 80, 3) := by decide +kernel
theorem dX10_street_68 : decode cX10_street 68 = .ok (.ifCond .ne (-22), 3) := by decide +kernel
theorem dX10_street_71 : decode cX10_street 71 = .ok (.aload_n 0, 1) := by decide +kernel
theorem dX10_street_72 : decode cX10_street 72 = .ok (.aload_n 0, 1) := by decide +kernel
theorem dX10_street_73 : decode cX10_street 73 = .ok (.invokevirtual 83, 3) := by decide +kernel
theorem dX10_street_76 : decode cX10_street 76 = .ok (.bipush 59, 2) := by decide +kernel
theorem dX10_street_78 : decode cX10_street 78 = .ok (.if_icmp .ne 7, 3) := by decide +kernel
theorem dX10_street_81 : decode cX10_street 81 = .ok (.iconst 1, 1) := by decide +kernel
theorem dX10_street_82 : decode cX10_street 82 = .ok (.goto 4, 3) := by decide +kernel
theorem dX10_street_85 : decode cX10_street 85 = .ok (.iconst 0, 1) := by decide +kernel
theorem dX10_street_86 : decode cX10_street 86 = .ok (.iconst 1, 1) := by decide +kernel
theorem dX10_street_87 : decode cX10_street 87 = .ok (.aload_n 0, 1) := by decide +kernel
theorem dX10_street_88 : decode cX10_street 88 = .ok (.getfield 77, 3) := by decide +kernel
theorem dX10_street_91 : decode cX10_street 91 = .ok (.invokevirtual 94, 3) := by decide +kernel
theorem dX10_street_94 : decode cX10_street 94 = .ok (.ifCond .eq (-48), 3) := by decide +kernel
theorem dX10_street_97 : decode cX10_street 97 = .ok (.aload_n 0, 1) := by decide +kernel
theorem dX10_street_98 : decode cX10_street 98 = .ok (.dup, 1) := by decide +kernel
theorem dX10_street_99 : decode cX10_street 99 = .ok (.getfield 77, 3) := by decide +kernel
theorem dX10_street_102 : decode cX10_street 102 = .ok (.iconst 1, 1) := by decide +kernel
theorem dX10_street_103 : decode cX10_street 103 = .ok (.iadd, 1) := by decide +kernel
theorem dX10_street_104 : decode cX10_street 104 = .ok (.putfield 77, 3) := by decide +kernel
theorem dX10_street_107 : decode cX10_street 107 = .ok (.goto (-61), 3) := by decide +kernel
theorem dX10_street_110 : decode cX10_street 110 = .ok (.aload_n 0, 1) := by decide +kernel
theorem dX10_street_111 : decode cX10_street 111 = .ok (.iconst 0, 1) := by decide +kernel
theorem dX10_street_112 : decode cX10_street 112 = .ok (.putfield 73, 3) := by decide +kernel
theorem dX10_street_115 : decode cX10_street 115 = .ok (.aload_n 0, 1) := by decide +kernel
theorem dX10_street_116 : decode cX10_street 116 = .ok (.getfield 80, 3) := by decide +kernel
theorem dX10_street_119 : decode cX10_street 119 = .ok (.ifCond .le 11, 3) := by decide +kernel
theorem dX10_street_122 : decode cX10_street 122 = .ok (.bipush (-10), 2) := by decide +kernel
theorem dX10_street_124 : decode cX10_street 124 = .ok (.aload_n 0, 1) := by decide +kernel
theorem dX10_street_125 : decode cX10_street 125 = .ok (.getfield 80, 3) := by decide +kernel
theorem dX10_street_128 : decode cX10_street 128 = .ok (.isub, 1) := by decide +kernel
theorem dX10_street_129 : decode cX10_street 129 = .ok (.ireturn, 1) := by decide +kernel
theorem dX10_street_130 : decode cX10_street 130 = .ok (.aload_n 0, 1) := by decide +kernel
theorem dX10_street_131 : decode cX10_street 131 = .ok (.invokevirtual 128, 3) := by decide +kernel
theorem dX10_street_134 : decode cX10_street 134 = .ok (.aload_n 0, 1) := by decide +kernel
theorem dX10_street_135 : decode cX10_street 135 = .ok (.getfield 131, 3) := by decide +kernel
theorem dX10_street_138 : decode cX10_street 138 = .ok (.ireturn, 1) := by decide +kernel
theorem dX10_take_0 : decode cX10_take 0 = .ok (.iconst 0, 1) := by decide +kernel
theorem dX10_take_1 : decode cX10_take 1 = .ok (.istore_n 1, 1) := by decide +kernel
theorem dX10_take_2 : decode cX10_take 2 = .ok (.iload_n 1, 1) := by decide +kernel
theorem dX10_take_3 : decode cX10_take 3 = .ok (.iconst 3, 1) := by decide +kernel
theorem dX10_take_4 : decode cX10_take 4 = .ok (.if_icmp .ge 23, 3) := by decide +kernel
theorem dX10_take_7 : decode cX10_take 7 = .ok (.aload_n 0, 1) := by decide +kernel
theorem dX10_take_8 : decode cX10_take 8 = .ok (.getfield 17, 3) := by decide +kernel
theorem dX10_take_11 : decode cX10_take 11 = .ok (.iload_n 1, 1) := by decide +kernel
theorem dX10_take_12 : decode cX10_take 12 = .ok (.aload_n 0, 1) := by decide +kernel
theorem dX10_take_13 : decode cX10_take 13 = .ok (.getfield 17, 3) := by decide +kernel
theorem dX10_take_16 : decode cX10_take 16 = .ok (.iconst 3, 1) := by decide +kernel
theorem dX10_take_17 : decode cX10_take 17 = .ok (.iload_n 1, 1) := by decide +kernel
theorem dX10_take_18 : decode cX10_take 18 = .ok (.iadd, 1) := by decide +kernel
theorem dX10_take_19 : decode cX10_take 19 = .ok (.iaload, 1) := by decide +kernel
theorem dX10_take_20 : decode cX10_take 20 = .ok (.iastore, 1) := by decide +kernel
theorem dX10_take_21 : decode cX10_take 21 = .ok (.iinc 1 1, 3) := by decide +kernel
theorem dX10_take_24 : decode cX10_take 24 = .ok (.goto (-22), 3) := by decide +kernel
theorem dX10_take_27 : decode cX10_take 27 = .ok (.aload_n 0, 1) := by decide +kernel
theorem dX10_take_28 : decode cX10_take 28 = .ok (.aload_n 0, 1) := by decide +kernel
theorem dX10_take_29 : decode cX10_take 29 = .ok (.getfield 106, 3) := by decide +kernel
theorem dX10_take_32 : decode cX10_take 32 = .ok (.putfield 131, 3) := by decide +kernel
theorem dX10_take_35 : decode cX10_take 35 = .ok (.aload_n 0, 1) := by decide +kernel
theorem dX10_take_36 : decode cX10_take 36 = .ok (.aload_n 0, 1) := by decide +kernel
theorem dX10_take_37 : decode cX10_take 37 = .ok (.getfield 109, 3) := by decide +kernel
theorem dX10_take_40 : decode cX10_take 40 = .ok (.putfield 134, 3) := by decide +kernel
theorem dX10_take_43 : decode cX10_take 43 = .ok (.iconst 0, 1) := by decide +kernel
theorem dX10_take_44 : decode cX10_take 44 = .ok (.istore_n 1, 1) := by decide +kernel
theorem dX10_take_45 : decode cX10_take 45 = .ok (.iload_n 1, 1) := by decide +kernel
theorem dX10_take_46 : decode cX10_take 46 = .ok (.bipush 12, 2) := by decide +kernel
theorem dX10_take_48 : decode cX10_take 48 = .ok (.if_icmp .ge 24, 3) := by decide +kernel
theorem dX10_take_51 : decode cX10_take 51 = .ok (.aload_n 0, 1) := by decide +kernel
theorem dX10_take_52 : decode cX10_take 52 = .ok (.getfield 35, 3) := by decide +kernel
theorem dX10_take_55 : decode cX10_take 55 = .ok (.iload_n 1, 1) := by decide +kernel
theorem dX10_take_56 : decode cX10_take 56 = .ok (.aload_n 0, 1) := by decide +kernel
theorem dX10_take_57 : decode cX10_take 57 = .ok (.getfield 35, 3) := by decide +kernel
theorem dX10_take_60 : decode cX10_take 60 = .ok (.bipush 12, 2) := by decide +kernel
theorem dX10_take_62 : decode cX10_take 62 = .ok (.iload_n 1, 1) := by decide +kernel
theorem dX10_take_63 : decode cX10_take 63 = .ok (.iadd, 1) := by decide +kernel
theorem dX10_take_64 : decode cX10_take 64 = .ok (.iaload, 1) := by decide +kernel
theorem dX10_take_65 : decode cX10_take 65 = .ok (.iastore, 1) := by decide +kernel
theorem dX10_take_66 : decode cX10_take 66 = .ok (.iinc 1 1, 3) := by decide +kernel
theorem dX10_take_69 : decode cX10_take 69 = .ok (.goto (-24), 3) := by decide +kernel
theorem dX10_take_72 : decode cX10_take 72 = .ok (.iconst 0, 1) := by decide +kernel
theorem dX10_take_73 : decode cX10_take 73 = .ok (.istore_n 1, 1) := by decide +kernel
theorem dX10_take_74 : decode cX10_take 74 = .ok (.iload_n 1, 1) := by decide +kernel
theorem dX10_take_75 : decode cX10_take 75 = .ok (.bipush 7, 2) := by decide +kernel
theorem dX10_take_77 : decode cX10_take 77 = .ok (.if_icmp .ge 101, 3) := by decide +kernel
theorem dX10_take_80 : decode cX10_take 80 = .ok (.aload_n 0, 1) := by decide +kernel
theorem dX10_take_81 : decode cX10_take 81 = .ok (.getfield 20, 3) := by decide +kernel
theorem dX10_take_84 : decode cX10_take 84 = .ok (.iload_n 1, 1) := by decide +kernel
theorem dX10_take_85 : decode cX10_take 85 = .ok (.aload_n 0, 1) := by decide +kernel
theorem dX10_take_86 : decode cX10_take 86 = .ok (.getfield 20, 3) := by decide +kernel
theorem dX10_take_89 : decode cX10_take 89 = .ok (.bipush 7, 2) := by decide +kernel
theorem dX10_take_91 : decode cX10_take 91 = .ok (.iload_n 1, 1) := by decide +kernel
theorem dX10_take_92 : decode cX10_take 92 = .ok (.iadd, 1) := by decide +kernel
theorem dX10_take_93 : decode cX10_take 93 = .ok (.iaload, 1) := by decide +kernel
theorem dX10_take_94 : decode cX10_take 94 = .ok (.iastore, 1) := by decide +kernel
theorem dX10_take_95 : decode cX10_take 95 = .ok (.aload_n 0, 1) := by decide +kernel
theorem dX10_take_96 : decode cX10_take 96 = .ok (.getfield 23, 3) := by decide +kernel
theorem dX10_take_99 : decode cX10_take 99 = .ok (.iload_n 1, 1) := by decide +kernel
theorem dX10_take_100 : decode cX10_take 100 = .ok (.aload_n 0, 1) := by decide +kernel
theorem dX10_take_101 : decode cX10_take 101 = .ok (.getfield 23, 3) := by decide +kernel
theorem dX10_take_104 : decode cX10_take 104 = .ok (.bipush 7, 2) := by decide +kernel
theorem dX10_take_106 : decode cX10_take 106 = .ok (.iload_n 1, 1) := by decide +kernel
theorem dX10_take_107 : decode cX10_take 107 = .ok (.iadd, 1) := by decide +kernel
theorem dX10_take_108 : decode cX10_take 108 = .ok (.iaload, 1) := by decide +kernel
theorem dX10_take_109 : decode cX10_take 109 = .ok (.iastore, 1) := by decide +kernel
theorem dX10_take_110 : decode cX10_take 110 = .ok (.aload_n 0, 1) := by decide +kernel
theorem dX10_take_111 : decode cX10_take 111 = .ok (.getfield 26, 3) := by decide +kernel
theorem dX10_take_114 : decode cX10_take 114 = .ok (.iload_n 1, 1) := by decide +kernel
theorem dX10_take_115 : decode cX10_take 115 = .ok (.aload_n 0, 1) := by decide +kernel
theorem dX10_take_116 : decode cX10_take 116 = .ok (.getfield 26, 3) := by decide +kernel
theorem dX10_take_119 : decode cX10_take 119 = .ok (.bipush 7, 2) := by decide +kernel
theorem dX10_take_121 : decode cX10_take 121 = .ok (.iload_n 1, 1) := by decide +kernel
theorem dX10_take_122 : decode cX10_take 122 = .ok (.iadd, 1) := by decide +kernel
theorem dX10_take_123 : decode cX10_take 123 = .ok (.iaload, 1) := by decide +kernel
theorem dX10_take_124 : decode cX10_take 124 = .ok (.iastore, 1) := by decide +kernel
theorem dX10_take_125 : decode cX10_take 125 = .ok (.aload_n 0, 1) := by decide +kernel
theorem dX10_take_126 : decode cX10_take 126 = .ok (.getfield 29, 3) := by decide +kernel
theorem dX10_take_129 : decode cX10_take 129 = .ok (.iload_n 1, 1) := by decide +kernel
theorem dX10_take_130 : decode cX10_take 130 = .ok (.aload_n 0, 1) := by decide +kernel
theorem dX10_take_131 : decode cX10_take 131 = .ok (.getfield 29, 3) := by decide +kernel
theorem dX10_take_134 : decode cX10_take 134 = .ok (.bipush 7, 2) := by decide +kernel
theorem dX10_take_136 : decode cX10_take 136 = .ok (.iload_n 1, 1) := by decide +kernel
theorem dX10_take_137 : decode cX10_take 137 = .ok (.iadd, 1) := by decide +kernel
theorem dX10_take_138 : decode cX10_take 138 = .ok (.iaload, 1) := by decide +kernel
theorem dX10_take_139 : decode cX10_take 139 = .ok (.iastore, 1) := by decide +kernel
theorem dX10_take_140 : decode cX10_take 140 = .ok (.aload_n 0, 1) := by decide +kernel
theorem dX10_take_141 : decode cX10_take 141 = .ok (.getfield 32, 3) := by decide +kernel
theorem dX10_take_144 : decode cX10_take 144 = .ok (.iload_n 1, 1) := by decide +kernel
theorem dX10_take_145 : decode cX10_take 145 = .ok (.aload_n 0, 1) := by decide +kernel
theorem dX10_take_146 : decode cX10_take 146 = .ok (.getfield 32, 3) := by decide +kernel
theorem dX10_take_149 : decode cX10_take 149 = .ok (.bipush 7, 2) := by decide +kernel
theorem dX10_take_151 : decode cX10_take 151 = .ok (.iload_n 1, 1) := by decide +kernel
theorem dX10_take_152 : decode cX10_take 152 = .ok (.iadd, 1) := by decide +kernel
theorem dX10_take_153 : decode cX10_take 153 = .ok (.iaload, 1) := by decide +kernel
theorem dX10_take_154 : decode cX10_take 154 = .ok (.iastore, 1) := by decide +kernel
theorem dX10_take_155 : decode cX10_take 155 = .ok (.aload_n 0, 1) := by decide +kernel
theorem dX10_take_156 : decode cX10_take 156 = .ok (.getfield 7, 3) := by decide +kernel
theorem dX10_take_159 : decode cX10_take 159 = .ok (.iload_n 1, 1) := by decide +kernel
theorem dX10_take_160 : decode cX10_take 160 = .ok (.iconst 1, 1) := by decide +kernel
theorem dX10_take_161 : decode cX10_take 161 = .ok (.iastore, 1) := by decide +kernel
theorem dX10_take_162 : decode cX10_take 162 = .ok (.aload_n 0, 1) := by decide +kernel
theorem dX10_take_163 : decode cX10_take 163 = .ok (.getfield 7, 3) := by decide +kernel
theorem dX10_take_166 : decode cX10_take 166 = .ok (.bipush 7, 2) := by decide +kernel
theorem dX10_take_168 : decode cX10_take 168 = .ok (.iload_n 1, 1) := by decide +kernel
theorem dX10_take_169 : decode cX10_take 169 = .ok (.iadd, 1) := by decide +kernel
theorem dX10_take_170 : decode cX10_take 170 = .ok (.iconst 0, 1) := by decide +kernel
theorem dX10_take_171 : decode cX10_take 171 = .ok (.iastore, 1) := by decide +kernel
theorem dX10_take_172 : decode cX10_take 172 = .ok (.iinc 1 1, 3) := by decide +kernel
theorem dX10_take_175 : decode cX10_take 175 = .ok (.goto (-101), 3) := by decide +kernel
theorem dX10_take_178 : decode cX10_take 178 = .ok (.aload_n 0, 1) := by decide +kernel
theorem dX10_take_179 : decode cX10_take 179 = .ok (.getfield 7, 3) := by decide +kernel
theorem dX10_take_182 : decode cX10_take 182 = .ok (.bipush 14, 2) := by decide +kernel
theorem dX10_take_184 : decode cX10_take 184 = .ok (.iconst 0, 1) := by decide +kernel
theorem dX10_take_185 : decode cX10_take 185 = .ok (.iastore, 1) := by decide +kernel
theorem dX10_take_186 : decode cX10_take 186 = .ok (.aload_n 0, 1) := by decide +kernel
theorem dX10_take_187 : decode cX10_take 187 = .ok (.getfield 7, 3) := by decide +kernel
theorem dX10_take_190 : decode cX10_take 190 = .ok (.bipush 15, 2) := by decide +kernel
theorem dX10_take_192 : decode cX10_take 192 = .ok (.iconst 0, 1) := by decide +kernel
theorem dX10_take_193 : decode cX10_take 193 = .ok (.iastore, 1) := by decide +kernel
theorem dX10_take_194 : decode cX10_take 194 = .ok (.aload_n 0, 1) := by decide +kernel
theorem dX10_take_195 : decode cX10_take 195 = .ok (.getfield 7, 3) := by decide +kernel
theorem dX10_take_198 : decode cX10_take 198 = .ok (.bipush 16, 2) := by decide +kernel
theorem dX10_take_200 : decode cX10_take 200 = .ok (.iconst 0, 1) := by decide +kernel
theorem dX10_take_201 : decode cX10_take 201 = .ok (.iastore, 1) := by decide +kernel
theorem dX10_take_202 : decode cX10_take 202 = .ok (.aload_n 0, 1) := by decide +kernel
theorem dX10_take_203 : decode cX10_take 203 = .ok (.iconst 0, 1) := by decide +kernel
theorem dX10_take_204 : decode cX10_take 204 = .ok (.putfield 137, 3) := by decide +kernel
theorem dX10_take_207 : decode cX10_take 207 = .ok (.aload_n 0, 1) := by decide +kernel
theorem dX10_take_208 : decode cX10_take 208 = .ok (.iconst 0, 1) := by decide +kernel
theorem dX10_take_209 : decode cX10_take 209 = .ok (.putfield 140, 3) := by decide +kernel
theorem dX10_take_212 : decode cX10_take 212 = .ok (.aload_n 0, 1) := by decide +kernel
theorem dX10_take_213 : decode cX10_take 213 = .ok (.iconst 0, 1) := by decide +kernel
theorem dX10_take_214 : decode cX10_take 214 = .ok (.putfield 143, 3) := by decide +kernel
theorem dX10_take_217 : decode cX10_take 217 = .ok (.aload_n 0, 1) := by decide +kernel
theorem dX10_take_218 : decode cX10_take 218 = .ok (.getfield 13, 3) := by decide +kernel
theorem dX10_take_221 : decode cX10_take 221 = .ok (.iconst 0, 1) := by decide +kernel
theorem dX10_take_222 : decode cX10_take 222 = .ok (.iconst 0, 1) := by decide +kernel
theorem dX10_take_223 : decode cX10_take 223 = .ok (.bastore, 1) := by decide +kernel
theorem dX10_take_224 : decode cX10_take 224 = .ok (.aload_n 0, 1) := by decide +kernel
theorem dX10_take_225 : decode cX10_take 225 = .ok (.getfield 13, 3) := by decide +kernel
theorem dX10_take_228 : decode cX10_take 228 = .ok (.iconst 1, 1) := by decide +kernel
theorem dX10_take_229 : decode cX10_take 229 = .ok (.iconst 0, 1) := by decide +kernel
theorem dX10_take_230 : decode cX10_take 230 = .ok (.bastore, 1) := by decide +kernel
theorem dX10_take_231 : decode cX10_take 231 = .ok (.return_, 1) := by decide +kernel
theorem dX10_fault_0 : decode cX10_fault 0 = .ok (.aload_n 0, 1) := by decide +kernel
theorem dX10_fault_1 : decode cX10_fault 1 = .ok (.getfield 41, 3) := by decide +kernel
theorem dX10_fault_4 : decode cX10_fault 4 = .ok (.ireturn, 1) := by decide +kernel
theorem dX10_isStop_0 : decode cX10_isStop 0 = .ok (.iload_n 1, 1) := by decide +kernel
theorem dX10_isStop_1 : decode cX10_isStop 1 = .ok (.i2l, 1) := by decide +kernel
theorem dX10_isStop_2 : decode cX10_isStop 2 = .ok (.lconst 0, 1) := by decide +kernel
theorem dX10_isStop_3 : decode cX10_isStop 3 = .ok (.aload_n 0, 1) := by decide +kernel
theorem dX10_isStop_4 : decode cX10_isStop 4 = .ok (.getfield 131, 3) := by decide +kernel
theorem dX10_isStop_7 : decode cX10_isStop 7 = .ok (.iconst 1, 1) := by decide +kernel
theorem dX10_isStop_8 : decode cX10_isStop 8 = .ok (.isub, 1) := by decide +kernel
theorem dX10_isStop_9 : decode cX10_isStop 9 = .ok (.i2l, 1) := by decide +kernel
theorem dX10_isStop_10 : decode cX10_isStop 10 = .ok (.invokestatic 68, 3) := by decide +kernel
theorem dX10_isStop_13 : decode cX10_isStop 13 = .ok (.ireturn, 1) := by decide +kernel
theorem dX10_figures_0 : decode cX10_figures 0 = .ok (.iconst 0, 1) := by decide +kernel
theorem dX10_figures_1 : decode cX10_figures 1 = .ok (.istore_n 1, 1) := by decide +kernel
theorem dX10_figures_2 : decode cX10_figures 2 = .ok (.iload_n 0, 1) := by decide +kernel
theorem dX10_figures_3 : decode cX10_figures 3 = .ok (.istore_n 2, 1) := by decide +kernel
theorem dX10_figures_4 : decode cX10_figures 4 = .ok (.iload_n 2, 1) := by decide +kernel
theorem dX10_figures_5 : decode cX10_figures 5 = .ok (.ifCond .le 14, 3) := by decide +kernel
theorem dX10_figures_8 : decode cX10_figures 8 = .ok (.iload_n 2, 1) := by decide +kernel
theorem dX10_figures_9 : decode cX10_figures 9 = .ok (.bipush 10, 2) := by decide +kernel
theorem dX10_figures_11 : decode cX10_figures 11 = .ok (.idiv, 1) := by decide +kernel
theorem dX10_figures_12 : decode cX10_figures 12 = .ok (.istore_n 2, 1) := by decide +kernel
theorem dX10_figures_13 : decode cX10_figures 13 = .ok (.iinc 1 1, 3) := by decide +kernel
theorem dX10_figures_16 : decode cX10_figures 16 = .ok (.goto (-12), 3) := by decide +kernel
theorem dX10_figures_19 : decode cX10_figures 19 = .ok (.iload_n 1, 1) := by decide +kernel
theorem dX10_figures_20 : decode cX10_figures 20 = .ok (.ireturn, 1) := by decide +kernel
theorem dX10_stopOf_0 : decode cX10_stopOf 0 = .ok (.iload_n 0, 1) := by decide +kernel
theorem dX10_stopOf_1 : decode cX10_stopOf 1 = .ok (.istore_n 2, 1) := by decide +kernel
theorem dX10_stopOf_2 : decode cX10_stopOf 2 = .ok (.iload_n 0, 1) := by decide +kernel
theorem dX10_stopOf_3 : decode cX10_stopOf 3 = .ok (.invokestatic 146, 3) := by decide +kernel
theorem dX10_stopOf_6 : decode cX10_stopOf 6 = .ok (.iconst 1, 1) := by decide +kernel
theorem dX10_stopOf_7 : decode cX10_stopOf 7 = .ok (.isub, 1) := by decide +kernel
theorem dX10_stopOf_8 : decode cX10_stopOf 8 = .ok (.istore_n 3, 1) := by decide +kernel
theorem dX10_stopOf_9 : decode cX10_stopOf 9 = .ok (.iload_n 3, 1) := by decide +kernel
theorem dX10_stopOf_10 : decode cX10_stopOf 10 = .ok (.iload_n 1, 1) := by decide +kernel
theorem dX10_stopOf_11 : decode cX10_stopOf 11 = .ok (.if_icmp .le 14, 3) := by decide +kernel
theorem dX10_stopOf_14 : decode cX10_stopOf 14 = .ok (.iload_n 2, 1) := by decide +kernel
theorem dX10_stopOf_15 : decode cX10_stopOf 15 = .ok (.bipush 10, 2) := by decide +kernel
theorem dX10_stopOf_17 : decode cX10_stopOf 17 = .ok (.idiv, 1) := by decide +kernel
theorem dX10_stopOf_18 : decode cX10_stopOf 18 = .ok (.istore_n 2, 1) := by decide +kernel
theorem dX10_stopOf_19 : decode cX10_stopOf 19 = .ok (.iinc 3 (-1), 3) := by decide +kernel
theorem dX10_stopOf_22 : decode cX10_stopOf 22 = .ok (.goto (-13), 3) := by decide +kernel
theorem dX10_stopOf_25 : decode cX10_stopOf 25 = .ok (.iload_n 2, 1) := by decide +kernel
theorem dX10_stopOf_26 : decode cX10_stopOf 26 = .ok (.bipush 10, 2) := by decide +kernel
theorem dX10_stopOf_28 : decode cX10_stopOf 28 = .ok (.irem, 1) := by decide +kernel
theorem dX10_stopOf_29 : decode cX10_stopOf 29 = .ok (.iconst 1, 1) := by decide +kernel
theorem dX10_stopOf_30 : decode cX10_stopOf 30 = .ok (.isub, 1) := by decide +kernel
theorem dX10_stopOf_31 : decode cX10_stopOf 31 = .ok (.ireturn, 1) := by decide +kernel
theorem dX10_isWay_0 : decode cX10_isWay 0 = .ok (.iload_n 1, 1) := by decide +kernel
theorem dX10_isWay_1 : decode cX10_isWay 1 = .ok (.ifCond .le 7, 3) := by decide +kernel
theorem dX10_isWay_4 : decode cX10_isWay 4 = .ok (.iconst 1, 1) := by decide +kernel
theorem dX10_isWay_5 : decode cX10_isWay 5 = .ok (.goto 4, 3) := by decide +kernel
theorem dX10_isWay_8 : decode cX10_isWay 8 = .ok (.iconst 0, 1) := by decide +kernel
theorem dX10_isWay_9 : decode cX10_isWay 9 = .ok (.istore_n 2, 1) := by decide +kernel
theorem dX10_isWay_10 : decode cX10_isWay 10 = .ok (.iconst 0, 1) := by decide +kernel
theorem dX10_isWay_11 : decode cX10_isWay 11 = .ok (.istore_n 3, 1) := by decide +kernel
theorem dX10_isWay_12 : decode cX10_isWay 12 = .ok (.iload_n 1, 1) := by decide +kernel
theorem dX10_isWay_13 : decode cX10_isWay 13 = .ok (.istore 4, 2) := by decide +kernel
theorem dX10_isWay_15 : decode cX10_isWay 15 = .ok (.iload 4, 2) := by decide +kernel
theorem dX10_isWay_17 : decode cX10_isWay 17 = .ok (.ifCond .le 65, 3) := by decide +kernel
theorem dX10_isWay_20 : decode cX10_isWay 20 = .ok (.iload_n 2, 1) := by decide +kernel
theorem dX10_isWay_21 : decode cX10_isWay 21 = .ok (.ifCond .eq 61, 3) := by decide +kernel
theorem dX10_isWay_24 : decode cX10_isWay 24 = .ok (.iload 4, 2) := by decide +kernel
theorem dX10_isWay_26 : decode cX10_isWay 26 = .ok (.bipush 10, 2) := by decide +kernel
theorem dX10_isWay_28 : decode cX10_isWay 28 = .ok (.irem, 1) := by decide +kernel
theorem dX10_isWay_29 : decode cX10_isWay 29 = .ok (.iconst 1, 1) := by decide +kernel
theorem dX10_isWay_30 : decode cX10_isWay 30 = .ok (.isub, 1) := by decide +kernel
theorem dX10_isWay_31 : decode cX10_isWay 31 = .ok (.istore 5, 2) := by decide +kernel
theorem dX10_isWay_33 : decode cX10_isWay 33 = .ok (.aload_n 0, 1) := by decide +kernel
theorem dX10_isWay_34 : decode cX10_isWay 34 = .ok (.iload 5, 2) := by decide +kernel
theorem dX10_isWay_36 : decode cX10_isWay 36 = .ok (.invokevirtual 150, 3) := by decide +kernel
theorem dX10_isWay_39 : decode cX10_isWay 39 = .ok (.ifCond .eq 16, 3) := by decide +kernel
theorem dX10_isWay_42 : decode cX10_isWay 42 = .ok (.iload_n 3, 1) := by decide +kernel
theorem dX10_isWay_43 : decode cX10_isWay 43 = .ok (.iload 5, 2) := by decide +kernel
theorem dX10_isWay_45 : decode cX10_isWay 45 = .ok (.invokestatic 154, 3) := by decide +kernel
theorem dX10_isWay_48 : decode cX10_isWay 48 = .ok (.ifCond .ne 7, 3) := by decide +kernel
theorem dX10_isWay_51 : decode cX10_isWay 51 = .ok (.iconst 1, 1) := by decide +kernel
theorem dX10_isWay_52 : decode cX10_isWay 52 = .ok (.goto 4, 3) := by decide +kernel
theorem dX10_isWay_55 : decode cX10_isWay 55 = .ok (.iconst 0, 1) := by decide +kernel
theorem dX10_isWay_56 : decode cX10_isWay 56 = .ok (.istore_n 2, 1) := by decide +kernel
theorem dX10_isWay_57 : decode cX10_isWay 57 = .ok (.iload_n 3, 1) := by decide +kernel
theorem dX10_isWay_58 : decode cX10_isWay 58 = .ok (.iload_n 2, 1) := by decide +kernel
theorem dX10_isWay_59 : decode cX10_isWay 59 = .ok (.ifCond .eq 10, 3) := by decide +kernel
theorem dX10_isWay_62 : decode cX10_isWay 62 = .ok (.iconst 1, 1) := by decide +kernel
theorem dX10_isWay_63 : decode cX10_isWay 63 = .ok (.iload 5, 2) := by decide +kernel
theorem dX10_isWay_65 : decode cX10_isWay 65 = .ok (.ishl, 1) := by decide +kernel
theorem dX10_isWay_66 : decode cX10_isWay 66 = .ok (.goto 4, 3) := by decide +kernel
theorem dX10_isWay_69 : decode cX10_isWay 69 = .ok (.iconst 0, 1) := by decide +kernel
theorem dX10_isWay_70 : decode cX10_isWay 70 = .ok (.ior, 1) := by decide +kernel
theorem dX10_isWay_71 : decode cX10_isWay 71 = .ok (.istore_n 3, 1) := by decide +kernel
theorem dX10_isWay_72 : decode cX10_isWay 72 = .ok (.iload 4, 2) := by decide +kernel
theorem dX10_isWay_74 : decode cX10_isWay 74 = .ok (.bipush 10, 2) := by decide +kernel
theorem dX10_isWay_76 : decode cX10_isWay 76 = .ok (.idiv, 1) := by decide +kernel
theorem dX10_isWay_77 : decode cX10_isWay 77 = .ok (.istore 4, 2) := by decide +kernel
theorem dX10_isWay_79 : decode cX10_isWay 79 = .ok (.goto (-64), 3) := by decide +kernel
theorem dX10_isWay_82 : decode cX10_isWay 82 = .ok (.iload_n 2, 1) := by decide +kernel
theorem dX10_isWay_83 : decode cX10_isWay 83 = .ok (.ireturn, 1) := by decide +kernel
theorem dX10_isHaste_0 : decode cX10_isHaste 0 = .ok (.iload_n 0, 1) := by decide +kernel
theorem dX10_isHaste_1 : decode cX10_isHaste 1 = .ok (.i2l, 1) := by decide +kernel
theorem dX10_isHaste_2 : decode cX10_isHaste 2 = .ok (.lconst 0, 1) := by decide +kernel
theorem dX10_isHaste_3 : decode cX10_isHaste 3 = .ok (.ldc2_w 158, 3) := by decide +kernel
theorem dX10_isHaste_6 : decode cX10_isHaste 6 = .ok (.invokestatic 68, 3) := by decide +kernel
theorem dX10_isHaste_9 : decode cX10_isHaste 9 = .ok (.ireturn, 1) := by decide +kernel
theorem dX10_which_0 : decode cX10_which 0 = .ok (.iconst 0, 1) := by decide +kernel
theorem dX10_which_1 : decode cX10_which 1 = .ok (.istore_n 2, 1) := by decide +kernel
theorem dX10_which_2 : decode cX10_which 2 = .ok (.iconst 0, 1) := by decide +kernel
theorem dX10_which_3 : decode cX10_which 3 = .ok (.istore_n 3, 1) := by decide +kernel
theorem dX10_which_4 : decode cX10_which 4 = .ok (.iload_n 3, 1) := by decide +kernel
theorem dX10_which_5 : decode cX10_which 5 = .ok (.aload_n 0, 1) := by decide +kernel
theorem dX10_which_6 : decode cX10_which 6 = .ok (.getfield 131, 3) := by decide +kernel
theorem dX10_which_9 : decode cX10_which 9 = .ok (.if_icmp .ge 32, 3) := by decide +kernel
theorem dX10_which_12 : decode cX10_which 12 = .ok (.iload_n 2, 1) := by decide +kernel
theorem dX10_which_13 : decode cX10_which 13 = .ok (.aload_n 0, 1) := by decide +kernel
theorem dX10_which_14 : decode cX10_which 14 = .ok (.getfield 7, 3) := by decide +kernel
theorem dX10_which_17 : decode cX10_which 17 = .ok (.iload_n 3, 1) := by decide +kernel
theorem dX10_which_18 : decode cX10_which 18 = .ok (.iaload, 1) := by decide +kernel
theorem dX10_which_19 : decode cX10_which 19 = .ok (.iload_n 1, 1) := by decide +kernel
theorem dX10_which_20 : decode cX10_which 20 = .ok (.if_icmp .ne 7, 3) := by decide +kernel
theorem dX10_which_23 : decode cX10_which 23 = .ok (.iconst 1, 1) := by decide +kernel
theorem dX10_which_24 : decode cX10_which 24 = .ok (.goto 4, 3) := by decide +kernel
theorem dX10_which_27 : decode cX10_which 27 = .ok (.iconst 0, 1) := by decide +kernel
theorem dX10_which_28 : decode cX10_which 28 = .ok (.invokestatic 160, 3) := by decide +kernel
theorem dX10_which_31 : decode cX10_which 31 = .ok (.iload_n 3, 1) := by decide +kernel
theorem dX10_which_32 : decode cX10_which 32 = .ok (.ishl, 1) := by decide +kernel
theorem dX10_which_33 : decode cX10_which 33 = .ok (.ior, 1) := by decide +kernel
theorem dX10_which_34 : decode cX10_which 34 = .ok (.istore_n 2, 1) := by decide +kernel
theorem dX10_which_35 : decode cX10_which 35 = .ok (.iinc 3 1, 3) := by decide +kernel
theorem dX10_which_38 : decode cX10_which 38 = .ok (.goto (-34), 3) := by decide +kernel
theorem dX10_which_41 : decode cX10_which 41 = .ok (.iload_n 2, 1) := by decide +kernel
theorem dX10_which_42 : decode cX10_which 42 = .ok (.ireturn, 1) := by decide +kernel
theorem dX10_told_0 : decode cX10_told 0 = .ok (.iload_n 1, 1) := by decide +kernel
theorem dX10_told_1 : decode cX10_told 1 = .ok (.tableswitch 169 0 14 #[75, 82, 89, 96, 101, 106, 114, 122, 130, 136, 142, 148, 154, 159, 164], 75) := by decide +kernel
theorem dX10_told_76 : decode cX10_told 76 = .ok (.aload_n 0, 1) := by decide +kernel
theorem dX10_told_77 : decode cX10_told 77 = .ok (.getfield 17, 3) := by decide +kernel
theorem dX10_told_80 : decode cX10_told 80 = .ok (.iconst 0, 1) := by decide +kernel
theorem dX10_told_81 : decode cX10_told 81 = .ok (.iaload, 1) := by decide +kernel
theorem dX10_told_82 : decode cX10_told 82 = .ok (.ireturn, 1) := by decide +kernel
theorem dX10_told_83 : decode cX10_told 83 = .ok (.aload_n 0, 1) := by decide +kernel
theorem dX10_told_84 : decode cX10_told 84 = .ok (.getfield 17, 3) := by decide +kernel
theorem dX10_told_87 : decode cX10_told 87 = .ok (.iconst 1, 1) := by decide +kernel
theorem dX10_told_88 : decode cX10_told 88 = .ok (.iaload, 1) := by decide +kernel
theorem dX10_told_89 : decode cX10_told 89 = .ok (.ireturn, 1) := by decide +kernel
theorem dX10_told_90 : decode cX10_told 90 = .ok (.aload_n 0, 1) := by decide +kernel
theorem dX10_told_91 : decode cX10_told 91 = .ok (.getfield 17, 3) := by decide +kernel
theorem dX10_told_94 : decode cX10_told 94 = .ok (.iconst 2, 1) := by decide +kernel
theorem dX10_told_95 : decode cX10_told 95 = .ok (.iaload, 1) := by decide +kernel
theorem dX10_told_96 : decode cX10_told 96 = .ok (.ireturn, 1) := by decide +kernel
theorem dX10_told_97 : decode cX10_told 97 = .ok (.aload_n 0, 1) := by decide +kernel
theorem dX10_told_98 : decode cX10_told 98 = .ok (.getfield 131, 3) := by decide +kernel
theorem dX10_told_101 : decode cX10_told 101 = .ok (.ireturn, 1) := by decide +kernel
theorem dX10_told_102 : decode cX10_told 102 = .ok (.aload_n 0, 1) := by decide +kernel
theorem dX10_told_103 : decode cX10_told 103 = .ok (.getfield 73, 3) := by decide +kernel
theorem dX10_told_106 : decode cX10_told 106 = .ok (.ireturn, 1) := by decide +kernel
theorem dX10_told_107 : decode cX10_told 107 = .ok (.aload_n 0, 1) := by decide +kernel
theorem dX10_told_108 : decode cX10_told 108 = .ok (.getfield 7, 3) := by decide +kernel
theorem dX10_told_111 : decode cX10_told 111 = .ok (.bipush 14, 2) := by decide +kernel
theorem dX10_told_113 : decode cX10_told 113 = .ok (.iaload, 1) := by decide +kernel
theorem dX10_told_114 : decode cX10_told 114 = .ok (.ireturn, 1) := by decide +kernel
theorem dX10_told_115 : decode cX10_told 115 = .ok (.aload_n 0, 1) := by decide +kernel
theorem dX10_told_116 : decode cX10_told 116 = .ok (.getfield 7, 3) := by decide +kernel
theorem dX10_told_119 : decode cX10_told 119 = .ok (.bipush 15, 2) := by decide +kernel
theorem dX10_told_121 : decode cX10_told 121 = .ok (.iaload, 1) := by decide +kernel
theorem dX10_told_122 : decode cX10_told 122 = .ok (.ireturn, 1) := by decide +kernel
theorem dX10_told_123 : decode cX10_told 123 = .ok (.aload_n 0, 1) := by decide +kernel
theorem dX10_told_124 : decode cX10_told 124 = .ok (.getfield 7, 3) := by decide +kernel
theorem dX10_told_127 : decode cX10_told 127 = .ok (.bipush 16, 2) := by decide +kernel
theorem dX10_told_129 : decode cX10_told 129 = .ok (.iaload, 1) := by decide +kernel
theorem dX10_told_130 : decode cX10_told 130 = .ok (.ireturn, 1) := by decide +kernel
theorem dX10_told_131 : decode cX10_told 131 = .ok (.aload_n 0, 1) := by decide +kernel
theorem dX10_told_132 : decode cX10_told 132 = .ok (.iconst 1, 1) := by decide +kernel
theorem dX10_told_133 : decode cX10_told 133 = .ok (.invokevirtual 164, 3) := by decide +kernel
theorem dX10_told_136 : decode cX10_told 136 = .ok (.ireturn, 1) := by decide +kernel
theorem dX10_told_137 : decode cX10_told 137 = .ok (.aload_n 0, 1) := by decide +kernel
theorem dX10_told_138 : decode cX10_told 138 = .ok (.iconst 2, 1) := by decide +kernel
theorem dX10_told_139 : decode cX10_told 139 = .ok (.invokevirtual 164, 3) := by decide +kernel
theorem dX10_told_142 : decode cX10_told 142 = .ok (.ireturn, 1) := by decide +kernel
theorem dX10_told_143 : decode cX10_told 143 = .ok (.aload_n 0, 1) := by decide +kernel
theorem dX10_told_144 : decode cX10_told 144 = .ok (.iconst 3, 1) := by decide +kernel
theorem dX10_told_145 : decode cX10_told 145 = .ok (.invokevirtual 164, 3) := by decide +kernel
theorem dX10_told_148 : decode cX10_told 148 = .ok (.ireturn, 1) := by decide +kernel
theorem dX10_told_149 : decode cX10_told 149 = .ok (.aload_n 0, 1) := by decide +kernel
theorem dX10_told_150 : decode cX10_told 150 = .ok (.iconst 4, 1) := by decide +kernel
theorem dX10_told_151 : decode cX10_told 151 = .ok (.invokevirtual 164, 3) := by decide +kernel
theorem dX10_told_154 : decode cX10_told 154 = .ok (.ireturn, 1) := by decide +kernel
theorem dX10_told_155 : decode cX10_told 155 = .ok (.aload_n 0, 1) := by decide +kernel
theorem dX10_told_156 : decode cX10_told 156 = .ok (.getfield 137, 3) := by decide +kernel
theorem dX10_told_159 : decode cX10_told 159 = .ok (.ireturn, 1) := by decide +kernel
theorem dX10_told_160 : decode cX10_told 160 = .ok (.aload_n 0, 1) := by decide +kernel
theorem dX10_told_161 : decode cX10_told 161 = .ok (.getfield 140, 3) := by decide +kernel
theorem dX10_told_164 : decode cX10_told 164 = .ok (.ireturn, 1) := by decide +kernel
theorem dX10_told_165 : decode cX10_told 165 = .ok (.aload_n 0, 1) := by decide +kernel
theorem dX10_told_166 : decode cX10_told 166 = .ok (.getfield 143, 3) := by decide +kernel
theorem dX10_told_169 : decode cX10_told 169 = .ok (.ireturn, 1) := by decide +kernel
theorem dX10_told_170 : decode cX10_told 170 = .ok (.ldc 72, 2) := by decide +kernel
theorem dX10_told_172 : decode cX10_told 172 = .ok (.ireturn, 1) := by decide +kernel
theorem dX10_stop_0 : decode cX10_stop 0 = .ok (.aload_n 0, 1) := by decide +kernel
theorem dX10_stop_1 : decode cX10_stop 1 = .ok (.iload_n 1, 1) := by decide +kernel
theorem dX10_stop_2 : decode cX10_stop 2 = .ok (.invokevirtual 150, 3) := by decide +kernel
theorem dX10_stop_5 : decode cX10_stop 5 = .ok (.ifCond .ne 6, 3) := by decide +kernel
theorem dX10_stop_8 : decode cX10_stop 8 = .ok (.ldc 167, 2) := by decide +kernel
theorem dX10_stop_10 : decode cX10_stop 10 = .ok (.ireturn, 1) := by decide +kernel
theorem dX10_stop_11 : decode cX10_stop 11 = .ok (.iload_n 2, 1) := by decide +kernel
theorem dX10_stop_12 : decode cX10_stop 12 = .ok (.tableswitch 96 0 6 #[44, 51, 58, 65, 72, 79, 86], 44) := by decide +kernel
theorem dX10_stop_56 : decode cX10_stop 56 = .ok (.aload_n 0, 1) := by decide +kernel
theorem dX10_stop_57 : decode cX10_stop 57 = .ok (.getfield 20, 3) := by decide +kernel
theorem dX10_stop_60 : decode cX10_stop 60 = .ok (.iload_n 1, 1) := by decide +kernel
theorem dX10_stop_61 : decode cX10_stop 61 = .ok (.iaload, 1) := by decide +kernel
theorem dX10_stop_62 : decode cX10_stop 62 = .ok (.ireturn, 1) := by decide +kernel
theorem dX10_stop_63 : decode cX10_stop 63 = .ok (.aload_n 0, 1) := by decide +kernel
theorem dX10_stop_64 : decode cX10_stop 64 = .ok (.getfield 23, 3) := by decide +kernel
theorem dX10_stop_67 : decode cX10_stop 67 = .ok (.iload_n 1, 1) := by decide +kernel
theorem dX10_stop_68 : decode cX10_stop 68 = .ok (.iaload, 1) := by decide +kernel
theorem dX10_stop_69 : decode cX10_stop 69 = .ok (.ireturn, 1) := by decide +kernel
theorem dX10_stop_70 : decode cX10_stop 70 = .ok (.aload_n 0, 1) := by decide +kernel
theorem dX10_stop_71 : decode cX10_stop 71 = .ok (.getfield 26, 3) := by decide +kernel
theorem dX10_stop_74 : decode cX10_stop 74 = .ok (.iload_n 1, 1) := by decide +kernel
theorem dX10_stop_75 : decode cX10_stop 75 = .ok (.iaload, 1) := by decide +kernel
theorem dX10_stop_76 : decode cX10_stop 76 = .ok (.ireturn, 1) := by decide +kernel
theorem dX10_stop_77 : decode cX10_stop 77 = .ok (.aload_n 0, 1) := by decide +kernel
theorem dX10_stop_78 : decode cX10_stop 78 = .ok (.getfield 7, 3) := by decide +kernel
theorem dX10_stop_81 : decode cX10_stop 81 = .ok (.iload_n 1, 1) := by decide +kernel
theorem dX10_stop_82 : decode cX10_stop 82 = .ok (.iaload, 1) := by decide +kernel
theorem dX10_stop_83 : decode cX10_stop 83 = .ok (.ireturn, 1) := by decide +kernel
theorem dX10_stop_84 : decode cX10_stop 84 = .ok (.aload_n 0, 1) := by decide +kernel
theorem dX10_stop_85 : decode cX10_stop 85 = .ok (.getfield 29, 3) := by decide +kernel
theorem dX10_stop_88 : decode cX10_stop 88 = .ok (.iload_n 1, 1) := by decide +kernel
theorem dX10_stop_89 : decode cX10_stop 89 = .ok (.iaload, 1) := by decide +kernel
theorem dX10_stop_90 : decode cX10_stop 90 = .ok (.ireturn, 1) := by decide +kernel
theorem dX10_stop_91 : decode cX10_stop 91 = .ok (.aload_n 0, 1) := by decide +kernel
theorem dX10_stop_92 : decode cX10_stop 92 = .ok (.getfield 32, 3) := by decide +kernel
theorem dX10_stop_95 : decode cX10_stop 95 = .ok (.iload_n 1, 1) := by decide +kernel
theorem dX10_stop_96 : decode cX10_stop 96 = .ok (.iaload, 1) := by decide +kernel
theorem dX10_stop_97 : decode cX10_stop 97 = .ok (.ireturn, 1) := by decide +kernel
theorem dX10_stop_98 : decode cX10_stop 98 = .ok (.aload_n 0, 1) := by decide +kernel
theorem dX10_stop_99 : decode cX10_stop 99 = .ok (.getfield 7, 3) := by decide +kernel
theorem dX10_stop_102 : decode cX10_stop 102 = .ok (.bipush 7, 2) := by decide +kernel
theorem dX10_stop_104 : decode cX10_stop 104 = .ok (.iload_n 1, 1) := by decide +kernel
theorem dX10_stop_105 : decode cX10_stop 105 = .ok (.iadd, 1) := by decide +kernel
theorem dX10_stop_106 : decode cX10_stop 106 = .ok (.iaload, 1) := by decide +kernel
theorem dX10_stop_107 : decode cX10_stop 107 = .ok (.ireturn, 1) := by decide +kernel
theorem dX10_stop_108 : decode cX10_stop 108 = .ok (.ldc 72, 2) := by decide +kernel
theorem dX10_stop_110 : decode cX10_stop 110 = .ok (.ireturn, 1) := by decide +kernel
theorem dX10_dinAt_0 : decode cX10_dinAt 0 = .ok (.aload_n 0, 1) := by decide +kernel
theorem dX10_dinAt_1 : decode cX10_dinAt 1 = .ok (.getfield 134, 3) := by decide +kernel
theorem dX10_dinAt_4 : decode cX10_dinAt 4 = .ok (.ifCond .ne 7, 3) := by decide +kernel
theorem dX10_dinAt_7 : decode cX10_dinAt 7 = .ok (.iconst 0, 1) := by decide +kernel
theorem dX10_dinAt_8 : decode cX10_dinAt 8 = .ok (.goto 14, 3) := by decide +kernel
theorem dX10_dinAt_11 : decode cX10_dinAt 11 = .ok (.aload_n 0, 1) := by decide +kernel
theorem dX10_dinAt_12 : decode cX10_dinAt 12 = .ok (.getfield 35, 3) := by decide +kernel
theorem dX10_dinAt_15 : decode cX10_dinAt 15 = .ok (.iload_n 1, 1) := by decide +kernel
theorem dX10_dinAt_16 : decode cX10_dinAt 16 = .ok (.aload_n 0, 1) := by decide +kernel
theorem dX10_dinAt_17 : decode cX10_dinAt 17 = .ok (.getfield 134, 3) := by decide +kernel
theorem dX10_dinAt_20 : decode cX10_dinAt 20 = .ok (.irem, 1) := by decide +kernel
theorem dX10_dinAt_21 : decode cX10_dinAt 21 = .ok (.iaload, 1) := by decide +kernel
theorem dX10_dinAt_22 : decode cX10_dinAt 22 = .ok (.ireturn, 1) := by decide +kernel
theorem dX10_din_0 : decode cX10_din 0 = .ok (.iload_n 1, 1) := by decide +kernel
theorem dX10_din_1 : decode cX10_din 1 = .ok (.i2l, 1) := by decide +kernel
theorem dX10_din_2 : decode cX10_din 2 = .ok (.lconst 0, 1) := by decide +kernel
theorem dX10_din_3 : decode cX10_din 3 = .ok (.ldc2_w 168, 3) := by decide +kernel
theorem dX10_din_6 : decode cX10_din 6 = .ok (.invokestatic 68, 3) := by decide +kernel
theorem dX10_din_9 : decode cX10_din 9 = .ok (.ifCond .eq 11, 3) := by decide +kernel
theorem dX10_din_12 : decode cX10_din 12 = .ok (.aload_n 0, 1) := by decide +kernel
theorem dX10_din_13 : decode cX10_din 13 = .ok (.iload_n 1, 1) := by decide +kernel
theorem dX10_din_14 : decode cX10_din 14 = .ok (.invokevirtual 170, 3) := by decide +kernel
theorem dX10_din_17 : decode cX10_din 17 = .ok (.goto 5, 3) := by decide +kernel
theorem dX10_din_20 : decode cX10_din 20 = .ok (.ldc 72, 2) := by decide +kernel
theorem dX10_din_22 : decode cX10_din 22 = .ok (.ireturn, 1) := by decide +kernel
theorem dX10_isInAt_0 : decode cX10_isInAt 0 = .ok (.iload_n 2, 1) := by decide +kernel
theorem dX10_isInAt_1 : decode cX10_isInAt 1 = .ok (.bipush 12, 2) := by decide +kernel
theorem dX10_isInAt_3 : decode cX10_isInAt 3 = .ok (.if_icmp .ge 20, 3) := by decide +kernel
theorem dX10_isInAt_6 : decode cX10_isInAt 6 = .ok (.aload_n 0, 1) := by decide +kernel
theorem dX10_isInAt_7 : decode cX10_isInAt 7 = .ok (.getfield 23, 3) := by decide +kernel
theorem dX10_isInAt_10 : decode cX10_isInAt 10 = .ok (.iload_n 1, 1) := by decide +kernel
theorem dX10_isInAt_11 : decode cX10_isInAt 11 = .ok (.iaload, 1) := by decide +kernel
theorem dX10_isInAt_12 : decode cX10_isInAt 12 = .ok (.iload_n 2, 1) := by decide +kernel
theorem dX10_isInAt_13 : decode cX10_isInAt 13 = .ok (.invokestatic 154, 3) := by decide +kernel
theorem dX10_isInAt_16 : decode cX10_isInAt 16 = .ok (.ifCond .eq 7, 3) := by decide +kernel
theorem dX10_isInAt_19 : decode cX10_isInAt 19 = .ok (.iconst 1, 1) := by decide +kernel
theorem dX10_isInAt_20 : decode cX10_isInAt 20 = .ok (.goto 4, 3) := by decide +kernel
theorem dX10_isInAt_23 : decode cX10_isInAt 23 = .ok (.iconst 0, 1) := by decide +kernel
theorem dX10_isInAt_24 : decode cX10_isInAt 24 = .ok (.ireturn, 1) := by decide +kernel
theorem dX10_visit_0 : decode cX10_visit 0 = .ok (.iload_n 3, 1) := by decide +kernel
theorem dX10_visit_1 : decode cX10_visit 1 = .ok (.sipush 3600, 3) := by decide +kernel
theorem dX10_visit_4 : decode cX10_visit 4 = .ok (.idiv, 1) := by decide +kernel
theorem dX10_visit_5 : decode cX10_visit 5 = .ok (.istore 5, 2) := by decide +kernel
theorem dX10_visit_7 : decode cX10_visit 7 = .ok (.iload 4, 2) := by decide +kernel
theorem dX10_visit_9 : decode cX10_visit 9 = .ok (.ifCond .eq 12, 3) := by decide +kernel
theorem dX10_visit_12 : decode cX10_visit 12 = .ok (.aload_n 0, 1) := by decide +kernel
theorem dX10_visit_13 : decode cX10_visit 13 = .ok (.getfield 17, 3) := by decide +kernel
theorem dX10_visit_16 : decode cX10_visit 16 = .ok (.iconst 0, 1) := by decide +kernel
theorem dX10_visit_17 : decode cX10_visit 17 = .ok (.iaload, 1) := by decide +kernel
theorem dX10_visit_18 : decode cX10_visit 18 = .ok (.goto 4, 3) := by decide +kernel
theorem dX10_visit_21 : decode cX10_visit 21 = .ok (.iconst 0, 1) := by decide +kernel
theorem dX10_visit_22 : decode cX10_visit 22 = .ok (.istore 6, 2) := by decide +kernel
theorem dX10_visit_24 : decode cX10_visit 24 = .ok (.iload 4, 2) := by decide +kernel
theorem dX10_visit_26 : decode cX10_visit 26 = .ok (.ifCond .eq 50, 3) := by decide +kernel
theorem dX10_visit_29 : decode cX10_visit 29 = .ok (.aload_n 0, 1) := by decide +kernel
theorem dX10_visit_30 : decode cX10_visit 30 = .ok (.iload_n 2, 1) := by decide +kernel
theorem dX10_visit_31 : decode cX10_visit 31 = .ok (.iload 5, 2) := by decide +kernel
theorem dX10_visit_33 : decode cX10_visit 33 = .ok (.invokevirtual 173, 3) := by decide +kernel
theorem dX10_visit_36 : decode cX10_visit 36 = .ok (.ifCond .eq 40, 3) := by decide +kernel
theorem dX10_visit_39 : decode cX10_visit 39 = .ok (.aload_n 0, 1) := by decide +kernel
theorem dX10_visit_40 : decode cX10_visit 40 = .ok (.iload 5, 2) := by decide +kernel
theorem dX10_visit_42 : decode cX10_visit 42 = .ok (.invokevirtual 170, 3) := by decide +kernel
theorem dX10_visit_45 : decode cX10_visit 45 = .ok (.aload_n 0, 1) := by decide +kernel
theorem dX10_visit_46 : decode cX10_visit 46 = .ok (.getfield 26, 3) := by decide +kernel
theorem dX10_visit_49 : decode cX10_visit 49 = .ok (.iload_n 2, 1) := by decide +kernel
theorem dX10_visit_50 : decode cX10_visit 50 = .ok (.iaload, 1) := by decide +kernel
theorem dX10_visit_51 : decode cX10_visit 51 = .ok (.if_icmp .ge 25, 3) := by decide +kernel
theorem dX10_visit_54 : decode cX10_visit 54 = .ok (.aload_n 0, 1) := by decide +kernel
theorem dX10_visit_55 : decode cX10_visit 55 = .ok (.getfield 7, 3) := by decide +kernel
theorem dX10_visit_58 : decode cX10_visit 58 = .ok (.iload_n 1, 1) := by decide +kernel
theorem dX10_visit_59 : decode cX10_visit 59 = .ok (.iload_n 2, 1) := by decide +kernel
theorem dX10_visit_60 : decode cX10_visit 60 = .ok (.iadd, 1) := by decide +kernel
theorem dX10_visit_61 : decode cX10_visit 61 = .ok (.iconst 2, 1) := by decide +kernel
theorem dX10_visit_62 : decode cX10_visit 62 = .ok (.iastore, 1) := by decide +kernel
theorem dX10_visit_63 : decode cX10_visit 63 = .ok (.aload_n 0, 1) := by decide +kernel
theorem dX10_visit_64 : decode cX10_visit 64 = .ok (.dup, 1) := by decide +kernel
theorem dX10_visit_65 : decode cX10_visit 65 = .ok (.getfield 176, 3) := by decide +kernel
theorem dX10_visit_68 : decode cX10_visit 68 = .ok (.iconst 1, 1) := by decide +kernel
theorem dX10_visit_69 : decode cX10_visit 69 = .ok (.iadd, 1) := by decide +kernel
theorem dX10_visit_70 : decode cX10_visit 70 = .ok (.putfield 176, 3) := by decide +kernel
theorem dX10_visit_73 : decode cX10_visit 73 = .ok (.iload 6, 2) := by decide +kernel
theorem dX10_visit_75 : decode cX10_visit 75 = .ok (.ireturn, 1) := by decide +kernel
theorem dX10_visit_76 : decode cX10_visit 76 = .ok (.aload_n 0, 1) := by decide +kernel
theorem dX10_visit_77 : decode cX10_visit 77 = .ok (.getfield 29, 3) := by decide +kernel
theorem dX10_visit_80 : decode cX10_visit 80 = .ok (.iload_n 2, 1) := by decide +kernel
theorem dX10_visit_81 : decode cX10_visit 81 = .ok (.iaload, 1) := by decide +kernel
theorem dX10_visit_82 : decode cX10_visit 82 = .ok (.iconst (-1), 1) := by decide +kernel
theorem dX10_visit_83 : decode cX10_visit 83 = .ok (.if_icmp .eq 42, 3) := by decide +kernel
theorem dX10_visit_86 : decode cX10_visit 86 = .ok (.aload_n 0, 1) := by decide +kernel
theorem dX10_visit_87 : decode cX10_visit 87 = .ok (.aload_n 0, 1) := by decide +kernel
theorem dX10_visit_88 : decode cX10_visit 88 = .ok (.getfield 29, 3) := by decide +kernel
theorem dX10_visit_91 : decode cX10_visit 91 = .ok (.iload_n 2, 1) := by decide +kernel
theorem dX10_visit_92 : decode cX10_visit 92 = .ok (.iaload, 1) := by decide +kernel
theorem dX10_visit_93 : decode cX10_visit 93 = .ok (.iload 5, 2) := by decide +kernel
theorem dX10_visit_95 : decode cX10_visit 95 = .ok (.invokevirtual 173, 3) := by decide +kernel
theorem dX10_visit_98 : decode cX10_visit 98 = .ok (.ifCond .eq 27, 3) := by decide +kernel
theorem dX10_visit_101 : decode cX10_visit 101 = .ok (.aload_n 0, 1) := by decide +kernel
theorem dX10_visit_102 : decode cX10_visit 102 = .ok (.getfield 7, 3) := by decide +kernel
theorem dX10_visit_105 : decode cX10_visit 105 = .ok (.iload_n 1, 1) := by decide +kernel
theorem dX10_visit_106 : decode cX10_visit 106 = .ok (.bipush 7, 2) := by decide +kernel
theorem dX10_visit_108 : decode cX10_visit 108 = .ok (.iadd, 1) := by decide +kernel
theorem dX10_visit_109 : decode cX10_visit 109 = .ok (.iload_n 2, 1) := by decide +kernel
theorem dX10_visit_110 : decode cX10_visit 110 = .ok (.iadd, 1) := by decide +kernel
theorem dX10_visit_111 : decode cX10_visit 111 = .ok (.iaload, 1) := by decide +kernel
theorem dX10_visit_112 : decode cX10_visit 112 = .ok (.aload_n 0, 1) := by decide +kernel
theorem dX10_visit_113 : decode cX10_visit 113 = .ok (.getfield 32, 3) := by decide +kernel
theorem dX10_visit_116 : decode cX10_visit 116 = .ok (.iload_n 2, 1) := by decide +kernel
theorem dX10_visit_117 : decode cX10_visit 117 = .ok (.iaload, 1) := by decide +kernel
theorem dX10_visit_118 : decode cX10_visit 118 = .ok (.if_icmp .ge 7, 3) := by decide +kernel
theorem dX10_visit_121 : decode cX10_visit 121 = .ok (.iconst 1, 1) := by decide +kernel
theorem dX10_visit_122 : decode cX10_visit 122 = .ok (.goto 4, 3) := by decide +kernel
theorem dX10_visit_125 : decode cX10_visit 125 = .ok (.iconst 0, 1) := by decide +kernel
theorem dX10_visit_126 : decode cX10_visit 126 = .ok (.istore 7, 2) := by decide +kernel
theorem dX10_visit_128 : decode cX10_visit 128 = .ok (.aload_n 0, 1) := by decide +kernel
theorem dX10_visit_129 : decode cX10_visit 129 = .ok (.getfield 7, 3) := by decide +kernel
theorem dX10_visit_132 : decode cX10_visit 132 = .ok (.iload_n 1, 1) := by decide +kernel
theorem dX10_visit_133 : decode cX10_visit 133 = .ok (.iload_n 2, 1) := by decide +kernel
theorem dX10_visit_134 : decode cX10_visit 134 = .ok (.iadd, 1) := by decide +kernel
theorem dX10_visit_135 : decode cX10_visit 135 = .ok (.iload 7, 2) := by decide +kernel
theorem dX10_visit_137 : decode cX10_visit 137 = .ok (.ifCond .eq 7, 3) := by decide +kernel
theorem dX10_visit_140 : decode cX10_visit 140 = .ok (.iconst 3, 1) := by decide +kernel
theorem dX10_visit_141 : decode cX10_visit 141 = .ok (.goto 4, 3) := by decide +kernel
theorem dX10_visit_144 : decode cX10_visit 144 = .ok (.iconst 4, 1) := by decide +kernel
theorem dX10_visit_145 : decode cX10_visit 145 = .ok (.iastore, 1) := by decide +kernel
theorem dX10_visit_146 : decode cX10_visit 146 = .ok (.aload_n 0, 1) := by decide +kernel
theorem dX10_visit_147 : decode cX10_visit 147 = .ok (.getfield 7, 3) := by decide +kernel
theorem dX10_visit_150 : decode cX10_visit 150 = .ok (.iload_n 1, 1) := by decide +kernel
theorem dX10_visit_151 : decode cX10_visit 151 = .ok (.bipush 7, 2) := by decide +kernel
theorem dX10_visit_153 : decode cX10_visit 153 = .ok (.iadd, 1) := by decide +kernel
theorem dX10_visit_154 : decode cX10_visit 154 = .ok (.iload_n 2, 1) := by decide +kernel
theorem dX10_visit_155 : decode cX10_visit 155 = .ok (.iadd, 1) := by decide +kernel
theorem dX10_visit_156 : decode cX10_visit 156 = .ok (.dup2, 1) := by decide +kernel
theorem dX10_visit_157 : decode cX10_visit 157 = .ok (.iaload, 1) := by decide +kernel
theorem dX10_visit_158 : decode cX10_visit 158 = .ok (.iload 7, 2) := by decide +kernel
theorem dX10_visit_160 : decode cX10_visit 160 = .ok (.invokestatic 160, 3) := by decide +kernel
theorem dX10_visit_163 : decode cX10_visit 163 = .ok (.iadd, 1) := by decide +kernel
theorem dX10_visit_164 : decode cX10_visit 164 = .ok (.iastore, 1) := by decide +kernel
theorem dX10_visit_165 : decode cX10_visit 165 = .ok (.aload_n 0, 1) := by decide +kernel
theorem dX10_visit_166 : decode cX10_visit 166 = .ok (.dup, 1) := by decide +kernel
theorem dX10_visit_167 : decode cX10_visit 167 = .ok (.getfield 179, 3) := by decide +kernel
theorem dX10_visit_170 : decode cX10_visit 170 = .ok (.iload 7, 2) := by decide +kernel
theorem dX10_visit_172 : decode cX10_visit 172 = .ok (.ifCond .ne 7, 3) := by decide +kernel
theorem dX10_visit_175 : decode cX10_visit 175 = .ok (.iconst 1, 1) := by decide +kernel
theorem dX10_visit_176 : decode cX10_visit 176 = .ok (.goto 4, 3) := by decide +kernel
theorem dX10_visit_179 : decode cX10_visit 179 = .ok (.iconst 0, 1) := by decide +kernel
theorem dX10_visit_180 : decode cX10_visit 180 = .ok (.invokestatic 160, 3) := by decide +kernel
theorem dX10_visit_183 : decode cX10_visit 183 = .ok (.iload_n 2, 1) := by decide +kernel
theorem dX10_visit_184 : decode cX10_visit 184 = .ok (.ishl, 1) := by decide +kernel
theorem dX10_visit_185 : decode cX10_visit 185 = .ok (.ior, 1) := by decide +kernel
theorem dX10_visit_186 : decode cX10_visit 186 = .ok (.putfield 179, 3) := by decide +kernel
theorem dX10_visit_189 : decode cX10_visit 189 = .ok (.aload_n 0, 1) := by decide +kernel
theorem dX10_visit_190 : decode cX10_visit 190 = .ok (.getfield 7, 3) := by decide +kernel
theorem dX10_visit_193 : decode cX10_visit 193 = .ok (.iload_n 1, 1) := by decide +kernel
theorem dX10_visit_194 : decode cX10_visit 194 = .ok (.bipush 16, 2) := by decide +kernel
theorem dX10_visit_196 : decode cX10_visit 196 = .ok (.iadd, 1) := by decide +kernel
theorem dX10_visit_197 : decode cX10_visit 197 = .ok (.dup2, 1) := by decide +kernel
theorem dX10_visit_198 : decode cX10_visit 198 = .ok (.iaload, 1) := by decide +kernel
theorem dX10_visit_199 : decode cX10_visit 199 = .ok (.iload 7, 2) := by decide +kernel
theorem dX10_visit_201 : decode cX10_visit 201 = .ok (.ifCond .ne 7, 3) := by decide +kernel
theorem dX10_visit_204 : decode cX10_visit 204 = .ok (.iconst 1, 1) := by decide +kernel
theorem dX10_visit_205 : decode cX10_visit 205 = .ok (.goto 4, 3) := by decide +kernel
theorem dX10_visit_208 : decode cX10_visit 208 = .ok (.iconst 0, 1) := by decide +kernel
theorem dX10_visit_209 : decode cX10_visit 209 = .ok (.invokestatic 160, 3) := by decide +kernel
theorem dX10_visit_212 : decode cX10_visit 212 = .ok (.iadd, 1) := by decide +kernel
theorem dX10_visit_213 : decode cX10_visit 213 = .ok (.iastore, 1) := by decide +kernel
theorem dX10_visit_214 : decode cX10_visit 214 = .ok (.iload 6, 2) := by decide +kernel
theorem dX10_visit_216 : decode cX10_visit 216 = .ok (.aload_n 0, 1) := by decide +kernel
theorem dX10_visit_217 : decode cX10_visit 217 = .ok (.getfield 17, 3) := by decide +kernel
theorem dX10_visit_220 : decode cX10_visit 220 = .ok (.iconst 2, 1) := by decide +kernel
theorem dX10_visit_221 : decode cX10_visit 221 = .ok (.iaload, 1) := by decide +kernel
theorem dX10_visit_222 : decode cX10_visit 222 = .ok (.iadd, 1) := by decide +kernel
theorem dX10_visit_223 : decode cX10_visit 223 = .ok (.ireturn, 1) := by decide +kernel
theorem dX10_roundIn_0 : decode cX10_roundIn 0 = .ok (.iconst 0, 1) := by decide +kernel
theorem dX10_roundIn_1 : decode cX10_roundIn 1 = .ok (.istore 4, 2) := by decide +kernel
theorem dX10_roundIn_3 : decode cX10_roundIn 3 = .ok (.iload 4, 2) := by decide +kernel
theorem dX10_roundIn_5 : decode cX10_roundIn 5 = .ok (.bipush 7, 2) := by decide +kernel
theorem dX10_roundIn_7 : decode cX10_roundIn 7 = .ok (.if_icmp .ge 17, 3) := by decide +kernel
theorem dX10_roundIn_10 : decode cX10_roundIn 10 = .ok (.aload_n 0, 1) := by decide +kernel
theorem dX10_roundIn_11 : decode cX10_roundIn 11 = .ok (.getfield 45, 3) := by decide +kernel
theorem dX10_roundIn_14 : decode cX10_roundIn 14 = .ok (.iload 4, 2) := by decide +kernel
theorem dX10_roundIn_16 : decode cX10_roundIn 16 = .ok (.iconst (-1), 1) := by decide +kernel
theorem dX10_roundIn_17 : decode cX10_roundIn 17 = .ok (.iastore, 1) := by decide +kernel
theorem dX10_roundIn_18 : decode cX10_roundIn 18 = .ok (.iinc 4 1, 3) := by decide +kernel
theorem dX10_roundIn_21 : decode cX10_roundIn 21 = .ok (.goto (-18), 3) := by decide +kernel
theorem dX10_roundIn_24 : decode cX10_roundIn 24 = .ok (.aload_n 0, 1) := by decide +kernel
theorem dX10_roundIn_25 : decode cX10_roundIn 25 = .ok (.iconst 0, 1) := by decide +kernel
theorem dX10_roundIn_26 : decode cX10_roundIn 26 = .ok (.putfield 176, 3) := by decide +kernel
theorem dX10_roundIn_29 : decode cX10_roundIn 29 = .ok (.aload_n 0, 1) := by decide +kernel
theorem dX10_roundIn_30 : decode cX10_roundIn 30 = .ok (.iconst 0, 1) := by decide +kernel
theorem dX10_roundIn_31 : decode cX10_roundIn 31 = .ok (.putfield 179, 3) := by decide +kernel
theorem dX10_roundIn_34 : decode cX10_roundIn 34 = .ok (.iconst 0, 1) := by decide +kernel
theorem dX10_roundIn_35 : decode cX10_roundIn 35 = .ok (.istore 4, 2) := by decide +kernel
theorem dX10_roundIn_37 : decode cX10_roundIn 37 = .ok (.iconst 0, 1) := by decide +kernel
theorem dX10_roundIn_38 : decode cX10_roundIn 38 = .ok (.istore 5, 2) := by decide +kernel
theorem dX10_roundIn_40 : decode cX10_roundIn 40 = .ok (.iconst 0, 1) := by decide +kernel
theorem dX10_roundIn_41 : decode cX10_roundIn 41 = .ok (.istore 6, 2) := by decide +kernel
theorem dX10_roundIn_43 : decode cX10_roundIn 43 = .ok (.iconst 0, 1) := by decide +kernel
theorem dX10_roundIn_44 : decode cX10_roundIn 44 = .ok (.istore 7, 2) := by decide +kernel
theorem dX10_roundIn_46 : decode cX10_roundIn 46 = .ok (.iload 7, 2) := by decide +kernel
theorem dX10_roundIn_48 : decode cX10_roundIn 48 = .ok (.iload_n 2, 1) := by decide +kernel
theorem dX10_roundIn_49 : decode cX10_roundIn 49 = .ok (.invokestatic 146, 3) := by decide +kernel
theorem dX10_roundIn_52 : decode cX10_roundIn 52 = .ok (.if_icmp .ge 120, 3) := by decide +kernel
theorem dX10_roundIn_55 : decode cX10_roundIn 55 = .ok (.iload_n 2, 1) := by decide +kernel
theorem dX10_roundIn_56 : decode cX10_roundIn 56 = .ok (.iload 7, 2) := by decide +kernel
theorem dX10_roundIn_58 : decode cX10_roundIn 58 = .ok (.invokestatic 182, 3) := by decide +kernel
theorem dX10_roundIn_61 : decode cX10_roundIn 61 = .ok (.istore 8, 2) := by decide +kernel
theorem dX10_roundIn_63 : decode cX10_roundIn 63 = .ok (.iload 4, 2) := by decide +kernel
theorem dX10_roundIn_65 : decode cX10_roundIn 65 = .ok (.aload_n 0, 1) := by decide +kernel
theorem dX10_roundIn_66 : decode cX10_roundIn 66 = .ok (.getfield 20, 3) := by decide +kernel
theorem dX10_roundIn_69 : decode cX10_roundIn 69 = .ok (.iload 8, 2) := by decide +kernel
theorem dX10_roundIn_71 : decode cX10_roundIn 71 = .ok (.iaload, 1) := by decide +kernel
theorem dX10_roundIn_72 : decode cX10_roundIn 72 = .ok (.iload 5, 2) := by decide +kernel
theorem dX10_roundIn_74 : decode cX10_roundIn 74 = .ok (.invokestatic 185, 3) := by decide +kernel
theorem dX10_roundIn_77 : decode cX10_roundIn 77 = .ok (.aload_n 0, 1) := by decide +kernel
theorem dX10_roundIn_78 : decode cX10_roundIn 78 = .ok (.getfield 17, 3) := by decide +kernel
theorem dX10_roundIn_81 : decode cX10_roundIn 81 = .ok (.iconst 1, 1) := by decide +kernel
theorem dX10_roundIn_82 : decode cX10_roundIn 82 = .ok (.iaload, 1) := by decide +kernel
theorem dX10_roundIn_83 : decode cX10_roundIn 83 = .ok (.imul, 1) := by decide +kernel
theorem dX10_roundIn_84 : decode cX10_roundIn 84 = .ok (.iadd, 1) := by decide +kernel
theorem dX10_roundIn_85 : decode cX10_roundIn 85 = .ok (.istore 4, 2) := by decide +kernel
theorem dX10_roundIn_87 : decode cX10_roundIn 87 = .ok (.aload_n 0, 1) := by decide +kernel
theorem dX10_roundIn_88 : decode cX10_roundIn 88 = .ok (.getfield 20, 3) := by decide +kernel
theorem dX10_roundIn_91 : decode cX10_roundIn 91 = .ok (.iload 8, 2) := by decide +kernel
theorem dX10_roundIn_93 : decode cX10_roundIn 93 = .ok (.iaload, 1) := by decide +kernel
theorem dX10_roundIn_94 : decode cX10_roundIn 94 = .ok (.istore 5, 2) := by decide +kernel
theorem dX10_roundIn_96 : decode cX10_roundIn 96 = .ok (.aload_n 0, 1) := by decide +kernel
theorem dX10_roundIn_97 : decode cX10_roundIn 97 = .ok (.getfield 45, 3) := by decide +kernel
theorem dX10_roundIn_100 : decode cX10_roundIn 100 = .ok (.iload 8, 2) := by decide +kernel
theorem dX10_roundIn_102 : decode cX10_roundIn 102 = .ok (.iload 4, 2) := by decide +kernel
theorem dX10_roundIn_104 : decode cX10_roundIn 104 = .ok (.iastore, 1) := by decide +kernel
theorem dX10_roundIn_105 : decode cX10_roundIn 105 = .ok (.aload_n 0, 1) := by decide +kernel
theorem dX10_roundIn_106 : decode cX10_roundIn 106 = .ok (.getfield 7, 3) := by decide +kernel
theorem dX10_roundIn_109 : decode cX10_roundIn 109 = .ok (.iload_n 1, 1) := by decide +kernel
theorem dX10_roundIn_110 : decode cX10_roundIn 110 = .ok (.iload 8, 2) := by decide +kernel
theorem dX10_roundIn_112 : decode cX10_roundIn 112 = .ok (.iadd, 1) := by decide +kernel
theorem dX10_roundIn_113 : decode cX10_roundIn 113 = .ok (.iaload, 1) := by decide +kernel
theorem dX10_roundIn_114 : decode cX10_roundIn 114 = .ok (.iconst 1, 1) := by decide +kernel
theorem dX10_roundIn_115 : decode cX10_roundIn 115 = .ok (.if_icmp .eq 16, 3) := by decide +kernel
theorem dX10_roundIn_118 : decode cX10_roundIn 118 = .ok (.aload_n 0, 1) := by decide +kernel
theorem dX10_roundIn_119 : decode cX10_roundIn 119 = .ok (.getfield 7, 3) := by decide +kernel
theorem dX10_roundIn_122 : decode cX10_roundIn 122 = .ok (.iload_n 1, 1) := by decide +kernel
theorem dX10_roundIn_123 : decode cX10_roundIn 123 = .ok (.iload 8, 2) := by decide +kernel
theorem dX10_roundIn_125 : decode cX10_roundIn 125 = .ok (.iadd, 1) := by decide +kernel
theorem dX10_roundIn_126 : decode cX10_roundIn 126 = .ok (.iaload, 1) := by decide +kernel
theorem dX10_roundIn_127 : decode cX10_roundIn 127 = .ok (.iconst 4, 1) := by decide +kernel
theorem dX10_roundIn_128 : decode cX10_roundIn 128 = .ok (.if_icmp .ne 38, 3) := by decide +kernel
theorem dX10_roundIn_131 : decode cX10_roundIn 131 = .ok (.iinc 6 1, 3) := by decide +kernel
theorem dX10_roundIn_134 : decode cX10_roundIn 134 = .ok (.iload 4, 2) := by decide +kernel
theorem dX10_roundIn_136 : decode cX10_roundIn 136 = .ok (.aload_n 0, 1) := by decide +kernel
theorem dX10_roundIn_137 : decode cX10_roundIn 137 = .ok (.iload_n 1, 1) := by decide +kernel
theorem dX10_roundIn_138 : decode cX10_roundIn 138 = .ok (.iload 8, 2) := by decide +kernel
theorem dX10_roundIn_140 : decode cX10_roundIn 140 = .ok (.iload 4, 2) := by decide +kernel
theorem dX10_roundIn_142 : decode cX10_roundIn 142 = .ok (.iload_n 3, 1) := by decide +kernel
theorem dX10_roundIn_143 : decode cX10_roundIn 143 = .ok (.ifCond .eq 12, 3) := by decide +kernel
theorem dX10_roundIn_146 : decode cX10_roundIn 146 = .ok (.iload 6, 2) := by decide +kernel
theorem dX10_roundIn_148 : decode cX10_roundIn 148 = .ok (.iconst 5, 1) := by decide +kernel
theorem dX10_roundIn_149 : decode cX10_roundIn 149 = .ok (.iload_n 3, 1) := by decide +kernel
theorem dX10_roundIn_150 : decode cX10_roundIn 150 = .ok (.isub, 1) := by decide +kernel
theorem dX10_roundIn_151 : decode cX10_roundIn 151 = .ok (.irem, 1) := by decide +kernel
theorem dX10_roundIn_152 : decode cX10_roundIn 152 = .ok (.ifCond .eq 7, 3) := by decide +kernel
theorem dX10_roundIn_155 : decode cX10_roundIn 155 = .ok (.iconst 1, 1) := by decide +kernel
theorem dX10_roundIn_156 : decode cX10_roundIn 156 = .ok (.goto 4, 3) := by decide +kernel
theorem dX10_roundIn_159 : decode cX10_roundIn 159 = .ok (.iconst 0, 1) := by decide +kernel
theorem dX10_roundIn_160 : decode cX10_roundIn 160 = .ok (.invokevirtual 188, 3) := by decide +kernel
theorem dX10_roundIn_163 : decode cX10_roundIn 163 = .ok (.iadd, 1) := by decide +kernel
theorem dX10_roundIn_164 : decode cX10_roundIn 164 = .ok (.istore 4, 2) := by decide +kernel
theorem dX10_roundIn_166 : decode cX10_roundIn 166 = .ok (.iinc 7 1, 3) := by decide +kernel
theorem dX10_roundIn_169 : decode cX10_roundIn 169 = .ok (.goto (-123), 3) := by decide +kernel
theorem dX10_roundIn_172 : decode cX10_roundIn 172 = .ok (.iload 4, 2) := by decide +kernel
theorem dX10_roundIn_174 : decode cX10_roundIn 174 = .ok (.iload 5, 2) := by decide +kernel
theorem dX10_roundIn_176 : decode cX10_roundIn 176 = .ok (.aload_n 0, 1) := by decide +kernel
theorem dX10_roundIn_177 : decode cX10_roundIn 177 = .ok (.getfield 17, 3) := by decide +kernel
theorem dX10_roundIn_180 : decode cX10_roundIn 180 = .ok (.iconst 1, 1) := by decide +kernel
theorem dX10_roundIn_181 : decode cX10_roundIn 181 = .ok (.iaload, 1) := by decide +kernel
theorem dX10_roundIn_182 : decode cX10_roundIn 182 = .ok (.imul, 1) := by decide +kernel
theorem dX10_roundIn_183 : decode cX10_roundIn 183 = .ok (.iadd, 1) := by decide +kernel
theorem dX10_roundIn_184 : decode cX10_roundIn 184 = .ok (.istore 4, 2) := by decide +kernel
theorem dX10_roundIn_186 : decode cX10_roundIn 186 = .ok (.aload_n 0, 1) := by decide +kernel
theorem dX10_roundIn_187 : decode cX10_roundIn 187 = .ok (.getfield 7, 3) := by decide +kernel
theorem dX10_roundIn_190 : decode cX10_roundIn 190 = .ok (.iload_n 1, 1) := by decide +kernel
theorem dX10_roundIn_191 : decode cX10_roundIn 191 = .ok (.bipush 14, 2) := by decide +kernel
theorem dX10_roundIn_193 : decode cX10_roundIn 193 = .ok (.iadd, 1) := by decide +kernel
theorem dX10_roundIn_194 : decode cX10_roundIn 194 = .ok (.dup2, 1) := by decide +kernel
theorem dX10_roundIn_195 : decode cX10_roundIn 195 = .ok (.iaload, 1) := by decide +kernel
theorem dX10_roundIn_196 : decode cX10_roundIn 196 = .ok (.iconst 1, 1) := by decide +kernel
theorem dX10_roundIn_197 : decode cX10_roundIn 197 = .ok (.iadd, 1) := by decide +kernel
theorem dX10_roundIn_198 : decode cX10_roundIn 198 = .ok (.iastore, 1) := by decide +kernel
theorem dX10_roundIn_199 : decode cX10_roundIn 199 = .ok (.aload_n 0, 1) := by decide +kernel
theorem dX10_roundIn_200 : decode cX10_roundIn 200 = .ok (.getfield 7, 3) := by decide +kernel
theorem dX10_roundIn_203 : decode cX10_roundIn 203 = .ok (.iload_n 1, 1) := by decide +kernel
theorem dX10_roundIn_204 : decode cX10_roundIn 204 = .ok (.bipush 15, 2) := by decide +kernel
theorem dX10_roundIn_206 : decode cX10_roundIn 206 = .ok (.iadd, 1) := by decide +kernel
theorem dX10_roundIn_207 : decode cX10_roundIn 207 = .ok (.dup2, 1) := by decide +kernel
theorem dX10_roundIn_208 : decode cX10_roundIn 208 = .ok (.iaload, 1) := by decide +kernel
theorem dX10_roundIn_209 : decode cX10_roundIn 209 = .ok (.iload 4, 2) := by decide +kernel
theorem dX10_roundIn_211 : decode cX10_roundIn 211 = .ok (.iadd, 1) := by decide +kernel
theorem dX10_roundIn_212 : decode cX10_roundIn 212 = .ok (.iastore, 1) := by decide +kernel
theorem dX10_roundIn_213 : decode cX10_roundIn 213 = .ok (.iload 4, 2) := by decide +kernel
theorem dX10_roundIn_215 : decode cX10_roundIn 215 = .ok (.ireturn, 1) := by decide +kernel
theorem dX10_tryRound_0 : decode cX10_tryRound 0 = .ok (.aload_n 0, 1) := by decide +kernel
theorem dX10_tryRound_1 : decode cX10_tryRound 1 = .ok (.iconst 0, 1) := by decide +kernel
theorem dX10_tryRound_2 : decode cX10_tryRound 2 = .ok (.bipush 18, 2) := by decide +kernel
theorem dX10_tryRound_4 : decode cX10_tryRound 4 = .ok (.invokevirtual 192, 3) := by decide +kernel
theorem dX10_tryRound_7 : decode cX10_tryRound 7 = .ok (.aload_n 0, 1) := by decide +kernel
theorem dX10_tryRound_8 : decode cX10_tryRound 8 = .ok (.bipush 18, 2) := by decide +kernel
theorem dX10_tryRound_10 : decode cX10_tryRound 10 = .ok (.iload_n 1, 1) := by decide +kernel
theorem dX10_tryRound_11 : decode cX10_tryRound 11 = .ok (.iload_n 2, 1) := by decide +kernel
theorem dX10_tryRound_12 : decode cX10_tryRound 12 = .ok (.invokevirtual 196, 3) := by decide +kernel
theorem dX10_tryRound_15 : decode cX10_tryRound 15 = .ok (.ireturn, 1) := by decide +kernel
theorem dX10_copy_0 : decode cX10_copy 0 = .ok (.iconst 0, 1) := by decide +kernel
theorem dX10_copy_1 : decode cX10_copy 1 = .ok (.istore_n 3, 1) := by decide +kernel
theorem dX10_copy_2 : decode cX10_copy 2 = .ok (.iload_n 3, 1) := by decide +kernel
theorem dX10_copy_3 : decode cX10_copy 3 = .ok (.bipush 18, 2) := by decide +kernel
theorem dX10_copy_5 : decode cX10_copy 5 = .ok (.if_icmp .ge 25, 3) := by decide +kernel
theorem dX10_copy_8 : decode cX10_copy 8 = .ok (.aload_n 0, 1) := by decide +kernel
theorem dX10_copy_9 : decode cX10_copy 9 = .ok (.getfield 7, 3) := by decide +kernel
theorem dX10_copy_12 : decode cX10_copy 12 = .ok (.iload_n 2, 1) := by decide +kernel
theorem dX10_copy_13 : decode cX10_copy 13 = .ok (.iload_n 3, 1) := by decide +kernel
theorem dX10_copy_14 : decode cX10_copy 14 = .ok (.iadd, 1) := by decide +kernel
theorem dX10_copy_15 : decode cX10_copy 15 = .ok (.aload_n 0, 1) := by decide +kernel
theorem dX10_copy_16 : decode cX10_copy 16 = .ok (.getfield 7, 3) := by decide +kernel
theorem dX10_copy_19 : decode cX10_copy 19 = .ok (.iload_n 1, 1) := by decide +kernel
theorem dX10_copy_20 : decode cX10_copy 20 = .ok (.iload_n 3, 1) := by decide +kernel
theorem dX10_copy_21 : decode cX10_copy 21 = .ok (.iadd, 1) := by decide +kernel
theorem dX10_copy_22 : decode cX10_copy 22 = .ok (.iaload, 1) := by decide +kernel
theorem dX10_copy_23 : decode cX10_copy 23 = .ok (.iastore, 1) := by decide +kernel
theorem dX10_copy_24 : decode cX10_copy 24 = .ok (.iinc 3 1, 3) := by decide +kernel
theorem dX10_copy_27 : decode cX10_copy 27 = .ok (.goto (-25), 3) := by decide +kernel
theorem dX10_copy_30 : decode cX10_copy 30 = .ok (.return_, 1) := by decide +kernel
theorem dX10_remember_0 : decode cX10_remember 0 = .ok (.aload_n 0, 1) := by decide +kernel
theorem dX10_remember_1 : decode cX10_remember 1 = .ok (.getfield 143, 3) := by decide +kernel
theorem dX10_remember_4 : decode cX10_remember 4 = .ok (.bipush 30, 2) := by decide +kernel
theorem dX10_remember_6 : decode cX10_remember 6 = .ok (.if_icmp .ne 47, 3) := by decide +kernel
theorem dX10_remember_9 : decode cX10_remember 9 = .ok (.iconst 1, 1) := by decide +kernel
theorem dX10_remember_10 : decode cX10_remember 10 = .ok (.istore_n 1, 1) := by decide +kernel
theorem dX10_remember_11 : decode cX10_remember 11 = .ok (.iload_n 1, 1) := by decide +kernel
theorem dX10_remember_12 : decode cX10_remember 12 = .ok (.bipush 30, 2) := by decide +kernel
theorem dX10_remember_14 : decode cX10_remember 14 = .ok (.if_icmp .ge 29, 3) := by decide +kernel
theorem dX10_remember_17 : decode cX10_remember 17 = .ok (.aload_n 0, 1) := by decide +kernel
theorem dX10_remember_18 : decode cX10_remember 18 = .ok (.bipush 72, 2) := by decide +kernel
theorem dX10_remember_20 : decode cX10_remember 20 = .ok (.bipush 18, 2) := by decide +kernel
theorem dX10_remember_22 : decode cX10_remember 22 = .ok (.iload_n 1, 1) := by decide +kernel
theorem dX10_remember_23 : decode cX10_remember 23 = .ok (.imul, 1) := by decide +kernel
theorem dX10_remember_24 : decode cX10_remember 24 = .ok (.iadd, 1) := by decide +kernel
theorem dX10_remember_25 : decode cX10_remember 25 = .ok (.bipush 72, 2) := by decide +kernel
theorem dX10_remember_27 : decode cX10_remember 27 = .ok (.bipush 18, 2) := by decide +kernel
theorem dX10_remember_29 : decode cX10_remember 29 = .ok (.iload_n 1, 1) := by decide +kernel
theorem dX10_remember_30 : decode cX10_remember 30 = .ok (.iconst 1, 1) := by decide +kernel
theorem dX10_remember_31 : decode cX10_remember 31 = .ok (.isub, 1) := by decide +kernel
theorem dX10_remember_32 : decode cX10_remember 32 = .ok (.imul, 1) := by decide +kernel
theorem dX10_remember_33 : decode cX10_remember 33 = .ok (.iadd, 1) := by decide +kernel
theorem dX10_remember_34 : decode cX10_remember 34 = .ok (.invokevirtual 192, 3) := by decide +kernel
theorem dX10_remember_37 : decode cX10_remember 37 = .ok (.iinc 1 1, 3) := by decide +kernel
theorem dX10_remember_40 : decode cX10_remember 40 = .ok (.goto (-29), 3) := by decide +kernel
theorem dX10_remember_43 : decode cX10_remember 43 = .ok (.aload_n 0, 1) := by decide +kernel
theorem dX10_remember_44 : decode cX10_remember 44 = .ok (.dup, 1) := by decide +kernel
theorem dX10_remember_45 : decode cX10_remember 45 = .ok (.getfield 143, 3) := by decide +kernel
theorem dX10_remember_48 : decode cX10_remember 48 = .ok (.iconst 1, 1) := by decide +kernel
theorem dX10_remember_49 : decode cX10_remember 49 = .ok (.isub, 1) := by decide +kernel
theorem dX10_remember_50 : decode cX10_remember 50 = .ok (.putfield 143, 3) := by decide +kernel
theorem dX10_remember_53 : decode cX10_remember 53 = .ok (.aload_n 0, 1) := by decide +kernel
theorem dX10_remember_54 : decode cX10_remember 54 = .ok (.iconst 0, 1) := by decide +kernel
theorem dX10_remember_55 : decode cX10_remember 55 = .ok (.bipush 72, 2) := by decide +kernel
theorem dX10_remember_57 : decode cX10_remember 57 = .ok (.bipush 18, 2) := by decide +kernel
theorem dX10_remember_59 : decode cX10_remember 59 = .ok (.aload_n 0, 1) := by decide +kernel
theorem dX10_remember_60 : decode cX10_remember 60 = .ok (.getfield 143, 3) := by decide +kernel
theorem dX10_remember_63 : decode cX10_remember 63 = .ok (.imul, 1) := by decide +kernel
theorem dX10_remember_64 : decode cX10_remember 64 = .ok (.iadd, 1) := by decide +kernel
theorem dX10_remember_65 : decode cX10_remember 65 = .ok (.invokevirtual 192, 3) := by decide +kernel
theorem dX10_remember_68 : decode cX10_remember 68 = .ok (.aload_n 0, 1) := by decide +kernel
theorem dX10_remember_69 : decode cX10_remember 69 = .ok (.dup, 1) := by decide +kernel
theorem dX10_remember_70 : decode cX10_remember 70 = .ok (.getfield 143, 3) := by decide +kernel
theorem dX10_remember_73 : decode cX10_remember 73 = .ok (.iconst 1, 1) := by decide +kernel
theorem dX10_remember_74 : decode cX10_remember 74 = .ok (.iadd, 1) := by decide +kernel
theorem dX10_remember_75 : decode cX10_remember 75 = .ok (.putfield 143, 3) := by decide +kernel
theorem dX10_remember_78 : decode cX10_remember 78 = .ok (.return_, 1) := by decide +kernel
theorem dX10_round_0 : decode cX10_round 0 = .ok (.aload_n 0, 1) := by decide +kernel
theorem dX10_round_1 : decode cX10_round 1 = .ok (.iload_n 1, 1) := by decide +kernel
theorem dX10_round_2 : decode cX10_round 2 = .ok (.invokevirtual 200, 3) := by decide +kernel
theorem dX10_round_5 : decode cX10_round 5 = .ok (.ifCond .ne 6, 3) := by decide +kernel
theorem dX10_round_8 : decode cX10_round 8 = .ok (.ldc 167, 2) := by decide +kernel
theorem dX10_round_10 : decode cX10_round 10 = .ok (.ireturn, 1) := by decide +kernel
theorem dX10_round_11 : decode cX10_round 11 = .ok (.iload_n 2, 1) := by decide +kernel
theorem dX10_round_12 : decode cX10_round 12 = .ok (.invokestatic 203, 3) := by decide +kernel
theorem dX10_round_15 : decode cX10_round 15 = .ok (.ifCond .ne 6, 3) := by decide +kernel
theorem dX10_round_18 : decode cX10_round 18 = .ok (.ldc 72, 2) := by decide +kernel
theorem dX10_round_20 : decode cX10_round 20 = .ok (.ireturn, 1) := by decide +kernel
theorem dX10_round_21 : decode cX10_round 21 = .ok (.aload_n 0, 1) := by decide +kernel
theorem dX10_round_22 : decode cX10_round 22 = .ok (.getfield 7, 3) := by decide +kernel
theorem dX10_round_25 : decode cX10_round 25 = .ok (.bipush 14, 2) := by decide +kernel
theorem dX10_round_27 : decode cX10_round 27 = .ok (.iaload, 1) := by decide +kernel
theorem dX10_round_28 : decode cX10_round 28 = .ok (.sipush 9000, 3) := by decide +kernel
theorem dX10_round_31 : decode cX10_round 31 = .ok (.if_icmp .le 6, 3) := by decide +kernel
theorem dX10_round_34 : decode cX10_round 34 = .ok (.ldc 76, 2) := by decide +kernel
theorem dX10_round_36 : decode cX10_round 36 = .ok (.ireturn, 1) := by decide +kernel
theorem dX10_round_37 : decode cX10_round 37 = .ok (.aload_n 0, 1) := by decide +kernel
theorem dX10_round_38 : decode cX10_round 38 = .ok (.invokevirtual 206, 3) := by decide +kernel
theorem dX10_round_41 : decode cX10_round 41 = .ok (.aload_n 0, 1) := by decide +kernel
theorem dX10_round_42 : decode cX10_round 42 = .ok (.iconst 0, 1) := by decide +kernel
theorem dX10_round_43 : decode cX10_round 43 = .ok (.iload_n 1, 1) := by decide +kernel
theorem dX10_round_44 : decode cX10_round 44 = .ok (.iload_n 2, 1) := by decide +kernel
theorem dX10_round_45 : decode cX10_round 45 = .ok (.invokevirtual 196, 3) := by decide +kernel
theorem dX10_round_48 : decode cX10_round 48 = .ok (.ireturn, 1) := by decide +kernel
theorem dX10_fetch_0 : decode cX10_fetch 0 = .ok (.aload_n 0, 1) := by decide +kernel
theorem dX10_fetch_1 : decode cX10_fetch 1 = .ok (.iload_n 1, 1) := by decide +kernel
theorem dX10_fetch_2 : decode cX10_fetch 2 = .ok (.invokevirtual 150, 3) := by decide +kernel
theorem dX10_fetch_5 : decode cX10_fetch 5 = .ok (.ifCond .ne 6, 3) := by decide +kernel
theorem dX10_fetch_8 : decode cX10_fetch 8 = .ok (.ldc 167, 2) := by decide +kernel
theorem dX10_fetch_10 : decode cX10_fetch 10 = .ok (.ireturn, 1) := by decide +kernel
theorem dX10_fetch_11 : decode cX10_fetch 11 = .ok (.aload_n 0, 1) := by decide +kernel
theorem dX10_fetch_12 : decode cX10_fetch 12 = .ok (.getfield 7, 3) := by decide +kernel
theorem dX10_fetch_15 : decode cX10_fetch 15 = .ok (.iload_n 1, 1) := by decide +kernel
theorem dX10_fetch_16 : decode cX10_fetch 16 = .ok (.iaload, 1) := by decide +kernel
theorem dX10_fetch_17 : decode cX10_fetch 17 = .ok (.iconst 3, 1) := by decide +kernel
theorem dX10_fetch_18 : decode cX10_fetch 18 = .ok (.if_icmp .eq 16, 3) := by decide +kernel
theorem dX10_fetch_21 : decode cX10_fetch 21 = .ok (.aload_n 0, 1) := by decide +kernel
theorem dX10_fetch_22 : decode cX10_fetch 22 = .ok (.getfield 7, 3) := by decide +kernel
theorem dX10_fetch_25 : decode cX10_fetch 25 = .ok (.iload_n 1, 1) := by decide +kernel
theorem dX10_fetch_26 : decode cX10_fetch 26 = .ok (.iaload, 1) := by decide +kernel
theorem dX10_fetch_27 : decode cX10_fetch 27 = .ok (.iconst 4, 1) := by decide +kernel
theorem dX10_fetch_28 : decode cX10_fetch 28 = .ok (.if_icmp .eq 6, 3) := by decide +kernel
theorem dX10_fetch_31 : decode cX10_fetch 31 = .ok (.ldc 209, 2) := by decide +kernel
theorem dX10_fetch_33 : decode cX10_fetch 33 = .ok (.ireturn, 1) := by decide +kernel
theorem dX10_fetch_34 : decode cX10_fetch 34 = .ok (.aload_n 0, 1) := by decide +kernel
theorem dX10_fetch_35 : decode cX10_fetch 35 = .ok (.invokevirtual 206, 3) := by decide +kernel
theorem dX10_fetch_38 : decode cX10_fetch 38 = .ok (.aload_n 0, 1) := by decide +kernel
theorem dX10_fetch_39 : decode cX10_fetch 39 = .ok (.getfield 7, 3) := by decide +kernel
theorem dX10_fetch_42 : decode cX10_fetch 42 = .ok (.iload_n 1, 1) := by decide +kernel
theorem dX10_fetch_43 : decode cX10_fetch 43 = .ok (.iaload, 1) := by decide +kernel
theorem dX10_fetch_44 : decode cX10_fetch 44 = .ok (.iconst 3, 1) := by decide +kernel
theorem dX10_fetch_45 : decode cX10_fetch 45 = .ok (.if_icmp .ne 7, 3) := by decide +kernel
theorem dX10_fetch_48 : decode cX10_fetch 48 = .ok (.iconst 1, 1) := by decide +kernel
theorem dX10_fetch_49 : decode cX10_fetch 49 = .ok (.goto 4, 3) := by decide +kernel
theorem dX10_fetch_52 : decode cX10_fetch 52 = .ok (.iconst 0, 1) := by decide +kernel
theorem dX10_fetch_53 : decode cX10_fetch 53 = .ok (.invokestatic 160, 3) := by decide +kernel
theorem dX10_fetch_56 : decode cX10_fetch 56 = .ok (.istore_n 2, 1) := by decide +kernel
theorem dX10_fetch_57 : decode cX10_fetch 57 = .ok (.aload_n 0, 1) := by decide +kernel
theorem dX10_fetch_58 : decode cX10_fetch 58 = .ok (.getfield 7, 3) := by decide +kernel
theorem dX10_fetch_61 : decode cX10_fetch 61 = .ok (.iload_n 1, 1) := by decide +kernel
theorem dX10_fetch_62 : decode cX10_fetch 62 = .ok (.iconst 2, 1) := by decide +kernel
theorem dX10_fetch_63 : decode cX10_fetch 63 = .ok (.iastore, 1) := by decide +kernel
theorem dX10_fetch_64 : decode cX10_fetch 64 = .ok (.iload_n 2, 1) := by decide +kernel
theorem dX10_fetch_65 : decode cX10_fetch 65 = .ok (.ireturn, 1) := by decide +kernel
theorem dX10_order_0 : decode cX10_order 0 = .ok (.aload_n 0, 1) := by decide +kernel
theorem dX10_order_1 : decode cX10_order 1 = .ok (.iload_n 1, 1) := by decide +kernel
theorem dX10_order_2 : decode cX10_order 2 = .ok (.invokevirtual 150, 3) := by decide +kernel
theorem dX10_order_5 : decode cX10_order 5 = .ok (.ifCond .ne 6, 3) := by decide +kernel
theorem dX10_order_8 : decode cX10_order 8 = .ok (.ldc 167, 2) := by decide +kernel
theorem dX10_order_10 : decode cX10_order 10 = .ok (.ireturn, 1) := by decide +kernel
theorem dX10_order_11 : decode cX10_order 11 = .ok (.aload_n 0, 1) := by decide +kernel
theorem dX10_order_12 : decode cX10_order 12 = .ok (.getfield 7, 3) := by decide +kernel
theorem dX10_order_15 : decode cX10_order 15 = .ok (.iload_n 1, 1) := by decide +kernel
theorem dX10_order_16 : decode cX10_order 16 = .ok (.iaload, 1) := by decide +kernel
theorem dX10_order_17 : decode cX10_order 17 = .ok (.iconst 2, 1) := by decide +kernel
theorem dX10_order_18 : decode cX10_order 18 = .ok (.if_icmp .eq 6, 3) := by decide +kernel
theorem dX10_order_21 : decode cX10_order 21 = .ok (.ldc 209, 2) := by decide +kernel
theorem dX10_order_23 : decode cX10_order 23 = .ok (.ireturn, 1) := by decide +kernel
theorem dX10_order_24 : decode cX10_order 24 = .ok (.aload_n 0, 1) := by decide +kernel
theorem dX10_order_25 : decode cX10_order 25 = .ok (.invokevirtual 206, 3) := by decide +kernel
theorem dX10_order_28 : decode cX10_order 28 = .ok (.aload_n 0, 1) := by decide +kernel
theorem dX10_order_29 : decode cX10_order 29 = .ok (.getfield 7, 3) := by decide +kernel
theorem dX10_order_32 : decode cX10_order 32 = .ok (.iload_n 1, 1) := by decide +kernel
theorem dX10_order_33 : decode cX10_order 33 = .ok (.iconst 1, 1) := by decide +kernel
theorem dX10_order_34 : decode cX10_order 34 = .ok (.iastore, 1) := by decide +kernel
theorem dX10_order_35 : decode cX10_order 35 = .ok (.iconst 1, 1) := by decide +kernel
theorem dX10_order_36 : decode cX10_order 36 = .ok (.ireturn, 1) := by decide +kernel
theorem dX10_thank_0 : decode cX10_thank 0 = .ok (.aload_n 0, 1) := by decide +kernel
theorem dX10_thank_1 : decode cX10_thank 1 = .ok (.iload_n 1, 1) := by decide +kernel
theorem dX10_thank_2 : decode cX10_thank 2 = .ok (.invokevirtual 150, 3) := by decide +kernel
theorem dX10_thank_5 : decode cX10_thank 5 = .ok (.ifCond .ne 6, 3) := by decide +kernel
theorem dX10_thank_8 : decode cX10_thank 8 = .ok (.ldc 167, 2) := by decide +kernel
theorem dX10_thank_10 : decode cX10_thank 10 = .ok (.ireturn, 1) := by decide +kernel
theorem dX10_thank_11 : decode cX10_thank 11 = .ok (.aload_n 0, 1) := by decide +kernel
theorem dX10_thank_12 : decode cX10_thank 12 = .ok (.getfield 29, 3) := by decide +kernel
theorem dX10_thank_15 : decode cX10_thank 15 = .ok (.iload_n 1, 1) := by decide +kernel
theorem dX10_thank_16 : decode cX10_thank 16 = .ok (.iaload, 1) := by decide +kernel
theorem dX10_thank_17 : decode cX10_thank 17 = .ok (.iconst (-1), 1) := by decide +kernel
theorem dX10_thank_18 : decode cX10_thank 18 = .ok (.if_icmp .ne 6, 3) := by decide +kernel
theorem dX10_thank_21 : decode cX10_thank 21 = .ok (.ldc 209, 2) := by decide +kernel
theorem dX10_thank_23 : decode cX10_thank 23 = .ok (.ireturn, 1) := by decide +kernel
theorem dX10_thank_24 : decode cX10_thank 24 = .ok (.aload_n 0, 1) := by decide +kernel
theorem dX10_thank_25 : decode cX10_thank 25 = .ok (.invokevirtual 206, 3) := by decide +kernel
theorem dX10_thank_28 : decode cX10_thank 28 = .ok (.aload_n 0, 1) := by decide +kernel
theorem dX10_thank_29 : decode cX10_thank 29 = .ok (.getfield 7, 3) := by decide +kernel
theorem dX10_thank_32 : decode cX10_thank 32 = .ok (.bipush 7, 2) := by decide +kernel
theorem dX10_thank_34 : decode cX10_thank 34 = .ok (.iload_n 1, 1) := by decide +kernel
theorem dX10_thank_35 : decode cX10_thank 35 = .ok (.iadd, 1) := by decide +kernel
theorem dX10_thank_36 : decode cX10_thank 36 = .ok (.iaload, 1) := by decide +kernel
theorem dX10_thank_37 : decode cX10_thank 37 = .ok (.istore_n 2, 1) := by decide +kernel
theorem dX10_thank_38 : decode cX10_thank 38 = .ok (.aload_n 0, 1) := by decide +kernel
theorem dX10_thank_39 : decode cX10_thank 39 = .ok (.getfield 7, 3) := by decide +kernel
theorem dX10_thank_42 : decode cX10_thank 42 = .ok (.bipush 7, 2) := by decide +kernel
theorem dX10_thank_44 : decode cX10_thank 44 = .ok (.iload_n 1, 1) := by decide +kernel
theorem dX10_thank_45 : decode cX10_thank 45 = .ok (.iadd, 1) := by decide +kernel
theorem dX10_thank_46 : decode cX10_thank 46 = .ok (.iconst 0, 1) := by decide +kernel
theorem dX10_thank_47 : decode cX10_thank 47 = .ok (.iastore, 1) := by decide +kernel
theorem dX10_thank_48 : decode cX10_thank 48 = .ok (.iload_n 2, 1) := by decide +kernel
theorem dX10_thank_49 : decode cX10_thank 49 = .ok (.ireturn, 1) := by decide +kernel
theorem dX10_draw_0 : decode cX10_draw 0 = .ok (.aload_n 0, 1) := by decide +kernel
theorem dX10_draw_1 : decode cX10_draw 1 = .ok (.getfield 7, 3) := by decide +kernel
theorem dX10_draw_4 : decode cX10_draw 4 = .ok (.bipush 17, 2) := by decide +kernel
theorem dX10_draw_6 : decode cX10_draw 6 = .ok (.aload_n 0, 1) := by decide +kernel
theorem dX10_draw_7 : decode cX10_draw 7 = .ok (.getfield 7, 3) := by decide +kernel
theorem dX10_draw_10 : decode cX10_draw 10 = .ok (.bipush 17, 2) := by decide +kernel
theorem dX10_draw_12 : decode cX10_draw 12 = .ok (.iaload, 1) := by decide +kernel
theorem dX10_draw_13 : decode cX10_draw 13 = .ok (.i2l, 1) := by decide +kernel
theorem dX10_draw_14 : decode cX10_draw 14 = .ok (.ldc2_w 210, 3) := by decide +kernel
theorem dX10_draw_17 : decode cX10_draw 17 = .ok (.lmul, 1) := by decide +kernel
theorem dX10_draw_18 : decode cX10_draw 18 = .ok (.ldc2_w 212, 3) := by decide +kernel
theorem dX10_draw_21 : decode cX10_draw 21 = .ok (.ladd, 1) := by decide +kernel
theorem dX10_draw_22 : decode cX10_draw 22 = .ok (.ldc2_w 214, 3) := by decide +kernel
theorem dX10_draw_25 : decode cX10_draw 25 = .ok (.lrem, 1) := by decide +kernel
theorem dX10_draw_26 : decode cX10_draw 26 = .ok (.l2i, 1) := by decide +kernel
theorem dX10_draw_27 : decode cX10_draw 27 = .ok (.iastore, 1) := by decide +kernel
theorem dX10_draw_28 : decode cX10_draw 28 = .ok (.aload_n 0, 1) := by decide +kernel
theorem dX10_draw_29 : decode cX10_draw 29 = .ok (.getfield 7, 3) := by decide +kernel
theorem dX10_draw_32 : decode cX10_draw 32 = .ok (.bipush 17, 2) := by decide +kernel
theorem dX10_draw_34 : decode cX10_draw 34 = .ok (.iaload, 1) := by decide +kernel
theorem dX10_draw_35 : decode cX10_draw 35 = .ok (.ldc 216, 2) := by decide +kernel
theorem dX10_draw_37 : decode cX10_draw 37 = .ok (.idiv, 1) := by decide +kernel
theorem dX10_draw_38 : decode cX10_draw 38 = .ok (.iload_n 1, 1) := by decide +kernel
theorem dX10_draw_39 : decode cX10_draw 39 = .ok (.irem, 1) := by decide +kernel
theorem dX10_draw_40 : decode cX10_draw 40 = .ok (.ireturn, 1) := by decide +kernel
theorem dX10_drift_0 : decode cX10_drift 0 = .ok (.iload_n 1, 1) := by decide +kernel
theorem dX10_drift_1 : decode cX10_drift 1 = .ok (.i2l, 1) := by decide +kernel
theorem dX10_drift_2 : decode cX10_drift 2 = .ok (.lconst 1, 1) := by decide +kernel
theorem dX10_drift_3 : decode cX10_drift 3 = .ok (.ldc2_w 217, 3) := by decide +kernel
theorem dX10_drift_6 : decode cX10_drift 6 = .ok (.invokestatic 68, 3) := by decide +kernel
theorem dX10_drift_9 : decode cX10_drift 9 = .ok (.ifCond .ne 6, 3) := by decide +kernel
theorem dX10_drift_12 : decode cX10_drift 12 = .ok (.ldc 72, 2) := by decide +kernel
theorem dX10_drift_14 : decode cX10_drift 14 = .ok (.ireturn, 1) := by decide +kernel
theorem dX10_drift_15 : decode cX10_drift 15 = .ok (.aload_n 0, 1) := by decide +kernel
theorem dX10_drift_16 : decode cX10_drift 16 = .ok (.getfield 131, 3) := by decide +kernel
theorem dX10_drift_19 : decode cX10_drift 19 = .ok (.ifCond .ne 6, 3) := by decide +kernel
theorem dX10_drift_22 : decode cX10_drift 22 = .ok (.ldc 209, 2) := by decide +kernel
theorem dX10_drift_24 : decode cX10_drift 24 = .ok (.ireturn, 1) := by decide +kernel
theorem dX10_drift_25 : decode cX10_drift 25 = .ok (.aload_n 0, 1) := by decide +kernel
theorem dX10_drift_26 : decode cX10_drift 26 = .ok (.getfield 7, 3) := by decide +kernel
theorem dX10_drift_29 : decode cX10_drift 29 = .ok (.bipush 14, 2) := by decide +kernel
theorem dX10_drift_31 : decode cX10_drift 31 = .ok (.iaload, 1) := by decide +kernel
theorem dX10_drift_32 : decode cX10_drift 32 = .ok (.sipush 9000, 3) := by decide +kernel
theorem dX10_drift_35 : decode cX10_drift 35 = .ok (.if_icmp .le 6, 3) := by decide +kernel
theorem dX10_drift_38 : decode cX10_drift 38 = .ok (.ldc 76, 2) := by decide +kernel
theorem dX10_drift_40 : decode cX10_drift 40 = .ok (.ireturn, 1) := by decide +kernel
theorem dX10_drift_41 : decode cX10_drift 41 = .ok (.iconst 0, 1) := by decide +kernel
theorem dX10_drift_42 : decode cX10_drift 42 = .ok (.istore_n 2, 1) := by decide +kernel
theorem dX10_drift_43 : decode cX10_drift 43 = .ok (.iconst 0, 1) := by decide +kernel
theorem dX10_drift_44 : decode cX10_drift 44 = .ok (.istore_n 3, 1) := by decide +kernel
theorem dX10_drift_45 : decode cX10_drift 45 = .ok (.iload_n 3, 1) := by decide +kernel
theorem dX10_drift_46 : decode cX10_drift 46 = .ok (.aload_n 0, 1) := by decide +kernel
theorem dX10_drift_47 : decode cX10_drift 47 = .ok (.getfield 131, 3) := by decide +kernel
theorem dX10_drift_50 : decode cX10_drift 50 = .ok (.if_icmp .ge 18, 3) := by decide +kernel
theorem dX10_drift_53 : decode cX10_drift 53 = .ok (.bipush 10, 2) := by decide +kernel
theorem dX10_drift_55 : decode cX10_drift 55 = .ok (.iload_n 2, 1) := by decide +kernel
theorem dX10_drift_56 : decode cX10_drift 56 = .ok (.imul, 1) := by decide +kernel
theorem dX10_drift_57 : decode cX10_drift 57 = .ok (.iload_n 3, 1) := by decide +kernel
theorem dX10_drift_58 : decode cX10_drift 58 = .ok (.iadd, 1) := by decide +kernel
theorem dX10_drift_59 : decode cX10_drift 59 = .ok (.iconst 1, 1) := by decide +kernel
theorem dX10_drift_60 : decode cX10_drift 60 = .ok (.iadd, 1) := by decide +kernel
theorem dX10_drift_61 : decode cX10_drift 61 = .ok (.istore_n 2, 1) := by decide +kernel
theorem dX10_drift_62 : decode cX10_drift 62 = .ok (.iinc 3 1, 3) := by decide +kernel
theorem dX10_drift_65 : decode cX10_drift 65 = .ok (.goto (-20), 3) := by decide +kernel
theorem dX10_drift_68 : decode cX10_drift 68 = .ok (.iconst 0, 1) := by decide +kernel
theorem dX10_drift_69 : decode cX10_drift 69 = .ok (.istore_n 3, 1) := by decide +kernel
theorem dX10_drift_70 : decode cX10_drift 70 = .ok (.iload_n 3, 1) := by decide +kernel
theorem dX10_drift_71 : decode cX10_drift 71 = .ok (.iload_n 1, 1) := by decide +kernel
theorem dX10_drift_72 : decode cX10_drift 72 = .ok (.if_icmp .ge 65, 3) := by decide +kernel
theorem dX10_drift_75 : decode cX10_drift 75 = .ok (.aload_n 0, 1) := by decide +kernel
theorem dX10_drift_76 : decode cX10_drift 76 = .ok (.invokevirtual 206, 3) := by decide +kernel
theorem dX10_drift_79 : decode cX10_drift 79 = .ok (.aload_n 0, 1) := by decide +kernel
theorem dX10_drift_80 : decode cX10_drift 80 = .ok (.aload_n 0, 1) := by decide +kernel
theorem dX10_drift_81 : decode cX10_drift 81 = .ok (.getfield 131, 3) := by decide +kernel
theorem dX10_drift_84 : decode cX10_drift 84 = .ok (.invokevirtual 219, 3) := by decide +kernel
theorem dX10_drift_87 : decode cX10_drift 87 = .ok (.istore 4, 2) := by decide +kernel
theorem dX10_drift_89 : decode cX10_drift 89 = .ok (.aload_n 0, 1) := by decide +kernel
theorem dX10_drift_90 : decode cX10_drift 90 = .ok (.getfield 7, 3) := by decide +kernel
theorem dX10_drift_93 : decode cX10_drift 93 = .ok (.iload 4, 2) := by decide +kernel
theorem dX10_drift_95 : decode cX10_drift 95 = .ok (.aload_n 0, 1) := by decide +kernel
theorem dX10_drift_96 : decode cX10_drift 96 = .ok (.getfield 7, 3) := by decide +kernel
theorem dX10_drift_99 : decode cX10_drift 99 = .ok (.iload 4, 2) := by decide +kernel
theorem dX10_drift_101 : decode cX10_drift 101 = .ok (.iaload, 1) := by decide +kernel
theorem dX10_drift_102 : decode cX10_drift 102 = .ok (.iconst 2, 1) := by decide +kernel
theorem dX10_drift_103 : decode cX10_drift 103 = .ok (.if_icmp .ne 7, 3) := by decide +kernel
theorem dX10_drift_106 : decode cX10_drift 106 = .ok (.iconst 1, 1) := by decide +kernel
theorem dX10_drift_107 : decode cX10_drift 107 = .ok (.goto 10, 3) := by decide +kernel
theorem dX10_drift_110 : decode cX10_drift 110 = .ok (.aload_n 0, 1) := by decide +kernel
theorem dX10_drift_111 : decode cX10_drift 111 = .ok (.getfield 7, 3) := by decide +kernel
theorem dX10_drift_114 : decode cX10_drift 114 = .ok (.iload 4, 2) := by decide +kernel
theorem dX10_drift_116 : decode cX10_drift 116 = .ok (.iaload, 1) := by decide +kernel
theorem dX10_drift_117 : decode cX10_drift 117 = .ok (.iastore, 1) := by decide +kernel
theorem dX10_drift_118 : decode cX10_drift 118 = .ok (.aload_n 0, 1) := by decide +kernel
theorem dX10_drift_119 : decode cX10_drift 119 = .ok (.iconst 0, 1) := by decide +kernel
theorem dX10_drift_120 : decode cX10_drift 120 = .ok (.iload_n 2, 1) := by decide +kernel
theorem dX10_drift_121 : decode cX10_drift 121 = .ok (.aload_n 0, 1) := by decide +kernel
theorem dX10_drift_122 : decode cX10_drift 122 = .ok (.iconst 4, 1) := by decide +kernel
theorem dX10_drift_123 : decode cX10_drift 123 = .ok (.invokevirtual 219, 3) := by decide +kernel
theorem dX10_drift_126 : decode cX10_drift 126 = .ok (.invokevirtual 196, 3) := by decide +kernel
theorem dX10_drift_129 : decode cX10_drift 129 = .ok (.istore 5, 2) := by decide +kernel
theorem dX10_drift_131 : decode cX10_drift 131 = .ok (.iinc 3 1, 3) := by decide +kernel
theorem dX10_drift_134 : decode cX10_drift 134 = .ok (.goto (-64), 3) := by decide +kernel
theorem dX10_drift_137 : decode cX10_drift 137 = .ok (.aload_n 0, 1) := by decide +kernel
theorem dX10_drift_138 : decode cX10_drift 138 = .ok (.getfield 7, 3) := by decide +kernel
theorem dX10_drift_141 : decode cX10_drift 141 = .ok (.bipush 15, 2) := by decide +kernel
theorem dX10_drift_143 : decode cX10_drift 143 = .ok (.iaload, 1) := by decide +kernel
theorem dX10_drift_144 : decode cX10_drift 144 = .ok (.ireturn, 1) := by decide +kernel
theorem dX10_undo_0 : decode cX10_undo 0 = .ok (.iload_n 1, 1) := by decide +kernel
theorem dX10_undo_1 : decode cX10_undo 1 = .ok (.i2l, 1) := by decide +kernel
theorem dX10_undo_2 : decode cX10_undo 2 = .ok (.lconst 1, 1) := by decide +kernel
theorem dX10_undo_3 : decode cX10_undo 3 = .ok (.ldc2_w 222, 3) := by decide +kernel
theorem dX10_undo_6 : decode cX10_undo 6 = .ok (.invokestatic 68, 3) := by decide +kernel
theorem dX10_undo_9 : decode cX10_undo 9 = .ok (.ifCond .ne 6, 3) := by decide +kernel
theorem dX10_undo_12 : decode cX10_undo 12 = .ok (.ldc 72, 2) := by decide +kernel
theorem dX10_undo_14 : decode cX10_undo 14 = .ok (.ireturn, 1) := by decide +kernel
theorem dX10_undo_15 : decode cX10_undo 15 = .ok (.iload_n 1, 1) := by decide +kernel
theorem dX10_undo_16 : decode cX10_undo 16 = .ok (.aload_n 0, 1) := by decide +kernel
theorem dX10_undo_17 : decode cX10_undo 17 = .ok (.getfield 143, 3) := by decide +kernel
theorem dX10_undo_20 : decode cX10_undo 20 = .ok (.if_icmp .le 6, 3) := by decide +kernel
theorem dX10_undo_23 : decode cX10_undo 23 = .ok (.ldc 209, 2) := by decide +kernel
theorem dX10_undo_25 : decode cX10_undo 25 = .ok (.ireturn, 1) := by decide +kernel
theorem dX10_undo_26 : decode cX10_undo 26 = .ok (.aload_n 0, 1) := by decide +kernel
theorem dX10_undo_27 : decode cX10_undo 27 = .ok (.dup, 1) := by decide +kernel
theorem dX10_undo_28 : decode cX10_undo 28 = .ok (.getfield 143, 3) := by decide +kernel
theorem dX10_undo_31 : decode cX10_undo 31 = .ok (.iload_n 1, 1) := by decide +kernel
theorem dX10_undo_32 : decode cX10_undo 32 = .ok (.isub, 1) := by decide +kernel
theorem dX10_undo_33 : decode cX10_undo 33 = .ok (.putfield 143, 3) := by decide +kernel
theorem dX10_undo_36 : decode cX10_undo 36 = .ok (.aload_n 0, 1) := by decide +kernel
theorem dX10_undo_37 : decode cX10_undo 37 = .ok (.getfield 7, 3) := by decide +kernel
theorem dX10_undo_40 : decode cX10_undo 40 = .ok (.bipush 17, 2) := by decide +kernel
theorem dX10_undo_42 : decode cX10_undo 42 = .ok (.iaload, 1) := by decide +kernel
theorem dX10_undo_43 : decode cX10_undo 43 = .ok (.istore_n 2, 1) := by decide +kernel
theorem dX10_undo_44 : decode cX10_undo 44 = .ok (.aload_n 0, 1) := by decide +kernel
theorem dX10_undo_45 : decode cX10_undo 45 = .ok (.bipush 72, 2) := by decide +kernel
theorem dX10_undo_47 : decode cX10_undo 47 = .ok (.bipush 18, 2) := by decide +kernel
theorem dX10_undo_49 : decode cX10_undo 49 = .ok (.aload_n 0, 1) := by decide +kernel
theorem dX10_undo_50 : decode cX10_undo 50 = .ok (.getfield 143, 3) := by decide +kernel
theorem dX10_undo_53 : decode cX10_undo 53 = .ok (.imul, 1) := by decide +kernel
theorem dX10_undo_54 : decode cX10_undo 54 = .ok (.iadd, 1) := by decide +kernel
theorem dX10_undo_55 : decode cX10_undo 55 = .ok (.iconst 0, 1) := by decide +kernel
theorem dX10_undo_56 : decode cX10_undo 56 = .ok (.invokevirtual 192, 3) := by decide +kernel
theorem dX10_undo_59 : decode cX10_undo 59 = .ok (.aload_n 0, 1) := by decide +kernel
theorem dX10_undo_60 : decode cX10_undo 60 = .ok (.getfield 7, 3) := by decide +kernel
theorem dX10_undo_63 : decode cX10_undo 63 = .ok (.bipush 17, 2) := by decide +kernel
theorem dX10_undo_65 : decode cX10_undo 65 = .ok (.iload_n 2, 1) := by decide +kernel
theorem dX10_undo_66 : decode cX10_undo 66 = .ok (.iastore, 1) := by decide +kernel
theorem dX10_undo_67 : decode cX10_undo 67 = .ok (.aload_n 0, 1) := by decide +kernel
theorem dX10_undo_68 : decode cX10_undo 68 = .ok (.getfield 7, 3) := by decide +kernel
theorem dX10_undo_71 : decode cX10_undo 71 = .ok (.bipush 14, 2) := by decide +kernel
theorem dX10_undo_73 : decode cX10_undo 73 = .ok (.iaload, 1) := by decide +kernel
theorem dX10_undo_74 : decode cX10_undo 74 = .ok (.ireturn, 1) := by decide +kernel
theorem dX10_comes_0 : decode cX10_comes 0 = .ok (.aload_n 0, 1) := by decide +kernel
theorem dX10_comes_1 : decode cX10_comes 1 = .ok (.iload_n 1, 1) := by decide +kernel
theorem dX10_comes_2 : decode cX10_comes 2 = .ok (.invokevirtual 150, 3) := by decide +kernel
theorem dX10_comes_5 : decode cX10_comes 5 = .ok (.ifCond .eq 11, 3) := by decide +kernel
theorem dX10_comes_8 : decode cX10_comes 8 = .ok (.aload_n 0, 1) := by decide +kernel
theorem dX10_comes_9 : decode cX10_comes 9 = .ok (.iload_n 2, 1) := by decide +kernel
theorem dX10_comes_10 : decode cX10_comes 10 = .ok (.invokevirtual 200, 3) := by decide +kernel
theorem dX10_comes_13 : decode cX10_comes 13 = .ok (.ifCond .ne 6, 3) := by decide +kernel
theorem dX10_comes_16 : decode cX10_comes 16 = .ok (.ldc 167, 2) := by decide +kernel
theorem dX10_comes_18 : decode cX10_comes 18 = .ok (.ireturn, 1) := by decide +kernel
theorem dX10_comes_19 : decode cX10_comes 19 = .ok (.iload_n 3, 1) := by decide +kernel
theorem dX10_comes_20 : decode cX10_comes 20 = .ok (.invokestatic 203, 3) := by decide +kernel
theorem dX10_comes_23 : decode cX10_comes 23 = .ok (.ifCond .ne 6, 3) := by decide +kernel
theorem dX10_comes_26 : decode cX10_comes 26 = .ok (.ldc 72, 2) := by decide +kernel
theorem dX10_comes_28 : decode cX10_comes 28 = .ok (.ireturn, 1) := by decide +kernel
theorem dX10_comes_29 : decode cX10_comes 29 = .ok (.aload_n 0, 1) := by decide +kernel
theorem dX10_comes_30 : decode cX10_comes 30 = .ok (.iload_n 2, 1) := by decide +kernel
theorem dX10_comes_31 : decode cX10_comes 31 = .ok (.iload_n 3, 1) := by decide +kernel
theorem dX10_comes_32 : decode cX10_comes 32 = .ok (.invokevirtual 224, 3) := by decide +kernel
theorem dX10_comes_35 : decode cX10_comes 35 = .ok (.istore 4, 2) := by decide +kernel
theorem dX10_comes_37 : decode cX10_comes 37 = .ok (.aload_n 0, 1) := by decide +kernel
theorem dX10_comes_38 : decode cX10_comes 38 = .ok (.getfield 45, 3) := by decide +kernel
theorem dX10_comes_41 : decode cX10_comes 41 = .ok (.iload_n 1, 1) := by decide +kernel
theorem dX10_comes_42 : decode cX10_comes 42 = .ok (.iaload, 1) := by decide +kernel
theorem dX10_comes_43 : decode cX10_comes 43 = .ok (.ireturn, 1) := by decide +kernel
theorem dX10_home_0 : decode cX10_home 0 = .ok (.aload_n 0, 1) := by decide +kernel
theorem dX10_home_1 : decode cX10_home 1 = .ok (.iload_n 1, 1) := by decide +kernel
theorem dX10_home_2 : decode cX10_home 2 = .ok (.invokevirtual 200, 3) := by decide +kernel
theorem dX10_home_5 : decode cX10_home 5 = .ok (.ifCond .ne 6, 3) := by decide +kernel
theorem dX10_home_8 : decode cX10_home 8 = .ok (.ldc 167, 2) := by decide +kernel
theorem dX10_home_10 : decode cX10_home 10 = .ok (.ireturn, 1) := by decide +kernel
theorem dX10_home_11 : decode cX10_home 11 = .ok (.iload_n 2, 1) := by decide +kernel
theorem dX10_home_12 : decode cX10_home 12 = .ok (.invokestatic 203, 3) := by decide +kernel
theorem dX10_home_15 : decode cX10_home 15 = .ok (.ifCond .eq 12, 3) := by decide +kernel
theorem dX10_home_18 : decode cX10_home 18 = .ok (.aload_n 0, 1) := by decide +kernel
theorem dX10_home_19 : decode cX10_home 19 = .ok (.iload_n 1, 1) := by decide +kernel
theorem dX10_home_20 : decode cX10_home 20 = .ok (.iload_n 2, 1) := by decide +kernel
theorem dX10_home_21 : decode cX10_home 21 = .ok (.invokevirtual 224, 3) := by decide +kernel
theorem dX10_home_24 : decode cX10_home 24 = .ok (.goto 5, 3) := by decide +kernel
theorem dX10_home_27 : decode cX10_home 27 = .ok (.ldc 72, 2) := by decide +kernel
theorem dX10_home_29 : decode cX10_home 29 = .ok (.ireturn, 1) := by decide +kernel
theorem dX10_outcome_0 : decode cX10_outcome 0 = .ok (.aload_n 0, 1) := by decide +kernel
theorem dX10_outcome_1 : decode cX10_outcome 1 = .ok (.iload_n 1, 1) := by decide +kernel
theorem dX10_outcome_2 : decode cX10_outcome 2 = .ok (.invokevirtual 200, 3) := by decide +kernel
theorem dX10_outcome_5 : decode cX10_outcome 5 = .ok (.ifCond .ne 6, 3) := by decide +kernel
theorem dX10_outcome_8 : decode cX10_outcome 8 = .ok (.ldc 167, 2) := by decide +kernel
theorem dX10_outcome_10 : decode cX10_outcome 10 = .ok (.ireturn, 1) := by decide +kernel
theorem dX10_outcome_11 : decode cX10_outcome 11 = .ok (.iload_n 2, 1) := by decide +kernel
theorem dX10_outcome_12 : decode cX10_outcome 12 = .ok (.invokestatic 203, 3) := by decide +kernel
theorem dX10_outcome_15 : decode cX10_outcome 15 = .ok (.ifCond .ne 6, 3) := by decide +kernel
theorem dX10_outcome_18 : decode cX10_outcome 18 = .ok (.ldc 72, 2) := by decide +kernel
theorem dX10_outcome_20 : decode cX10_outcome 20 = .ok (.ireturn, 1) := by decide +kernel
theorem dX10_outcome_21 : decode cX10_outcome 21 = .ok (.aload_n 0, 1) := by decide +kernel
theorem dX10_outcome_22 : decode cX10_outcome 22 = .ok (.iload_n 1, 1) := by decide +kernel
theorem dX10_outcome_23 : decode cX10_outcome 23 = .ok (.iload_n 2, 1) := by decide +kernel
theorem dX10_outcome_24 : decode cX10_outcome 24 = .ok (.invokevirtual 224, 3) := by decide +kernel
theorem dX10_outcome_27 : decode cX10_outcome 27 = .ok (.istore_n 3, 1) := by decide +kernel
theorem dX10_outcome_28 : decode cX10_outcome 28 = .ok (.iconst 0, 1) := by decide +kernel
theorem dX10_outcome_29 : decode cX10_outcome 29 = .ok (.istore 4, 2) := by decide +kernel
theorem dX10_outcome_31 : decode cX10_outcome 31 = .ok (.iconst 0, 1) := by decide +kernel
theorem dX10_outcome_32 : decode cX10_outcome 32 = .ok (.istore 5, 2) := by decide +kernel
theorem dX10_outcome_34 : decode cX10_outcome 34 = .ok (.iload 5, 2) := by decide +kernel
theorem dX10_outcome_36 : decode cX10_outcome 36 = .ok (.aload_n 0, 1) := by decide +kernel
theorem dX10_outcome_37 : decode cX10_outcome 37 = .ok (.getfield 131, 3) := by decide +kernel
theorem dX10_outcome_40 : decode cX10_outcome 40 = .ok (.if_icmp .ge 27, 3) := by decide +kernel
theorem dX10_outcome_43 : decode cX10_outcome 43 = .ok (.bipush 10, 2) := by decide +kernel
theorem dX10_outcome_45 : decode cX10_outcome 45 = .ok (.iload 4, 2) := by decide +kernel
theorem dX10_outcome_47 : decode cX10_outcome 47 = .ok (.imul, 1) := by decide +kernel
theorem dX10_outcome_48 : decode cX10_outcome 48 = .ok (.aload_n 0, 1) := by decide +kernel
theorem dX10_outcome_49 : decode cX10_outcome 49 = .ok (.getfield 7, 3) := by decide +kernel
theorem dX10_outcome_52 : decode cX10_outcome 52 = .ok (.bipush 18, 2) := by decide +kernel
theorem dX10_outcome_54 : decode cX10_outcome 54 = .ok (.iload 5, 2) := by decide +kernel
theorem dX10_outcome_56 : decode cX10_outcome 56 = .ok (.iadd, 1) := by decide +kernel
theorem dX10_outcome_57 : decode cX10_outcome 57 = .ok (.iaload, 1) := by decide +kernel
theorem dX10_outcome_58 : decode cX10_outcome 58 = .ok (.iadd, 1) := by decide +kernel
theorem dX10_outcome_59 : decode cX10_outcome 59 = .ok (.istore 4, 2) := by decide +kernel
theorem dX10_outcome_61 : decode cX10_outcome 61 = .ok (.iinc 5 1, 3) := by decide +kernel
theorem dX10_outcome_64 : decode cX10_outcome 64 = .ok (.goto (-30), 3) := by decide +kernel
theorem dX10_outcome_67 : decode cX10_outcome 67 = .ok (.iload 4, 2) := by decide +kernel
theorem dX10_outcome_69 : decode cX10_outcome 69 = .ok (.ireturn, 1) := by decide +kernel
theorem dX10_comesTo_0 : decode cX10_comesTo 0 = .ok (.aload_n 0, 1) := by decide +kernel
theorem dX10_comesTo_1 : decode cX10_comesTo 1 = .ok (.iload_n 2, 1) := by decide +kernel
theorem dX10_comesTo_2 : decode cX10_comesTo 2 = .ok (.iconst 0, 1) := by decide +kernel
theorem dX10_comesTo_3 : decode cX10_comesTo 3 = .ok (.invokevirtual 224, 3) := by decide +kernel
theorem dX10_comesTo_6 : decode cX10_comesTo 6 = .ok (.istore_n 3, 1) := by decide +kernel
theorem dX10_comesTo_7 : decode cX10_comesTo 7 = .ok (.aload_n 0, 1) := by decide +kernel
theorem dX10_comesTo_8 : decode cX10_comesTo 8 = .ok (.getfield 45, 3) := by decide +kernel
theorem dX10_comesTo_11 : decode cX10_comesTo 11 = .ok (.iload_n 1, 1) := by decide +kernel
theorem dX10_comesTo_12 : decode cX10_comesTo 12 = .ok (.iaload, 1) := by decide +kernel
theorem dX10_comesTo_13 : decode cX10_comesTo 13 = .ok (.ireturn, 1) := by decide +kernel
theorem dX10_bath_0 : decode cX10_bath 0 = .ok (.aload_n 0, 1) := by decide +kernel
theorem dX10_bath_1 : decode cX10_bath 1 = .ok (.iload_n 1, 1) := by decide +kernel
theorem dX10_bath_2 : decode cX10_bath 2 = .ok (.invokevirtual 150, 3) := by decide +kernel
theorem dX10_bath_5 : decode cX10_bath 5 = .ok (.ifCond .eq 19, 3) := by decide +kernel
theorem dX10_bath_8 : decode cX10_bath 8 = .ok (.aload_n 0, 1) := by decide +kernel
theorem dX10_bath_9 : decode cX10_bath 9 = .ok (.iload_n 2, 1) := by decide +kernel
theorem dX10_bath_10 : decode cX10_bath 10 = .ok (.invokevirtual 200, 3) := by decide +kernel
theorem dX10_bath_13 : decode cX10_bath 13 = .ok (.ifCond .eq 11, 3) := by decide +kernel
theorem dX10_bath_16 : decode cX10_bath 16 = .ok (.aload_n 0, 1) := by decide +kernel
theorem dX10_bath_17 : decode cX10_bath 17 = .ok (.iload_n 3, 1) := by decide +kernel
theorem dX10_bath_18 : decode cX10_bath 18 = .ok (.invokevirtual 200, 3) := by decide +kernel
theorem dX10_bath_21 : decode cX10_bath 21 = .ok (.ifCond .ne 6, 3) := by decide +kernel
theorem dX10_bath_24 : decode cX10_bath 24 = .ok (.ldc 167, 2) := by decide +kernel
theorem dX10_bath_26 : decode cX10_bath 26 = .ok (.ireturn, 1) := by decide +kernel
theorem dX10_bath_27 : decode cX10_bath 27 = .ok (.iload 4, 2) := by decide +kernel
theorem dX10_bath_29 : decode cX10_bath 29 = .ok (.i2l, 1) := by decide +kernel
theorem dX10_bath_30 : decode cX10_bath 30 = .ok (.lconst 1, 1) := by decide +kernel
theorem dX10_bath_31 : decode cX10_bath 31 = .ok (.ldc2_w 227, 3) := by decide +kernel
theorem dX10_bath_34 : decode cX10_bath 34 = .ok (.invokestatic 68, 3) := by decide +kernel
theorem dX10_bath_37 : decode cX10_bath 37 = .ok (.ifCond .ne 6, 3) := by decide +kernel
theorem dX10_bath_40 : decode cX10_bath 40 = .ok (.ldc 72, 2) := by decide +kernel
theorem dX10_bath_42 : decode cX10_bath 42 = .ok (.ireturn, 1) := by decide +kernel
theorem dX10_bath_43 : decode cX10_bath 43 = .ok (.aload_n 0, 1) := by decide +kernel
theorem dX10_bath_44 : decode cX10_bath 44 = .ok (.iload_n 1, 1) := by decide +kernel
theorem dX10_bath_45 : decode cX10_bath 45 = .ok (.iload_n 2, 1) := by decide +kernel
theorem dX10_bath_46 : decode cX10_bath 46 = .ok (.invokevirtual 229, 3) := by decide +kernel
theorem dX10_bath_49 : decode cX10_bath 49 = .ok (.istore 5, 2) := by decide +kernel
theorem dX10_bath_51 : decode cX10_bath 51 = .ok (.aload_n 0, 1) := by decide +kernel
theorem dX10_bath_52 : decode cX10_bath 52 = .ok (.iload_n 1, 1) := by decide +kernel
theorem dX10_bath_53 : decode cX10_bath 53 = .ok (.iload_n 3, 1) := by decide +kernel
theorem dX10_bath_54 : decode cX10_bath 54 = .ok (.invokevirtual 229, 3) := by decide +kernel
theorem dX10_bath_57 : decode cX10_bath 57 = .ok (.istore 6, 2) := by decide +kernel
theorem dX10_bath_59 : decode cX10_bath 59 = .ok (.iconst 0, 1) := by decide +kernel
theorem dX10_bath_60 : decode cX10_bath 60 = .ok (.istore 7, 2) := by decide +kernel
theorem dX10_bath_62 : decode cX10_bath 62 = .ok (.iload 7, 2) := by decide +kernel
theorem dX10_bath_64 : decode cX10_bath 64 = .ok (.sipush 719, 3) := by decide +kernel
theorem dX10_bath_67 : decode cX10_bath 67 = .ok (.iload 4, 2) := by decide +kernel
theorem dX10_bath_69 : decode cX10_bath 69 = .ok (.isub, 1) := by decide +kernel
theorem dX10_bath_70 : decode cX10_bath 70 = .ok (.if_icmp .gt 64, 3) := by decide +kernel
theorem dX10_bath_73 : decode cX10_bath 73 = .ok (.iload 5, 2) := by decide +kernel
theorem dX10_bath_75 : decode cX10_bath 75 = .ok (.i2l, 1) := by decide +kernel
theorem dX10_bath_76 : decode cX10_bath 76 = .ok (.bipush 60, 2) := by decide +kernel
theorem dX10_bath_78 : decode cX10_bath 78 = .ok (.iload 7, 2) := by decide +kernel
theorem dX10_bath_80 : decode cX10_bath 80 = .ok (.imul, 1) := by decide +kernel
theorem dX10_bath_81 : decode cX10_bath 81 = .ok (.i2l, 1) := by decide +kernel
theorem dX10_bath_82 : decode cX10_bath 82 = .ok (.bipush 60, 2) := by decide +kernel
theorem dX10_bath_84 : decode cX10_bath 84 = .ok (.iload 7, 2) := by decide +kernel
theorem dX10_bath_86 : decode cX10_bath 86 = .ok (.iload 4, 2) := by decide +kernel
theorem dX10_bath_88 : decode cX10_bath 88 = .ok (.iadd, 1) := by decide +kernel
theorem dX10_bath_89 : decode cX10_bath 89 = .ok (.imul, 1) := by decide +kernel
theorem dX10_bath_90 : decode cX10_bath 90 = .ok (.iconst 1, 1) := by decide +kernel
theorem dX10_bath_91 : decode cX10_bath 91 = .ok (.isub, 1) := by decide +kernel
theorem dX10_bath_92 : decode cX10_bath 92 = .ok (.i2l, 1) := by decide +kernel
theorem dX10_bath_93 : decode cX10_bath 93 = .ok (.invokestatic 68, 3) := by decide +kernel
theorem dX10_bath_96 : decode cX10_bath 96 = .ok (.ifCond .ne 32, 3) := by decide +kernel
theorem dX10_bath_99 : decode cX10_bath 99 = .ok (.iload 6, 2) := by decide +kernel
theorem dX10_bath_101 : decode cX10_bath 101 = .ok (.i2l, 1) := by decide +kernel
theorem dX10_bath_102 : decode cX10_bath 102 = .ok (.bipush 60, 2) := by decide +kernel
theorem dX10_bath_104 : decode cX10_bath 104 = .ok (.iload 7, 2) := by decide +kernel
theorem dX10_bath_106 : decode cX10_bath 106 = .ok (.imul, 1) := by decide +kernel
theorem dX10_bath_107 : decode cX10_bath 107 = .ok (.i2l, 1) := by decide +kernel
theorem dX10_bath_108 : decode cX10_bath 108 = .ok (.bipush 60, 2) := by decide +kernel
theorem dX10_bath_110 : decode cX10_bath 110 = .ok (.iload 7, 2) := by decide +kernel
theorem dX10_bath_112 : decode cX10_bath 112 = .ok (.iload 4, 2) := by decide +kernel
theorem dX10_bath_114 : decode cX10_bath 114 = .ok (.iadd, 1) := by decide +kernel
theorem dX10_bath_115 : decode cX10_bath 115 = .ok (.imul, 1) := by decide +kernel
theorem dX10_bath_116 : decode cX10_bath 116 = .ok (.iconst 1, 1) := by decide +kernel
theorem dX10_bath_117 : decode cX10_bath 117 = .ok (.isub, 1) := by decide +kernel
theorem dX10_bath_118 : decode cX10_bath 118 = .ok (.i2l, 1) := by decide +kernel
theorem dX10_bath_119 : decode cX10_bath 119 = .ok (.invokestatic 68, 3) := by decide +kernel
theorem dX10_bath_122 : decode cX10_bath 122 = .ok (.ifCond .ne 6, 3) := by decide +kernel
theorem dX10_bath_125 : decode cX10_bath 125 = .ok (.iload 7, 2) := by decide +kernel
theorem dX10_bath_127 : decode cX10_bath 127 = .ok (.ireturn, 1) := by decide +kernel
theorem dX10_bath_128 : decode cX10_bath 128 = .ok (.iinc 7 1, 3) := by decide +kernel
theorem dX10_bath_131 : decode cX10_bath 131 = .ok (.goto (-69), 3) := by decide +kernel
theorem dX10_bath_134 : decode cX10_bath 134 = .ok (.iconst (-1), 1) := by decide +kernel
theorem dX10_bath_135 : decode cX10_bath 135 = .ok (.ireturn, 1) := by decide +kernel
theorem dX10_counting_0 : decode cX10_counting 0 = .ok (.iconst 0, 1) := by decide +kernel
theorem dX10_counting_1 : decode cX10_counting 1 = .ok (.istore_n 1, 1) := by decide +kernel
theorem dX10_counting_2 : decode cX10_counting 2 = .ok (.iconst 0, 1) := by decide +kernel
theorem dX10_counting_3 : decode cX10_counting 3 = .ok (.istore_n 2, 1) := by decide +kernel
theorem dX10_counting_4 : decode cX10_counting 4 = .ok (.iload_n 2, 1) := by decide +kernel
theorem dX10_counting_5 : decode cX10_counting 5 = .ok (.aload_n 0, 1) := by decide +kernel
theorem dX10_counting_6 : decode cX10_counting 6 = .ok (.getfield 131, 3) := by decide +kernel
theorem dX10_counting_9 : decode cX10_counting 9 = .ok (.if_icmp .ge 42, 3) := by decide +kernel
theorem dX10_counting_12 : decode cX10_counting 12 = .ok (.iload_n 1, 1) := by decide +kernel
theorem dX10_counting_13 : decode cX10_counting 13 = .ok (.aload_n 0, 1) := by decide +kernel
theorem dX10_counting_14 : decode cX10_counting 14 = .ok (.getfield 7, 3) := by decide +kernel
theorem dX10_counting_17 : decode cX10_counting 17 = .ok (.iload_n 2, 1) := by decide +kernel
theorem dX10_counting_18 : decode cX10_counting 18 = .ok (.iaload, 1) := by decide +kernel
theorem dX10_counting_19 : decode cX10_counting 19 = .ok (.iconst 1, 1) := by decide +kernel
theorem dX10_counting_20 : decode cX10_counting 20 = .ok (.if_icmp .eq 13, 3) := by decide +kernel
theorem dX10_counting_23 : decode cX10_counting 23 = .ok (.aload_n 0, 1) := by decide +kernel
theorem dX10_counting_24 : decode cX10_counting 24 = .ok (.getfield 7, 3) := by decide +kernel
theorem dX10_counting_27 : decode cX10_counting 27 = .ok (.iload_n 2, 1) := by decide +kernel
theorem dX10_counting_28 : decode cX10_counting 28 = .ok (.iaload, 1) := by decide +kernel
theorem dX10_counting_29 : decode cX10_counting 29 = .ok (.iconst 4, 1) := by decide +kernel
theorem dX10_counting_30 : decode cX10_counting 30 = .ok (.if_icmp .ne 7, 3) := by decide +kernel
theorem dX10_counting_33 : decode cX10_counting 33 = .ok (.iconst 1, 1) := by decide +kernel
theorem dX10_counting_34 : decode cX10_counting 34 = .ok (.goto 4, 3) := by decide +kernel
theorem dX10_counting_37 : decode cX10_counting 37 = .ok (.iconst 0, 1) := by decide +kernel
theorem dX10_counting_38 : decode cX10_counting 38 = .ok (.invokestatic 160, 3) := by decide +kernel
theorem dX10_counting_41 : decode cX10_counting 41 = .ok (.iload_n 2, 1) := by decide +kernel
theorem dX10_counting_42 : decode cX10_counting 42 = .ok (.ishl, 1) := by decide +kernel
theorem dX10_counting_43 : decode cX10_counting 43 = .ok (.ior, 1) := by decide +kernel
theorem dX10_counting_44 : decode cX10_counting 44 = .ok (.istore_n 1, 1) := by decide +kernel
theorem dX10_counting_45 : decode cX10_counting 45 = .ok (.iinc 2 1, 3) := by decide +kernel
theorem dX10_counting_48 : decode cX10_counting 48 = .ok (.goto (-44), 3) := by decide +kernel
theorem dX10_counting_51 : decode cX10_counting 51 = .ok (.iload_n 1, 1) := by decide +kernel
theorem dX10_counting_52 : decode cX10_counting 52 = .ok (.ireturn, 1) := by decide +kernel
theorem dX10_wayOf_0 : decode cX10_wayOf 0 = .ok (.iconst 0, 1) := by decide +kernel
theorem dX10_wayOf_1 : decode cX10_wayOf 1 = .ok (.istore_n 2, 1) := by decide +kernel
theorem dX10_wayOf_2 : decode cX10_wayOf 2 = .ok (.iconst 0, 1) := by decide +kernel
theorem dX10_wayOf_3 : decode cX10_wayOf 3 = .ok (.istore_n 3, 1) := by decide +kernel
theorem dX10_wayOf_4 : decode cX10_wayOf 4 = .ok (.iload_n 3, 1) := by decide +kernel
theorem dX10_wayOf_5 : decode cX10_wayOf 5 = .ok (.iload_n 1, 1) := by decide +kernel
theorem dX10_wayOf_6 : decode cX10_wayOf 6 = .ok (.if_icmp .ge 23, 3) := by decide +kernel
theorem dX10_wayOf_9 : decode cX10_wayOf 9 = .ok (.bipush 10, 2) := by decide +kernel
theorem dX10_wayOf_11 : decode cX10_wayOf 11 = .ok (.iload_n 2, 1) := by decide +kernel
theorem dX10_wayOf_12 : decode cX10_wayOf 12 = .ok (.imul, 1) := by decide +kernel
theorem dX10_wayOf_13 : decode cX10_wayOf 13 = .ok (.aload_n 0, 1) := by decide +kernel
theorem dX10_wayOf_14 : decode cX10_wayOf 14 = .ok (.getfield 48, 3) := by decide +kernel
theorem dX10_wayOf_17 : decode cX10_wayOf 17 = .ok (.iload_n 3, 1) := by decide +kernel
theorem dX10_wayOf_18 : decode cX10_wayOf 18 = .ok (.iaload, 1) := by decide +kernel
theorem dX10_wayOf_19 : decode cX10_wayOf 19 = .ok (.iadd, 1) := by decide +kernel
theorem dX10_wayOf_20 : decode cX10_wayOf 20 = .ok (.iconst 1, 1) := by decide +kernel
theorem dX10_wayOf_21 : decode cX10_wayOf 21 = .ok (.iadd, 1) := by decide +kernel
theorem dX10_wayOf_22 : decode cX10_wayOf 22 = .ok (.istore_n 2, 1) := by decide +kernel
theorem dX10_wayOf_23 : decode cX10_wayOf 23 = .ok (.iinc 3 1, 3) := by decide +kernel
theorem dX10_wayOf_26 : decode cX10_wayOf 26 = .ok (.goto (-22), 3) := by decide +kernel
theorem dX10_wayOf_29 : decode cX10_wayOf 29 = .ok (.iload_n 2, 1) := by decide +kernel
theorem dX10_wayOf_30 : decode cX10_wayOf 30 = .ok (.ireturn, 1) := by decide +kernel
theorem dX10_exchange_0 : decode cX10_exchange 0 = .ok (.aload_n 0, 1) := by decide +kernel
theorem dX10_exchange_1 : decode cX10_exchange 1 = .ok (.getfield 48, 3) := by decide +kernel
theorem dX10_exchange_4 : decode cX10_exchange 4 = .ok (.iload_n 1, 1) := by decide +kernel
theorem dX10_exchange_5 : decode cX10_exchange 5 = .ok (.iaload, 1) := by decide +kernel
theorem dX10_exchange_6 : decode cX10_exchange 6 = .ok (.istore_n 3, 1) := by decide +kernel
theorem dX10_exchange_7 : decode cX10_exchange 7 = .ok (.aload_n 0, 1) := by decide +kernel
theorem dX10_exchange_8 : decode cX10_exchange 8 = .ok (.getfield 48, 3) := by decide +kernel
theorem dX10_exchange_11 : decode cX10_exchange 11 = .ok (.iload_n 1, 1) := by decide +kernel
theorem dX10_exchange_12 : decode cX10_exchange 12 = .ok (.aload_n 0, 1) := by decide +kernel
theorem dX10_exchange_13 : decode cX10_exchange 13 = .ok (.getfield 48, 3) := by decide +kernel
theorem dX10_exchange_16 : decode cX10_exchange 16 = .ok (.iload_n 2, 1) := by decide +kernel
theorem dX10_exchange_17 : decode cX10_exchange 17 = .ok (.iaload, 1) := by decide +kernel
theorem dX10_exchange_18 : decode cX10_exchange 18 = .ok (.iastore, 1) := by decide +kernel
theorem dX10_exchange_19 : decode cX10_exchange 19 = .ok (.aload_n 0, 1) := by decide +kernel
theorem dX10_exchange_20 : decode cX10_exchange 20 = .ok (.getfield 48, 3) := by decide +kernel
theorem dX10_exchange_23 : decode cX10_exchange 23 = .ok (.iload_n 2, 1) := by decide +kernel
theorem dX10_exchange_24 : decode cX10_exchange 24 = .ok (.iload_n 3, 1) := by decide +kernel
theorem dX10_exchange_25 : decode cX10_exchange 25 = .ok (.iastore, 1) := by decide +kernel
theorem dX10_exchange_26 : decode cX10_exchange 26 = .ok (.return_, 1) := by decide +kernel
theorem dX10_nextRow_0 : decode cX10_nextRow 0 = .ok (.iload_n 1, 1) := by decide +kernel
theorem dX10_nextRow_1 : decode cX10_nextRow 1 = .ok (.iconst 2, 1) := by decide +kernel
theorem dX10_nextRow_2 : decode cX10_nextRow 2 = .ok (.isub, 1) := by decide +kernel
theorem dX10_nextRow_3 : decode cX10_nextRow 3 = .ok (.istore_n 2, 1) := by decide +kernel
theorem dX10_nextRow_4 : decode cX10_nextRow 4 = .ok (.iload_n 2, 1) := by decide +kernel
theorem dX10_nextRow_5 : decode cX10_nextRow 5 = .ok (.ifCond .lt 26, 3) := by decide +kernel
theorem dX10_nextRow_8 : decode cX10_nextRow 8 = .ok (.aload_n 0, 1) := by decide +kernel
theorem dX10_nextRow_9 : decode cX10_nextRow 9 = .ok (.getfield 48, 3) := by decide +kernel
theorem dX10_nextRow_12 : decode cX10_nextRow 12 = .ok (.iload_n 2, 1) := by decide +kernel
theorem dX10_nextRow_13 : decode cX10_nextRow 13 = .ok (.iaload, 1) := by decide +kernel
theorem dX10_nextRow_14 : decode cX10_nextRow 14 = .ok (.aload_n 0, 1) := by decide +kernel
theorem dX10_nextRow_15 : decode cX10_nextRow 15 = .ok (.getfield 48, 3) := by decide +kernel
theorem dX10_nextRow_18 : decode cX10_nextRow 18 = .ok (.iload_n 2, 1) := by decide +kernel
theorem dX10_nextRow_19 : decode cX10_nextRow 19 = .ok (.iconst 1, 1) := by decide +kernel
theorem dX10_nextRow_20 : decode cX10_nextRow 20 = .ok (.iadd, 1) := by decide +kernel
theorem dX10_nextRow_21 : decode cX10_nextRow 21 = .ok (.iaload, 1) := by decide +kernel
theorem dX10_nextRow_22 : decode cX10_nextRow 22 = .ok (.if_icmp .le 9, 3) := by decide +kernel
theorem dX10_nextRow_25 : decode cX10_nextRow 25 = .ok (.iinc 2 (-1), 3) := by decide +kernel
theorem dX10_nextRow_28 : decode cX10_nextRow 28 = .ok (.goto (-24), 3) := by decide +kernel
theorem dX10_nextRow_31 : decode cX10_nextRow 31 = .ok (.iload_n 2, 1) := by decide +kernel
theorem dX10_nextRow_32 : decode cX10_nextRow 32 = .ok (.ifCond .ge 5, 3) := by decide +kernel
theorem dX10_nextRow_35 : decode cX10_nextRow 35 = .ok (.iconst 0, 1) := by decide +kernel
theorem dX10_nextRow_36 : decode cX10_nextRow 36 = .ok (.ireturn, 1) := by decide +kernel
theorem dX10_nextRow_37 : decode cX10_nextRow 37 = .ok (.iload_n 1, 1) := by decide +kernel
theorem dX10_nextRow_38 : decode cX10_nextRow 38 = .ok (.iconst 1, 1) := by decide +kernel
theorem dX10_nextRow_39 : decode cX10_nextRow 39 = .ok (.isub, 1) := by decide +kernel
theorem dX10_nextRow_40 : decode cX10_nextRow 40 = .ok (.istore_n 3, 1) := by decide +kernel
theorem dX10_nextRow_41 : decode cX10_nextRow 41 = .ok (.aload_n 0, 1) := by decide +kernel
theorem dX10_nextRow_42 : decode cX10_nextRow 42 = .ok (.getfield 48, 3) := by decide +kernel
theorem dX10_nextRow_45 : decode cX10_nextRow 45 = .ok (.iload_n 3, 1) := by decide +kernel
theorem dX10_nextRow_46 : decode cX10_nextRow 46 = .ok (.iaload, 1) := by decide +kernel
theorem dX10_nextRow_47 : decode cX10_nextRow 47 = .ok (.aload_n 0, 1) := by decide +kernel
theorem dX10_nextRow_48 : decode cX10_nextRow 48 = .ok (.getfield 48, 3) := by decide +kernel
theorem dX10_nextRow_51 : decode cX10_nextRow 51 = .ok (.iload_n 2, 1) := by decide +kernel
theorem dX10_nextRow_52 : decode cX10_nextRow 52 = .ok (.iaload, 1) := by decide +kernel
theorem dX10_nextRow_53 : decode cX10_nextRow 53 = .ok (.if_icmp .ge 9, 3) := by decide +kernel
theorem dX10_nextRow_56 : decode cX10_nextRow 56 = .ok (.iinc 3 (-1), 3) := by decide +kernel
theorem dX10_nextRow_59 : decode cX10_nextRow 59 = .ok (.goto (-18), 3) := by decide +kernel
theorem dX10_nextRow_62 : decode cX10_nextRow 62 = .ok (.aload_n 0, 1) := by decide +kernel
theorem dX10_nextRow_63 : decode cX10_nextRow 63 = .ok (.iload_n 2, 1) := by decide +kernel
theorem dX10_nextRow_64 : decode cX10_nextRow 64 = .ok (.iload_n 3, 1) := by decide +kernel
theorem dX10_nextRow_65 : decode cX10_nextRow 65 = .ok (.invokevirtual 232, 3) := by decide +kernel
theorem dX10_nextRow_68 : decode cX10_nextRow 68 = .ok (.iload_n 2, 1) := by decide +kernel
theorem dX10_nextRow_69 : decode cX10_nextRow 69 = .ok (.iconst 1, 1) := by decide +kernel
theorem dX10_nextRow_70 : decode cX10_nextRow 70 = .ok (.iadd, 1) := by decide +kernel
theorem dX10_nextRow_71 : decode cX10_nextRow 71 = .ok (.istore 4, 2) := by decide +kernel
theorem dX10_nextRow_73 : decode cX10_nextRow 73 = .ok (.iload_n 1, 1) := by decide +kernel
theorem dX10_nextRow_74 : decode cX10_nextRow 74 = .ok (.iconst 1, 1) := by decide +kernel
theorem dX10_nextRow_75 : decode cX10_nextRow 75 = .ok (.isub, 1) := by decide +kernel
theorem dX10_nextRow_76 : decode cX10_nextRow 76 = .ok (.istore 5, 2) := by decide +kernel
theorem dX10_nextRow_78 : decode cX10_nextRow 78 = .ok (.iload 4, 2) := by decide +kernel
theorem dX10_nextRow_80 : decode cX10_nextRow 80 = .ok (.iload 5, 2) := by decide +kernel
theorem dX10_nextRow_82 : decode cX10_nextRow 82 = .ok (.if_icmp .ge 20, 3) := by decide +kernel
theorem dX10_nextRow_85 : decode cX10_nextRow 85 = .ok (.aload_n 0, 1) := by decide +kernel
theorem dX10_nextRow_86 : decode cX10_nextRow 86 = .ok (.iload 4, 2) := by decide +kernel
theorem dX10_nextRow_88 : decode cX10_nextRow 88 = .ok (.iload 5, 2) := by decide +kernel
theorem dX10_nextRow_90 : decode cX10_nextRow 90 = .ok (.invokevirtual 232, 3) := by decide +kernel
theorem dX10_nextRow_93 : decode cX10_nextRow 93 = .ok (.iinc 4 1, 3) := by decide +kernel
theorem dX10_nextRow_96 : decode cX10_nextRow 96 = .ok (.iinc 5 (-1), 3) := by decide +kernel
theorem dX10_nextRow_99 : decode cX10_nextRow 99 = .ok (.goto (-21), 3) := by decide +kernel
theorem dX10_nextRow_102 : decode cX10_nextRow 102 = .ok (.iconst 1, 1) := by decide +kernel
theorem dX10_nextRow_103 : decode cX10_nextRow 103 = .ok (.ireturn, 1) := by decide +kernel
theorem dX10_bestWay_0 : decode cX10_bestWay 0 = .ok (.iload_n 1, 1) := by decide +kernel
theorem dX10_bestWay_1 : decode cX10_bestWay 1 = .ok (.invokestatic 203, 3) := by decide +kernel
theorem dX10_bestWay_4 : decode cX10_bestWay 4 = .ok (.ifCond .eq 15, 3) := by decide +kernel
theorem dX10_bestWay_7 : decode cX10_bestWay 7 = .ok (.iload_n 2, 1) := by decide +kernel
theorem dX10_bestWay_8 : decode cX10_bestWay 8 = .ok (.i2l, 1) := by decide +kernel
theorem dX10_bestWay_9 : decode cX10_bestWay 9 = .ok (.lconst 0, 1) := by decide +kernel
theorem dX10_bestWay_10 : decode cX10_bestWay 10 = .ok (.ldc2_w 235, 3) := by decide +kernel
theorem dX10_bestWay_13 : decode cX10_bestWay 13 = .ok (.invokestatic 68, 3) := by decide +kernel
theorem dX10_bestWay_16 : decode cX10_bestWay 16 = .ok (.ifCond .ne 6, 3) := by decide +kernel
theorem dX10_bestWay_19 : decode cX10_bestWay 19 = .ok (.ldc 72, 2) := by decide +kernel
theorem dX10_bestWay_21 : decode cX10_bestWay 21 = .ok (.ireturn, 1) := by decide +kernel
theorem dX10_bestWay_22 : decode cX10_bestWay 22 = .ok (.aload_n 0, 1) := by decide +kernel
theorem dX10_bestWay_23 : decode cX10_bestWay 23 = .ok (.invokevirtual 237, 3) := by decide +kernel
theorem dX10_bestWay_26 : decode cX10_bestWay 26 = .ok (.istore_n 3, 1) := by decide +kernel
theorem dX10_bestWay_27 : decode cX10_bestWay 27 = .ok (.iconst 0, 1) := by decide +kernel
theorem dX10_bestWay_28 : decode cX10_bestWay 28 = .ok (.istore 4, 2) := by decide +kernel
theorem dX10_bestWay_30 : decode cX10_bestWay 30 = .ok (.iconst 0, 1) := by decide +kernel
theorem dX10_bestWay_31 : decode cX10_bestWay 31 = .ok (.istore 5, 2) := by decide +kernel
theorem dX10_bestWay_33 : decode cX10_bestWay 33 = .ok (.iload 5, 2) := by decide +kernel
theorem dX10_bestWay_35 : decode cX10_bestWay 35 = .ok (.aload_n 0, 1) := by decide +kernel
theorem dX10_bestWay_36 : decode cX10_bestWay 36 = .ok (.getfield 131, 3) := by decide +kernel
theorem dX10_bestWay_39 : decode cX10_bestWay 39 = .ok (.if_icmp .ge 48, 3) := by decide +kernel
theorem dX10_bestWay_42 : decode cX10_bestWay 42 = .ok (.aload_n 0, 1) := by decide +kernel
theorem dX10_bestWay_43 : decode cX10_bestWay 43 = .ok (.getfield 48, 3) := by decide +kernel
theorem dX10_bestWay_46 : decode cX10_bestWay 46 = .ok (.iload 4, 2) := by decide +kernel
theorem dX10_bestWay_48 : decode cX10_bestWay 48 = .ok (.iload_n 3, 1) := by decide +kernel
theorem dX10_bestWay_49 : decode cX10_bestWay 49 = .ok (.iload 5, 2) := by decide +kernel
theorem dX10_bestWay_51 : decode cX10_bestWay 51 = .ok (.invokestatic 154, 3) := by decide +kernel
theorem dX10_bestWay_54 : decode cX10_bestWay 54 = .ok (.ifCond .eq 8, 3) := by decide +kernel
theorem dX10_bestWay_57 : decode cX10_bestWay 57 = .ok (.iload 5, 2) := by decide +kernel
theorem dX10_bestWay_59 : decode cX10_bestWay 59 = .ok (.goto 10, 3) := by decide +kernel
theorem dX10_bestWay_62 : decode cX10_bestWay 62 = .ok (.aload_n 0, 1) := by decide +kernel
theorem dX10_bestWay_63 : decode cX10_bestWay 63 = .ok (.getfield 48, 3) := by decide +kernel
theorem dX10_bestWay_66 : decode cX10_bestWay 66 = .ok (.iload 4, 2) := by decide +kernel
theorem dX10_bestWay_68 : decode cX10_bestWay 68 = .ok (.iaload, 1) := by decide +kernel
theorem dX10_bestWay_69 : decode cX10_bestWay 69 = .ok (.iastore, 1) := by decide +kernel
theorem dX10_bestWay_70 : decode cX10_bestWay 70 = .ok (.iload 4, 2) := by decide +kernel
theorem dX10_bestWay_72 : decode cX10_bestWay 72 = .ok (.iload_n 3, 1) := by decide +kernel
theorem dX10_bestWay_73 : decode cX10_bestWay 73 = .ok (.iload 5, 2) := by decide +kernel
theorem dX10_bestWay_75 : decode cX10_bestWay 75 = .ok (.ishr, 1) := by decide +kernel
theorem dX10_bestWay_76 : decode cX10_bestWay 76 = .ok (.iconst 1, 1) := by decide +kernel
theorem dX10_bestWay_77 : decode cX10_bestWay 77 = .ok (.iand, 1) := by decide +kernel
theorem dX10_bestWay_78 : decode cX10_bestWay 78 = .ok (.iadd, 1) := by decide +kernel
theorem dX10_bestWay_79 : decode cX10_bestWay 79 = .ok (.istore 4, 2) := by decide +kernel
theorem dX10_bestWay_81 : decode cX10_bestWay 81 = .ok (.iinc 5 1, 3) := by decide +kernel
theorem dX10_bestWay_84 : decode cX10_bestWay 84 = .ok (.goto (-51), 3) := by decide +kernel
theorem dX10_bestWay_87 : decode cX10_bestWay 87 = .ok (.iload 4, 2) := by decide +kernel
theorem dX10_bestWay_89 : decode cX10_bestWay 89 = .ok (.ifCond .ne 5, 3) := by decide +kernel
theorem dX10_bestWay_92 : decode cX10_bestWay 92 = .ok (.iconst (-1), 1) := by decide +kernel
theorem dX10_bestWay_93 : decode cX10_bestWay 93 = .ok (.ireturn, 1) := by decide +kernel
theorem dX10_bestWay_94 : decode cX10_bestWay 94 = .ok (.iconst (-1), 1) := by decide +kernel
theorem dX10_bestWay_95 : decode cX10_bestWay 95 = .ok (.istore 5, 2) := by decide +kernel
theorem dX10_bestWay_97 : decode cX10_bestWay 97 = .ok (.iconst (-1), 1) := by decide +kernel
theorem dX10_bestWay_98 : decode cX10_bestWay 98 = .ok (.istore 6, 2) := by decide +kernel
theorem dX10_bestWay_100 : decode cX10_bestWay 100 = .ok (.ldc 240, 2) := by decide +kernel
theorem dX10_bestWay_102 : decode cX10_bestWay 102 = .ok (.istore 7, 2) := by decide +kernel
theorem dX10_bestWay_104 : decode cX10_bestWay 104 = .ok (.iconst 1, 1) := by decide +kernel
theorem dX10_bestWay_105 : decode cX10_bestWay 105 = .ok (.istore 8, 2) := by decide +kernel
theorem dX10_bestWay_107 : decode cX10_bestWay 107 = .ok (.iload 8, 2) := by decide +kernel
theorem dX10_bestWay_109 : decode cX10_bestWay 109 = .ok (.ifCond .eq 70, 3) := by decide +kernel
theorem dX10_bestWay_112 : decode cX10_bestWay 112 = .ok (.aload_n 0, 1) := by decide +kernel
theorem dX10_bestWay_113 : decode cX10_bestWay 113 = .ok (.iload 4, 2) := by decide +kernel
theorem dX10_bestWay_115 : decode cX10_bestWay 115 = .ok (.invokevirtual 241, 3) := by decide +kernel
theorem dX10_bestWay_118 : decode cX10_bestWay 118 = .ok (.istore 9, 2) := by decide +kernel
theorem dX10_bestWay_120 : decode cX10_bestWay 120 = .ok (.aload_n 0, 1) := by decide +kernel
theorem dX10_bestWay_121 : decode cX10_bestWay 121 = .ok (.iload 9, 2) := by decide +kernel
theorem dX10_bestWay_123 : decode cX10_bestWay 123 = .ok (.iload_n 1, 1) := by decide +kernel
theorem dX10_bestWay_124 : decode cX10_bestWay 124 = .ok (.invokevirtual 224, 3) := by decide +kernel
theorem dX10_bestWay_127 : decode cX10_bestWay 127 = .ok (.istore 10, 2) := by decide +kernel
theorem dX10_bestWay_129 : decode cX10_bestWay 129 = .ok (.aload_n 0, 1) := by decide +kernel
theorem dX10_bestWay_130 : decode cX10_bestWay 130 = .ok (.getfield 176, 3) := by decide +kernel
theorem dX10_bestWay_133 : decode cX10_bestWay 133 = .ok (.iload 6, 2) := by decide +kernel
theorem dX10_bestWay_135 : decode cX10_bestWay 135 = .ok (.if_icmp .gt 19, 3) := by decide +kernel
theorem dX10_bestWay_138 : decode cX10_bestWay 138 = .ok (.aload_n 0, 1) := by decide +kernel
theorem dX10_bestWay_139 : decode cX10_bestWay 139 = .ok (.getfield 176, 3) := by decide +kernel
theorem dX10_bestWay_142 : decode cX10_bestWay 142 = .ok (.iload 6, 2) := by decide +kernel
theorem dX10_bestWay_144 : decode cX10_bestWay 144 = .ok (.if_icmp .ne 24, 3) := by decide +kernel
theorem dX10_bestWay_147 : decode cX10_bestWay 147 = .ok (.iload 10, 2) := by decide +kernel
theorem dX10_bestWay_149 : decode cX10_bestWay 149 = .ok (.iload 7, 2) := by decide +kernel
theorem dX10_bestWay_151 : decode cX10_bestWay 151 = .ok (.if_icmp .ge 17, 3) := by decide +kernel
theorem dX10_bestWay_154 : decode cX10_bestWay 154 = .ok (.iload 9, 2) := by decide +kernel
theorem dX10_bestWay_156 : decode cX10_bestWay 156 = .ok (.istore 5, 2) := by decide +kernel
theorem dX10_bestWay_158 : decode cX10_bestWay 158 = .ok (.aload_n 0, 1) := by decide +kernel
theorem dX10_bestWay_159 : decode cX10_bestWay 159 = .ok (.getfield 176, 3) := by decide +kernel
theorem dX10_bestWay_162 : decode cX10_bestWay 162 = .ok (.istore 6, 2) := by decide +kernel
theorem dX10_bestWay_164 : decode cX10_bestWay 164 = .ok (.iload 10, 2) := by decide +kernel
theorem dX10_bestWay_166 : decode cX10_bestWay 166 = .ok (.istore 7, 2) := by decide +kernel
theorem dX10_bestWay_168 : decode cX10_bestWay 168 = .ok (.aload_n 0, 1) := by decide +kernel
theorem dX10_bestWay_169 : decode cX10_bestWay 169 = .ok (.iload 4, 2) := by decide +kernel
theorem dX10_bestWay_171 : decode cX10_bestWay 171 = .ok (.invokevirtual 244, 3) := by decide +kernel
theorem dX10_bestWay_174 : decode cX10_bestWay 174 = .ok (.istore 8, 2) := by decide +kernel
theorem dX10_bestWay_176 : decode cX10_bestWay 176 = .ok (.goto (-69), 3) := by decide +kernel
theorem dX10_bestWay_179 : decode cX10_bestWay 179 = .ok (.iload_n 2, 1) := by decide +kernel
theorem dX10_bestWay_180 : decode cX10_bestWay 180 = .ok (.ifCond .ne 8, 3) := by decide +kernel
theorem dX10_bestWay_183 : decode cX10_bestWay 183 = .ok (.iload 5, 2) := by decide +kernel
theorem dX10_bestWay_185 : decode cX10_bestWay 185 = .ok (.goto 15, 3) := by decide +kernel
theorem dX10_bestWay_188 : decode cX10_bestWay 188 = .ok (.iload_n 2, 1) := by decide +kernel
theorem dX10_bestWay_189 : decode cX10_bestWay 189 = .ok (.iconst 1, 1) := by decide +kernel
theorem dX10_bestWay_190 : decode cX10_bestWay 190 = .ok (.if_icmp .ne 8, 3) := by decide +kernel
theorem dX10_bestWay_193 : decode cX10_bestWay 193 = .ok (.iload 6, 2) := by decide +kernel
theorem dX10_bestWay_195 : decode cX10_bestWay 195 = .ok (.goto 5, 3) := by decide +kernel
theorem dX10_bestWay_198 : decode cX10_bestWay 198 = .ok (.iload 7, 2) := by decide +kernel
theorem dX10_bestWay_200 : decode cX10_bestWay 200 = .ok (.ireturn, 1) := by decide +kernel
theorem dX10_pretends_0 : decode cX10_pretends 0 = .ok (.aload_n 0, 1) := by decide +kernel
theorem dX10_pretends_1 : decode cX10_pretends 1 = .ok (.iload_n 1, 1) := by decide +kernel
theorem dX10_pretends_2 : decode cX10_pretends 2 = .ok (.invokevirtual 200, 3) := by decide +kernel
theorem dX10_pretends_5 : decode cX10_pretends 5 = .ok (.ifCond .ne 6, 3) := by decide +kernel
theorem dX10_pretends_8 : decode cX10_pretends 8 = .ok (.ldc 167, 2) := by decide +kernel
theorem dX10_pretends_10 : decode cX10_pretends 10 = .ok (.ireturn, 1) := by decide +kernel
theorem dX10_pretends_11 : decode cX10_pretends 11 = .ok (.iload_n 2, 1) := by decide +kernel
theorem dX10_pretends_12 : decode cX10_pretends 12 = .ok (.invokestatic 203, 3) := by decide +kernel
theorem dX10_pretends_15 : decode cX10_pretends 15 = .ok (.ifCond .eq 13, 3) := by decide +kernel
theorem dX10_pretends_18 : decode cX10_pretends 18 = .ok (.iload_n 3, 1) := by decide +kernel
theorem dX10_pretends_19 : decode cX10_pretends 19 = .ok (.i2l, 1) := by decide +kernel
theorem dX10_pretends_20 : decode cX10_pretends 20 = .ok (.lconst 0, 1) := by decide +kernel
theorem dX10_pretends_21 : decode cX10_pretends 21 = .ok (.lconst 1, 1) := by decide +kernel
theorem dX10_pretends_22 : decode cX10_pretends 22 = .ok (.invokestatic 68, 3) := by decide +kernel
theorem dX10_pretends_25 : decode cX10_pretends 25 = .ok (.ifCond .ne 6, 3) := by decide +kernel
theorem dX10_pretends_28 : decode cX10_pretends 28 = .ok (.ldc 72, 2) := by decide +kernel
theorem dX10_pretends_30 : decode cX10_pretends 30 = .ok (.ireturn, 1) := by decide +kernel
theorem dX10_pretends_31 : decode cX10_pretends 31 = .ok (.aload_n 0, 1) := by decide +kernel
theorem dX10_pretends_32 : decode cX10_pretends 32 = .ok (.iload_n 1, 1) := by decide +kernel
theorem dX10_pretends_33 : decode cX10_pretends 33 = .ok (.iconst 0, 1) := by decide +kernel
theorem dX10_pretends_34 : decode cX10_pretends 34 = .ok (.invokevirtual 224, 3) := by decide +kernel
theorem dX10_pretends_37 : decode cX10_pretends 37 = .ok (.istore 4, 2) := by decide +kernel
theorem dX10_pretends_39 : decode cX10_pretends 39 = .ok (.aload_n 0, 1) := by decide +kernel
theorem dX10_pretends_40 : decode cX10_pretends 40 = .ok (.getfield 176, 3) := by decide +kernel
theorem dX10_pretends_43 : decode cX10_pretends 43 = .ok (.istore 5, 2) := by decide +kernel
theorem dX10_pretends_45 : decode cX10_pretends 45 = .ok (.aload_n 0, 1) := by decide +kernel
theorem dX10_pretends_46 : decode cX10_pretends 46 = .ok (.iload_n 1, 1) := by decide +kernel
theorem dX10_pretends_47 : decode cX10_pretends 47 = .ok (.iload_n 2, 1) := by decide +kernel
theorem dX10_pretends_48 : decode cX10_pretends 48 = .ok (.invokevirtual 224, 3) := by decide +kernel
theorem dX10_pretends_51 : decode cX10_pretends 51 = .ok (.istore 6, 2) := by decide +kernel
theorem dX10_pretends_53 : decode cX10_pretends 53 = .ok (.iload_n 3, 1) := by decide +kernel
theorem dX10_pretends_54 : decode cX10_pretends 54 = .ok (.ifCond .ne 11, 3) := by decide +kernel
theorem dX10_pretends_57 : decode cX10_pretends 57 = .ok (.iload 4, 2) := by decide +kernel
theorem dX10_pretends_59 : decode cX10_pretends 59 = .ok (.iload 6, 2) := by decide +kernel
theorem dX10_pretends_61 : decode cX10_pretends 61 = .ok (.isub, 1) := by decide +kernel
theorem dX10_pretends_62 : decode cX10_pretends 62 = .ok (.goto 13, 3) := by decide +kernel
theorem dX10_pretends_65 : decode cX10_pretends 65 = .ok (.iload 5, 2) := by decide +kernel
theorem dX10_pretends_67 : decode cX10_pretends 67 = .ok (.aload_n 0, 1) := by decide +kernel
theorem dX10_pretends_68 : decode cX10_pretends 68 = .ok (.getfield 176, 3) := by decide +kernel
theorem dX10_pretends_71 : decode cX10_pretends 71 = .ok (.isub, 1) := by decide +kernel
theorem dX10_pretends_72 : decode cX10_pretends 72 = .ok (.bipush 100, 2) := by decide +kernel
theorem dX10_pretends_74 : decode cX10_pretends 74 = .ok (.iadd, 1) := by decide +kernel
theorem dX10_pretends_75 : decode cX10_pretends 75 = .ok (.ireturn, 1) := by decide +kernel
theorem dX10_locker_0 : decode cX10_locker 0 = .ok (.aload_n 0, 1) := by decide +kernel
theorem dX10_locker_1 : decode cX10_locker 1 = .ok (.iload_n 1, 1) := by decide +kernel
theorem dX10_locker_2 : decode cX10_locker 2 = .ok (.invokevirtual 200, 3) := by decide +kernel
theorem dX10_locker_5 : decode cX10_locker 5 = .ok (.ifCond .ne 6, 3) := by decide +kernel
theorem dX10_locker_8 : decode cX10_locker 8 = .ok (.ldc 167, 2) := by decide +kernel
theorem dX10_locker_10 : decode cX10_locker 10 = .ok (.ireturn, 1) := by decide +kernel
theorem dX10_locker_11 : decode cX10_locker 11 = .ok (.iload_n 2, 1) := by decide +kernel
theorem dX10_locker_12 : decode cX10_locker 12 = .ok (.i2l, 1) := by decide +kernel
theorem dX10_locker_13 : decode cX10_locker 13 = .ok (.lconst 0, 1) := by decide +kernel
theorem dX10_locker_14 : decode cX10_locker 14 = .ok (.ldc2_w 227, 3) := by decide +kernel
theorem dX10_locker_17 : decode cX10_locker 17 = .ok (.invokestatic 68, 3) := by decide +kernel
theorem dX10_locker_20 : decode cX10_locker 20 = .ok (.ifCond .eq 13, 3) := by decide +kernel
theorem dX10_locker_23 : decode cX10_locker 23 = .ok (.iload_n 3, 1) := by decide +kernel
theorem dX10_locker_24 : decode cX10_locker 24 = .ok (.i2l, 1) := by decide +kernel
theorem dX10_locker_25 : decode cX10_locker 25 = .ok (.lconst 0, 1) := by decide +kernel
theorem dX10_locker_26 : decode cX10_locker 26 = .ok (.lconst 1, 1) := by decide +kernel
theorem dX10_locker_27 : decode cX10_locker 27 = .ok (.invokestatic 68, 3) := by decide +kernel
theorem dX10_locker_30 : decode cX10_locker 30 = .ok (.ifCond .ne 6, 3) := by decide +kernel
theorem dX10_locker_33 : decode cX10_locker 33 = .ok (.ldc 72, 2) := by decide +kernel
theorem dX10_locker_35 : decode cX10_locker 35 = .ok (.ireturn, 1) := by decide +kernel
theorem dX10_locker_36 : decode cX10_locker 36 = .ok (.aload_n 0, 1) := by decide +kernel
theorem dX10_locker_37 : decode cX10_locker 37 = .ok (.iload_n 1, 1) := by decide +kernel
theorem dX10_locker_38 : decode cX10_locker 38 = .ok (.iconst 0, 1) := by decide +kernel
theorem dX10_locker_39 : decode cX10_locker 39 = .ok (.invokevirtual 224, 3) := by decide +kernel
theorem dX10_locker_42 : decode cX10_locker 42 = .ok (.istore 4, 2) := by decide +kernel
theorem dX10_locker_44 : decode cX10_locker 44 = .ok (.iconst 0, 1) := by decide +kernel
theorem dX10_locker_45 : decode cX10_locker 45 = .ok (.istore 5, 2) := by decide +kernel
theorem dX10_locker_47 : decode cX10_locker 47 = .ok (.iconst 0, 1) := by decide +kernel
theorem dX10_locker_48 : decode cX10_locker 48 = .ok (.istore 6, 2) := by decide +kernel
theorem dX10_locker_50 : decode cX10_locker 50 = .ok (.iconst 0, 1) := by decide +kernel
theorem dX10_locker_51 : decode cX10_locker 51 = .ok (.istore 7, 2) := by decide +kernel
theorem dX10_locker_53 : decode cX10_locker 53 = .ok (.iload 7, 2) := by decide +kernel
theorem dX10_locker_55 : decode cX10_locker 55 = .ok (.bipush 100, 2) := by decide +kernel
theorem dX10_locker_57 : decode cX10_locker 57 = .ok (.if_icmp .ge 103, 3) := by decide +kernel
theorem dX10_locker_60 : decode cX10_locker 60 = .ok (.iconst 0, 1) := by decide +kernel
theorem dX10_locker_61 : decode cX10_locker 61 = .ok (.istore 8, 2) := by decide +kernel
theorem dX10_locker_63 : decode cX10_locker 63 = .ok (.iconst 0, 1) := by decide +kernel
theorem dX10_locker_64 : decode cX10_locker 64 = .ok (.istore 9, 2) := by decide +kernel
theorem dX10_locker_66 : decode cX10_locker 66 = .ok (.iload 9, 2) := by decide +kernel
theorem dX10_locker_68 : decode cX10_locker 68 = .ok (.aload_n 0, 1) := by decide +kernel
theorem dX10_locker_69 : decode cX10_locker 69 = .ok (.getfield 131, 3) := by decide +kernel
theorem dX10_locker_72 : decode cX10_locker 72 = .ok (.if_icmp .ge 50, 3) := by decide +kernel
theorem dX10_locker_75 : decode cX10_locker 75 = .ok (.iload 8, 2) := by decide +kernel
theorem dX10_locker_77 : decode cX10_locker 77 = .ok (.aload_n 0, 1) := by decide +kernel
theorem dX10_locker_78 : decode cX10_locker 78 = .ok (.getfield 179, 3) := by decide +kernel
theorem dX10_locker_81 : decode cX10_locker 81 = .ok (.iload 9, 2) := by decide +kernel
theorem dX10_locker_83 : decode cX10_locker 83 = .ok (.invokestatic 154, 3) := by decide +kernel
theorem dX10_locker_86 : decode cX10_locker 86 = .ok (.ifCond .eq 23, 3) := by decide +kernel
theorem dX10_locker_89 : decode cX10_locker 89 = .ok (.aload_n 0, 1) := by decide +kernel
theorem dX10_locker_90 : decode cX10_locker 90 = .ok (.getfield 20, 3) := by decide +kernel
theorem dX10_locker_93 : decode cX10_locker 93 = .ok (.iload 9, 2) := by decide +kernel
theorem dX10_locker_95 : decode cX10_locker 95 = .ok (.iaload, 1) := by decide +kernel
theorem dX10_locker_96 : decode cX10_locker 96 = .ok (.iload 7, 2) := by decide +kernel
theorem dX10_locker_98 : decode cX10_locker 98 = .ok (.invokestatic 185, 3) := by decide +kernel
theorem dX10_locker_101 : decode cX10_locker 101 = .ok (.iload_n 2, 1) := by decide +kernel
theorem dX10_locker_102 : decode cX10_locker 102 = .ok (.if_icmp .gt 7, 3) := by decide +kernel
theorem dX10_locker_105 : decode cX10_locker 105 = .ok (.iconst 1, 1) := by decide +kernel
theorem dX10_locker_106 : decode cX10_locker 106 = .ok (.goto 4, 3) := by decide +kernel
theorem dX10_locker_109 : decode cX10_locker 109 = .ok (.iconst 0, 1) := by decide +kernel
theorem dX10_locker_110 : decode cX10_locker 110 = .ok (.invokestatic 160, 3) := by decide +kernel
theorem dX10_locker_113 : decode cX10_locker 113 = .ok (.iadd, 1) := by decide +kernel
theorem dX10_locker_114 : decode cX10_locker 114 = .ok (.istore 8, 2) := by decide +kernel
theorem dX10_locker_116 : decode cX10_locker 116 = .ok (.iinc 9 1, 3) := by decide +kernel
theorem dX10_locker_119 : decode cX10_locker 119 = .ok (.goto (-53), 3) := by decide +kernel
theorem dX10_locker_122 : decode cX10_locker 122 = .ok (.iload 8, 2) := by decide +kernel
theorem dX10_locker_124 : decode cX10_locker 124 = .ok (.iload 6, 2) := by decide +kernel
theorem dX10_locker_126 : decode cX10_locker 126 = .ok (.if_icmp .le 8, 3) := by decide +kernel
theorem dX10_locker_129 : decode cX10_locker 129 = .ok (.iload 7, 2) := by decide +kernel
theorem dX10_locker_131 : decode cX10_locker 131 = .ok (.goto 5, 3) := by decide +kernel
theorem dX10_locker_134 : decode cX10_locker 134 = .ok (.iload 5, 2) := by decide +kernel
theorem dX10_locker_136 : decode cX10_locker 136 = .ok (.istore 5, 2) := by decide +kernel
theorem dX10_locker_138 : decode cX10_locker 138 = .ok (.iload 8, 2) := by decide +kernel
theorem dX10_locker_140 : decode cX10_locker 140 = .ok (.iload 6, 2) := by decide +kernel
theorem dX10_locker_142 : decode cX10_locker 142 = .ok (.if_icmp .le 8, 3) := by decide +kernel
theorem dX10_locker_145 : decode cX10_locker 145 = .ok (.iload 8, 2) := by decide +kernel
theorem dX10_locker_147 : decode cX10_locker 147 = .ok (.goto 5, 3) := by decide +kernel
theorem dX10_locker_150 : decode cX10_locker 150 = .ok (.iload 6, 2) := by decide +kernel
theorem dX10_locker_152 : decode cX10_locker 152 = .ok (.istore 6, 2) := by decide +kernel
theorem dX10_locker_154 : decode cX10_locker 154 = .ok (.iinc 7 1, 3) := by decide +kernel
theorem dX10_locker_157 : decode cX10_locker 157 = .ok (.goto (-104), 3) := by decide +kernel
theorem dX10_locker_160 : decode cX10_locker 160 = .ok (.iload_n 3, 1) := by decide +kernel
theorem dX10_locker_161 : decode cX10_locker 161 = .ok (.ifCond .ne 8, 3) := by decide +kernel
theorem dX10_locker_164 : decode cX10_locker 164 = .ok (.iload 5, 2) := by decide +kernel
theorem dX10_locker_166 : decode cX10_locker 166 = .ok (.goto 5, 3) := by decide +kernel
theorem dX10_locker_169 : decode cX10_locker 169 = .ok (.iload 6, 2) := by decide +kernel
theorem dX10_locker_171 : decode cX10_locker 171 = .ok (.ireturn, 1) := by decide +kernel
theorem dX10_bears_0 : decode cX10_bears 0 = .ok (.aload_n 0, 1) := by decide +kernel
theorem dX10_bears_1 : decode cX10_bears 1 = .ok (.iload_n 1, 1) := by decide +kernel
theorem dX10_bears_2 : decode cX10_bears 2 = .ok (.invokevirtual 150, 3) := by decide +kernel
theorem dX10_bears_5 : decode cX10_bears 5 = .ok (.ifCond .ne 6, 3) := by decide +kernel
theorem dX10_bears_8 : decode cX10_bears 8 = .ok (.ldc 167, 2) := by decide +kernel
theorem dX10_bears_10 : decode cX10_bears 10 = .ok (.ireturn, 1) := by decide +kernel
theorem dX10_bears_11 : decode cX10_bears 11 = .ok (.aload_n 0, 1) := by decide +kernel
theorem dX10_bears_12 : decode cX10_bears 12 = .ok (.getfield 29, 3) := by decide +kernel
theorem dX10_bears_15 : decode cX10_bears 15 = .ok (.iload_n 1, 1) := by decide +kernel
theorem dX10_bears_16 : decode cX10_bears 16 = .ok (.iaload, 1) := by decide +kernel
theorem dX10_bears_17 : decode cX10_bears 17 = .ok (.iconst (-1), 1) := by decide +kernel
theorem dX10_bears_18 : decode cX10_bears 18 = .ok (.if_icmp .ne 7, 3) := by decide +kernel
theorem dX10_bears_21 : decode cX10_bears 21 = .ok (.iconst 0, 1) := by decide +kernel
theorem dX10_bears_22 : decode cX10_bears 22 = .ok (.goto 19, 3) := by decide +kernel
theorem dX10_bears_25 : decode cX10_bears 25 = .ok (.aload_n 0, 1) := by decide +kernel
theorem dX10_bears_26 : decode cX10_bears 26 = .ok (.getfield 32, 3) := by decide +kernel
theorem dX10_bears_29 : decode cX10_bears 29 = .ok (.iload_n 1, 1) := by decide +kernel
theorem dX10_bears_30 : decode cX10_bears 30 = .ok (.iaload, 1) := by decide +kernel
theorem dX10_bears_31 : decode cX10_bears 31 = .ok (.aload_n 0, 1) := by decide +kernel
theorem dX10_bears_32 : decode cX10_bears 32 = .ok (.getfield 7, 3) := by decide +kernel
theorem dX10_bears_35 : decode cX10_bears 35 = .ok (.bipush 7, 2) := by decide +kernel
theorem dX10_bears_37 : decode cX10_bears 37 = .ok (.iload_n 1, 1) := by decide +kernel
theorem dX10_bears_38 : decode cX10_bears 38 = .ok (.iadd, 1) := by decide +kernel
theorem dX10_bears_39 : decode cX10_bears 39 = .ok (.iaload, 1) := by decide +kernel
theorem dX10_bears_40 : decode cX10_bears 40 = .ok (.isub, 1) := by decide +kernel
theorem dX10_bears_41 : decode cX10_bears 41 = .ok (.ireturn, 1) := by decide +kernel
theorem dX10_heard_0 : decode cX10_heard 0 = .ok (.iload_n 1, 1) := by decide +kernel
theorem dX10_heard_1 : decode cX10_heard 1 = .ok (.i2l, 1) := by decide +kernel
theorem dX10_heard_2 : decode cX10_heard 2 = .ok (.lconst 0, 1) := by decide +kernel
theorem dX10_heard_3 : decode cX10_heard 3 = .ok (.ldc2_w 247, 3) := by decide +kernel
theorem dX10_heard_6 : decode cX10_heard 6 = .ok (.invokestatic 68, 3) := by decide +kernel
theorem dX10_heard_9 : decode cX10_heard 9 = .ok (.ifCond .eq 15, 3) := by decide +kernel
theorem dX10_heard_12 : decode cX10_heard 12 = .ok (.iload_n 2, 1) := by decide +kernel
theorem dX10_heard_13 : decode cX10_heard 13 = .ok (.i2l, 1) := by decide +kernel
theorem dX10_heard_14 : decode cX10_heard 14 = .ok (.lconst 0, 1) := by decide +kernel
theorem dX10_heard_15 : decode cX10_heard 15 = .ok (.ldc2_w 249, 3) := by decide +kernel
theorem dX10_heard_18 : decode cX10_heard 18 = .ok (.invokestatic 68, 3) := by decide +kernel
theorem dX10_heard_21 : decode cX10_heard 21 = .ok (.ifCond .ne 6, 3) := by decide +kernel
theorem dX10_heard_24 : decode cX10_heard 24 = .ok (.ldc 72, 2) := by decide +kernel
theorem dX10_heard_26 : decode cX10_heard 26 = .ok (.ireturn, 1) := by decide +kernel
theorem dX10_heard_27 : decode cX10_heard 27 = .ok (.ldc2_w 251, 3) := by decide +kernel
theorem dX10_heard_30 : decode cX10_heard 30 = .ok (.lstore_n 3, 1) := by decide +kernel
theorem dX10_heard_31 : decode cX10_heard 31 = .ok (.iconst 0, 1) := by decide +kernel
theorem dX10_heard_32 : decode cX10_heard 32 = .ok (.istore 5, 2) := by decide +kernel
theorem dX10_heard_34 : decode cX10_heard 34 = .ok (.iload 5, 2) := by decide +kernel
theorem dX10_heard_36 : decode cX10_heard 36 = .ok (.iload_n 1, 1) := by decide +kernel
theorem dX10_heard_37 : decode cX10_heard 37 = .ok (.if_icmp .ge 21, 3) := by decide +kernel
theorem dX10_heard_40 : decode cX10_heard 40 = .ok (.lload_n 3, 1) := by decide +kernel
theorem dX10_heard_41 : decode cX10_heard 41 = .ok (.bipush 100, 2) := by decide +kernel
theorem dX10_heard_43 : decode cX10_heard 43 = .ok (.iload_n 2, 1) := by decide +kernel
theorem dX10_heard_44 : decode cX10_heard 44 = .ok (.isub, 1) := by decide +kernel
theorem dX10_heard_45 : decode cX10_heard 45 = .ok (.i2l, 1) := by decide +kernel
theorem dX10_heard_46 : decode cX10_heard 46 = .ok (.lmul, 1) := by decide +kernel
theorem dX10_heard_47 : decode cX10_heard 47 = .ok (.ldc2_w 249, 3) := by decide +kernel
theorem dX10_heard_50 : decode cX10_heard 50 = .ok (.ldiv, 1) := by decide +kernel
theorem dX10_heard_51 : decode cX10_heard 51 = .ok (.lstore_n 3, 1) := by decide +kernel
theorem dX10_heard_52 : decode cX10_heard 52 = .ok (.iinc 5 1, 3) := by decide +kernel
theorem dX10_heard_55 : decode cX10_heard 55 = .ok (.goto (-21), 3) := by decide +kernel
theorem dX10_heard_58 : decode cX10_heard 58 = .ok (.ldc2_w 251, 3) := by decide +kernel
theorem dX10_heard_61 : decode cX10_heard 61 = .ok (.lload_n 3, 1) := by decide +kernel
theorem dX10_heard_62 : decode cX10_heard 62 = .ok (.lsub, 1) := by decide +kernel
theorem dX10_heard_63 : decode cX10_heard 63 = .ok (.l2i, 1) := by decide +kernel
theorem dX10_heard_64 : decode cX10_heard 64 = .ok (.ireturn, 1) := by decide +kernel
theorem dX10_see_0 : decode cX10_see 0 = .ok (.aload_n 0, 1) := by decide +kernel
theorem dX10_see_1 : decode cX10_see 1 = .ok (.iload_n 1, 1) := by decide +kernel
theorem dX10_see_2 : decode cX10_see 2 = .ok (.invokevirtual 150, 3) := by decide +kernel
theorem dX10_see_5 : decode cX10_see 5 = .ok (.ifCond .ne 6, 3) := by decide +kernel
theorem dX10_see_8 : decode cX10_see 8 = .ok (.ldc 167, 2) := by decide +kernel
theorem dX10_see_10 : decode cX10_see 10 = .ok (.ireturn, 1) := by decide +kernel
theorem dX10_see_11 : decode cX10_see 11 = .ok (.aload_n 0, 1) := by decide +kernel
theorem dX10_see_12 : decode cX10_see 12 = .ok (.getfield 137, 3) := by decide +kernel
theorem dX10_see_15 : decode cX10_see 15 = .ok (.bipush 6, 2) := by decide +kernel
theorem dX10_see_17 : decode cX10_see 17 = .ok (.if_icmp .ne 6, 3) := by decide +kernel
theorem dX10_see_20 : decode cX10_see 20 = .ok (.ldc 76, 2) := by decide +kernel
theorem dX10_see_22 : decode cX10_see 22 = .ok (.ireturn, 1) := by decide +kernel
theorem dX10_see_23 : decode cX10_see 23 = .ok (.aload_n 0, 1) := by decide +kernel
theorem dX10_see_24 : decode cX10_see 24 = .ok (.getfield 51, 3) := by decide +kernel
theorem dX10_see_27 : decode cX10_see 27 = .ok (.aload_n 0, 1) := by decide +kernel
theorem dX10_see_28 : decode cX10_see 28 = .ok (.getfield 137, 3) := by decide +kernel
theorem dX10_see_31 : decode cX10_see 31 = .ok (.iload_n 1, 1) := by decide +kernel
theorem dX10_see_32 : decode cX10_see 32 = .ok (.iastore, 1) := by decide +kernel
theorem dX10_see_33 : decode cX10_see 33 = .ok (.aload_n 0, 1) := by decide +kernel
theorem dX10_see_34 : decode cX10_see 34 = .ok (.getfield 54, 3) := by decide +kernel
theorem dX10_see_37 : decode cX10_see 37 = .ok (.aload_n 0, 1) := by decide +kernel
theorem dX10_see_38 : decode cX10_see 38 = .ok (.getfield 137, 3) := by decide +kernel
theorem dX10_see_41 : decode cX10_see 41 = .ok (.iload_n 2, 1) := by decide +kernel
theorem dX10_see_42 : decode cX10_see 42 = .ok (.bastore, 1) := by decide +kernel
theorem dX10_see_43 : decode cX10_see 43 = .ok (.aload_n 0, 1) := by decide +kernel
theorem dX10_see_44 : decode cX10_see 44 = .ok (.dup, 1) := by decide +kernel
theorem dX10_see_45 : decode cX10_see 45 = .ok (.getfield 137, 3) := by decide +kernel
theorem dX10_see_48 : decode cX10_see 48 = .ok (.iconst 1, 1) := by decide +kernel
theorem dX10_see_49 : decode cX10_see 49 = .ok (.iadd, 1) := by decide +kernel
theorem dX10_see_50 : decode cX10_see 50 = .ok (.putfield 137, 3) := by decide +kernel
theorem dX10_see_53 : decode cX10_see 53 = .ok (.aload_n 0, 1) := by decide +kernel
theorem dX10_see_54 : decode cX10_see 54 = .ok (.getfield 137, 3) := by decide +kernel
theorem dX10_see_57 : decode cX10_see 57 = .ok (.ireturn, 1) := by decide +kernel
theorem dX10_slipsBy_0 : decode cX10_slipsBy 0 = .ok (.aload_n 0, 1) := by decide +kernel
theorem dX10_slipsBy_1 : decode cX10_slipsBy 1 = .ok (.iconst 0, 1) := by decide +kernel
theorem dX10_slipsBy_2 : decode cX10_slipsBy 2 = .ok (.bipush 18, 2) := by decide +kernel
theorem dX10_slipsBy_4 : decode cX10_slipsBy 4 = .ok (.invokevirtual 192, 3) := by decide +kernel
theorem dX10_slipsBy_7 : decode cX10_slipsBy 7 = .ok (.iconst 0, 1) := by decide +kernel
theorem dX10_slipsBy_8 : decode cX10_slipsBy 8 = .ok (.istore_n 3, 1) := by decide +kernel
theorem dX10_slipsBy_9 : decode cX10_slipsBy 9 = .ok (.iload_n 3, 1) := by decide +kernel
theorem dX10_slipsBy_10 : decode cX10_slipsBy 10 = .ok (.bipush 7, 2) := by decide +kernel
theorem dX10_slipsBy_12 : decode cX10_slipsBy 12 = .ok (.if_icmp .ge 29, 3) := by decide +kernel
theorem dX10_slipsBy_15 : decode cX10_slipsBy 15 = .ok (.aload_n 0, 1) := by decide +kernel
theorem dX10_slipsBy_16 : decode cX10_slipsBy 16 = .ok (.getfield 7, 3) := by decide +kernel
theorem dX10_slipsBy_19 : decode cX10_slipsBy 19 = .ok (.bipush 18, 2) := by decide +kernel
theorem dX10_slipsBy_21 : decode cX10_slipsBy 21 = .ok (.iload_n 3, 1) := by decide +kernel
theorem dX10_slipsBy_22 : decode cX10_slipsBy 22 = .ok (.iadd, 1) := by decide +kernel
theorem dX10_slipsBy_23 : decode cX10_slipsBy 23 = .ok (.iconst 1, 1) := by decide +kernel
theorem dX10_slipsBy_24 : decode cX10_slipsBy 24 = .ok (.iastore, 1) := by decide +kernel
theorem dX10_slipsBy_25 : decode cX10_slipsBy 25 = .ok (.aload_n 0, 1) := by decide +kernel
theorem dX10_slipsBy_26 : decode cX10_slipsBy 26 = .ok (.getfield 7, 3) := by decide +kernel
theorem dX10_slipsBy_29 : decode cX10_slipsBy 29 = .ok (.bipush 25, 2) := by decide +kernel
theorem dX10_slipsBy_31 : decode cX10_slipsBy 31 = .ok (.iload_n 3, 1) := by decide +kernel
theorem dX10_slipsBy_32 : decode cX10_slipsBy 32 = .ok (.iadd, 1) := by decide +kernel
theorem dX10_slipsBy_33 : decode cX10_slipsBy 33 = .ok (.iconst 0, 1) := by decide +kernel
theorem dX10_slipsBy_34 : decode cX10_slipsBy 34 = .ok (.iastore, 1) := by decide +kernel
theorem dX10_slipsBy_35 : decode cX10_slipsBy 35 = .ok (.iinc 3 1, 3) := by decide +kernel
theorem dX10_slipsBy_38 : decode cX10_slipsBy 38 = .ok (.goto (-29), 3) := by decide +kernel
theorem dX10_slipsBy_41 : decode cX10_slipsBy 41 = .ok (.aload_n 0, 1) := by decide +kernel
theorem dX10_slipsBy_42 : decode cX10_slipsBy 42 = .ok (.bipush 18, 2) := by decide +kernel
theorem dX10_slipsBy_44 : decode cX10_slipsBy 44 = .ok (.iload_n 1, 1) := by decide +kernel
theorem dX10_slipsBy_45 : decode cX10_slipsBy 45 = .ok (.iload_n 2, 1) := by decide +kernel
theorem dX10_slipsBy_46 : decode cX10_slipsBy 46 = .ok (.invokevirtual 196, 3) := by decide +kernel
theorem dX10_slipsBy_49 : decode cX10_slipsBy 49 = .ok (.istore_n 3, 1) := by decide +kernel
theorem dX10_slipsBy_50 : decode cX10_slipsBy 50 = .ok (.aload_n 0, 1) := by decide +kernel
theorem dX10_slipsBy_51 : decode cX10_slipsBy 51 = .ok (.getfield 179, 3) := by decide +kernel
theorem dX10_slipsBy_54 : decode cX10_slipsBy 54 = .ok (.ireturn, 1) := by decide +kernel
theorem dX10_findHastes_0 : decode cX10_findHastes 0 = .ok (.iconst 0, 1) := by decide +kernel
theorem dX10_findHastes_1 : decode cX10_findHastes 1 = .ok (.istore_n 2, 1) := by decide +kernel
theorem dX10_findHastes_2 : decode cX10_findHastes 2 = .ok (.iconst 0, 1) := by decide +kernel
theorem dX10_findHastes_3 : decode cX10_findHastes 3 = .ok (.istore_n 3, 1) := by decide +kernel
theorem dX10_findHastes_4 : decode cX10_findHastes 4 = .ok (.iload_n 3, 1) := by decide +kernel
theorem dX10_findHastes_5 : decode cX10_findHastes 5 = .ok (.iconst 4, 1) := by decide +kernel
theorem dX10_findHastes_6 : decode cX10_findHastes 6 = .ok (.if_icmp .ge 90, 3) := by decide +kernel
theorem dX10_findHastes_9 : decode cX10_findHastes 9 = .ok (.aload_n 0, 1) := by decide +kernel
theorem dX10_findHastes_10 : decode cX10_findHastes 10 = .ok (.getfield 57, 3) := by decide +kernel
theorem dX10_findHastes_13 : decode cX10_findHastes 13 = .ok (.iload_n 3, 1) := by decide +kernel
theorem dX10_findHastes_14 : decode cX10_findHastes 14 = .ok (.aload_n 0, 1) := by decide +kernel
theorem dX10_findHastes_15 : decode cX10_findHastes 15 = .ok (.iload_n 1, 1) := by decide +kernel
theorem dX10_findHastes_16 : decode cX10_findHastes 16 = .ok (.iload_n 3, 1) := by decide +kernel
theorem dX10_findHastes_17 : decode cX10_findHastes 17 = .ok (.invokevirtual 253, 3) := by decide +kernel
theorem dX10_findHastes_20 : decode cX10_findHastes 20 = .ok (.iastore, 1) := by decide +kernel
theorem dX10_findHastes_21 : decode cX10_findHastes 21 = .ok (.iconst 1, 1) := by decide +kernel
theorem dX10_findHastes_22 : decode cX10_findHastes 22 = .ok (.istore 4, 2) := by decide +kernel
theorem dX10_findHastes_24 : decode cX10_findHastes 24 = .ok (.iconst 0, 1) := by decide +kernel
theorem dX10_findHastes_25 : decode cX10_findHastes 25 = .ok (.istore 5, 2) := by decide +kernel
theorem dX10_findHastes_27 : decode cX10_findHastes 27 = .ok (.iload 5, 2) := by decide +kernel
theorem dX10_findHastes_29 : decode cX10_findHastes 29 = .ok (.aload_n 0, 1) := by decide +kernel
theorem dX10_findHastes_30 : decode cX10_findHastes 30 = .ok (.getfield 137, 3) := by decide +kernel
theorem dX10_findHastes_33 : decode cX10_findHastes 33 = .ok (.if_icmp .ge 47, 3) := by decide +kernel
theorem dX10_findHastes_36 : decode cX10_findHastes 36 = .ok (.iload 4, 2) := by decide +kernel
theorem dX10_findHastes_38 : decode cX10_findHastes 38 = .ok (.ifCond .eq 33, 3) := by decide +kernel
theorem dX10_findHastes_41 : decode cX10_findHastes 41 = .ok (.aload_n 0, 1) := by decide +kernel
theorem dX10_findHastes_42 : decode cX10_findHastes 42 = .ok (.getfield 57, 3) := by decide +kernel
theorem dX10_findHastes_45 : decode cX10_findHastes 45 = .ok (.iload_n 3, 1) := by decide +kernel
theorem dX10_findHastes_46 : decode cX10_findHastes 46 = .ok (.iaload, 1) := by decide +kernel
theorem dX10_findHastes_47 : decode cX10_findHastes 47 = .ok (.aload_n 0, 1) := by decide +kernel
theorem dX10_findHastes_48 : decode cX10_findHastes 48 = .ok (.getfield 51, 3) := by decide +kernel
theorem dX10_findHastes_51 : decode cX10_findHastes 51 = .ok (.iload 5, 2) := by decide +kernel
theorem dX10_findHastes_53 : decode cX10_findHastes 53 = .ok (.iaload, 1) := by decide +kernel
theorem dX10_findHastes_54 : decode cX10_findHastes 54 = .ok (.invokestatic 154, 3) := by decide +kernel
theorem dX10_findHastes_57 : decode cX10_findHastes 57 = .ok (.aload_n 0, 1) := by decide +kernel
theorem dX10_findHastes_58 : decode cX10_findHastes 58 = .ok (.getfield 54, 3) := by decide +kernel
theorem dX10_findHastes_61 : decode cX10_findHastes 61 = .ok (.iload 5, 2) := by decide +kernel
theorem dX10_findHastes_63 : decode cX10_findHastes 63 = .ok (.baload, 1) := by decide +kernel
theorem dX10_findHastes_64 : decode cX10_findHastes 64 = .ok (.if_icmp .ne 7, 3) := by decide +kernel
theorem dX10_findHastes_67 : decode cX10_findHastes 67 = .ok (.iconst 1, 1) := by decide +kernel
theorem dX10_findHastes_68 : decode cX10_findHastes 68 = .ok (.goto 4, 3) := by decide +kernel
theorem dX10_findHastes_71 : decode cX10_findHastes 71 = .ok (.iconst 0, 1) := by decide +kernel
theorem dX10_findHastes_72 : decode cX10_findHastes 72 = .ok (.istore 4, 2) := by decide +kernel
theorem dX10_findHastes_74 : decode cX10_findHastes 74 = .ok (.iinc 5 1, 3) := by decide +kernel
theorem dX10_findHastes_77 : decode cX10_findHastes 77 = .ok (.goto (-50), 3) := by decide +kernel
theorem dX10_findHastes_80 : decode cX10_findHastes 80 = .ok (.iload_n 2, 1) := by decide +kernel
theorem dX10_findHastes_81 : decode cX10_findHastes 81 = .ok (.iload 4, 2) := by decide +kernel
theorem dX10_findHastes_83 : decode cX10_findHastes 83 = .ok (.invokestatic 160, 3) := by decide +kernel
theorem dX10_findHastes_86 : decode cX10_findHastes 86 = .ok (.iload_n 3, 1) := by decide +kernel
theorem dX10_findHastes_87 : decode cX10_findHastes 87 = .ok (.ishl, 1) := by decide +kernel
theorem dX10_findHastes_88 : decode cX10_findHastes 88 = .ok (.ior, 1) := by decide +kernel
theorem dX10_findHastes_89 : decode cX10_findHastes 89 = .ok (.istore_n 2, 1) := by decide +kernel
theorem dX10_findHastes_90 : decode cX10_findHastes 90 = .ok (.iinc 3 1, 3) := by decide +kernel
theorem dX10_findHastes_93 : decode cX10_findHastes 93 = .ok (.goto (-89), 3) := by decide +kernel
theorem dX10_findHastes_96 : decode cX10_findHastes 96 = .ok (.iload_n 2, 1) := by decide +kernel
theorem dX10_findHastes_97 : decode cX10_findHastes 97 = .ok (.ireturn, 1) := by decide +kernel
theorem dX10_rang_0 : decode cX10_rang 0 = .ok (.aload_n 0, 1) := by decide +kernel
theorem dX10_rang_1 : decode cX10_rang 1 = .ok (.iload_n 1, 1) := by decide +kernel
theorem dX10_rang_2 : decode cX10_rang 2 = .ok (.invokevirtual 200, 3) := by decide +kernel
theorem dX10_rang_5 : decode cX10_rang 5 = .ok (.ifCond .ne 6, 3) := by decide +kernel
theorem dX10_rang_8 : decode cX10_rang 8 = .ok (.ldc 167, 2) := by decide +kernel
theorem dX10_rang_10 : decode cX10_rang 10 = .ok (.ireturn, 1) := by decide +kernel
theorem dX10_rang_11 : decode cX10_rang 11 = .ok (.iload_n 2, 1) := by decide +kernel
theorem dX10_rang_12 : decode cX10_rang 12 = .ok (.i2l, 1) := by decide +kernel
theorem dX10_rang_13 : decode cX10_rang 13 = .ok (.lconst 0, 1) := by decide +kernel
theorem dX10_rang_14 : decode cX10_rang 14 = .ok (.lconst 1, 1) := by decide +kernel
theorem dX10_rang_15 : decode cX10_rang 15 = .ok (.invokestatic 68, 3) := by decide +kernel
theorem dX10_rang_18 : decode cX10_rang 18 = .ok (.ifCond .ne 6, 3) := by decide +kernel
theorem dX10_rang_21 : decode cX10_rang 21 = .ok (.ldc 72, 2) := by decide +kernel
theorem dX10_rang_23 : decode cX10_rang 23 = .ok (.ireturn, 1) := by decide +kernel
theorem dX10_rang_24 : decode cX10_rang 24 = .ok (.aload_n 0, 1) := by decide +kernel
theorem dX10_rang_25 : decode cX10_rang 25 = .ok (.iload_n 1, 1) := by decide +kernel
theorem dX10_rang_26 : decode cX10_rang 26 = .ok (.invokevirtual 256, 3) := by decide +kernel
theorem dX10_rang_29 : decode cX10_rang 29 = .ok (.istore_n 3, 1) := by decide +kernel
theorem dX10_rang_30 : decode cX10_rang 30 = .ok (.iload_n 2, 1) := by decide +kernel
theorem dX10_rang_31 : decode cX10_rang 31 = .ok (.ifCond .ne 5, 3) := by decide +kernel
theorem dX10_rang_34 : decode cX10_rang 34 = .ok (.iload_n 3, 1) := by decide +kernel
theorem dX10_rang_35 : decode cX10_rang 35 = .ok (.ireturn, 1) := by decide +kernel
theorem dX10_rang_36 : decode cX10_rang 36 = .ok (.iconst 0, 1) := by decide +kernel
theorem dX10_rang_37 : decode cX10_rang 37 = .ok (.istore 4, 2) := by decide +kernel
theorem dX10_rang_39 : decode cX10_rang 39 = .ok (.iconst 0, 1) := by decide +kernel
theorem dX10_rang_40 : decode cX10_rang 40 = .ok (.istore 5, 2) := by decide +kernel
theorem dX10_rang_42 : decode cX10_rang 42 = .ok (.iload 5, 2) := by decide +kernel
theorem dX10_rang_44 : decode cX10_rang 44 = .ok (.iconst 4, 1) := by decide +kernel
theorem dX10_rang_45 : decode cX10_rang 45 = .ok (.if_icmp .ge 20, 3) := by decide +kernel
theorem dX10_rang_48 : decode cX10_rang 48 = .ok (.iload 4, 2) := by decide +kernel
theorem dX10_rang_50 : decode cX10_rang 50 = .ok (.iload_n 3, 1) := by decide +kernel
theorem dX10_rang_51 : decode cX10_rang 51 = .ok (.iload 5, 2) := by decide +kernel
theorem dX10_rang_53 : decode cX10_rang 53 = .ok (.ishr, 1) := by decide +kernel
theorem dX10_rang_54 : decode cX10_rang 54 = .ok (.iconst 1, 1) := by decide +kernel
theorem dX10_rang_55 : decode cX10_rang 55 = .ok (.iand, 1) := by decide +kernel
theorem dX10_rang_56 : decode cX10_rang 56 = .ok (.iadd, 1) := by decide +kernel
theorem dX10_rang_57 : decode cX10_rang 57 = .ok (.istore 4, 2) := by decide +kernel
theorem dX10_rang_59 : decode cX10_rang 59 = .ok (.iinc 5 1, 3) := by decide +kernel
theorem dX10_rang_62 : decode cX10_rang 62 = .ok (.goto (-20), 3) := by decide +kernel
theorem dX10_rang_65 : decode cX10_rang 65 = .ok (.iconst (-1), 1) := by decide +kernel
theorem dX10_rang_66 : decode cX10_rang 66 = .ok (.istore 5, 2) := by decide +kernel
theorem dX10_rang_68 : decode cX10_rang 68 = .ok (.iload 4, 2) := by decide +kernel
theorem dX10_rang_70 : decode cX10_rang 70 = .ok (.istore 6, 2) := by decide +kernel
theorem dX10_rang_72 : decode cX10_rang 72 = .ok (.iconst 0, 1) := by decide +kernel
theorem dX10_rang_73 : decode cX10_rang 73 = .ok (.istore 7, 2) := by decide +kernel
theorem dX10_rang_75 : decode cX10_rang 75 = .ok (.iload 7, 2) := by decide +kernel
theorem dX10_rang_77 : decode cX10_rang 77 = .ok (.aload_n 0, 1) := by decide +kernel
theorem dX10_rang_78 : decode cX10_rang 78 = .ok (.getfield 131, 3) := by decide +kernel
theorem dX10_rang_81 : decode cX10_rang 81 = .ok (.if_icmp .ge 118, 3) := by decide +kernel
theorem dX10_rang_84 : decode cX10_rang 84 = .ok (.iconst 0, 1) := by decide +kernel
theorem dX10_rang_85 : decode cX10_rang 85 = .ok (.istore 8, 2) := by decide +kernel
theorem dX10_rang_87 : decode cX10_rang 87 = .ok (.iconst 0, 1) := by decide +kernel
theorem dX10_rang_88 : decode cX10_rang 88 = .ok (.istore 9, 2) := by decide +kernel
theorem dX10_rang_90 : decode cX10_rang 90 = .ok (.iload 9, 2) := by decide +kernel
theorem dX10_rang_92 : decode cX10_rang 92 = .ok (.iconst 4, 1) := by decide +kernel
theorem dX10_rang_93 : decode cX10_rang 93 = .ok (.if_icmp .ge 46, 3) := by decide +kernel
theorem dX10_rang_96 : decode cX10_rang 96 = .ok (.iload 8, 2) := by decide +kernel
theorem dX10_rang_98 : decode cX10_rang 98 = .ok (.iload_n 3, 1) := by decide +kernel
theorem dX10_rang_99 : decode cX10_rang 99 = .ok (.iload 9, 2) := by decide +kernel
theorem dX10_rang_101 : decode cX10_rang 101 = .ok (.invokestatic 154, 3) := by decide +kernel
theorem dX10_rang_104 : decode cX10_rang 104 = .ok (.ifCond .eq 22, 3) := by decide +kernel
theorem dX10_rang_107 : decode cX10_rang 107 = .ok (.aload_n 0, 1) := by decide +kernel
theorem dX10_rang_108 : decode cX10_rang 108 = .ok (.getfield 57, 3) := by decide +kernel
theorem dX10_rang_111 : decode cX10_rang 111 = .ok (.iload 9, 2) := by decide +kernel
theorem dX10_rang_113 : decode cX10_rang 113 = .ok (.iaload, 1) := by decide +kernel
theorem dX10_rang_114 : decode cX10_rang 114 = .ok (.iload 7, 2) := by decide +kernel
theorem dX10_rang_116 : decode cX10_rang 116 = .ok (.invokestatic 154, 3) := by decide +kernel
theorem dX10_rang_119 : decode cX10_rang 119 = .ok (.ifCond .eq 7, 3) := by decide +kernel
theorem dX10_rang_122 : decode cX10_rang 122 = .ok (.iconst 1, 1) := by decide +kernel
theorem dX10_rang_123 : decode cX10_rang 123 = .ok (.goto 4, 3) := by decide +kernel
theorem dX10_rang_126 : decode cX10_rang 126 = .ok (.iconst 0, 1) := by decide +kernel
theorem dX10_rang_127 : decode cX10_rang 127 = .ok (.invokestatic 160, 3) := by decide +kernel
theorem dX10_rang_130 : decode cX10_rang 130 = .ok (.iadd, 1) := by decide +kernel
theorem dX10_rang_131 : decode cX10_rang 131 = .ok (.istore 8, 2) := by decide +kernel
theorem dX10_rang_133 : decode cX10_rang 133 = .ok (.iinc 9 1, 3) := by decide +kernel
theorem dX10_rang_136 : decode cX10_rang 136 = .ok (.goto (-46), 3) := by decide +kernel
theorem dX10_rang_139 : decode cX10_rang 139 = .ok (.iload 8, 2) := by decide +kernel
theorem dX10_rang_141 : decode cX10_rang 141 = .ok (.iload 4, 2) := by decide +kernel
theorem dX10_rang_143 : decode cX10_rang 143 = .ok (.iload 8, 2) := by decide +kernel
theorem dX10_rang_145 : decode cX10_rang 145 = .ok (.isub, 1) := by decide +kernel
theorem dX10_rang_146 : decode cX10_rang 146 = .ok (.if_icmp .le 8, 3) := by decide +kernel
theorem dX10_rang_149 : decode cX10_rang 149 = .ok (.iload 8, 2) := by decide +kernel
theorem dX10_rang_151 : decode cX10_rang 151 = .ok (.goto 8, 3) := by decide +kernel
theorem dX10_rang_154 : decode cX10_rang 154 = .ok (.iload 4, 2) := by decide +kernel
theorem dX10_rang_156 : decode cX10_rang 156 = .ok (.iload 8, 2) := by decide +kernel
theorem dX10_rang_158 : decode cX10_rang 158 = .ok (.isub, 1) := by decide +kernel
theorem dX10_rang_159 : decode cX10_rang 159 = .ok (.istore 9, 2) := by decide +kernel
theorem dX10_rang_161 : decode cX10_rang 161 = .ok (.iload 9, 2) := by decide +kernel
theorem dX10_rang_163 : decode cX10_rang 163 = .ok (.iload 6, 2) := by decide +kernel
theorem dX10_rang_165 : decode cX10_rang 165 = .ok (.if_icmp .ge 8, 3) := by decide +kernel
theorem dX10_rang_168 : decode cX10_rang 168 = .ok (.iload 7, 2) := by decide +kernel
theorem dX10_rang_170 : decode cX10_rang 170 = .ok (.goto 5, 3) := by decide +kernel
theorem dX10_rang_173 : decode cX10_rang 173 = .ok (.iload 5, 2) := by decide +kernel
theorem dX10_rang_175 : decode cX10_rang 175 = .ok (.istore 5, 2) := by decide +kernel
theorem dX10_rang_177 : decode cX10_rang 177 = .ok (.iload 9, 2) := by decide +kernel
theorem dX10_rang_179 : decode cX10_rang 179 = .ok (.iload 6, 2) := by decide +kernel
theorem dX10_rang_181 : decode cX10_rang 181 = .ok (.if_icmp .ge 8, 3) := by decide +kernel
theorem dX10_rang_184 : decode cX10_rang 184 = .ok (.iload 9, 2) := by decide +kernel
theorem dX10_rang_186 : decode cX10_rang 186 = .ok (.goto 5, 3) := by decide +kernel
theorem dX10_rang_189 : decode cX10_rang 189 = .ok (.iload 6, 2) := by decide +kernel
theorem dX10_rang_191 : decode cX10_rang 191 = .ok (.istore 6, 2) := by decide +kernel
theorem dX10_rang_193 : decode cX10_rang 193 = .ok (.iinc 7 1, 3) := by decide +kernel
theorem dX10_rang_196 : decode cX10_rang 196 = .ok (.goto (-121), 3) := by decide +kernel
theorem dX10_rang_199 : decode cX10_rang 199 = .ok (.iload 5, 2) := by decide +kernel
theorem dX10_rang_201 : decode cX10_rang 201 = .ok (.ireturn, 1) := by decide +kernel
theorem dX10_write_0 : decode cX10_write 0 = .ok (.aload_n 0, 1) := by decide +kernel
theorem dX10_write_1 : decode cX10_write 1 = .ok (.iload_n 1, 1) := by decide +kernel
theorem dX10_write_2 : decode cX10_write 2 = .ok (.invokevirtual 150, 3) := by decide +kernel
theorem dX10_write_5 : decode cX10_write 5 = .ok (.ifCond .ne 6, 3) := by decide +kernel
theorem dX10_write_8 : decode cX10_write 8 = .ok (.ldc 167, 2) := by decide +kernel
theorem dX10_write_10 : decode cX10_write 10 = .ok (.ireturn, 1) := by decide +kernel
theorem dX10_write_11 : decode cX10_write 11 = .ok (.iload_n 2, 1) := by decide +kernel
theorem dX10_write_12 : decode cX10_write 12 = .ok (.i2l, 1) := by decide +kernel
theorem dX10_write_13 : decode cX10_write 13 = .ok (.lconst 1, 1) := by decide +kernel
theorem dX10_write_14 : decode cX10_write 14 = .ok (.ldc2_w 259, 3) := by decide +kernel
theorem dX10_write_17 : decode cX10_write 17 = .ok (.invokestatic 68, 3) := by decide +kernel
theorem dX10_write_20 : decode cX10_write 20 = .ok (.ifCond .ne 6, 3) := by decide +kernel
theorem dX10_write_23 : decode cX10_write 23 = .ok (.ldc 72, 2) := by decide +kernel
theorem dX10_write_25 : decode cX10_write 25 = .ok (.ireturn, 1) := by decide +kernel
theorem dX10_write_26 : decode cX10_write 26 = .ok (.aload_n 0, 1) := by decide +kernel
theorem dX10_write_27 : decode cX10_write 27 = .ok (.getfield 140, 3) := by decide +kernel
theorem dX10_write_30 : decode cX10_write 30 = .ok (.bipush 20, 2) := by decide +kernel
theorem dX10_write_32 : decode cX10_write 32 = .ok (.if_icmp .ne 6, 3) := by decide +kernel
theorem dX10_write_35 : decode cX10_write 35 = .ok (.ldc 76, 2) := by decide +kernel
theorem dX10_write_37 : decode cX10_write 37 = .ok (.ireturn, 1) := by decide +kernel
theorem dX10_write_38 : decode cX10_write 38 = .ok (.aload_n 0, 1) := by decide +kernel
theorem dX10_write_39 : decode cX10_write 39 = .ok (.getfield 60, 3) := by decide +kernel
theorem dX10_write_42 : decode cX10_write 42 = .ok (.aload_n 0, 1) := by decide +kernel
theorem dX10_write_43 : decode cX10_write 43 = .ok (.getfield 140, 3) := by decide +kernel
theorem dX10_write_46 : decode cX10_write 46 = .ok (.iload_n 1, 1) := by decide +kernel
theorem dX10_write_47 : decode cX10_write 47 = .ok (.iastore, 1) := by decide +kernel
theorem dX10_write_48 : decode cX10_write 48 = .ok (.aload_n 0, 1) := by decide +kernel
theorem dX10_write_49 : decode cX10_write 49 = .ok (.getfield 63, 3) := by decide +kernel
theorem dX10_write_52 : decode cX10_write 52 = .ok (.aload_n 0, 1) := by decide +kernel
theorem dX10_write_53 : decode cX10_write 53 = .ok (.getfield 140, 3) := by decide +kernel
theorem dX10_write_56 : decode cX10_write 56 = .ok (.iload_n 2, 1) := by decide +kernel
theorem dX10_write_57 : decode cX10_write 57 = .ok (.iastore, 1) := by decide +kernel
theorem dX10_write_58 : decode cX10_write 58 = .ok (.aload_n 0, 1) := by decide +kernel
theorem dX10_write_59 : decode cX10_write 59 = .ok (.dup, 1) := by decide +kernel
theorem dX10_write_60 : decode cX10_write 60 = .ok (.getfield 140, 3) := by decide +kernel
theorem dX10_write_63 : decode cX10_write 63 = .ok (.iconst 1, 1) := by decide +kernel
theorem dX10_write_64 : decode cX10_write 64 = .ok (.iadd, 1) := by decide +kernel
theorem dX10_write_65 : decode cX10_write 65 = .ok (.putfield 140, 3) := by decide +kernel
theorem dX10_write_68 : decode cX10_write 68 = .ok (.aload_n 0, 1) := by decide +kernel
theorem dX10_write_69 : decode cX10_write 69 = .ok (.getfield 140, 3) := by decide +kernel
theorem dX10_write_72 : decode cX10_write 72 = .ok (.ireturn, 1) := by decide +kernel
theorem dX10_judge_0 : decode cX10_judge 0 = .ok (.iconst 0, 1) := by decide +kernel
theorem dX10_judge_1 : decode cX10_judge 1 = .ok (.istore_n 1, 1) := by decide +kernel
theorem dX10_judge_2 : decode cX10_judge 2 = .ok (.iload_n 1, 1) := by decide +kernel
theorem dX10_judge_3 : decode cX10_judge 3 = .ok (.aload_n 0, 1) := by decide +kernel
theorem dX10_judge_4 : decode cX10_judge 4 = .ok (.getfield 140, 3) := by decide +kernel
theorem dX10_judge_7 : decode cX10_judge 7 = .ok (.if_icmp .ge 31, 3) := by decide +kernel
theorem dX10_judge_10 : decode cX10_judge 10 = .ok (.aload_n 0, 1) := by decide +kernel
theorem dX10_judge_11 : decode cX10_judge 11 = .ok (.getfield 7, 3) := by decide +kernel
theorem dX10_judge_14 : decode cX10_judge 14 = .ok (.aload_n 0, 1) := by decide +kernel
theorem dX10_judge_15 : decode cX10_judge 15 = .ok (.getfield 60, 3) := by decide +kernel
theorem dX10_judge_18 : decode cX10_judge 18 = .ok (.iload_n 1, 1) := by decide +kernel
theorem dX10_judge_19 : decode cX10_judge 19 = .ok (.iaload, 1) := by decide +kernel
theorem dX10_judge_20 : decode cX10_judge 20 = .ok (.iaload, 1) := by decide +kernel
theorem dX10_judge_21 : decode cX10_judge 21 = .ok (.aload_n 0, 1) := by decide +kernel
theorem dX10_judge_22 : decode cX10_judge 22 = .ok (.getfield 63, 3) := by decide +kernel
theorem dX10_judge_25 : decode cX10_judge 25 = .ok (.iload_n 1, 1) := by decide +kernel
theorem dX10_judge_26 : decode cX10_judge 26 = .ok (.iaload, 1) := by decide +kernel
theorem dX10_judge_27 : decode cX10_judge 27 = .ok (.if_icmp .eq 5, 3) := by decide +kernel
theorem dX10_judge_30 : decode cX10_judge 30 = .ok (.iload_n 1, 1) := by decide +kernel
theorem dX10_judge_31 : decode cX10_judge 31 = .ok (.ireturn, 1) := by decide +kernel
theorem dX10_judge_32 : decode cX10_judge 32 = .ok (.iinc 1 1, 3) := by decide +kernel
theorem dX10_judge_35 : decode cX10_judge 35 = .ok (.goto (-33), 3) := by decide +kernel
theorem dX10_judge_38 : decode cX10_judge 38 = .ok (.iconst (-1), 1) := by decide +kernel
theorem dX10_judge_39 : decode cX10_judge 39 = .ok (.ireturn, 1) := by decide +kernel
theorem dX10_tear_0 : decode cX10_tear 0 = .ok (.aload_n 0, 1) := by decide +kernel
theorem dX10_tear_1 : decode cX10_tear 1 = .ok (.getfield 137, 3) := by decide +kernel
theorem dX10_tear_4 : decode cX10_tear 4 = .ok (.aload_n 0, 1) := by decide +kernel
theorem dX10_tear_5 : decode cX10_tear 5 = .ok (.getfield 140, 3) := by decide +kernel
theorem dX10_tear_8 : decode cX10_tear 8 = .ok (.iadd, 1) := by decide +kernel
theorem dX10_tear_9 : decode cX10_tear 9 = .ok (.istore_n 1, 1) := by decide +kernel
theorem dX10_tear_10 : decode cX10_tear 10 = .ok (.aload_n 0, 1) := by decide +kernel
theorem dX10_tear_11 : decode cX10_tear 11 = .ok (.iconst 0, 1) := by decide +kernel
theorem dX10_tear_12 : decode cX10_tear 12 = .ok (.putfield 137, 3) := by decide +kernel
theorem dX10_tear_15 : decode cX10_tear 15 = .ok (.aload_n 0, 1) := by decide +kernel
theorem dX10_tear_16 : decode cX10_tear 16 = .ok (.iconst 0, 1) := by decide +kernel
theorem dX10_tear_17 : decode cX10_tear 17 = .ok (.putfield 140, 3) := by decide +kernel
theorem dX10_tear_20 : decode cX10_tear 20 = .ok (.iload_n 1, 1) := by decide +kernel
theorem dX10_tear_21 : decode cX10_tear 21 = .ok (.ireturn, 1) := by decide +kernel
theorem dX10_seed_0 : decode cX10_seed 0 = .ok (.iload_n 1, 1) := by decide +kernel
theorem dX10_seed_1 : decode cX10_seed 1 = .ok (.ifCond .ge 6, 3) := by decide +kernel
theorem dX10_seed_4 : decode cX10_seed 4 = .ok (.ldc 72, 2) := by decide +kernel
theorem dX10_seed_6 : decode cX10_seed 6 = .ok (.ireturn, 1) := by decide +kernel
theorem dX10_seed_7 : decode cX10_seed 7 = .ok (.aload_n 0, 1) := by decide +kernel
theorem dX10_seed_8 : decode cX10_seed 8 = .ok (.getfield 7, 3) := by decide +kernel
theorem dX10_seed_11 : decode cX10_seed 11 = .ok (.bipush 17, 2) := by decide +kernel
theorem dX10_seed_13 : decode cX10_seed 13 = .ok (.iaload, 1) := by decide +kernel
theorem dX10_seed_14 : decode cX10_seed 14 = .ok (.istore_n 2, 1) := by decide +kernel
theorem dX10_seed_15 : decode cX10_seed 15 = .ok (.aload_n 0, 1) := by decide +kernel
theorem dX10_seed_16 : decode cX10_seed 16 = .ok (.getfield 7, 3) := by decide +kernel
theorem dX10_seed_19 : decode cX10_seed 19 = .ok (.bipush 17, 2) := by decide +kernel
theorem dX10_seed_21 : decode cX10_seed 21 = .ok (.iload_n 1, 1) := by decide +kernel
theorem dX10_seed_22 : decode cX10_seed 22 = .ok (.iastore, 1) := by decide +kernel
theorem dX10_seed_23 : decode cX10_seed 23 = .ok (.iload_n 2, 1) := by decide +kernel
theorem dX10_seed_24 : decode cX10_seed 24 = .ok (.ireturn, 1) := by decide +kernel
theorem dX10_keep_0 : decode cX10_keep 0 = .ok (.iload_n 1, 1) := by decide +kernel
theorem dX10_keep_1 : decode cX10_keep 1 = .ok (.i2l, 1) := by decide +kernel
theorem dX10_keep_2 : decode cX10_keep 2 = .ok (.lconst 0, 1) := by decide +kernel
theorem dX10_keep_3 : decode cX10_keep 3 = .ok (.lconst 1, 1) := by decide +kernel
theorem dX10_keep_4 : decode cX10_keep 4 = .ok (.invokestatic 68, 3) := by decide +kernel
theorem dX10_keep_7 : decode cX10_keep 7 = .ok (.ifCond .ne 6, 3) := by decide +kernel
theorem dX10_keep_10 : decode cX10_keep 10 = .ok (.ldc 167, 2) := by decide +kernel
theorem dX10_keep_12 : decode cX10_keep 12 = .ok (.ireturn, 1) := by decide +kernel
theorem dX10_keep_13 : decode cX10_keep 13 = .ok (.aload_n 0, 1) := by decide +kernel
theorem dX10_keep_14 : decode cX10_keep 14 = .ok (.iconst 0, 1) := by decide +kernel
theorem dX10_keep_15 : decode cX10_keep 15 = .ok (.bipush 36, 2) := by decide +kernel
theorem dX10_keep_17 : decode cX10_keep 17 = .ok (.bipush 18, 2) := by decide +kernel
theorem dX10_keep_19 : decode cX10_keep 19 = .ok (.iload_n 1, 1) := by decide +kernel
theorem dX10_keep_20 : decode cX10_keep 20 = .ok (.imul, 1) := by decide +kernel
theorem dX10_keep_21 : decode cX10_keep 21 = .ok (.iadd, 1) := by decide +kernel
theorem dX10_keep_22 : decode cX10_keep 22 = .ok (.invokevirtual 192, 3) := by decide +kernel
theorem dX10_keep_25 : decode cX10_keep 25 = .ok (.aload_n 0, 1) := by decide +kernel
theorem dX10_keep_26 : decode cX10_keep 26 = .ok (.getfield 13, 3) := by decide +kernel
theorem dX10_keep_29 : decode cX10_keep 29 = .ok (.iload_n 1, 1) := by decide +kernel
theorem dX10_keep_30 : decode cX10_keep 30 = .ok (.iconst 1, 1) := by decide +kernel
theorem dX10_keep_31 : decode cX10_keep 31 = .ok (.bastore, 1) := by decide +kernel
theorem dX10_keep_32 : decode cX10_keep 32 = .ok (.aload_n 0, 1) := by decide +kernel
theorem dX10_keep_33 : decode cX10_keep 33 = .ok (.iconst 0, 1) := by decide +kernel
theorem dX10_keep_34 : decode cX10_keep 34 = .ok (.putfield 143, 3) := by decide +kernel
theorem dX10_keep_37 : decode cX10_keep 37 = .ok (.iconst 1, 1) := by decide +kernel
theorem dX10_keep_38 : decode cX10_keep 38 = .ok (.ireturn, 1) := by decide +kernel
theorem dX10_goBack_0 : decode cX10_goBack 0 = .ok (.iload_n 1, 1) := by decide +kernel
theorem dX10_goBack_1 : decode cX10_goBack 1 = .ok (.i2l, 1) := by decide +kernel
theorem dX10_goBack_2 : decode cX10_goBack 2 = .ok (.lconst 0, 1) := by decide +kernel
theorem dX10_goBack_3 : decode cX10_goBack 3 = .ok (.lconst 1, 1) := by decide +kernel
theorem dX10_goBack_4 : decode cX10_goBack 4 = .ok (.invokestatic 68, 3) := by decide +kernel
theorem dX10_goBack_7 : decode cX10_goBack 7 = .ok (.ifCond .ne 6, 3) := by decide +kernel
theorem dX10_goBack_10 : decode cX10_goBack 10 = .ok (.ldc 167, 2) := by decide +kernel
theorem dX10_goBack_12 : decode cX10_goBack 12 = .ok (.ireturn, 1) := by decide +kernel
theorem dX10_goBack_13 : decode cX10_goBack 13 = .ok (.aload_n 0, 1) := by decide +kernel
theorem dX10_goBack_14 : decode cX10_goBack 14 = .ok (.getfield 13, 3) := by decide +kernel
theorem dX10_goBack_17 : decode cX10_goBack 17 = .ok (.iload_n 1, 1) := by decide +kernel
theorem dX10_goBack_18 : decode cX10_goBack 18 = .ok (.baload, 1) := by decide +kernel
theorem dX10_goBack_19 : decode cX10_goBack 19 = .ok (.ifCond .ne 6, 3) := by decide +kernel
theorem dX10_goBack_22 : decode cX10_goBack 22 = .ok (.ldc 209, 2) := by decide +kernel
theorem dX10_goBack_24 : decode cX10_goBack 24 = .ok (.ireturn, 1) := by decide +kernel
theorem dX10_goBack_25 : decode cX10_goBack 25 = .ok (.aload_n 0, 1) := by decide +kernel
theorem dX10_goBack_26 : decode cX10_goBack 26 = .ok (.bipush 36, 2) := by decide +kernel
theorem dX10_goBack_28 : decode cX10_goBack 28 = .ok (.bipush 18, 2) := by decide +kernel
theorem dX10_goBack_30 : decode cX10_goBack 30 = .ok (.iload_n 1, 1) := by decide +kernel
theorem dX10_goBack_31 : decode cX10_goBack 31 = .ok (.imul, 1) := by decide +kernel
theorem dX10_goBack_32 : decode cX10_goBack 32 = .ok (.iadd, 1) := by decide +kernel
theorem dX10_goBack_33 : decode cX10_goBack 33 = .ok (.iconst 0, 1) := by decide +kernel
theorem dX10_goBack_34 : decode cX10_goBack 34 = .ok (.invokevirtual 192, 3) := by decide +kernel
theorem dX10_goBack_37 : decode cX10_goBack 37 = .ok (.aload_n 0, 1) := by decide +kernel
theorem dX10_goBack_38 : decode cX10_goBack 38 = .ok (.iconst 0, 1) := by decide +kernel
theorem dX10_goBack_39 : decode cX10_goBack 39 = .ok (.putfield 143, 3) := by decide +kernel
theorem dX10_goBack_42 : decode cX10_goBack 42 = .ok (.iconst 1, 1) := by decide +kernel
theorem dX10_goBack_43 : decode cX10_goBack 43 = .ok (.ireturn, 1) := by decide +kernel
end
section
theorem dL_law_0 : decode cL_law 0 = .ok (.new 7, 3) := by decide +kernel
theorem dL_law_3 : decode cL_law 3 = .ok (.dup, 1) := by decide +kernel
theorem dL_law_4 : decode cL_law 4 = .ok (.invokespecial 9, 3) := by decide +kernel
theorem dL_law_7 : decode cL_law 7 = .ok (.astore_n 1, 1) := by decide +kernel
theorem dL_law_8 : decode cL_law 8 = .ok (.new 10, 3) := by decide +kernel
theorem dL_law_11 : decode cL_law 11 = .ok (.dup, 1) := by decide +kernel
theorem dL_law_12 : decode cL_law 12 = .ok (.invokespecial 12, 3) := by decide +kernel
theorem dL_law_15 : decode cL_law 15 = .ok (.astore_n 2, 1) := by decide +kernel
theorem dL_law_16 : decode cL_law 16 = .ok (.iconst 0, 1) := by decide +kernel
theorem dL_law_17 : decode cL_law 17 = .ok (.istore_n 3, 1) := by decide +kernel
theorem dL_law_18 : decode cL_law 18 = .ok (.iload_n 3, 1) := by decide +kernel
theorem dL_law_19 : decode cL_law 19 = .ok (.aload_n 0, 1) := by decide +kernel
theorem dL_law_20 : decode cL_law 20 = .ok (.arraylength, 1) := by decide +kernel
theorem dL_law_21 : decode cL_law 21 = .ok (.iconst 5, 1) := by decide +kernel
theorem dL_law_22 : decode cL_law 22 = .ok (.isub, 1) := by decide +kernel
theorem dL_law_23 : decode cL_law 23 = .ok (.if_icmp .gt 970, 3) := by decide +kernel
theorem dL_law_26 : decode cL_law 26 = .ok (.aload_n 0, 1) := by decide +kernel
theorem dL_law_27 : decode cL_law 27 = .ok (.iload_n 3, 1) := by decide +kernel
theorem dL_law_28 : decode cL_law 28 = .ok (.iaload, 1) := by decide +kernel
theorem dL_law_29 : decode cL_law 29 = .ok (.bipush 31, 2) := by decide +kernel
theorem dL_law_31 : decode cL_law 31 = .ok (.iand, 1) := by decide +kernel
theorem dL_law_32 : decode cL_law 32 = .ok (.tableswitch 955 0 28 #[132, 155, 168, 181, 204, 237, 260, 293, 316, 339, 362, 385, 408, 451, 484, 517, 570, 603, 646, 689, 712, 745, 794, 827, 860, 873, 886, 909, 932], 132) := by decide +kernel
theorem dL_law_164 : decode cL_law 164 = .ok (.aload_n 1, 1) := by decide +kernel
theorem dL_law_165 : decode cL_law 165 = .ok (.aload_n 0, 1) := by decide +kernel
theorem dL_law_166 : decode cL_law 166 = .ok (.iload_n 3, 1) := by decide +kernel
theorem dL_law_167 : decode cL_law 167 = .ok (.iconst 1, 1) := by decide +kernel
theorem dL_law_168 : decode cL_law 168 = .ok (.iadd, 1) := by decide +kernel
theorem dL_law_169 : decode cL_law 169 = .ok (.iaload, 1) := by decide +kernel
theorem dL_law_170 : decode cL_law 170 = .ok (.invokevirtual 13, 3) := by decide +kernel
theorem dL_law_173 : decode cL_law 173 = .ok (.aload_n 2, 1) := by decide +kernel
theorem dL_law_174 : decode cL_law 174 = .ok (.aload_n 0, 1) := by decide +kernel
theorem dL_law_175 : decode cL_law 175 = .ok (.iload_n 3, 1) := by decide +kernel
theorem dL_law_176 : decode cL_law 176 = .ok (.iconst 1, 1) := by decide +kernel
theorem dL_law_177 : decode cL_law 177 = .ok (.iadd, 1) := by decide +kernel
theorem dL_law_178 : decode cL_law 178 = .ok (.iaload, 1) := by decide +kernel
theorem dL_law_179 : decode cL_law 179 = .ok (.invokevirtual 17, 3) := by decide +kernel
theorem dL_law_182 : decode cL_law 182 = .ok (.if_icmp .eq 805, 3) := by decide +kernel
theorem dL_law_185 : decode cL_law 185 = .ok (.iconst 0, 1) := by decide +kernel
theorem dL_law_186 : decode cL_law 186 = .ok (.ireturn, 1) := by decide +kernel
theorem dL_law_187 : decode cL_law 187 = .ok (.aload_n 1, 1) := by decide +kernel
theorem dL_law_188 : decode cL_law 188 = .ok (.invokevirtual 18, 3) := by decide +kernel
theorem dL_law_191 : decode cL_law 191 = .ok (.aload_n 2, 1) := by decide +kernel
theorem dL_law_192 : decode cL_law 192 = .ok (.invokevirtual 22, 3) := by decide +kernel
theorem dL_law_195 : decode cL_law 195 = .ok (.if_icmp .eq 792, 3) := by decide +kernel
theorem dL_law_198 : decode cL_law 198 = .ok (.iconst 0, 1) := by decide +kernel
theorem dL_law_199 : decode cL_law 199 = .ok (.ireturn, 1) := by decide +kernel
theorem dL_law_200 : decode cL_law 200 = .ok (.aload_n 1, 1) := by decide +kernel
theorem dL_law_201 : decode cL_law 201 = .ok (.invokevirtual 23, 3) := by decide +kernel
theorem dL_law_204 : decode cL_law 204 = .ok (.aload_n 2, 1) := by decide +kernel
theorem dL_law_205 : decode cL_law 205 = .ok (.invokevirtual 26, 3) := by decide +kernel
theorem dL_law_208 : decode cL_law 208 = .ok (.if_icmp .eq 779, 3) := by decide +kernel
theorem dL_law_211 : decode cL_law 211 = .ok (.iconst 0, 1) := by decide +kernel
theorem dL_law_212 : decode cL_law 212 = .ok (.ireturn, 1) := by decide +kernel
theorem dL_law_213 : decode cL_law 213 = .ok (.aload_n 1, 1) := by decide +kernel
theorem dL_law_214 : decode cL_law 214 = .ok (.aload_n 0, 1) := by decide +kernel
theorem dL_law_215 : decode cL_law 215 = .ok (.iload_n 3, 1) := by decide +kernel
theorem dL_law_216 : decode cL_law 216 = .ok (.iconst 1, 1) := by decide +kernel
theorem dL_law_217 : decode cL_law 217 = .ok (.iadd, 1) := by decide +kernel
theorem dL_law_218 : decode cL_law 218 = .ok (.iaload, 1) := by decide +kernel
theorem dL_law_219 : decode cL_law 219 = .ok (.invokevirtual 27, 3) := by decide +kernel
theorem dL_law_222 : decode cL_law 222 = .ok (.aload_n 2, 1) := by decide +kernel
theorem dL_law_223 : decode cL_law 223 = .ok (.aload_n 0, 1) := by decide +kernel
theorem dL_law_224 : decode cL_law 224 = .ok (.iload_n 3, 1) := by decide +kernel
theorem dL_law_225 : decode cL_law 225 = .ok (.iconst 1, 1) := by decide +kernel
theorem dL_law_226 : decode cL_law 226 = .ok (.iadd, 1) := by decide +kernel
theorem dL_law_227 : decode cL_law 227 = .ok (.iaload, 1) := by decide +kernel
theorem dL_law_228 : decode cL_law 228 = .ok (.invokevirtual 30, 3) := by decide +kernel
theorem dL_law_231 : decode cL_law 231 = .ok (.if_icmp .eq 756, 3) := by decide +kernel
theorem dL_law_234 : decode cL_law 234 = .ok (.iconst 0, 1) := by decide +kernel
theorem dL_law_235 : decode cL_law 235 = .ok (.ireturn, 1) := by decide +kernel
theorem dL_law_236 : decode cL_law 236 = .ok (.aload_n 1, 1) := by decide +kernel
theorem dL_law_237 : decode cL_law 237 = .ok (.aload_n 0, 1) := by decide +kernel
theorem dL_law_238 : decode cL_law 238 = .ok (.iload_n 3, 1) := by decide +kernel
theorem dL_law_239 : decode cL_law 239 = .ok (.iconst 1, 1) := by decide +kernel
theorem dL_law_240 : decode cL_law 240 = .ok (.iadd, 1) := by decide +kernel
theorem dL_law_241 : decode cL_law 241 = .ok (.iaload, 1) := by decide +kernel
theorem dL_law_242 : decode cL_law 242 = .ok (.aload_n 0, 1) := by decide +kernel
theorem dL_law_243 : decode cL_law 243 = .ok (.iload_n 3, 1) := by decide +kernel
theorem dL_law_244 : decode cL_law 244 = .ok (.iconst 2, 1) := by decide +kernel
theorem dL_law_245 : decode cL_law 245 = .ok (.iadd, 1) := by decide +kernel
theorem dL_law_246 : decode cL_law 246 = .ok (.iaload, 1) := by decide +kernel
theorem dL_law_247 : decode cL_law 247 = .ok (.invokevirtual 31, 3) := by decide +kernel
theorem dL_law_250 : decode cL_law 250 = .ok (.aload_n 2, 1) := by decide +kernel
theorem dL_law_251 : decode cL_law 251 = .ok (.aload_n 0, 1) := by decide +kernel
theorem dL_law_252 : decode cL_law 252 = .ok (.iload_n 3, 1) := by decide +kernel
theorem dL_law_253 : decode cL_law 253 = .ok (.iconst 1, 1) := by decide +kernel
theorem dL_law_254 : decode cL_law 254 = .ok (.iadd, 1) := by decide +kernel
theorem dL_law_255 : decode cL_law 255 = .ok (.iaload, 1) := by decide +kernel
theorem dL_law_256 : decode cL_law 256 = .ok (.aload_n 0, 1) := by decide +kernel
theorem dL_law_257 : decode cL_law 257 = .ok (.iload_n 3, 1) := by decide +kernel
theorem dL_law_258 : decode cL_law 258 = .ok (.iconst 2, 1) := by decide +kernel
theorem dL_law_259 : decode cL_law 259 = .ok (.iadd, 1) := by decide +kernel
theorem dL_law_260 : decode cL_law 260 = .ok (.iaload, 1) := by decide +kernel
theorem dL_law_261 : decode cL_law 261 = .ok (.invokevirtual 35, 3) := by decide +kernel
theorem dL_law_264 : decode cL_law 264 = .ok (.if_icmp .eq 723, 3) := by decide +kernel
theorem dL_law_267 : decode cL_law 267 = .ok (.iconst 0, 1) := by decide +kernel
theorem dL_law_268 : decode cL_law 268 = .ok (.ireturn, 1) := by decide +kernel
theorem dL_law_269 : decode cL_law 269 = .ok (.aload_n 1, 1) := by decide +kernel
theorem dL_law_270 : decode cL_law 270 = .ok (.aload_n 0, 1) := by decide +kernel
theorem dL_law_271 : decode cL_law 271 = .ok (.iload_n 3, 1) := by decide +kernel
theorem dL_law_272 : decode cL_law 272 = .ok (.iconst 1, 1) := by decide +kernel
theorem dL_law_273 : decode cL_law 273 = .ok (.iadd, 1) := by decide +kernel
theorem dL_law_274 : decode cL_law 274 = .ok (.iaload, 1) := by decide +kernel
theorem dL_law_275 : decode cL_law 275 = .ok (.invokevirtual 36, 3) := by decide +kernel
theorem dL_law_278 : decode cL_law 278 = .ok (.aload_n 2, 1) := by decide +kernel
theorem dL_law_279 : decode cL_law 279 = .ok (.aload_n 0, 1) := by decide +kernel
theorem dL_law_280 : decode cL_law 280 = .ok (.iload_n 3, 1) := by decide +kernel
theorem dL_law_281 : decode cL_law 281 = .ok (.iconst 1, 1) := by decide +kernel
theorem dL_law_282 : decode cL_law 282 = .ok (.iadd, 1) := by decide +kernel
theorem dL_law_283 : decode cL_law 283 = .ok (.iaload, 1) := by decide +kernel
theorem dL_law_284 : decode cL_law 284 = .ok (.invokevirtual 39, 3) := by decide +kernel
theorem dL_law_287 : decode cL_law 287 = .ok (.if_icmp .eq 700, 3) := by decide +kernel
theorem dL_law_290 : decode cL_law 290 = .ok (.iconst 0, 1) := by decide +kernel
theorem dL_law_291 : decode cL_law 291 = .ok (.ireturn, 1) := by decide +kernel
theorem dL_law_292 : decode cL_law 292 = .ok (.aload_n 1, 1) := by decide +kernel
theorem dL_law_293 : decode cL_law 293 = .ok (.aload_n 0, 1) := by decide +kernel
theorem dL_law_294 : decode cL_law 294 = .ok (.iload_n 3, 1) := by decide +kernel
theorem dL_law_295 : decode cL_law 295 = .ok (.iconst 1, 1) := by decide +kernel
theorem dL_law_296 : decode cL_law 296 = .ok (.iadd, 1) := by decide +kernel
theorem dL_law_297 : decode cL_law 297 = .ok (.iaload, 1) := by decide +kernel
theorem dL_law_298 : decode cL_law 298 = .ok (.aload_n 0, 1) := by decide +kernel
theorem dL_law_299 : decode cL_law 299 = .ok (.iload_n 3, 1) := by decide +kernel
theorem dL_law_300 : decode cL_law 300 = .ok (.iconst 2, 1) := by decide +kernel
theorem dL_law_301 : decode cL_law 301 = .ok (.iadd, 1) := by decide +kernel
theorem dL_law_302 : decode cL_law 302 = .ok (.iaload, 1) := by decide +kernel
theorem dL_law_303 : decode cL_law 303 = .ok (.invokevirtual 40, 3) := by decide +kernel
theorem dL_law_306 : decode cL_law 306 = .ok (.aload_n 2, 1) := by decide +kernel
theorem dL_law_307 : decode cL_law 307 = .ok (.aload_n 0, 1) := by decide +kernel
theorem dL_law_308 : decode cL_law 308 = .ok (.iload_n 3, 1) := by decide +kernel
theorem dL_law_309 : decode cL_law 309 = .ok (.iconst 1, 1) := by decide +kernel
theorem dL_law_310 : decode cL_law 310 = .ok (.iadd, 1) := by decide +kernel
theorem dL_law_311 : decode cL_law 311 = .ok (.iaload, 1) := by decide +kernel
theorem dL_law_312 : decode cL_law 312 = .ok (.aload_n 0, 1) := by decide +kernel
theorem dL_law_313 : decode cL_law 313 = .ok (.iload_n 3, 1) := by decide +kernel
theorem dL_law_314 : decode cL_law 314 = .ok (.iconst 2, 1) := by decide +kernel
theorem dL_law_315 : decode cL_law 315 = .ok (.iadd, 1) := by decide +kernel
theorem dL_law_316 : decode cL_law 316 = .ok (.iaload, 1) := by decide +kernel
theorem dL_law_317 : decode cL_law 317 = .ok (.invokevirtual 43, 3) := by decide +kernel
theorem dL_law_320 : decode cL_law 320 = .ok (.if_icmp .eq 667, 3) := by decide +kernel
theorem dL_law_323 : decode cL_law 323 = .ok (.iconst 0, 1) := by decide +kernel
theorem dL_law_324 : decode cL_law 324 = .ok (.ireturn, 1) := by decide +kernel
theorem dL_law_325 : decode cL_law 325 = .ok (.aload_n 1, 1) := by decide +kernel
theorem dL_law_326 : decode cL_law 326 = .ok (.aload_n 0, 1) := by decide +kernel
theorem dL_law_327 : decode cL_law 327 = .ok (.iload_n 3, 1) := by decide +kernel
theorem dL_law_328 : decode cL_law 328 = .ok (.iconst 1, 1) := by decide +kernel
theorem dL_law_329 : decode cL_law 329 = .ok (.iadd, 1) := by decide +kernel
theorem dL_law_330 : decode cL_law 330 = .ok (.iaload, 1) := by decide +kernel
theorem dL_law_331 : decode cL_law 331 = .ok (.invokevirtual 44, 3) := by decide +kernel
theorem dL_law_334 : decode cL_law 334 = .ok (.aload_n 2, 1) := by decide +kernel
theorem dL_law_335 : decode cL_law 335 = .ok (.aload_n 0, 1) := by decide +kernel
theorem dL_law_336 : decode cL_law 336 = .ok (.iload_n 3, 1) := by decide +kernel
theorem dL_law_337 : decode cL_law 337 = .ok (.iconst 1, 1) := by decide +kernel
theorem dL_law_338 : decode cL_law 338 = .ok (.iadd, 1) := by decide +kernel
theorem dL_law_339 : decode cL_law 339 = .ok (.iaload, 1) := by decide +kernel
theorem dL_law_340 : decode cL_law 340 = .ok (.invokevirtual 47, 3) := by decide +kernel
theorem dL_law_343 : decode cL_law 343 = .ok (.if_icmp .eq 644, 3) := by decide +kernel
theorem dL_law_346 : decode cL_law 346 = .ok (.iconst 0, 1) := by decide +kernel
theorem dL_law_347 : decode cL_law 347 = .ok (.ireturn, 1) := by decide +kernel
theorem dL_law_348 : decode cL_law 348 = .ok (.aload_n 1, 1) := by decide +kernel
theorem dL_law_349 : decode cL_law 349 = .ok (.aload_n 0, 1) := by decide +kernel
theorem dL_law_350 : decode cL_law 350 = .ok (.iload_n 3, 1) := by decide +kernel
theorem dL_law_351 : decode cL_law 351 = .ok (.iconst 1, 1) := by decide +kernel
theorem dL_law_352 : decode cL_law 352 = .ok (.iadd, 1) := by decide +kernel
theorem dL_law_353 : decode cL_law 353 = .ok (.iaload, 1) := by decide +kernel
theorem dL_law_354 : decode cL_law 354 = .ok (.invokevirtual 48, 3) := by decide +kernel
theorem dL_law_357 : decode cL_law 357 = .ok (.aload_n 2, 1) := by decide +kernel
theorem dL_law_358 : decode cL_law 358 = .ok (.aload_n 0, 1) := by decide +kernel
theorem dL_law_359 : decode cL_law 359 = .ok (.iload_n 3, 1) := by decide +kernel
theorem dL_law_360 : decode cL_law 360 = .ok (.iconst 1, 1) := by decide +kernel
theorem dL_law_361 : decode cL_law 361 = .ok (.iadd, 1) := by decide +kernel
theorem dL_law_362 : decode cL_law 362 = .ok (.iaload, 1) := by decide +kernel
theorem dL_law_363 : decode cL_law 363 = .ok (.invokevirtual 51, 3) := by decide +kernel
theorem dL_law_366 : decode cL_law 366 = .ok (.if_icmp .eq 621, 3) := by decide +kernel
theorem dL_law_369 : decode cL_law 369 = .ok (.iconst 0, 1) := by decide +kernel
theorem dL_law_370 : decode cL_law 370 = .ok (.ireturn, 1) := by decide +kernel
theorem dL_law_371 : decode cL_law 371 = .ok (.aload_n 1, 1) := by decide +kernel
theorem dL_law_372 : decode cL_law 372 = .ok (.aload_n 0, 1) := by decide +kernel
theorem dL_law_373 : decode cL_law 373 = .ok (.iload_n 3, 1) := by decide +kernel
theorem dL_law_374 : decode cL_law 374 = .ok (.iconst 1, 1) := by decide +kernel
theorem dL_law_375 : decode cL_law 375 = .ok (.iadd, 1) := by decide +kernel
theorem dL_law_376 : decode cL_law 376 = .ok (.iaload, 1) := by decide +kernel
theorem dL_law_377 : decode cL_law 377 = .ok (.invokevirtual 52, 3) := by decide +kernel
theorem dL_law_380 : decode cL_law 380 = .ok (.aload_n 2, 1) := by decide +kernel
theorem dL_law_381 : decode cL_law 381 = .ok (.aload_n 0, 1) := by decide +kernel
theorem dL_law_382 : decode cL_law 382 = .ok (.iload_n 3, 1) := by decide +kernel
theorem dL_law_383 : decode cL_law 383 = .ok (.iconst 1, 1) := by decide +kernel
theorem dL_law_384 : decode cL_law 384 = .ok (.iadd, 1) := by decide +kernel
theorem dL_law_385 : decode cL_law 385 = .ok (.iaload, 1) := by decide +kernel
theorem dL_law_386 : decode cL_law 386 = .ok (.invokevirtual 55, 3) := by decide +kernel
theorem dL_law_389 : decode cL_law 389 = .ok (.if_icmp .eq 598, 3) := by decide +kernel
theorem dL_law_392 : decode cL_law 392 = .ok (.iconst 0, 1) := by decide +kernel
theorem dL_law_393 : decode cL_law 393 = .ok (.ireturn, 1) := by decide +kernel
theorem dL_law_394 : decode cL_law 394 = .ok (.aload_n 1, 1) := by decide +kernel
theorem dL_law_395 : decode cL_law 395 = .ok (.aload_n 0, 1) := by decide +kernel
theorem dL_law_396 : decode cL_law 396 = .ok (.iload_n 3, 1) := by decide +kernel
theorem dL_law_397 : decode cL_law 397 = .ok (.iconst 1, 1) := by decide +kernel
theorem dL_law_398 : decode cL_law 398 = .ok (.iadd, 1) := by decide +kernel
theorem dL_law_399 : decode cL_law 399 = .ok (.iaload, 1) := by decide +kernel
theorem dL_law_400 : decode cL_law 400 = .ok (.invokevirtual 56, 3) := by decide +kernel
theorem dL_law_403 : decode cL_law 403 = .ok (.aload_n 2, 1) := by decide +kernel
theorem dL_law_404 : decode cL_law 404 = .ok (.aload_n 0, 1) := by decide +kernel
theorem dL_law_405 : decode cL_law 405 = .ok (.iload_n 3, 1) := by decide +kernel
theorem dL_law_406 : decode cL_law 406 = .ok (.iconst 1, 1) := by decide +kernel
theorem dL_law_407 : decode cL_law 407 = .ok (.iadd, 1) := by decide +kernel
theorem dL_law_408 : decode cL_law 408 = .ok (.iaload, 1) := by decide +kernel
theorem dL_law_409 : decode cL_law 409 = .ok (.invokevirtual 59, 3) := by decide +kernel
theorem dL_law_412 : decode cL_law 412 = .ok (.if_icmp .eq 575, 3) := by decide +kernel
theorem dL_law_415 : decode cL_law 415 = .ok (.iconst 0, 1) := by decide +kernel
theorem dL_law_416 : decode cL_law 416 = .ok (.ireturn, 1) := by decide +kernel
theorem dL_law_417 : decode cL_law 417 = .ok (.aload_n 1, 1) := by decide +kernel
theorem dL_law_418 : decode cL_law 418 = .ok (.aload_n 0, 1) := by decide +kernel
theorem dL_law_419 : decode cL_law 419 = .ok (.iload_n 3, 1) := by decide +kernel
theorem dL_law_420 : decode cL_law 420 = .ok (.iconst 1, 1) := by decide +kernel
theorem dL_law_421 : decode cL_law 421 = .ok (.iadd, 1) := by decide +kernel
theorem dL_law_422 : decode cL_law 422 = .ok (.iaload, 1) := by decide +kernel
theorem dL_law_423 : decode cL_law 423 = .ok (.invokevirtual 60, 3) := by decide +kernel
theorem dL_law_426 : decode cL_law 426 = .ok (.aload_n 2, 1) := by decide +kernel
theorem dL_law_427 : decode cL_law 427 = .ok (.aload_n 0, 1) := by decide +kernel
theorem dL_law_428 : decode cL_law 428 = .ok (.iload_n 3, 1) := by decide +kernel
theorem dL_law_429 : decode cL_law 429 = .ok (.iconst 1, 1) := by decide +kernel
theorem dL_law_430 : decode cL_law 430 = .ok (.iadd, 1) := by decide +kernel
theorem dL_law_431 : decode cL_law 431 = .ok (.iaload, 1) := by decide +kernel
theorem dL_law_432 : decode cL_law 432 = .ok (.invokevirtual 63, 3) := by decide +kernel
theorem dL_law_435 : decode cL_law 435 = .ok (.if_icmp .eq 552, 3) := by decide +kernel
theorem dL_law_438 : decode cL_law 438 = .ok (.iconst 0, 1) := by decide +kernel
theorem dL_law_439 : decode cL_law 439 = .ok (.ireturn, 1) := by decide +kernel
theorem dL_law_440 : decode cL_law 440 = .ok (.aload_n 1, 1) := by decide +kernel
theorem dL_law_441 : decode cL_law 441 = .ok (.aload_n 0, 1) := by decide +kernel
theorem dL_law_442 : decode cL_law 442 = .ok (.iload_n 3, 1) := by decide +kernel
theorem dL_law_443 : decode cL_law 443 = .ok (.iconst 1, 1) := by decide +kernel
theorem dL_law_444 : decode cL_law 444 = .ok (.iadd, 1) := by decide +kernel
theorem dL_law_445 : decode cL_law 445 = .ok (.iaload, 1) := by decide +kernel
theorem dL_law_446 : decode cL_law 446 = .ok (.aload_n 0, 1) := by decide +kernel
theorem dL_law_447 : decode cL_law 447 = .ok (.iload_n 3, 1) := by decide +kernel
theorem dL_law_448 : decode cL_law 448 = .ok (.iconst 2, 1) := by decide +kernel
theorem dL_law_449 : decode cL_law 449 = .ok (.iadd, 1) := by decide +kernel
theorem dL_law_450 : decode cL_law 450 = .ok (.iaload, 1) := by decide +kernel
theorem dL_law_451 : decode cL_law 451 = .ok (.aload_n 0, 1) := by decide +kernel
theorem dL_law_452 : decode cL_law 452 = .ok (.iload_n 3, 1) := by decide +kernel
theorem dL_law_453 : decode cL_law 453 = .ok (.iconst 3, 1) := by decide +kernel
theorem dL_law_454 : decode cL_law 454 = .ok (.iadd, 1) := by decide +kernel
theorem dL_law_455 : decode cL_law 455 = .ok (.iaload, 1) := by decide +kernel
theorem dL_law_456 : decode cL_law 456 = .ok (.invokevirtual 64, 3) := by decide +kernel
theorem dL_law_459 : decode cL_law 459 = .ok (.aload_n 2, 1) := by decide +kernel
theorem dL_law_460 : decode cL_law 460 = .ok (.aload_n 0, 1) := by decide +kernel
theorem dL_law_461 : decode cL_law 461 = .ok (.iload_n 3, 1) := by decide +kernel
theorem dL_law_462 : decode cL_law 462 = .ok (.iconst 1, 1) := by decide +kernel
theorem dL_law_463 : decode cL_law 463 = .ok (.iadd, 1) := by decide +kernel
theorem dL_law_464 : decode cL_law 464 = .ok (.iaload, 1) := by decide +kernel
theorem dL_law_465 : decode cL_law 465 = .ok (.aload_n 0, 1) := by decide +kernel
theorem dL_law_466 : decode cL_law 466 = .ok (.iload_n 3, 1) := by decide +kernel
theorem dL_law_467 : decode cL_law 467 = .ok (.iconst 2, 1) := by decide +kernel
theorem dL_law_468 : decode cL_law 468 = .ok (.iadd, 1) := by decide +kernel
theorem dL_law_469 : decode cL_law 469 = .ok (.iaload, 1) := by decide +kernel
theorem dL_law_470 : decode cL_law 470 = .ok (.aload_n 0, 1) := by decide +kernel
theorem dL_law_471 : decode cL_law 471 = .ok (.iload_n 3, 1) := by decide +kernel
theorem dL_law_472 : decode cL_law 472 = .ok (.iconst 3, 1) := by decide +kernel
theorem dL_law_473 : decode cL_law 473 = .ok (.iadd, 1) := by decide +kernel
theorem dL_law_474 : decode cL_law 474 = .ok (.iaload, 1) := by decide +kernel
theorem dL_law_475 : decode cL_law 475 = .ok (.invokevirtual 68, 3) := by decide +kernel
theorem dL_law_478 : decode cL_law 478 = .ok (.if_icmp .eq 509, 3) := by decide +kernel
theorem dL_law_481 : decode cL_law 481 = .ok (.iconst 0, 1) := by decide +kernel
theorem dL_law_482 : decode cL_law 482 = .ok (.ireturn, 1) := by decide +kernel
theorem dL_law_483 : decode cL_law 483 = .ok (.aload_n 1, 1) := by decide +kernel
theorem dL_law_484 : decode cL_law 484 = .ok (.aload_n 0, 1) := by decide +kernel
theorem dL_law_485 : decode cL_law 485 = .ok (.iload_n 3, 1) := by decide +kernel
theorem dL_law_486 : decode cL_law 486 = .ok (.iconst 1, 1) := by decide +kernel
theorem dL_law_487 : decode cL_law 487 = .ok (.iadd, 1) := by decide +kernel
theorem dL_law_488 : decode cL_law 488 = .ok (.iaload, 1) := by decide +kernel
theorem dL_law_489 : decode cL_law 489 = .ok (.aload_n 0, 1) := by decide +kernel
theorem dL_law_490 : decode cL_law 490 = .ok (.iload_n 3, 1) := by decide +kernel
theorem dL_law_491 : decode cL_law 491 = .ok (.iconst 2, 1) := by decide +kernel
theorem dL_law_492 : decode cL_law 492 = .ok (.iadd, 1) := by decide +kernel
theorem dL_law_493 : decode cL_law 493 = .ok (.iaload, 1) := by decide +kernel
theorem dL_law_494 : decode cL_law 494 = .ok (.invokevirtual 69, 3) := by decide +kernel
theorem dL_law_497 : decode cL_law 497 = .ok (.aload_n 2, 1) := by decide +kernel
theorem dL_law_498 : decode cL_law 498 = .ok (.aload_n 0, 1) := by decide +kernel
theorem dL_law_499 : decode cL_law 499 = .ok (.iload_n 3, 1) := by decide +kernel
theorem dL_law_500 : decode cL_law 500 = .ok (.iconst 1, 1) := by decide +kernel
theorem dL_law_501 : decode cL_law 501 = .ok (.iadd, 1) := by decide +kernel
theorem dL_law_502 : decode cL_law 502 = .ok (.iaload, 1) := by decide +kernel
theorem dL_law_503 : decode cL_law 503 = .ok (.aload_n 0, 1) := by decide +kernel
theorem dL_law_504 : decode cL_law 504 = .ok (.iload_n 3, 1) := by decide +kernel
theorem dL_law_505 : decode cL_law 505 = .ok (.iconst 2, 1) := by decide +kernel
theorem dL_law_506 : decode cL_law 506 = .ok (.iadd, 1) := by decide +kernel
theorem dL_law_507 : decode cL_law 507 = .ok (.iaload, 1) := by decide +kernel
theorem dL_law_508 : decode cL_law 508 = .ok (.invokevirtual 72, 3) := by decide +kernel
theorem dL_law_511 : decode cL_law 511 = .ok (.if_icmp .eq 476, 3) := by decide +kernel
theorem dL_law_514 : decode cL_law 514 = .ok (.iconst 0, 1) := by decide +kernel
theorem dL_law_515 : decode cL_law 515 = .ok (.ireturn, 1) := by decide +kernel
theorem dL_law_516 : decode cL_law 516 = .ok (.aload_n 1, 1) := by decide +kernel
theorem dL_law_517 : decode cL_law 517 = .ok (.aload_n 0, 1) := by decide +kernel
theorem dL_law_518 : decode cL_law 518 = .ok (.iload_n 3, 1) := by decide +kernel
theorem dL_law_519 : decode cL_law 519 = .ok (.iconst 1, 1) := by decide +kernel
theorem dL_law_520 : decode cL_law 520 = .ok (.iadd, 1) := by decide +kernel
theorem dL_law_521 : decode cL_law 521 = .ok (.iaload, 1) := by decide +kernel
theorem dL_law_522 : decode cL_law 522 = .ok (.aload_n 0, 1) := by decide +kernel
theorem dL_law_523 : decode cL_law 523 = .ok (.iload_n 3, 1) := by decide +kernel
theorem dL_law_524 : decode cL_law 524 = .ok (.iconst 2, 1) := by decide +kernel
theorem dL_law_525 : decode cL_law 525 = .ok (.iadd, 1) := by decide +kernel
theorem dL_law_526 : decode cL_law 526 = .ok (.iaload, 1) := by decide +kernel
theorem dL_law_527 : decode cL_law 527 = .ok (.invokevirtual 73, 3) := by decide +kernel
theorem dL_law_530 : decode cL_law 530 = .ok (.aload_n 2, 1) := by decide +kernel
theorem dL_law_531 : decode cL_law 531 = .ok (.aload_n 0, 1) := by decide +kernel
theorem dL_law_532 : decode cL_law 532 = .ok (.iload_n 3, 1) := by decide +kernel
theorem dL_law_533 : decode cL_law 533 = .ok (.iconst 1, 1) := by decide +kernel
theorem dL_law_534 : decode cL_law 534 = .ok (.iadd, 1) := by decide +kernel
theorem dL_law_535 : decode cL_law 535 = .ok (.iaload, 1) := by decide +kernel
theorem dL_law_536 : decode cL_law 536 = .ok (.aload_n 0, 1) := by decide +kernel
theorem dL_law_537 : decode cL_law 537 = .ok (.iload_n 3, 1) := by decide +kernel
theorem dL_law_538 : decode cL_law 538 = .ok (.iconst 2, 1) := by decide +kernel
theorem dL_law_539 : decode cL_law 539 = .ok (.iadd, 1) := by decide +kernel
theorem dL_law_540 : decode cL_law 540 = .ok (.iaload, 1) := by decide +kernel
theorem dL_law_541 : decode cL_law 541 = .ok (.invokevirtual 76, 3) := by decide +kernel
theorem dL_law_544 : decode cL_law 544 = .ok (.if_icmp .eq 443, 3) := by decide +kernel
theorem dL_law_547 : decode cL_law 547 = .ok (.iconst 0, 1) := by decide +kernel
theorem dL_law_548 : decode cL_law 548 = .ok (.ireturn, 1) := by decide +kernel
theorem dL_law_549 : decode cL_law 549 = .ok (.aload_n 1, 1) := by decide +kernel
theorem dL_law_550 : decode cL_law 550 = .ok (.aload_n 0, 1) := by decide +kernel
theorem dL_law_551 : decode cL_law 551 = .ok (.iload_n 3, 1) := by decide +kernel
theorem dL_law_552 : decode cL_law 552 = .ok (.iconst 1, 1) := by decide +kernel
theorem dL_law_553 : decode cL_law 553 = .ok (.iadd, 1) := by decide +kernel
theorem dL_law_554 : decode cL_law 554 = .ok (.iaload, 1) := by decide +kernel
theorem dL_law_555 : decode cL_law 555 = .ok (.aload_n 0, 1) := by decide +kernel
theorem dL_law_556 : decode cL_law 556 = .ok (.iload_n 3, 1) := by decide +kernel
theorem dL_law_557 : decode cL_law 557 = .ok (.iconst 2, 1) := by decide +kernel
theorem dL_law_558 : decode cL_law 558 = .ok (.iadd, 1) := by decide +kernel
theorem dL_law_559 : decode cL_law 559 = .ok (.iaload, 1) := by decide +kernel
theorem dL_law_560 : decode cL_law 560 = .ok (.aload_n 0, 1) := by decide +kernel
theorem dL_law_561 : decode cL_law 561 = .ok (.iload_n 3, 1) := by decide +kernel
theorem dL_law_562 : decode cL_law 562 = .ok (.iconst 3, 1) := by decide +kernel
theorem dL_law_563 : decode cL_law 563 = .ok (.iadd, 1) := by decide +kernel
theorem dL_law_564 : decode cL_law 564 = .ok (.iaload, 1) := by decide +kernel
theorem dL_law_565 : decode cL_law 565 = .ok (.aload_n 0, 1) := by decide +kernel
theorem dL_law_566 : decode cL_law 566 = .ok (.iload_n 3, 1) := by decide +kernel
theorem dL_law_567 : decode cL_law 567 = .ok (.iconst 4, 1) := by decide +kernel
theorem dL_law_568 : decode cL_law 568 = .ok (.iadd, 1) := by decide +kernel
theorem dL_law_569 : decode cL_law 569 = .ok (.iaload, 1) := by decide +kernel
theorem dL_law_570 : decode cL_law 570 = .ok (.invokevirtual 77, 3) := by decide +kernel
theorem dL_law_573 : decode cL_law 573 = .ok (.aload_n 2, 1) := by decide +kernel
theorem dL_law_574 : decode cL_law 574 = .ok (.aload_n 0, 1) := by decide +kernel
theorem dL_law_575 : decode cL_law 575 = .ok (.iload_n 3, 1) := by decide +kernel
theorem dL_law_576 : decode cL_law 576 = .ok (.iconst 1, 1) := by decide +kernel
theorem dL_law_577 : decode cL_law 577 = .ok (.iadd, 1) := by decide +kernel
theorem dL_law_578 : decode cL_law 578 = .ok (.iaload, 1) := by decide +kernel
theorem dL_law_579 : decode cL_law 579 = .ok (.aload_n 0, 1) := by decide +kernel
theorem dL_law_580 : decode cL_law 580 = .ok (.iload_n 3, 1) := by decide +kernel
theorem dL_law_581 : decode cL_law 581 = .ok (.iconst 2, 1) := by decide +kernel
theorem dL_law_582 : decode cL_law 582 = .ok (.iadd, 1) := by decide +kernel
theorem dL_law_583 : decode cL_law 583 = .ok (.iaload, 1) := by decide +kernel
theorem dL_law_584 : decode cL_law 584 = .ok (.aload_n 0, 1) := by decide +kernel
theorem dL_law_585 : decode cL_law 585 = .ok (.iload_n 3, 1) := by decide +kernel
theorem dL_law_586 : decode cL_law 586 = .ok (.iconst 3, 1) := by decide +kernel
theorem dL_law_587 : decode cL_law 587 = .ok (.iadd, 1) := by decide +kernel
theorem dL_law_588 : decode cL_law 588 = .ok (.iaload, 1) := by decide +kernel
theorem dL_law_589 : decode cL_law 589 = .ok (.aload_n 0, 1) := by decide +kernel
theorem dL_law_590 : decode cL_law 590 = .ok (.iload_n 3, 1) := by decide +kernel
theorem dL_law_591 : decode cL_law 591 = .ok (.iconst 4, 1) := by decide +kernel
theorem dL_law_592 : decode cL_law 592 = .ok (.iadd, 1) := by decide +kernel
theorem dL_law_593 : decode cL_law 593 = .ok (.iaload, 1) := by decide +kernel
theorem dL_law_594 : decode cL_law 594 = .ok (.invokevirtual 81, 3) := by decide +kernel
theorem dL_law_597 : decode cL_law 597 = .ok (.if_icmp .eq 390, 3) := by decide +kernel
theorem dL_law_600 : decode cL_law 600 = .ok (.iconst 0, 1) := by decide +kernel
theorem dL_law_601 : decode cL_law 601 = .ok (.ireturn, 1) := by decide +kernel
theorem dL_law_602 : decode cL_law 602 = .ok (.aload_n 1, 1) := by decide +kernel
theorem dL_law_603 : decode cL_law 603 = .ok (.aload_n 0, 1) := by decide +kernel
theorem dL_law_604 : decode cL_law 604 = .ok (.iload_n 3, 1) := by decide +kernel
theorem dL_law_605 : decode cL_law 605 = .ok (.iconst 1, 1) := by decide +kernel
theorem dL_law_606 : decode cL_law 606 = .ok (.iadd, 1) := by decide +kernel
theorem dL_law_607 : decode cL_law 607 = .ok (.iaload, 1) := by decide +kernel
theorem dL_law_608 : decode cL_law 608 = .ok (.aload_n 0, 1) := by decide +kernel
theorem dL_law_609 : decode cL_law 609 = .ok (.iload_n 3, 1) := by decide +kernel
theorem dL_law_610 : decode cL_law 610 = .ok (.iconst 2, 1) := by decide +kernel
theorem dL_law_611 : decode cL_law 611 = .ok (.iadd, 1) := by decide +kernel
theorem dL_law_612 : decode cL_law 612 = .ok (.iaload, 1) := by decide +kernel
theorem dL_law_613 : decode cL_law 613 = .ok (.invokevirtual 82, 3) := by decide +kernel
theorem dL_law_616 : decode cL_law 616 = .ok (.aload_n 2, 1) := by decide +kernel
theorem dL_law_617 : decode cL_law 617 = .ok (.aload_n 0, 1) := by decide +kernel
theorem dL_law_618 : decode cL_law 618 = .ok (.iload_n 3, 1) := by decide +kernel
theorem dL_law_619 : decode cL_law 619 = .ok (.iconst 1, 1) := by decide +kernel
theorem dL_law_620 : decode cL_law 620 = .ok (.iadd, 1) := by decide +kernel
theorem dL_law_621 : decode cL_law 621 = .ok (.iaload, 1) := by decide +kernel
theorem dL_law_622 : decode cL_law 622 = .ok (.aload_n 0, 1) := by decide +kernel
theorem dL_law_623 : decode cL_law 623 = .ok (.iload_n 3, 1) := by decide +kernel
theorem dL_law_624 : decode cL_law 624 = .ok (.iconst 2, 1) := by decide +kernel
theorem dL_law_625 : decode cL_law 625 = .ok (.iadd, 1) := by decide +kernel
theorem dL_law_626 : decode cL_law 626 = .ok (.iaload, 1) := by decide +kernel
theorem dL_law_627 : decode cL_law 627 = .ok (.invokevirtual 85, 3) := by decide +kernel
theorem dL_law_630 : decode cL_law 630 = .ok (.if_icmp .eq 357, 3) := by decide +kernel
theorem dL_law_633 : decode cL_law 633 = .ok (.iconst 0, 1) := by decide +kernel
theorem dL_law_634 : decode cL_law 634 = .ok (.ireturn, 1) := by decide +kernel
theorem dL_law_635 : decode cL_law 635 = .ok (.aload_n 1, 1) := by decide +kernel
theorem dL_law_636 : decode cL_law 636 = .ok (.aload_n 0, 1) := by decide +kernel
theorem dL_law_637 : decode cL_law 637 = .ok (.iload_n 3, 1) := by decide +kernel
theorem dL_law_638 : decode cL_law 638 = .ok (.iconst 1, 1) := by decide +kernel
theorem dL_law_639 : decode cL_law 639 = .ok (.iadd, 1) := by decide +kernel
theorem dL_law_640 : decode cL_law 640 = .ok (.iaload, 1) := by decide +kernel
theorem dL_law_641 : decode cL_law 641 = .ok (.aload_n 0, 1) := by decide +kernel
theorem dL_law_642 : decode cL_law 642 = .ok (.iload_n 3, 1) := by decide +kernel
theorem dL_law_643 : decode cL_law 643 = .ok (.iconst 2, 1) := by decide +kernel
theorem dL_law_644 : decode cL_law 644 = .ok (.iadd, 1) := by decide +kernel
theorem dL_law_645 : decode cL_law 645 = .ok (.iaload, 1) := by decide +kernel
theorem dL_law_646 : decode cL_law 646 = .ok (.aload_n 0, 1) := by decide +kernel
theorem dL_law_647 : decode cL_law 647 = .ok (.iload_n 3, 1) := by decide +kernel
theorem dL_law_648 : decode cL_law 648 = .ok (.iconst 3, 1) := by decide +kernel
theorem dL_law_649 : decode cL_law 649 = .ok (.iadd, 1) := by decide +kernel
theorem dL_law_650 : decode cL_law 650 = .ok (.iaload, 1) := by decide +kernel
theorem dL_law_651 : decode cL_law 651 = .ok (.invokevirtual 86, 3) := by decide +kernel
theorem dL_law_654 : decode cL_law 654 = .ok (.aload_n 2, 1) := by decide +kernel
theorem dL_law_655 : decode cL_law 655 = .ok (.aload_n 0, 1) := by decide +kernel
theorem dL_law_656 : decode cL_law 656 = .ok (.iload_n 3, 1) := by decide +kernel
theorem dL_law_657 : decode cL_law 657 = .ok (.iconst 1, 1) := by decide +kernel
theorem dL_law_658 : decode cL_law 658 = .ok (.iadd, 1) := by decide +kernel
theorem dL_law_659 : decode cL_law 659 = .ok (.iaload, 1) := by decide +kernel
theorem dL_law_660 : decode cL_law 660 = .ok (.aload_n 0, 1) := by decide +kernel
theorem dL_law_661 : decode cL_law 661 = .ok (.iload_n 3, 1) := by decide +kernel
theorem dL_law_662 : decode cL_law 662 = .ok (.iconst 2, 1) := by decide +kernel
theorem dL_law_663 : decode cL_law 663 = .ok (.iadd, 1) := by decide +kernel
theorem dL_law_664 : decode cL_law 664 = .ok (.iaload, 1) := by decide +kernel
theorem dL_law_665 : decode cL_law 665 = .ok (.aload_n 0, 1) := by decide +kernel
theorem dL_law_666 : decode cL_law 666 = .ok (.iload_n 3, 1) := by decide +kernel
theorem dL_law_667 : decode cL_law 667 = .ok (.iconst 3, 1) := by decide +kernel
theorem dL_law_668 : decode cL_law 668 = .ok (.iadd, 1) := by decide +kernel
theorem dL_law_669 : decode cL_law 669 = .ok (.iaload, 1) := by decide +kernel
theorem dL_law_670 : decode cL_law 670 = .ok (.invokevirtual 89, 3) := by decide +kernel
theorem dL_law_673 : decode cL_law 673 = .ok (.if_icmp .eq 314, 3) := by decide +kernel
theorem dL_law_676 : decode cL_law 676 = .ok (.iconst 0, 1) := by decide +kernel
theorem dL_law_677 : decode cL_law 677 = .ok (.ireturn, 1) := by decide +kernel
theorem dL_law_678 : decode cL_law 678 = .ok (.aload_n 1, 1) := by decide +kernel
theorem dL_law_679 : decode cL_law 679 = .ok (.aload_n 0, 1) := by decide +kernel
theorem dL_law_680 : decode cL_law 680 = .ok (.iload_n 3, 1) := by decide +kernel
theorem dL_law_681 : decode cL_law 681 = .ok (.iconst 1, 1) := by decide +kernel
theorem dL_law_682 : decode cL_law 682 = .ok (.iadd, 1) := by decide +kernel
theorem dL_law_683 : decode cL_law 683 = .ok (.iaload, 1) := by decide +kernel
theorem dL_law_684 : decode cL_law 684 = .ok (.aload_n 0, 1) := by decide +kernel
theorem dL_law_685 : decode cL_law 685 = .ok (.iload_n 3, 1) := by decide +kernel
theorem dL_law_686 : decode cL_law 686 = .ok (.iconst 2, 1) := by decide +kernel
theorem dL_law_687 : decode cL_law 687 = .ok (.iadd, 1) := by decide +kernel
theorem dL_law_688 : decode cL_law 688 = .ok (.iaload, 1) := by decide +kernel
theorem dL_law_689 : decode cL_law 689 = .ok (.aload_n 0, 1) := by decide +kernel
theorem dL_law_690 : decode cL_law 690 = .ok (.iload_n 3, 1) := by decide +kernel
theorem dL_law_691 : decode cL_law 691 = .ok (.iconst 3, 1) := by decide +kernel
theorem dL_law_692 : decode cL_law 692 = .ok (.iadd, 1) := by decide +kernel
theorem dL_law_693 : decode cL_law 693 = .ok (.iaload, 1) := by decide +kernel
theorem dL_law_694 : decode cL_law 694 = .ok (.invokevirtual 90, 3) := by decide +kernel
theorem dL_law_697 : decode cL_law 697 = .ok (.aload_n 2, 1) := by decide +kernel
theorem dL_law_698 : decode cL_law 698 = .ok (.aload_n 0, 1) := by decide +kernel
theorem dL_law_699 : decode cL_law 699 = .ok (.iload_n 3, 1) := by decide +kernel
theorem dL_law_700 : decode cL_law 700 = .ok (.iconst 1, 1) := by decide +kernel
theorem dL_law_701 : decode cL_law 701 = .ok (.iadd, 1) := by decide +kernel
theorem dL_law_702 : decode cL_law 702 = .ok (.iaload, 1) := by decide +kernel
theorem dL_law_703 : decode cL_law 703 = .ok (.aload_n 0, 1) := by decide +kernel
theorem dL_law_704 : decode cL_law 704 = .ok (.iload_n 3, 1) := by decide +kernel
theorem dL_law_705 : decode cL_law 705 = .ok (.iconst 2, 1) := by decide +kernel
theorem dL_law_706 : decode cL_law 706 = .ok (.iadd, 1) := by decide +kernel
theorem dL_law_707 : decode cL_law 707 = .ok (.iaload, 1) := by decide +kernel
theorem dL_law_708 : decode cL_law 708 = .ok (.aload_n 0, 1) := by decide +kernel
theorem dL_law_709 : decode cL_law 709 = .ok (.iload_n 3, 1) := by decide +kernel
theorem dL_law_710 : decode cL_law 710 = .ok (.iconst 3, 1) := by decide +kernel
theorem dL_law_711 : decode cL_law 711 = .ok (.iadd, 1) := by decide +kernel
theorem dL_law_712 : decode cL_law 712 = .ok (.iaload, 1) := by decide +kernel
theorem dL_law_713 : decode cL_law 713 = .ok (.invokevirtual 93, 3) := by decide +kernel
theorem dL_law_716 : decode cL_law 716 = .ok (.if_icmp .eq 271, 3) := by decide +kernel
theorem dL_law_719 : decode cL_law 719 = .ok (.iconst 0, 1) := by decide +kernel
theorem dL_law_720 : decode cL_law 720 = .ok (.ireturn, 1) := by decide +kernel
theorem dL_law_721 : decode cL_law 721 = .ok (.aload_n 1, 1) := by decide +kernel
theorem dL_law_722 : decode cL_law 722 = .ok (.aload_n 0, 1) := by decide +kernel
theorem dL_law_723 : decode cL_law 723 = .ok (.iload_n 3, 1) := by decide +kernel
theorem dL_law_724 : decode cL_law 724 = .ok (.iconst 1, 1) := by decide +kernel
theorem dL_law_725 : decode cL_law 725 = .ok (.iadd, 1) := by decide +kernel
theorem dL_law_726 : decode cL_law 726 = .ok (.iaload, 1) := by decide +kernel
theorem dL_law_727 : decode cL_law 727 = .ok (.invokevirtual 94, 3) := by decide +kernel
theorem dL_law_730 : decode cL_law 730 = .ok (.aload_n 2, 1) := by decide +kernel
theorem dL_law_731 : decode cL_law 731 = .ok (.aload_n 0, 1) := by decide +kernel
theorem dL_law_732 : decode cL_law 732 = .ok (.iload_n 3, 1) := by decide +kernel
theorem dL_law_733 : decode cL_law 733 = .ok (.iconst 1, 1) := by decide +kernel
theorem dL_law_734 : decode cL_law 734 = .ok (.iadd, 1) := by decide +kernel
theorem dL_law_735 : decode cL_law 735 = .ok (.iaload, 1) := by decide +kernel
theorem dL_law_736 : decode cL_law 736 = .ok (.invokevirtual 97, 3) := by decide +kernel
theorem dL_law_739 : decode cL_law 739 = .ok (.if_icmp .eq 248, 3) := by decide +kernel
theorem dL_law_742 : decode cL_law 742 = .ok (.iconst 0, 1) := by decide +kernel
theorem dL_law_743 : decode cL_law 743 = .ok (.ireturn, 1) := by decide +kernel
theorem dL_law_744 : decode cL_law 744 = .ok (.aload_n 1, 1) := by decide +kernel
theorem dL_law_745 : decode cL_law 745 = .ok (.aload_n 0, 1) := by decide +kernel
theorem dL_law_746 : decode cL_law 746 = .ok (.iload_n 3, 1) := by decide +kernel
theorem dL_law_747 : decode cL_law 747 = .ok (.iconst 1, 1) := by decide +kernel
theorem dL_law_748 : decode cL_law 748 = .ok (.iadd, 1) := by decide +kernel
theorem dL_law_749 : decode cL_law 749 = .ok (.iaload, 1) := by decide +kernel
theorem dL_law_750 : decode cL_law 750 = .ok (.aload_n 0, 1) := by decide +kernel
theorem dL_law_751 : decode cL_law 751 = .ok (.iload_n 3, 1) := by decide +kernel
theorem dL_law_752 : decode cL_law 752 = .ok (.iconst 2, 1) := by decide +kernel
theorem dL_law_753 : decode cL_law 753 = .ok (.iadd, 1) := by decide +kernel
theorem dL_law_754 : decode cL_law 754 = .ok (.iaload, 1) := by decide +kernel
theorem dL_law_755 : decode cL_law 755 = .ok (.invokevirtual 98, 3) := by decide +kernel
theorem dL_law_758 : decode cL_law 758 = .ok (.aload_n 2, 1) := by decide +kernel
theorem dL_law_759 : decode cL_law 759 = .ok (.aload_n 0, 1) := by decide +kernel
theorem dL_law_760 : decode cL_law 760 = .ok (.iload_n 3, 1) := by decide +kernel
theorem dL_law_761 : decode cL_law 761 = .ok (.iconst 1, 1) := by decide +kernel
theorem dL_law_762 : decode cL_law 762 = .ok (.iadd, 1) := by decide +kernel
theorem dL_law_763 : decode cL_law 763 = .ok (.iaload, 1) := by decide +kernel
theorem dL_law_764 : decode cL_law 764 = .ok (.aload_n 0, 1) := by decide +kernel
theorem dL_law_765 : decode cL_law 765 = .ok (.iload_n 3, 1) := by decide +kernel
theorem dL_law_766 : decode cL_law 766 = .ok (.iconst 2, 1) := by decide +kernel
theorem dL_law_767 : decode cL_law 767 = .ok (.iadd, 1) := by decide +kernel
theorem dL_law_768 : decode cL_law 768 = .ok (.iaload, 1) := by decide +kernel
theorem dL_law_769 : decode cL_law 769 = .ok (.invokevirtual 101, 3) := by decide +kernel
theorem dL_law_772 : decode cL_law 772 = .ok (.if_icmp .eq 215, 3) := by decide +kernel
theorem dL_law_775 : decode cL_law 775 = .ok (.iconst 0, 1) := by decide +kernel
theorem dL_law_776 : decode cL_law 776 = .ok (.ireturn, 1) := by decide +kernel
theorem dL_law_777 : decode cL_law 777 = .ok (.aload_n 1, 1) := by decide +kernel
theorem dL_law_778 : decode cL_law 778 = .ok (.aload_n 0, 1) := by decide +kernel
theorem dL_law_779 : decode cL_law 779 = .ok (.iload_n 3, 1) := by decide +kernel
theorem dL_law_780 : decode cL_law 780 = .ok (.iconst 1, 1) := by decide +kernel
theorem dL_law_781 : decode cL_law 781 = .ok (.iadd, 1) := by decide +kernel
theorem dL_law_782 : decode cL_law 782 = .ok (.iaload, 1) := by decide +kernel
theorem dL_law_783 : decode cL_law 783 = .ok (.aload_n 0, 1) := by decide +kernel
theorem dL_law_784 : decode cL_law 784 = .ok (.iload_n 3, 1) := by decide +kernel
theorem dL_law_785 : decode cL_law 785 = .ok (.iconst 2, 1) := by decide +kernel
theorem dL_law_786 : decode cL_law 786 = .ok (.iadd, 1) := by decide +kernel
theorem dL_law_787 : decode cL_law 787 = .ok (.iaload, 1) := by decide +kernel
theorem dL_law_788 : decode cL_law 788 = .ok (.ifCond .eq 7, 3) := by decide +kernel
theorem dL_law_791 : decode cL_law 791 = .ok (.iconst 1, 1) := by decide +kernel
theorem dL_law_792 : decode cL_law 792 = .ok (.goto 4, 3) := by decide +kernel
theorem dL_law_795 : decode cL_law 795 = .ok (.iconst 0, 1) := by decide +kernel
theorem dL_law_796 : decode cL_law 796 = .ok (.invokevirtual 102, 3) := by decide +kernel
theorem dL_law_799 : decode cL_law 799 = .ok (.aload_n 2, 1) := by decide +kernel
theorem dL_law_800 : decode cL_law 800 = .ok (.aload_n 0, 1) := by decide +kernel
theorem dL_law_801 : decode cL_law 801 = .ok (.iload_n 3, 1) := by decide +kernel
theorem dL_law_802 : decode cL_law 802 = .ok (.iconst 1, 1) := by decide +kernel
theorem dL_law_803 : decode cL_law 803 = .ok (.iadd, 1) := by decide +kernel
theorem dL_law_804 : decode cL_law 804 = .ok (.iaload, 1) := by decide +kernel
theorem dL_law_805 : decode cL_law 805 = .ok (.aload_n 0, 1) := by decide +kernel
theorem dL_law_806 : decode cL_law 806 = .ok (.iload_n 3, 1) := by decide +kernel
theorem dL_law_807 : decode cL_law 807 = .ok (.iconst 2, 1) := by decide +kernel
theorem dL_law_808 : decode cL_law 808 = .ok (.iadd, 1) := by decide +kernel
theorem dL_law_809 : decode cL_law 809 = .ok (.iaload, 1) := by decide +kernel
theorem dL_law_810 : decode cL_law 810 = .ok (.ifCond .eq 7, 3) := by decide +kernel
theorem dL_law_813 : decode cL_law 813 = .ok (.iconst 1, 1) := by decide +kernel
theorem dL_law_814 : decode cL_law 814 = .ok (.goto 4, 3) := by decide +kernel
theorem dL_law_817 : decode cL_law 817 = .ok (.iconst 0, 1) := by decide +kernel
theorem dL_law_818 : decode cL_law 818 = .ok (.invokevirtual 106, 3) := by decide +kernel
theorem dL_law_821 : decode cL_law 821 = .ok (.if_icmp .eq 166, 3) := by decide +kernel
theorem dL_law_824 : decode cL_law 824 = .ok (.iconst 0, 1) := by decide +kernel
theorem dL_law_825 : decode cL_law 825 = .ok (.ireturn, 1) := by decide +kernel
theorem dL_law_826 : decode cL_law 826 = .ok (.aload_n 1, 1) := by decide +kernel
theorem dL_law_827 : decode cL_law 827 = .ok (.aload_n 0, 1) := by decide +kernel
theorem dL_law_828 : decode cL_law 828 = .ok (.iload_n 3, 1) := by decide +kernel
theorem dL_law_829 : decode cL_law 829 = .ok (.iconst 1, 1) := by decide +kernel
theorem dL_law_830 : decode cL_law 830 = .ok (.iadd, 1) := by decide +kernel
theorem dL_law_831 : decode cL_law 831 = .ok (.iaload, 1) := by decide +kernel
theorem dL_law_832 : decode cL_law 832 = .ok (.aload_n 0, 1) := by decide +kernel
theorem dL_law_833 : decode cL_law 833 = .ok (.iload_n 3, 1) := by decide +kernel
theorem dL_law_834 : decode cL_law 834 = .ok (.iconst 2, 1) := by decide +kernel
theorem dL_law_835 : decode cL_law 835 = .ok (.iadd, 1) := by decide +kernel
theorem dL_law_836 : decode cL_law 836 = .ok (.iaload, 1) := by decide +kernel
theorem dL_law_837 : decode cL_law 837 = .ok (.invokevirtual 107, 3) := by decide +kernel
theorem dL_law_840 : decode cL_law 840 = .ok (.aload_n 2, 1) := by decide +kernel
theorem dL_law_841 : decode cL_law 841 = .ok (.aload_n 0, 1) := by decide +kernel
theorem dL_law_842 : decode cL_law 842 = .ok (.iload_n 3, 1) := by decide +kernel
theorem dL_law_843 : decode cL_law 843 = .ok (.iconst 1, 1) := by decide +kernel
theorem dL_law_844 : decode cL_law 844 = .ok (.iadd, 1) := by decide +kernel
theorem dL_law_845 : decode cL_law 845 = .ok (.iaload, 1) := by decide +kernel
theorem dL_law_846 : decode cL_law 846 = .ok (.aload_n 0, 1) := by decide +kernel
theorem dL_law_847 : decode cL_law 847 = .ok (.iload_n 3, 1) := by decide +kernel
theorem dL_law_848 : decode cL_law 848 = .ok (.iconst 2, 1) := by decide +kernel
theorem dL_law_849 : decode cL_law 849 = .ok (.iadd, 1) := by decide +kernel
theorem dL_law_850 : decode cL_law 850 = .ok (.iaload, 1) := by decide +kernel
theorem dL_law_851 : decode cL_law 851 = .ok (.invokevirtual 110, 3) := by decide +kernel
theorem dL_law_854 : decode cL_law 854 = .ok (.if_icmp .eq 133, 3) := by decide +kernel
theorem dL_law_857 : decode cL_law 857 = .ok (.iconst 0, 1) := by decide +kernel
theorem dL_law_858 : decode cL_law 858 = .ok (.ireturn, 1) := by decide +kernel
theorem dL_law_859 : decode cL_law 859 = .ok (.aload_n 1, 1) := by decide +kernel
theorem dL_law_860 : decode cL_law 860 = .ok (.aload_n 0, 1) := by decide +kernel
theorem dL_law_861 : decode cL_law 861 = .ok (.iload_n 3, 1) := by decide +kernel
theorem dL_law_862 : decode cL_law 862 = .ok (.iconst 1, 1) := by decide +kernel
theorem dL_law_863 : decode cL_law 863 = .ok (.iadd, 1) := by decide +kernel
theorem dL_law_864 : decode cL_law 864 = .ok (.iaload, 1) := by decide +kernel
theorem dL_law_865 : decode cL_law 865 = .ok (.aload_n 0, 1) := by decide +kernel
theorem dL_law_866 : decode cL_law 866 = .ok (.iload_n 3, 1) := by decide +kernel
theorem dL_law_867 : decode cL_law 867 = .ok (.iconst 2, 1) := by decide +kernel
theorem dL_law_868 : decode cL_law 868 = .ok (.iadd, 1) := by decide +kernel
theorem dL_law_869 : decode cL_law 869 = .ok (.iaload, 1) := by decide +kernel
theorem dL_law_870 : decode cL_law 870 = .ok (.invokevirtual 111, 3) := by decide +kernel
theorem dL_law_873 : decode cL_law 873 = .ok (.aload_n 2, 1) := by decide +kernel
theorem dL_law_874 : decode cL_law 874 = .ok (.aload_n 0, 1) := by decide +kernel
theorem dL_law_875 : decode cL_law 875 = .ok (.iload_n 3, 1) := by decide +kernel
theorem dL_law_876 : decode cL_law 876 = .ok (.iconst 1, 1) := by decide +kernel
theorem dL_law_877 : decode cL_law 877 = .ok (.iadd, 1) := by decide +kernel
theorem dL_law_878 : decode cL_law 878 = .ok (.iaload, 1) := by decide +kernel
theorem dL_law_879 : decode cL_law 879 = .ok (.aload_n 0, 1) := by decide +kernel
theorem dL_law_880 : decode cL_law 880 = .ok (.iload_n 3, 1) := by decide +kernel
theorem dL_law_881 : decode cL_law 881 = .ok (.iconst 2, 1) := by decide +kernel
theorem dL_law_882 : decode cL_law 882 = .ok (.iadd, 1) := by decide +kernel
theorem dL_law_883 : decode cL_law 883 = .ok (.iaload, 1) := by decide +kernel
theorem dL_law_884 : decode cL_law 884 = .ok (.invokevirtual 114, 3) := by decide +kernel
theorem dL_law_887 : decode cL_law 887 = .ok (.if_icmp .eq 100, 3) := by decide +kernel
theorem dL_law_890 : decode cL_law 890 = .ok (.iconst 0, 1) := by decide +kernel
theorem dL_law_891 : decode cL_law 891 = .ok (.ireturn, 1) := by decide +kernel
theorem dL_law_892 : decode cL_law 892 = .ok (.aload_n 1, 1) := by decide +kernel
theorem dL_law_893 : decode cL_law 893 = .ok (.invokevirtual 115, 3) := by decide +kernel
theorem dL_law_896 : decode cL_law 896 = .ok (.aload_n 2, 1) := by decide +kernel
theorem dL_law_897 : decode cL_law 897 = .ok (.invokevirtual 118, 3) := by decide +kernel
theorem dL_law_900 : decode cL_law 900 = .ok (.if_icmp .eq 87, 3) := by decide +kernel
theorem dL_law_903 : decode cL_law 903 = .ok (.iconst 0, 1) := by decide +kernel
theorem dL_law_904 : decode cL_law 904 = .ok (.ireturn, 1) := by decide +kernel
theorem dL_law_905 : decode cL_law 905 = .ok (.aload_n 1, 1) := by decide +kernel
theorem dL_law_906 : decode cL_law 906 = .ok (.invokevirtual 119, 3) := by decide +kernel
theorem dL_law_909 : decode cL_law 909 = .ok (.aload_n 2, 1) := by decide +kernel
theorem dL_law_910 : decode cL_law 910 = .ok (.invokevirtual 122, 3) := by decide +kernel
theorem dL_law_913 : decode cL_law 913 = .ok (.if_icmp .eq 74, 3) := by decide +kernel
theorem dL_law_916 : decode cL_law 916 = .ok (.iconst 0, 1) := by decide +kernel
theorem dL_law_917 : decode cL_law 917 = .ok (.ireturn, 1) := by decide +kernel
theorem dL_law_918 : decode cL_law 918 = .ok (.aload_n 1, 1) := by decide +kernel
theorem dL_law_919 : decode cL_law 919 = .ok (.aload_n 0, 1) := by decide +kernel
theorem dL_law_920 : decode cL_law 920 = .ok (.iload_n 3, 1) := by decide +kernel
theorem dL_law_921 : decode cL_law 921 = .ok (.iconst 1, 1) := by decide +kernel
theorem dL_law_922 : decode cL_law 922 = .ok (.iadd, 1) := by decide +kernel
theorem dL_law_923 : decode cL_law 923 = .ok (.iaload, 1) := by decide +kernel
theorem dL_law_924 : decode cL_law 924 = .ok (.invokevirtual 123, 3) := by decide +kernel
theorem dL_law_927 : decode cL_law 927 = .ok (.aload_n 2, 1) := by decide +kernel
theorem dL_law_928 : decode cL_law 928 = .ok (.aload_n 0, 1) := by decide +kernel
theorem dL_law_929 : decode cL_law 929 = .ok (.iload_n 3, 1) := by decide +kernel
theorem dL_law_930 : decode cL_law 930 = .ok (.iconst 1, 1) := by decide +kernel
theorem dL_law_931 : decode cL_law 931 = .ok (.iadd, 1) := by decide +kernel
theorem dL_law_932 : decode cL_law 932 = .ok (.iaload, 1) := by decide +kernel
theorem dL_law_933 : decode cL_law 933 = .ok (.invokevirtual 126, 3) := by decide +kernel
theorem dL_law_936 : decode cL_law 936 = .ok (.if_icmp .eq 51, 3) := by decide +kernel
theorem dL_law_939 : decode cL_law 939 = .ok (.iconst 0, 1) := by decide +kernel
theorem dL_law_940 : decode cL_law 940 = .ok (.ireturn, 1) := by decide +kernel
theorem dL_law_941 : decode cL_law 941 = .ok (.aload_n 1, 1) := by decide +kernel
theorem dL_law_942 : decode cL_law 942 = .ok (.aload_n 0, 1) := by decide +kernel
theorem dL_law_943 : decode cL_law 943 = .ok (.iload_n 3, 1) := by decide +kernel
theorem dL_law_944 : decode cL_law 944 = .ok (.iconst 1, 1) := by decide +kernel
theorem dL_law_945 : decode cL_law 945 = .ok (.iadd, 1) := by decide +kernel
theorem dL_law_946 : decode cL_law 946 = .ok (.iaload, 1) := by decide +kernel
theorem dL_law_947 : decode cL_law 947 = .ok (.invokevirtual 127, 3) := by decide +kernel
theorem dL_law_950 : decode cL_law 950 = .ok (.aload_n 2, 1) := by decide +kernel
theorem dL_law_951 : decode cL_law 951 = .ok (.aload_n 0, 1) := by decide +kernel
theorem dL_law_952 : decode cL_law 952 = .ok (.iload_n 3, 1) := by decide +kernel
theorem dL_law_953 : decode cL_law 953 = .ok (.iconst 1, 1) := by decide +kernel
theorem dL_law_954 : decode cL_law 954 = .ok (.iadd, 1) := by decide +kernel
theorem dL_law_955 : decode cL_law 955 = .ok (.iaload, 1) := by decide +kernel
theorem dL_law_956 : decode cL_law 956 = .ok (.invokevirtual 130, 3) := by decide +kernel
theorem dL_law_959 : decode cL_law 959 = .ok (.if_icmp .eq 28, 3) := by decide +kernel
theorem dL_law_962 : decode cL_law 962 = .ok (.iconst 0, 1) := by decide +kernel
theorem dL_law_963 : decode cL_law 963 = .ok (.ireturn, 1) := by decide +kernel
theorem dL_law_964 : decode cL_law 964 = .ok (.aload_n 1, 1) := by decide +kernel
theorem dL_law_965 : decode cL_law 965 = .ok (.aload_n 0, 1) := by decide +kernel
theorem dL_law_966 : decode cL_law 966 = .ok (.iload_n 3, 1) := by decide +kernel
theorem dL_law_967 : decode cL_law 967 = .ok (.iconst 1, 1) := by decide +kernel
theorem dL_law_968 : decode cL_law 968 = .ok (.iadd, 1) := by decide +kernel
theorem dL_law_969 : decode cL_law 969 = .ok (.iaload, 1) := by decide +kernel
theorem dL_law_970 : decode cL_law 970 = .ok (.invokevirtual 131, 3) := by decide +kernel
theorem dL_law_973 : decode cL_law 973 = .ok (.aload_n 2, 1) := by decide +kernel
theorem dL_law_974 : decode cL_law 974 = .ok (.aload_n 0, 1) := by decide +kernel
theorem dL_law_975 : decode cL_law 975 = .ok (.iload_n 3, 1) := by decide +kernel
theorem dL_law_976 : decode cL_law 976 = .ok (.iconst 1, 1) := by decide +kernel
theorem dL_law_977 : decode cL_law 977 = .ok (.iadd, 1) := by decide +kernel
theorem dL_law_978 : decode cL_law 978 = .ok (.iaload, 1) := by decide +kernel
theorem dL_law_979 : decode cL_law 979 = .ok (.invokevirtual 134, 3) := by decide +kernel
theorem dL_law_982 : decode cL_law 982 = .ok (.if_icmp .eq 5, 3) := by decide +kernel
theorem dL_law_985 : decode cL_law 985 = .ok (.iconst 0, 1) := by decide +kernel
theorem dL_law_986 : decode cL_law 986 = .ok (.ireturn, 1) := by decide +kernel
theorem dL_law_987 : decode cL_law 987 = .ok (.iinc 3 5, 3) := by decide +kernel
theorem dL_law_990 : decode cL_law 990 = .ok (.goto (-972), 3) := by decide +kernel
theorem dL_law_993 : decode cL_law 993 = .ok (.iconst 1, 1) := by decide +kernel
theorem dL_law_994 : decode cL_law 994 = .ok (.ireturn, 1) := by decide +kernel
end
section
def b2i (b : Bool) : Int32 := if b then 1 else 0
theorem nar_b2i {b : Bool} : narrow .boolean (.int (b2i b)) = .int (b2i b) := by cases b <;> decide +kernel
theorem fit_b2i {b : Bool} : fits .boolean (.int (b2i b)) = true := by cases b <;> decide +kernel
theorem b2i_0 {b : Bool} : b2i b = 0 ↔ b = false := by cases b <;> decide +kernel
theorem b2i_1 {b : Bool} : ¬ b2i b = 0 ↔ b = true := by cases b <;> decide +kernel
theorem b2i_inj {a b : Bool} : b2i a = b2i b ↔ a = b := by cases a <;> cases b <;> decide +kernel
theorem s_0 : sk 0 = some (.inr (.inr (9, [some 1, some 3, some 10, some 17, some 20, some 23, some 28, some 120, some 123, some 126, some 135, none]))) := rfl
theorem s_1 : sk 1 = some (.inr (.inr (7, [some 2, none, none, none, none, none]))) := rfl
theorem s_2 : sk 2 = some (.inl (0, 240)) := rfl
theorem s_3 : sk 3 = some (.inr (.inr (6, [none, none, none, none, none, some 4, some 5, some 6, some 7, some 8, some 9]))) := rfl
theorem s_4 : sk 4 = some (.inl (0, 7)) := rfl
theorem s_5 : sk 5 = some (.inl (0, 7)) := rfl
theorem s_6 : sk 6 = some (.inl (0, 7)) := rfl
theorem s_7 : sk 7 = some (.inl (0, 7)) := rfl
theorem s_8 : sk 8 = some (.inl (0, 7)) := rfl
theorem s_9 : sk 9 = some (.inl (0, 12)) := rfl
theorem s_10 : sk 10 = some (.inr (.inr (6, [none, none, none, none, none, some 11, some 12, some 13, some 14, some 15, some 16]))) := rfl
theorem s_11 : sk 11 = some (.inl (0, 7)) := rfl
theorem s_12 : sk 12 = some (.inl (0, 7)) := rfl
theorem s_13 : sk 13 = some (.inl (0, 7)) := rfl
theorem s_14 : sk 14 = some (.inl (0, 7)) := rfl
theorem s_15 : sk 15 = some (.inl (0, 7)) := rfl
theorem s_16 : sk 16 = some (.inl (0, 12)) := rfl
theorem s_17 : sk 17 = some (.inr (.inr (1, [some 18, some 19, none, none, none]))) := rfl
theorem s_18 : sk 18 = some (.inl (0, 7)) := rfl
theorem s_19 : sk 19 = some (.inl (0, 7)) := rfl
theorem s_20 : sk 20 = some (.inr (.inr (1, [some 21, some 22, none, none, none]))) := rfl
theorem s_21 : sk 21 = some (.inl (0, 7)) := rfl
theorem s_22 : sk 22 = some (.inl (0, 7)) := rfl
theorem s_23 : sk 23 = some (.inr (.inr (8, [some 24, some 27, none, none, none, none, none, none]))) := rfl
theorem s_24 : sk 24 = some (.inr (.inr (1, [some 25, some 26, none, none, none]))) := rfl
theorem s_25 : sk 25 = some (.inl (0, 7)) := rfl
theorem s_26 : sk 26 = some (.inl (0, 7)) := rfl
theorem s_27 : sk 27 = some (.inl (0, 7)) := rfl
theorem s_28 : sk 28 = some (.inr (.inr (3, [some 29, none, none]))) := rfl
theorem s_29 : sk 29 = some (.inr (.inl (2, 30, fun j => some (30 + 3 * j)))) := rfl
theorem s_120 : sk 120 = some (.inr (.inr (5, [some 121, some 122, none]))) := rfl
theorem s_121 : sk 121 = some (.inl (0, 6)) := rfl
theorem s_122 : sk 122 = some (.inl (1, 6)) := rfl
theorem s_123 : sk 123 = some (.inr (.inr (0, [some 124, some 125, none]))) := rfl
theorem s_124 : sk 124 = some (.inl (0, 20)) := rfl
theorem s_125 : sk 125 = some (.inl (0, 20)) := rfl
theorem s_126 : sk 126 = some (.inr (.inl (3, 2, fun j => some (127 + 4 * j)))) := rfl
theorem s_127 : sk 127 = some (.inr (.inr (2, [some 128, none, none]))) := rfl
theorem s_128 : sk 128 = some (.inr (.inr (1, [some 129, some 130, none, none, none]))) := rfl
theorem s_129 : sk 129 = some (.inl (0, 7)) := rfl
theorem s_130 : sk 130 = some (.inl (0, 7)) := rfl
theorem s_131 : sk 131 = some (.inr (.inr (2, [some 132, none, none]))) := rfl
theorem s_132 : sk 132 = some (.inr (.inr (1, [some 133, some 134, none, none, none]))) := rfl
theorem s_133 : sk 133 = some (.inl (0, 7)) := rfl
theorem s_134 : sk 134 = some (.inl (0, 7)) := rfl
theorem s_135 : sk 135 = some (.inl (0, 4)) := rfl
theorem s_136 : sk 136 = some (.inr (.inr (10, [some 137, some 138, some 139, some 140, some 141, some 142, some 143, some 144, none, none, some 145, none, none, some 146, none, none, none, none, none, some 147, none, none, none, some 148, some 149, some 150, none, some 151, some 152, some 153, none]))) := rfl
theorem s_137 : sk 137 = some (.inl (0, 612)) := rfl
theorem s_138 : sk 138 = some (.inl (1, 2)) := rfl
theorem s_139 : sk 139 = some (.inl (0, 6)) := rfl
theorem s_140 : sk 140 = some (.inl (0, 14)) := rfl
theorem s_141 : sk 141 = some (.inl (0, 14)) := rfl
theorem s_142 : sk 142 = some (.inl (0, 14)) := rfl
theorem s_143 : sk 143 = some (.inl (0, 14)) := rfl
theorem s_144 : sk 144 = some (.inl (0, 14)) := rfl
theorem s_145 : sk 145 = some (.inl (0, 24)) := rfl
theorem s_146 : sk 146 = some (.inl (0, 240)) := rfl
theorem s_147 : sk 147 = some (.inl (0, 7)) := rfl
theorem s_148 : sk 148 = some (.inl (0, 7)) := rfl
theorem s_149 : sk 149 = some (.inl (0, 6)) := rfl
theorem s_150 : sk 150 = some (.inl (1, 6)) := rfl
theorem s_151 : sk 151 = some (.inl (0, 4)) := rfl
theorem s_152 : sk 152 = some (.inl (0, 20)) := rfl
theorem s_153 : sk 153 = some (.inl (0, 20)) := rfl
def sS (a : Nat) : Prop := sk a = some (.inr (.inr (6, [none, none, none, none, none, some (a + 1), some (a + 2), some (a + 3), some (a + 4), some (a + 5), some (a + 6)]))) ∧ sk (a + 1) = some (.inl (0, 7)) ∧ sk (a + 2) = some (.inl (0, 7)) ∧ sk (a + 3) = some (.inl (0, 7)) ∧ sk (a + 4) = some (.inl (0, 7)) ∧ sk (a + 5) = some (.inl (0, 7)) ∧ sk (a + 6) = some (.inl (0, 12))
def sD (a : Nat) : Prop := sk a = some (.inr (.inr (1, [some (a + 1), some (a + 2), none, none, none]))) ∧ sk (a + 1) = some (.inl (0, 7)) ∧ sk (a + 2) = some (.inl (0, 7))
def sI (a : Nat) : Prop := sk a = some (.inr (.inr (2, [some (a + 1), none, none]))) ∧ sD (a + 1)
theorem sS_3 : sS 3 := ⟨rfl, rfl, rfl, rfl, rfl, rfl, rfl⟩
theorem sS_10 : sS 10 := ⟨rfl, rfl, rfl, rfl, rfl, rfl, rfl⟩
theorem sD_17 : sD 17 := ⟨rfl, rfl, rfl⟩
theorem sD_20 : sD 20 := ⟨rfl, rfl, rfl⟩
theorem sD_24 : sD 24 := ⟨rfl, rfl, rfl⟩
theorem sD_128 : sD 128 := ⟨rfl, rfl, rfl⟩
theorem sD_132 : sD 132 := ⟨rfl, rfl, rfl⟩
theorem sI_127 : sI 127 := ⟨rfl, sD_128⟩
theorem sI_131 : sI 131 := ⟨rfl, sD_132⟩
theorem sD_p {j : Nat} (hj : j < 30) : sD (30 + 3 * j) := by
  unfold sD sk
  rw [if_neg (by omega), if_pos (by omega), if_pos (by omega), if_neg (by omega), if_pos (by omega), if_neg (by omega), if_neg (by omega), if_pos (by omega), if_neg (by omega)]
  exact ⟨rfl, rfl, rfl⟩
theorem sI_i {j : Nat} (hj : j < 2) : sI (127 + 4 * j) := by
  rcases (show j = 0 ∨ j = 1 by omega) with rfl | rfl
  · exact sI_127
  · exact sI_131
section XR
variable {scr : Option (Nat × (Nat → Int32))} {k mc ms : Nat} {M : aM} {c0 s0 pc n : Nat} {L : List (Option Value)} {st rest : List Value} {σ σ1 : aS} {μ : Me} {e : Nat × (Nat → aC)} {P : Option Value → aS → Prop}
theorem AW.bif_eq {b : Bool} {o : Int} {t : Nat} (hd : decode M.2.1 pc = .ok (.ifCond .eq o, 3)) (ht : (pc : Int) + o = (t : Int)) (hn : pc + 3 = n) (h1 : b = false → AW scr k mc ms M c0 s0 t L st σ P) (h2 : b = true → AW scr k mc ms M c0 s0 n L st σ P) : AW scr k mc ms M c0 s0 pc L (.int (b2i b) :: st) σ P := AW.if_eq hd ht hn (fun q => h1 (b2i_0.mp q)) (fun q => h2 (b2i_1.mp q))
theorem AW.bif_ne {b : Bool} {o : Int} {t : Nat} (hd : decode M.2.1 pc = .ok (.ifCond .ne o, 3)) (ht : (pc : Int) + o = (t : Int)) (hn : pc + 3 = n) (h1 : b = true → AW scr k mc ms M c0 s0 t L st σ P) (h2 : b = false → AW scr k mc ms M c0 s0 n L st σ P) : AW scr k mc ms M c0 s0 pc L (.int (b2i b) :: st) σ P := AW.if_ne hd ht hn (fun q => h1 (b2i_1.mp q)) (fun q => h2 (b2i_0.mp q))
theorem AW.ev0i {idx kc a ci : Nat} {Mc : aM} {fs : List (Option Nat)} {q : vw_C} {x : Int32} (hd : decode M.2.1 pc = .ok (.invokevirtual idx, 3)) (hl : a_lk M.1.cls idx Mc.1) (hcb : a_cv Mc 0) (hs : sk a = some (.inr (.inr (ci, fs)))) (hq : vwCl[ci]? = some q) (hqn : q.1 = Mc.1.cls) (hM : AC kc 0 0 Mc [.ref a] (wS μ e) (a_eq (some (.int x)) σ1)) (hrs : rest.length ≤ 4) (hk : kc + 1 ≤ k) (hc0 : c0 ≤ mc) (hs0 : s0 ≤ ms) (hn : pc + 3 = n) (h : AW scr k mc ms M c0 s0 n L (.int x :: rest) σ1 P) : AW scr k mc ms M c0 s0 pc L (.ref a :: rest) (wS μ e) P := AW.cv hd hl hcb hs hq hqn hM rfl rfl hrs hk hc0 hs0 hn (fun r σ2 hp => by obtain ⟨rfl, rfl⟩ := hp; exact h)
theorem AW.ev0v {idx kc a ci : Nat} {Mc : aM} {fs : List (Option Nat)} {q : vw_C} (hd : decode M.2.1 pc = .ok (.invokevirtual idx, 3)) (hl : a_lk M.1.cls idx Mc.1) (hcb : a_cv Mc 0) (hs : sk a = some (.inr (.inr (ci, fs)))) (hq : vwCl[ci]? = some q) (hqn : q.1 = Mc.1.cls) (hM : AC kc 0 0 Mc [.ref a] (wS μ e) (a_eq none σ1)) (hrs : rest.length ≤ 4) (hk : kc + 1 ≤ k) (hc0 : c0 ≤ mc) (hs0 : s0 ≤ ms) (hn : pc + 3 = n) (h : AW scr k mc ms M c0 s0 n L rest σ1 P) : AW scr k mc ms M c0 s0 pc L (.ref a :: rest) (wS μ e) P := AW.cv hd hl hcb hs hq hqn hM rfl rfl hrs hk hc0 hs0 hn (fun r σ2 hp => by obtain ⟨rfl, rfl⟩ := hp; exact h)
theorem AW.erv0 {idx kc a ci : Nat} {Mc : aM} {fs : List (Option Nat)} {q : vw_C} {P1 : Option Value → aS → Prop} (hd : decode M.2.1 pc = .ok (.invokevirtual idx, 3)) (hl : a_lk M.1.cls idx Mc.1) (hcb : a_cv Mc 0) (hs : sk a = some (.inr (.inr (ci, fs)))) (hq : vwCl[ci]? = some q) (hqn : q.1 = Mc.1.cls) (hM : AC kc 0 0 Mc [.ref a] (wS μ e) P1) (hrs : rest.length ≤ 4) (hk : kc + 1 ≤ k) (hc0 : c0 ≤ mc) (hs0 : s0 ≤ ms) (hn : pc + 3 = n) (h : ∀ (r : Option Value) (σ2 : aS), P1 r σ2 → AW scr k mc ms M c0 s0 n L (r.toList ++ rest) σ2 P) : AW scr k mc ms M c0 s0 pc L (.ref a :: rest) (wS μ e) P := AW.cv hd hl hcb hs hq hqn hM rfl rfl hrs hk hc0 hs0 hn h
theorem AW.ev1i {idx kc a ci : Nat} {Mc : aM} {fs : List (Option Nat)} {q : vw_C} {v0 : Value} {x : Int32} (hd : decode M.2.1 pc = .ok (.invokevirtual idx, 3)) (hl : a_lk M.1.cls idx Mc.1) (hcb : a_cv Mc 1) (hs : sk a = some (.inr (.inr (ci, fs)))) (hq : vwCl[ci]? = some q) (hqn : q.1 = Mc.1.cls) (hM : AC kc 0 0 Mc [.ref a, v0] (wS μ e) (a_eq (some (.int x)) σ1)) (hrs : rest.length ≤ 4) (hk : kc + 1 ≤ k) (hc0 : c0 ≤ mc) (hs0 : s0 ≤ ms) (hn : pc + 3 = n) (h : AW scr k mc ms M c0 s0 n L (.int x :: rest) σ1 P) : AW scr k mc ms M c0 s0 pc L (v0 :: .ref a :: rest) (wS μ e) P := AW.cv hd hl hcb hs hq hqn hM rfl rfl hrs hk hc0 hs0 hn (fun r σ2 hp => by obtain ⟨rfl, rfl⟩ := hp; exact h)
theorem AW.ev1v {idx kc a ci : Nat} {Mc : aM} {fs : List (Option Nat)} {q : vw_C} {v0 : Value} (hd : decode M.2.1 pc = .ok (.invokevirtual idx, 3)) (hl : a_lk M.1.cls idx Mc.1) (hcb : a_cv Mc 1) (hs : sk a = some (.inr (.inr (ci, fs)))) (hq : vwCl[ci]? = some q) (hqn : q.1 = Mc.1.cls) (hM : AC kc 0 0 Mc [.ref a, v0] (wS μ e) (a_eq none σ1)) (hrs : rest.length ≤ 4) (hk : kc + 1 ≤ k) (hc0 : c0 ≤ mc) (hs0 : s0 ≤ ms) (hn : pc + 3 = n) (h : AW scr k mc ms M c0 s0 n L rest σ1 P) : AW scr k mc ms M c0 s0 pc L (v0 :: .ref a :: rest) (wS μ e) P := AW.cv hd hl hcb hs hq hqn hM rfl rfl hrs hk hc0 hs0 hn (fun r σ2 hp => by obtain ⟨rfl, rfl⟩ := hp; exact h)
theorem AW.erv1 {idx kc a ci : Nat} {Mc : aM} {fs : List (Option Nat)} {q : vw_C} {v0 : Value} {P1 : Option Value → aS → Prop} (hd : decode M.2.1 pc = .ok (.invokevirtual idx, 3)) (hl : a_lk M.1.cls idx Mc.1) (hcb : a_cv Mc 1) (hs : sk a = some (.inr (.inr (ci, fs)))) (hq : vwCl[ci]? = some q) (hqn : q.1 = Mc.1.cls) (hM : AC kc 0 0 Mc [.ref a, v0] (wS μ e) P1) (hrs : rest.length ≤ 4) (hk : kc + 1 ≤ k) (hc0 : c0 ≤ mc) (hs0 : s0 ≤ ms) (hn : pc + 3 = n) (h : ∀ (r : Option Value) (σ2 : aS), P1 r σ2 → AW scr k mc ms M c0 s0 n L (r.toList ++ rest) σ2 P) : AW scr k mc ms M c0 s0 pc L (v0 :: .ref a :: rest) (wS μ e) P := AW.cv hd hl hcb hs hq hqn hM rfl rfl hrs hk hc0 hs0 hn h
theorem AW.es1i {idx kc : Nat} {Mc : aM} {v0 : Value} {x : Int32} (hd : decode M.2.1 pc = .ok (.invokestatic idx, 3)) (hl : a_lk M.1.cls idx Mc.1) (hcb : a_cs Mc 1) (hM : AC kc 0 0 Mc [v0] σ (a_eq (some (.int x)) σ1)) (hrs : rest.length ≤ 4) (hk : kc + 1 ≤ k) (hc0 : c0 ≤ mc) (hs0 : s0 ≤ ms) (hn : pc + 3 = n) (h : AW scr k mc ms M c0 s0 n L (.int x :: rest) σ1 P) : AW scr k mc ms M c0 s0 pc L (v0 :: rest) σ P := AW.calls0 hd hl hcb hM rfl rfl hrs hk hc0 hs0 hn (fun r σ2 hp => by obtain ⟨rfl, rfl⟩ := hp; exact h)
theorem AW.es1v {idx kc : Nat} {Mc : aM} {v0 : Value} (hd : decode M.2.1 pc = .ok (.invokestatic idx, 3)) (hl : a_lk M.1.cls idx Mc.1) (hcb : a_cs Mc 1) (hM : AC kc 0 0 Mc [v0] σ (a_eq none σ1)) (hrs : rest.length ≤ 4) (hk : kc + 1 ≤ k) (hc0 : c0 ≤ mc) (hs0 : s0 ≤ ms) (hn : pc + 3 = n) (h : AW scr k mc ms M c0 s0 n L rest σ1 P) : AW scr k mc ms M c0 s0 pc L (v0 :: rest) σ P := AW.calls0 hd hl hcb hM rfl rfl hrs hk hc0 hs0 hn (fun r σ2 hp => by obtain ⟨rfl, rfl⟩ := hp; exact h)
theorem AW.ers1 {idx kc : Nat} {Mc : aM} {v0 : Value} {P1 : Option Value → aS → Prop} (hd : decode M.2.1 pc = .ok (.invokestatic idx, 3)) (hl : a_lk M.1.cls idx Mc.1) (hcb : a_cs Mc 1) (hM : AC kc 0 0 Mc [v0] σ P1) (hrs : rest.length ≤ 4) (hk : kc + 1 ≤ k) (hc0 : c0 ≤ mc) (hs0 : s0 ≤ ms) (hn : pc + 3 = n) (h : ∀ (r : Option Value) (σ2 : aS), P1 r σ2 → AW scr k mc ms M c0 s0 n L (r.toList ++ rest) σ2 P) : AW scr k mc ms M c0 s0 pc L (v0 :: rest) σ P := AW.calls0 hd hl hcb hM rfl rfl hrs hk hc0 hs0 hn h
theorem AW.ev2i {idx kc a ci : Nat} {Mc : aM} {fs : List (Option Nat)} {q : vw_C} {v0 v1 : Value} {x : Int32} (hd : decode M.2.1 pc = .ok (.invokevirtual idx, 3)) (hl : a_lk M.1.cls idx Mc.1) (hcb : a_cv Mc 2) (hs : sk a = some (.inr (.inr (ci, fs)))) (hq : vwCl[ci]? = some q) (hqn : q.1 = Mc.1.cls) (hM : AC kc 0 0 Mc [.ref a, v0, v1] (wS μ e) (a_eq (some (.int x)) σ1)) (hrs : rest.length ≤ 4) (hk : kc + 1 ≤ k) (hc0 : c0 ≤ mc) (hs0 : s0 ≤ ms) (hn : pc + 3 = n) (h : AW scr k mc ms M c0 s0 n L (.int x :: rest) σ1 P) : AW scr k mc ms M c0 s0 pc L (v1 :: v0 :: .ref a :: rest) (wS μ e) P := AW.cv hd hl hcb hs hq hqn hM rfl rfl hrs hk hc0 hs0 hn (fun r σ2 hp => by obtain ⟨rfl, rfl⟩ := hp; exact h)
theorem AW.ev2v {idx kc a ci : Nat} {Mc : aM} {fs : List (Option Nat)} {q : vw_C} {v0 v1 : Value} (hd : decode M.2.1 pc = .ok (.invokevirtual idx, 3)) (hl : a_lk M.1.cls idx Mc.1) (hcb : a_cv Mc 2) (hs : sk a = some (.inr (.inr (ci, fs)))) (hq : vwCl[ci]? = some q) (hqn : q.1 = Mc.1.cls) (hM : AC kc 0 0 Mc [.ref a, v0, v1] (wS μ e) (a_eq none σ1)) (hrs : rest.length ≤ 4) (hk : kc + 1 ≤ k) (hc0 : c0 ≤ mc) (hs0 : s0 ≤ ms) (hn : pc + 3 = n) (h : AW scr k mc ms M c0 s0 n L rest σ1 P) : AW scr k mc ms M c0 s0 pc L (v1 :: v0 :: .ref a :: rest) (wS μ e) P := AW.cv hd hl hcb hs hq hqn hM rfl rfl hrs hk hc0 hs0 hn (fun r σ2 hp => by obtain ⟨rfl, rfl⟩ := hp; exact h)
theorem AW.erv2 {idx kc a ci : Nat} {Mc : aM} {fs : List (Option Nat)} {q : vw_C} {v0 v1 : Value} {P1 : Option Value → aS → Prop} (hd : decode M.2.1 pc = .ok (.invokevirtual idx, 3)) (hl : a_lk M.1.cls idx Mc.1) (hcb : a_cv Mc 2) (hs : sk a = some (.inr (.inr (ci, fs)))) (hq : vwCl[ci]? = some q) (hqn : q.1 = Mc.1.cls) (hM : AC kc 0 0 Mc [.ref a, v0, v1] (wS μ e) P1) (hrs : rest.length ≤ 4) (hk : kc + 1 ≤ k) (hc0 : c0 ≤ mc) (hs0 : s0 ≤ ms) (hn : pc + 3 = n) (h : ∀ (r : Option Value) (σ2 : aS), P1 r σ2 → AW scr k mc ms M c0 s0 n L (r.toList ++ rest) σ2 P) : AW scr k mc ms M c0 s0 pc L (v1 :: v0 :: .ref a :: rest) (wS μ e) P := AW.cv hd hl hcb hs hq hqn hM rfl rfl hrs hk hc0 hs0 hn h
theorem AW.es2i {idx kc : Nat} {Mc : aM} {v0 v1 : Value} {x : Int32} (hd : decode M.2.1 pc = .ok (.invokestatic idx, 3)) (hl : a_lk M.1.cls idx Mc.1) (hcb : a_cs Mc 2) (hM : AC kc 0 0 Mc [v0, v1] σ (a_eq (some (.int x)) σ1)) (hrs : rest.length ≤ 4) (hk : kc + 1 ≤ k) (hc0 : c0 ≤ mc) (hs0 : s0 ≤ ms) (hn : pc + 3 = n) (h : AW scr k mc ms M c0 s0 n L (.int x :: rest) σ1 P) : AW scr k mc ms M c0 s0 pc L (v1 :: v0 :: rest) σ P := AW.calls0 hd hl hcb hM rfl rfl hrs hk hc0 hs0 hn (fun r σ2 hp => by obtain ⟨rfl, rfl⟩ := hp; exact h)
theorem AW.es2v {idx kc : Nat} {Mc : aM} {v0 v1 : Value} (hd : decode M.2.1 pc = .ok (.invokestatic idx, 3)) (hl : a_lk M.1.cls idx Mc.1) (hcb : a_cs Mc 2) (hM : AC kc 0 0 Mc [v0, v1] σ (a_eq none σ1)) (hrs : rest.length ≤ 4) (hk : kc + 1 ≤ k) (hc0 : c0 ≤ mc) (hs0 : s0 ≤ ms) (hn : pc + 3 = n) (h : AW scr k mc ms M c0 s0 n L rest σ1 P) : AW scr k mc ms M c0 s0 pc L (v1 :: v0 :: rest) σ P := AW.calls0 hd hl hcb hM rfl rfl hrs hk hc0 hs0 hn (fun r σ2 hp => by obtain ⟨rfl, rfl⟩ := hp; exact h)
theorem AW.ers2 {idx kc : Nat} {Mc : aM} {v0 v1 : Value} {P1 : Option Value → aS → Prop} (hd : decode M.2.1 pc = .ok (.invokestatic idx, 3)) (hl : a_lk M.1.cls idx Mc.1) (hcb : a_cs Mc 2) (hM : AC kc 0 0 Mc [v0, v1] σ P1) (hrs : rest.length ≤ 4) (hk : kc + 1 ≤ k) (hc0 : c0 ≤ mc) (hs0 : s0 ≤ ms) (hn : pc + 3 = n) (h : ∀ (r : Option Value) (σ2 : aS), P1 r σ2 → AW scr k mc ms M c0 s0 n L (r.toList ++ rest) σ2 P) : AW scr k mc ms M c0 s0 pc L (v1 :: v0 :: rest) σ P := AW.calls0 hd hl hcb hM rfl rfl hrs hk hc0 hs0 hn h
theorem AW.ev3i {idx kc a ci : Nat} {Mc : aM} {fs : List (Option Nat)} {q : vw_C} {v0 v1 v2 : Value} {x : Int32} (hd : decode M.2.1 pc = .ok (.invokevirtual idx, 3)) (hl : a_lk M.1.cls idx Mc.1) (hcb : a_cv Mc 3) (hs : sk a = some (.inr (.inr (ci, fs)))) (hq : vwCl[ci]? = some q) (hqn : q.1 = Mc.1.cls) (hM : AC kc 0 0 Mc [.ref a, v0, v1, v2] (wS μ e) (a_eq (some (.int x)) σ1)) (hrs : rest.length ≤ 4) (hk : kc + 1 ≤ k) (hc0 : c0 ≤ mc) (hs0 : s0 ≤ ms) (hn : pc + 3 = n) (h : AW scr k mc ms M c0 s0 n L (.int x :: rest) σ1 P) : AW scr k mc ms M c0 s0 pc L (v2 :: v1 :: v0 :: .ref a :: rest) (wS μ e) P := AW.cv hd hl hcb hs hq hqn hM rfl rfl hrs hk hc0 hs0 hn (fun r σ2 hp => by obtain ⟨rfl, rfl⟩ := hp; exact h)
theorem AW.ev3v {idx kc a ci : Nat} {Mc : aM} {fs : List (Option Nat)} {q : vw_C} {v0 v1 v2 : Value} (hd : decode M.2.1 pc = .ok (.invokevirtual idx, 3)) (hl : a_lk M.1.cls idx Mc.1) (hcb : a_cv Mc 3) (hs : sk a = some (.inr (.inr (ci, fs)))) (hq : vwCl[ci]? = some q) (hqn : q.1 = Mc.1.cls) (hM : AC kc 0 0 Mc [.ref a, v0, v1, v2] (wS μ e) (a_eq none σ1)) (hrs : rest.length ≤ 4) (hk : kc + 1 ≤ k) (hc0 : c0 ≤ mc) (hs0 : s0 ≤ ms) (hn : pc + 3 = n) (h : AW scr k mc ms M c0 s0 n L rest σ1 P) : AW scr k mc ms M c0 s0 pc L (v2 :: v1 :: v0 :: .ref a :: rest) (wS μ e) P := AW.cv hd hl hcb hs hq hqn hM rfl rfl hrs hk hc0 hs0 hn (fun r σ2 hp => by obtain ⟨rfl, rfl⟩ := hp; exact h)
theorem AW.erv3 {idx kc a ci : Nat} {Mc : aM} {fs : List (Option Nat)} {q : vw_C} {v0 v1 v2 : Value} {P1 : Option Value → aS → Prop} (hd : decode M.2.1 pc = .ok (.invokevirtual idx, 3)) (hl : a_lk M.1.cls idx Mc.1) (hcb : a_cv Mc 3) (hs : sk a = some (.inr (.inr (ci, fs)))) (hq : vwCl[ci]? = some q) (hqn : q.1 = Mc.1.cls) (hM : AC kc 0 0 Mc [.ref a, v0, v1, v2] (wS μ e) P1) (hrs : rest.length ≤ 4) (hk : kc + 1 ≤ k) (hc0 : c0 ≤ mc) (hs0 : s0 ≤ ms) (hn : pc + 3 = n) (h : ∀ (r : Option Value) (σ2 : aS), P1 r σ2 → AW scr k mc ms M c0 s0 n L (r.toList ++ rest) σ2 P) : AW scr k mc ms M c0 s0 pc L (v2 :: v1 :: v0 :: .ref a :: rest) (wS μ e) P := AW.cv hd hl hcb hs hq hqn hM rfl rfl hrs hk hc0 hs0 hn h
theorem AW.es3i {idx kc : Nat} {Mc : aM} {v0 v1 v2 : Value} {x : Int32} (hd : decode M.2.1 pc = .ok (.invokestatic idx, 3)) (hl : a_lk M.1.cls idx Mc.1) (hcb : a_cs Mc 3) (hM : AC kc 0 0 Mc [v0, v1, v2] σ (a_eq (some (.int x)) σ1)) (hrs : rest.length ≤ 4) (hk : kc + 1 ≤ k) (hc0 : c0 ≤ mc) (hs0 : s0 ≤ ms) (hn : pc + 3 = n) (h : AW scr k mc ms M c0 s0 n L (.int x :: rest) σ1 P) : AW scr k mc ms M c0 s0 pc L (v2 :: v1 :: v0 :: rest) σ P := AW.calls0 hd hl hcb hM rfl rfl hrs hk hc0 hs0 hn (fun r σ2 hp => by obtain ⟨rfl, rfl⟩ := hp; exact h)
theorem AW.es3v {idx kc : Nat} {Mc : aM} {v0 v1 v2 : Value} (hd : decode M.2.1 pc = .ok (.invokestatic idx, 3)) (hl : a_lk M.1.cls idx Mc.1) (hcb : a_cs Mc 3) (hM : AC kc 0 0 Mc [v0, v1, v2] σ (a_eq none σ1)) (hrs : rest.length ≤ 4) (hk : kc + 1 ≤ k) (hc0 : c0 ≤ mc) (hs0 : s0 ≤ ms) (hn : pc + 3 = n) (h : AW scr k mc ms M c0 s0 n L rest σ1 P) : AW scr k mc ms M c0 s0 pc L (v2 :: v1 :: v0 :: rest) σ P := AW.calls0 hd hl hcb hM rfl rfl hrs hk hc0 hs0 hn (fun r σ2 hp => by obtain ⟨rfl, rfl⟩ := hp; exact h)
theorem AW.ers3 {idx kc : Nat} {Mc : aM} {v0 v1 v2 : Value} {P1 : Option Value → aS → Prop} (hd : decode M.2.1 pc = .ok (.invokestatic idx, 3)) (hl : a_lk M.1.cls idx Mc.1) (hcb : a_cs Mc 3) (hM : AC kc 0 0 Mc [v0, v1, v2] σ P1) (hrs : rest.length ≤ 4) (hk : kc + 1 ≤ k) (hc0 : c0 ≤ mc) (hs0 : s0 ≤ ms) (hn : pc + 3 = n) (h : ∀ (r : Option Value) (σ2 : aS), P1 r σ2 → AW scr k mc ms M c0 s0 n L (r.toList ++ rest) σ2 P) : AW scr k mc ms M c0 s0 pc L (v2 :: v1 :: v0 :: rest) σ P := AW.calls0 hd hl hcb hM rfl rfl hrs hk hc0 hs0 hn h
theorem AW.ev4i {idx kc a ci : Nat} {Mc : aM} {fs : List (Option Nat)} {q : vw_C} {v0 v1 v2 v3 : Value} {x : Int32} (hd : decode M.2.1 pc = .ok (.invokevirtual idx, 3)) (hl : a_lk M.1.cls idx Mc.1) (hcb : a_cv Mc 4) (hs : sk a = some (.inr (.inr (ci, fs)))) (hq : vwCl[ci]? = some q) (hqn : q.1 = Mc.1.cls) (hM : AC kc 0 0 Mc [.ref a, v0, v1, v2, v3] (wS μ e) (a_eq (some (.int x)) σ1)) (hrs : rest.length ≤ 4) (hk : kc + 1 ≤ k) (hc0 : c0 ≤ mc) (hs0 : s0 ≤ ms) (hn : pc + 3 = n) (h : AW scr k mc ms M c0 s0 n L (.int x :: rest) σ1 P) : AW scr k mc ms M c0 s0 pc L (v3 :: v2 :: v1 :: v0 :: .ref a :: rest) (wS μ e) P := AW.cv hd hl hcb hs hq hqn hM rfl rfl hrs hk hc0 hs0 hn (fun r σ2 hp => by obtain ⟨rfl, rfl⟩ := hp; exact h)
theorem AW.ev4v {idx kc a ci : Nat} {Mc : aM} {fs : List (Option Nat)} {q : vw_C} {v0 v1 v2 v3 : Value} (hd : decode M.2.1 pc = .ok (.invokevirtual idx, 3)) (hl : a_lk M.1.cls idx Mc.1) (hcb : a_cv Mc 4) (hs : sk a = some (.inr (.inr (ci, fs)))) (hq : vwCl[ci]? = some q) (hqn : q.1 = Mc.1.cls) (hM : AC kc 0 0 Mc [.ref a, v0, v1, v2, v3] (wS μ e) (a_eq none σ1)) (hrs : rest.length ≤ 4) (hk : kc + 1 ≤ k) (hc0 : c0 ≤ mc) (hs0 : s0 ≤ ms) (hn : pc + 3 = n) (h : AW scr k mc ms M c0 s0 n L rest σ1 P) : AW scr k mc ms M c0 s0 pc L (v3 :: v2 :: v1 :: v0 :: .ref a :: rest) (wS μ e) P := AW.cv hd hl hcb hs hq hqn hM rfl rfl hrs hk hc0 hs0 hn (fun r σ2 hp => by obtain ⟨rfl, rfl⟩ := hp; exact h)
theorem AW.erv4 {idx kc a ci : Nat} {Mc : aM} {fs : List (Option Nat)} {q : vw_C} {v0 v1 v2 v3 : Value} {P1 : Option Value → aS → Prop} (hd : decode M.2.1 pc = .ok (.invokevirtual idx, 3)) (hl : a_lk M.1.cls idx Mc.1) (hcb : a_cv Mc 4) (hs : sk a = some (.inr (.inr (ci, fs)))) (hq : vwCl[ci]? = some q) (hqn : q.1 = Mc.1.cls) (hM : AC kc 0 0 Mc [.ref a, v0, v1, v2, v3] (wS μ e) P1) (hrs : rest.length ≤ 4) (hk : kc + 1 ≤ k) (hc0 : c0 ≤ mc) (hs0 : s0 ≤ ms) (hn : pc + 3 = n) (h : ∀ (r : Option Value) (σ2 : aS), P1 r σ2 → AW scr k mc ms M c0 s0 n L (r.toList ++ rest) σ2 P) : AW scr k mc ms M c0 s0 pc L (v3 :: v2 :: v1 :: v0 :: .ref a :: rest) (wS μ e) P := AW.cv hd hl hcb hs hq hqn hM rfl rfl hrs hk hc0 hs0 hn h
theorem AW.es4i {idx kc : Nat} {Mc : aM} {v0 v1 v2 v3 : Value} {x : Int32} (hd : decode M.2.1 pc = .ok (.invokestatic idx, 3)) (hl : a_lk M.1.cls idx Mc.1) (hcb : a_cs Mc 4) (hM : AC kc 0 0 Mc [v0, v1, v2, v3] σ (a_eq (some (.int x)) σ1)) (hrs : rest.length ≤ 4) (hk : kc + 1 ≤ k) (hc0 : c0 ≤ mc) (hs0 : s0 ≤ ms) (hn : pc + 3 = n) (h : AW scr k mc ms M c0 s0 n L (.int x :: rest) σ1 P) : AW scr k mc ms M c0 s0 pc L (v3 :: v2 :: v1 :: v0 :: rest) σ P := AW.calls0 hd hl hcb hM rfl rfl hrs hk hc0 hs0 hn (fun r σ2 hp => by obtain ⟨rfl, rfl⟩ := hp; exact h)
theorem AW.es4v {idx kc : Nat} {Mc : aM} {v0 v1 v2 v3 : Value} (hd : decode M.2.1 pc = .ok (.invokestatic idx, 3)) (hl : a_lk M.1.cls idx Mc.1) (hcb : a_cs Mc 4) (hM : AC kc 0 0 Mc [v0, v1, v2, v3] σ (a_eq none σ1)) (hrs : rest.length ≤ 4) (hk : kc + 1 ≤ k) (hc0 : c0 ≤ mc) (hs0 : s0 ≤ ms) (hn : pc + 3 = n) (h : AW scr k mc ms M c0 s0 n L rest σ1 P) : AW scr k mc ms M c0 s0 pc L (v3 :: v2 :: v1 :: v0 :: rest) σ P := AW.calls0 hd hl hcb hM rfl rfl hrs hk hc0 hs0 hn (fun r σ2 hp => by obtain ⟨rfl, rfl⟩ := hp; exact h)
theorem AW.ers4 {idx kc : Nat} {Mc : aM} {v0 v1 v2 v3 : Value} {P1 : Option Value → aS → Prop} (hd : decode M.2.1 pc = .ok (.invokestatic idx, 3)) (hl : a_lk M.1.cls idx Mc.1) (hcb : a_cs Mc 4) (hM : AC kc 0 0 Mc [v0, v1, v2, v3] σ P1) (hrs : rest.length ≤ 4) (hk : kc + 1 ≤ k) (hc0 : c0 ≤ mc) (hs0 : s0 ≤ ms) (hn : pc + 3 = n) (h : ∀ (r : Option Value) (σ2 : aS), P1 r σ2 → AW scr k mc ms M c0 s0 n L (r.toList ++ rest) σ2 P) : AW scr k mc ms M c0 s0 pc L (v3 :: v2 :: v1 :: v0 :: rest) σ P := AW.calls0 hd hl hcb hM rfl rfl hrs hk hc0 hs0 hn h
theorem AW.ev5i {idx kc a ci : Nat} {Mc : aM} {fs : List (Option Nat)} {q : vw_C} {v0 v1 v2 v3 v4 : Value} {x : Int32} (hd : decode M.2.1 pc = .ok (.invokevirtual idx, 3)) (hl : a_lk M.1.cls idx Mc.1) (hcb : a_cv Mc 5) (hs : sk a = some (.inr (.inr (ci, fs)))) (hq : vwCl[ci]? = some q) (hqn : q.1 = Mc.1.cls) (hM : AC kc 0 0 Mc [.ref a, v0, v1, v2, v3, v4] (wS μ e) (a_eq (some (.int x)) σ1)) (hrs : rest.length ≤ 4) (hk : kc + 1 ≤ k) (hc0 : c0 ≤ mc) (hs0 : s0 ≤ ms) (hn : pc + 3 = n) (h : AW scr k mc ms M c0 s0 n L (.int x :: rest) σ1 P) : AW scr k mc ms M c0 s0 pc L (v4 :: v3 :: v2 :: v1 :: v0 :: .ref a :: rest) (wS μ e) P := AW.cv hd hl hcb hs hq hqn hM rfl rfl hrs hk hc0 hs0 hn (fun r σ2 hp => by obtain ⟨rfl, rfl⟩ := hp; exact h)
theorem AW.ev5v {idx kc a ci : Nat} {Mc : aM} {fs : List (Option Nat)} {q : vw_C} {v0 v1 v2 v3 v4 : Value} (hd : decode M.2.1 pc = .ok (.invokevirtual idx, 3)) (hl : a_lk M.1.cls idx Mc.1) (hcb : a_cv Mc 5) (hs : sk a = some (.inr (.inr (ci, fs)))) (hq : vwCl[ci]? = some q) (hqn : q.1 = Mc.1.cls) (hM : AC kc 0 0 Mc [.ref a, v0, v1, v2, v3, v4] (wS μ e) (a_eq none σ1)) (hrs : rest.length ≤ 4) (hk : kc + 1 ≤ k) (hc0 : c0 ≤ mc) (hs0 : s0 ≤ ms) (hn : pc + 3 = n) (h : AW scr k mc ms M c0 s0 n L rest σ1 P) : AW scr k mc ms M c0 s0 pc L (v4 :: v3 :: v2 :: v1 :: v0 :: .ref a :: rest) (wS μ e) P := AW.cv hd hl hcb hs hq hqn hM rfl rfl hrs hk hc0 hs0 hn (fun r σ2 hp => by obtain ⟨rfl, rfl⟩ := hp; exact h)
theorem AW.erv5 {idx kc a ci : Nat} {Mc : aM} {fs : List (Option Nat)} {q : vw_C} {v0 v1 v2 v3 v4 : Value} {P1 : Option Value → aS → Prop} (hd : decode M.2.1 pc = .ok (.invokevirtual idx, 3)) (hl : a_lk M.1.cls idx Mc.1) (hcb : a_cv Mc 5) (hs : sk a = some (.inr (.inr (ci, fs)))) (hq : vwCl[ci]? = some q) (hqn : q.1 = Mc.1.cls) (hM : AC kc 0 0 Mc [.ref a, v0, v1, v2, v3, v4] (wS μ e) P1) (hrs : rest.length ≤ 4) (hk : kc + 1 ≤ k) (hc0 : c0 ≤ mc) (hs0 : s0 ≤ ms) (hn : pc + 3 = n) (h : ∀ (r : Option Value) (σ2 : aS), P1 r σ2 → AW scr k mc ms M c0 s0 n L (r.toList ++ rest) σ2 P) : AW scr k mc ms M c0 s0 pc L (v4 :: v3 :: v2 :: v1 :: v0 :: .ref a :: rest) (wS μ e) P := AW.cv hd hl hcb hs hq hqn hM rfl rfl hrs hk hc0 hs0 hn h
theorem AW.es5i {idx kc : Nat} {Mc : aM} {v0 v1 v2 v3 v4 : Value} {x : Int32} (hd : decode M.2.1 pc = .ok (.invokestatic idx, 3)) (hl : a_lk M.1.cls idx Mc.1) (hcb : a_cs Mc 5) (hM : AC kc 0 0 Mc [v0, v1, v2, v3, v4] σ (a_eq (some (.int x)) σ1)) (hrs : rest.length ≤ 4) (hk : kc + 1 ≤ k) (hc0 : c0 ≤ mc) (hs0 : s0 ≤ ms) (hn : pc + 3 = n) (h : AW scr k mc ms M c0 s0 n L (.int x :: rest) σ1 P) : AW scr k mc ms M c0 s0 pc L (v4 :: v3 :: v2 :: v1 :: v0 :: rest) σ P := AW.calls0 hd hl hcb hM rfl rfl hrs hk hc0 hs0 hn (fun r σ2 hp => by obtain ⟨rfl, rfl⟩ := hp; exact h)
theorem AW.es5v {idx kc : Nat} {Mc : aM} {v0 v1 v2 v3 v4 : Value} (hd : decode M.2.1 pc = .ok (.invokestatic idx, 3)) (hl : a_lk M.1.cls idx Mc.1) (hcb : a_cs Mc 5) (hM : AC kc 0 0 Mc [v0, v1, v2, v3, v4] σ (a_eq none σ1)) (hrs : rest.length ≤ 4) (hk : kc + 1 ≤ k) (hc0 : c0 ≤ mc) (hs0 : s0 ≤ ms) (hn : pc + 3 = n) (h : AW scr k mc ms M c0 s0 n L rest σ1 P) : AW scr k mc ms M c0 s0 pc L (v4 :: v3 :: v2 :: v1 :: v0 :: rest) σ P := AW.calls0 hd hl hcb hM rfl rfl hrs hk hc0 hs0 hn (fun r σ2 hp => by obtain ⟨rfl, rfl⟩ := hp; exact h)
theorem AW.ers5 {idx kc : Nat} {Mc : aM} {v0 v1 v2 v3 v4 : Value} {P1 : Option Value → aS → Prop} (hd : decode M.2.1 pc = .ok (.invokestatic idx, 3)) (hl : a_lk M.1.cls idx Mc.1) (hcb : a_cs Mc 5) (hM : AC kc 0 0 Mc [v0, v1, v2, v3, v4] σ P1) (hrs : rest.length ≤ 4) (hk : kc + 1 ≤ k) (hc0 : c0 ≤ mc) (hs0 : s0 ≤ ms) (hn : pc + 3 = n) (h : ∀ (r : Option Value) (σ2 : aS), P1 r σ2 → AW scr k mc ms M c0 s0 n L (r.toList ++ rest) σ2 P) : AW scr k mc ms M c0 s0 pc L (v4 :: v3 :: v2 :: v1 :: v0 :: rest) σ P := AW.calls0 hd hl hcb hM rfl rfl hrs hk hc0 hs0 hn h
theorem AW.ev6i {idx kc a ci : Nat} {Mc : aM} {fs : List (Option Nat)} {q : vw_C} {v0 v1 v2 v3 v4 v5 : Value} {x : Int32} (hd : decode M.2.1 pc = .ok (.invokevirtual idx, 3)) (hl : a_lk M.1.cls idx Mc.1) (hcb : a_cv Mc 6) (hs : sk a = some (.inr (.inr (ci, fs)))) (hq : vwCl[ci]? = some q) (hqn : q.1 = Mc.1.cls) (hM : AC kc 0 0 Mc [.ref a, v0, v1, v2, v3, v4, v5] (wS μ e) (a_eq (some (.int x)) σ1)) (hrs : rest.length ≤ 4) (hk : kc + 1 ≤ k) (hc0 : c0 ≤ mc) (hs0 : s0 ≤ ms) (hn : pc + 3 = n) (h : AW scr k mc ms M c0 s0 n L (.int x :: rest) σ1 P) : AW scr k mc ms M c0 s0 pc L (v5 :: v4 :: v3 :: v2 :: v1 :: v0 :: .ref a :: rest) (wS μ e) P := AW.cv hd hl hcb hs hq hqn hM rfl rfl hrs hk hc0 hs0 hn (fun r σ2 hp => by obtain ⟨rfl, rfl⟩ := hp; exact h)
theorem AW.ev6v {idx kc a ci : Nat} {Mc : aM} {fs : List (Option Nat)} {q : vw_C} {v0 v1 v2 v3 v4 v5 : Value} (hd : decode M.2.1 pc = .ok (.invokevirtual idx, 3)) (hl : a_lk M.1.cls idx Mc.1) (hcb : a_cv Mc 6) (hs : sk a = some (.inr (.inr (ci, fs)))) (hq : vwCl[ci]? = some q) (hqn : q.1 = Mc.1.cls) (hM : AC kc 0 0 Mc [.ref a, v0, v1, v2, v3, v4, v5] (wS μ e) (a_eq none σ1)) (hrs : rest.length ≤ 4) (hk : kc + 1 ≤ k) (hc0 : c0 ≤ mc) (hs0 : s0 ≤ ms) (hn : pc + 3 = n) (h : AW scr k mc ms M c0 s0 n L rest σ1 P) : AW scr k mc ms M c0 s0 pc L (v5 :: v4 :: v3 :: v2 :: v1 :: v0 :: .ref a :: rest) (wS μ e) P := AW.cv hd hl hcb hs hq hqn hM rfl rfl hrs hk hc0 hs0 hn (fun r σ2 hp => by obtain ⟨rfl, rfl⟩ := hp; exact h)
theorem AW.erv6 {idx kc a ci : Nat} {Mc : aM} {fs : List (Option Nat)} {q : vw_C} {v0 v1 v2 v3 v4 v5 : Value} {P1 : Option Value → aS → Prop} (hd : decode M.2.1 pc = .ok (.invokevirtual idx, 3)) (hl : a_lk M.1.cls idx Mc.1) (hcb : a_cv Mc 6) (hs : sk a = some (.inr (.inr (ci, fs)))) (hq : vwCl[ci]? = some q) (hqn : q.1 = Mc.1.cls) (hM : AC kc 0 0 Mc [.ref a, v0, v1, v2, v3, v4, v5] (wS μ e) P1) (hrs : rest.length ≤ 4) (hk : kc + 1 ≤ k) (hc0 : c0 ≤ mc) (hs0 : s0 ≤ ms) (hn : pc + 3 = n) (h : ∀ (r : Option Value) (σ2 : aS), P1 r σ2 → AW scr k mc ms M c0 s0 n L (r.toList ++ rest) σ2 P) : AW scr k mc ms M c0 s0 pc L (v5 :: v4 :: v3 :: v2 :: v1 :: v0 :: .ref a :: rest) (wS μ e) P := AW.cv hd hl hcb hs hq hqn hM rfl rfl hrs hk hc0 hs0 hn h
theorem AW.es6i {idx kc : Nat} {Mc : aM} {v0 v1 v2 v3 v4 v5 : Value} {x : Int32} (hd : decode M.2.1 pc = .ok (.invokestatic idx, 3)) (hl : a_lk M.1.cls idx Mc.1) (hcb : a_cs Mc 6) (hM : AC kc 0 0 Mc [v0, v1, v2, v3, v4, v5] σ (a_eq (some (.int x)) σ1)) (hrs : rest.length ≤ 4) (hk : kc + 1 ≤ k) (hc0 : c0 ≤ mc) (hs0 : s0 ≤ ms) (hn : pc + 3 = n) (h : AW scr k mc ms M c0 s0 n L (.int x :: rest) σ1 P) : AW scr k mc ms M c0 s0 pc L (v5 :: v4 :: v3 :: v2 :: v1 :: v0 :: rest) σ P := AW.calls0 hd hl hcb hM rfl rfl hrs hk hc0 hs0 hn (fun r σ2 hp => by obtain ⟨rfl, rfl⟩ := hp; exact h)
theorem AW.es6v {idx kc : Nat} {Mc : aM} {v0 v1 v2 v3 v4 v5 : Value} (hd : decode M.2.1 pc = .ok (.invokestatic idx, 3)) (hl : a_lk M.1.cls idx Mc.1) (hcb : a_cs Mc 6) (hM : AC kc 0 0 Mc [v0, v1, v2, v3, v4, v5] σ (a_eq none σ1)) (hrs : rest.length ≤ 4) (hk : kc + 1 ≤ k) (hc0 : c0 ≤ mc) (hs0 : s0 ≤ ms) (hn : pc + 3 = n) (h : AW scr k mc ms M c0 s0 n L rest σ1 P) : AW scr k mc ms M c0 s0 pc L (v5 :: v4 :: v3 :: v2 :: v1 :: v0 :: rest) σ P := AW.calls0 hd hl hcb hM rfl rfl hrs hk hc0 hs0 hn (fun r σ2 hp => by obtain ⟨rfl, rfl⟩ := hp; exact h)
theorem AW.ers6 {idx kc : Nat} {Mc : aM} {v0 v1 v2 v3 v4 v5 : Value} {P1 : Option Value → aS → Prop} (hd : decode M.2.1 pc = .ok (.invokestatic idx, 3)) (hl : a_lk M.1.cls idx Mc.1) (hcb : a_cs Mc 6) (hM : AC kc 0 0 Mc [v0, v1, v2, v3, v4, v5] σ P1) (hrs : rest.length ≤ 4) (hk : kc + 1 ≤ k) (hc0 : c0 ≤ mc) (hs0 : s0 ≤ ms) (hn : pc + 3 = n) (h : ∀ (r : Option Value) (σ2 : aS), P1 r σ2 → AW scr k mc ms M c0 s0 n L (r.toList ++ rest) σ2 P) : AW scr k mc ms M c0 s0 pc L (v5 :: v4 :: v3 :: v2 :: v1 :: v0 :: rest) σ P := AW.calls0 hd hl hcb hM rfl rfl hrs hk hc0 hs0 hn h
theorem AW.ev7i {idx kc a ci : Nat} {Mc : aM} {fs : List (Option Nat)} {q : vw_C} {v0 v1 v2 v3 v4 v5 v6 : Value} {x : Int32} (hd : decode M.2.1 pc = .ok (.invokevirtual idx, 3)) (hl : a_lk M.1.cls idx Mc.1) (hcb : a_cv Mc 7) (hs : sk a = some (.inr (.inr (ci, fs)))) (hq : vwCl[ci]? = some q) (hqn : q.1 = Mc.1.cls) (hM : AC kc 0 0 Mc [.ref a, v0, v1, v2, v3, v4, v5, v6] (wS μ e) (a_eq (some (.int x)) σ1)) (hrs : rest.length ≤ 4) (hk : kc + 1 ≤ k) (hc0 : c0 ≤ mc) (hs0 : s0 ≤ ms) (hn : pc + 3 = n) (h : AW scr k mc ms M c0 s0 n L (.int x :: rest) σ1 P) : AW scr k mc ms M c0 s0 pc L (v6 :: v5 :: v4 :: v3 :: v2 :: v1 :: v0 :: .ref a :: rest) (wS μ e) P := AW.cv hd hl hcb hs hq hqn hM rfl rfl hrs hk hc0 hs0 hn (fun r σ2 hp => by obtain ⟨rfl, rfl⟩ := hp; exact h)
theorem AW.ev7v {idx kc a ci : Nat} {Mc : aM} {fs : List (Option Nat)} {q : vw_C} {v0 v1 v2 v3 v4 v5 v6 : Value} (hd : decode M.2.1 pc = .ok (.invokevirtual idx, 3)) (hl : a_lk M.1.cls idx Mc.1) (hcb : a_cv Mc 7) (hs : sk a = some (.inr (.inr (ci, fs)))) (hq : vwCl[ci]? = some q) (hqn : q.1 = Mc.1.cls) (hM : AC kc 0 0 Mc [.ref a, v0, v1, v2, v3, v4, v5, v6] (wS μ e) (a_eq none σ1)) (hrs : rest.length ≤ 4) (hk : kc + 1 ≤ k) (hc0 : c0 ≤ mc) (hs0 : s0 ≤ ms) (hn : pc + 3 = n) (h : AW scr k mc ms M c0 s0 n L rest σ1 P) : AW scr k mc ms M c0 s0 pc L (v6 :: v5 :: v4 :: v3 :: v2 :: v1 :: v0 :: .ref a :: rest) (wS μ e) P := AW.cv hd hl hcb hs hq hqn hM rfl rfl hrs hk hc0 hs0 hn (fun r σ2 hp => by obtain ⟨rfl, rfl⟩ := hp; exact h)
theorem AW.erv7 {idx kc a ci : Nat} {Mc : aM} {fs : List (Option Nat)} {q : vw_C} {v0 v1 v2 v3 v4 v5 v6 : Value} {P1 : Option Value → aS → Prop} (hd : decode M.2.1 pc = .ok (.invokevirtual idx, 3)) (hl : a_lk M.1.cls idx Mc.1) (hcb : a_cv Mc 7) (hs : sk a = some (.inr (.inr (ci, fs)))) (hq : vwCl[ci]? = some q) (hqn : q.1 = Mc.1.cls) (hM : AC kc 0 0 Mc [.ref a, v0, v1, v2, v3, v4, v5, v6] (wS μ e) P1) (hrs : rest.length ≤ 4) (hk : kc + 1 ≤ k) (hc0 : c0 ≤ mc) (hs0 : s0 ≤ ms) (hn : pc + 3 = n) (h : ∀ (r : Option Value) (σ2 : aS), P1 r σ2 → AW scr k mc ms M c0 s0 n L (r.toList ++ rest) σ2 P) : AW scr k mc ms M c0 s0 pc L (v6 :: v5 :: v4 :: v3 :: v2 :: v1 :: v0 :: .ref a :: rest) (wS μ e) P := AW.cv hd hl hcb hs hq hqn hM rfl rfl hrs hk hc0 hs0 hn h
theorem AW.es7i {idx kc : Nat} {Mc : aM} {v0 v1 v2 v3 v4 v5 v6 : Value} {x : Int32} (hd : decode M.2.1 pc = .ok (.invokestatic idx, 3)) (hl : a_lk M.1.cls idx Mc.1) (hcb : a_cs Mc 7) (hM : AC kc 0 0 Mc [v0, v1, v2, v3, v4, v5, v6] σ (a_eq (some (.int x)) σ1)) (hrs : rest.length ≤ 4) (hk : kc + 1 ≤ k) (hc0 : c0 ≤ mc) (hs0 : s0 ≤ ms) (hn : pc + 3 = n) (h : AW scr k mc ms M c0 s0 n L (.int x :: rest) σ1 P) : AW scr k mc ms M c0 s0 pc L (v6 :: v5 :: v4 :: v3 :: v2 :: v1 :: v0 :: rest) σ P := AW.calls0 hd hl hcb hM rfl rfl hrs hk hc0 hs0 hn (fun r σ2 hp => by obtain ⟨rfl, rfl⟩ := hp; exact h)
theorem AW.es7v {idx kc : Nat} {Mc : aM} {v0 v1 v2 v3 v4 v5 v6 : Value} (hd : decode M.2.1 pc = .ok (.invokestatic idx, 3)) (hl : a_lk M.1.cls idx Mc.1) (hcb : a_cs Mc 7) (hM : AC kc 0 0 Mc [v0, v1, v2, v3, v4, v5, v6] σ (a_eq none σ1)) (hrs : rest.length ≤ 4) (hk : kc + 1 ≤ k) (hc0 : c0 ≤ mc) (hs0 : s0 ≤ ms) (hn : pc + 3 = n) (h : AW scr k mc ms M c0 s0 n L rest σ1 P) : AW scr k mc ms M c0 s0 pc L (v6 :: v5 :: v4 :: v3 :: v2 :: v1 :: v0 :: rest) σ P := AW.calls0 hd hl hcb hM rfl rfl hrs hk hc0 hs0 hn (fun r σ2 hp => by obtain ⟨rfl, rfl⟩ := hp; exact h)
theorem AW.ers7 {idx kc : Nat} {Mc : aM} {v0 v1 v2 v3 v4 v5 v6 : Value} {P1 : Option Value → aS → Prop} (hd : decode M.2.1 pc = .ok (.invokestatic idx, 3)) (hl : a_lk M.1.cls idx Mc.1) (hcb : a_cs Mc 7) (hM : AC kc 0 0 Mc [v0, v1, v2, v3, v4, v5, v6] σ P1) (hrs : rest.length ≤ 4) (hk : kc + 1 ≤ k) (hc0 : c0 ≤ mc) (hs0 : s0 ≤ ms) (hn : pc + 3 = n) (h : ∀ (r : Option Value) (σ2 : aS), P1 r σ2 → AW scr k mc ms M c0 s0 n L (r.toList ++ rest) σ2 P) : AW scr k mc ms M c0 s0 pc L (v6 :: v5 :: v4 :: v3 :: v2 :: v1 :: v0 :: rest) σ P := AW.calls0 hd hl hcb hM rfl rfl hrs hk hc0 hs0 hn h
end XR
abbrev mL_law : aM := (yL_law, cL_law, 4, some .boolean)
end
section
theorem lj_X3_29 : Cond.methodLink RX3 29 Lib.Math.min.name ∈ gT := a_inG 527 (by decide +kernel) rfl
theorem lj_X6_68 : Cond.methodLink RX6 68 Lib.Math.abs.name ∈ gT := a_inG 555 (by decide +kernel) rfl
theorem lj_X9_282 : Cond.methodLink RX9 282 Lib.Math.max.name ∈ gT := a_inG 746 (by decide +kernel) rfl
end
section
def sWithin (v lo hi : Int32) : Bool := !decide (v < lo) && !decide (hi < v)
def sHas (n s : Int32) : Bool := !decide (s < 0) && !decide (n ≤ s)
def sRings (turn haste : Int32) : Bool := !sWithin haste 1 3 || !decide (turn - turn / (5 - haste) * (5 - haste) = 0)
def sDinOf (dins : Int32) (f : Nat → Int32) (hour : Int32) : Int32 := if hour < 0 then 0 else if 1 ≤ dins then f (hour - hour / dins * dins).toNatClampNeg else 0
def sBit (x s : Int32) : Bool := !decide ((x >>> (s &&& 31)) &&& 1 = 0)
def sIsIn (n : Int32) (f : Nat → Int32) (s hour : Int32) : Bool := sHas n s && sWithin hour 0 11 && sBit (f s.toNatClampNeg) hour
def sMeets (μ : Me) (a : Nat) (s second : Int32) (rings : Bool) (taken : Int32) : Int32 :=
  if sHas (μ a 3) s then
    if rings && sIsIn (μ a 3) (μ (a + 2)) s (second / 3600) && !decide (μ (a + 3) s.toNatClampNeg ≤ sDinOf (μ a 4) (μ (a + 6)) (second / 3600)) then 2
    else if sIsIn (μ a 3) (μ (a + 2)) (μ (a + 4) s.toNatClampNeg) (second / 3600) && !decide (μ (a + 5) s.toNatClampNeg ≤ taken) then 3 else 4
  else 4
def sDoor (μ : Me) (a : Nat) (rings : Bool) (becomes : Int32) : Int32 := (if rings then μ a 0 else 0) + (if becomes = 2 then 0 else μ a 2)
def sAbs (x : Int32) : Int32 := if 0 ≤ x then x else 0 - x
def sBetw (μ : Me) (a : Nat) (x y : Int32) : Int32 := sAbs (x - y) * μ a 1
/-- the numbers of a street are such that its rows hold them -/
def sOk (μ : Me) (a n dn : Nat) : Prop := μ a 3 = nI n ∧ n ≤ 7 ∧ μ a 4 = nI dn ∧ dn ≤ 12
theorem sHas_j {x s : Int32} {n : Nat} (hn : x = nI n) (h7 : n ≤ 7) (h : sHas x s = true) : ∃ j : Nat, j < n ∧ s = nI j := by
  subst hn
  simp only [sHas, Bool.and_eq_true, Bool.not_eq_true', decide_eq_false_iff_not] at h
  rcases pk_ix s (n := n) (by omega) with q | q | q
  · exact absurd q h.1
  · exact absurd q h.2
  · exact q
theorem sHas_nI {n j : Nat} (h7 : n ≤ 7) (hj : j < 2147483648) : sHas (nI n) (nI j) = decide (j < n) := by
  by_cases h : j < n
  · simp [sHas, nI_pos hj, nI_ge h (by omega : n < 2 ^ 31), h]
  · simp [sHas, nI_le (Nat.le_of_not_lt h) hj, h]
theorem cl_nI {j : Nat} (h : j < 2147483648) : (nI j).toNatClampNeg = j := nI_clamp h
theorem din_j {hour d : Int32} {dn : Nat} (hd : d = nI dn) (h12 : dn ≤ 12) (h1 : ¬ hour < 0) (h2 : (1 : Int32) ≤ d) : ∃ j : Nat, j < dn ∧ hour - hour / d * d = nI j := by
  subst hd
  obtain ⟨h, hh, rfl⟩ := nI_of h1
  have hpos : 0 < dn := by
    rcases Nat.eq_zero_or_pos dn with q | q
    · subst q; exact absurd h2 (by decide)
    · exact q
  refine ⟨h % dn, Nat.mod_lt _ hpos, ?_⟩
  exact pk_rem hh hpos (by omega)
def sCounts (x : Int32) : Bool := decide (x = 1) || decide (x = 4)
theorem AW.mabsS {scr : Option (Nat × (Nat → Int32))} {k mc ms : Nat} {M : aM} {c0 s0 pc n : Nat} {L : List (Option Value)} {st : List Value} {σ : aS} {P : Option Value → aS → Prop} {idx : Nat} {x : Int32} (hd : decode M.2.1 pc = .ok (.invokestatic idx, 3)) (hl : Cond.methodLink M.1.cls idx Lib.Math.abs.name ∈ gT) (h2 : Cond.static Lib.Math.abs.name ∈ gT) (h3 : Cond.initialized "java/lang/Math" ∈ gT) (h4 : Cond.code Lib.Math.abs.name Lib.Math.abs.code 1 (some .int) ∈ gT) (hrs : st.length ≤ 4) (hk : 1 ≤ k) (hc0 : c0 ≤ mc) (hs0 : s0 ≤ ms) (hn : pc + 3 = n) (h : AW scr k mc ms M c0 s0 n L (.int (sAbs x) :: st) σ P) : AW scr k mc ms M c0 s0 pc L (.int x :: st) σ P := AW.mabs hd hl h2 h3 h4 hrs hk hc0 hs0 hn h
theorem i1_lt (x : Int32) : x < 1 ↔ ¬ 1 ≤ x := Int32.not_le.symm
theorem ra_ne {h : Int32} (q : sWithin h 1 3 = true) : ¬ (5 - h = 0) := by
  simp only [sWithin, Bool.and_eq_true, Bool.not_eq_true', decide_eq_false_iff_not] at q
  intro e
  have e5 : h = 5 := by
    have := congrArg (fun x => x + h) e
    simpa using this.symm
  subst e5
  exact absurd (by decide) q.2
theorem dn_ne {d : Int32} (q : (1 : Int32) ≤ d) : ¬ d = 0 := by rintro rfl; exact absurd q (by decide)
set_option maxHeartbeats 4000000 in
set_option maxRecDepth 100000 in
theorem c_X9_within {σ : aS} {v lo hi : Int32}  : AC 0 0 0 mX9_within [.int v, .int lo, .int hi] σ (a_eq (some (.int (b2i (sWithin v lo hi)))) σ) := by
  refine AC.of (L := [some (.int v), some (.int lo), some (.int hi)]) (j := 0) (by decide) rfl (Nat.le_of_ble_eq_true rfl) ?_
  refine AW.iload_n (n := 1) dX9_within_0 rfl rfl ?_
  refine AW.iload_n (n := 2) dX9_within_1 rfl rfl ?_
  refine AW.icmp_lt (n := 5) (t := 14) dX9_within_2 rfl rfl (fun h2 => ?_) (fun h2 => ?_)
  · refine AW.iconst (n := 15) (v := 0) dX9_within_14 rfl rfl ?_
    refine AW.iret dX9_within_15 rfl rfl (Nat.zero_le _) (Nat.zero_le _) ?_
    exact ⟨by simp [sWithin, b2i, h2], rfl⟩
  · refine AW.iload_n (n := 6) dX9_within_5 rfl rfl ?_
    refine AW.iload_n (n := 7) dX9_within_6 rfl rfl ?_
    refine AW.icmp_gt (n := 10) (t := 14) dX9_within_7 rfl rfl (fun h7 => ?_) (fun h7 => ?_)
    · refine AW.iconst (n := 15) (v := 0) dX9_within_14 rfl rfl ?_
      refine AW.iret dX9_within_15 rfl rfl (Nat.zero_le _) (Nat.zero_le _) ?_
      exact ⟨by simp [sWithin, b2i, h2, h7], rfl⟩
    · refine AW.iconst (n := 11) (v := 1) dX9_within_10 rfl rfl ?_
      refine AW.goto (t := 15) dX9_within_11 rfl ?_
      refine AW.iret dX9_within_15 rfl rfl (Nat.zero_le _) (Nat.zero_le _) ?_
      exact ⟨by simp [sWithin, b2i, h2, h7], rfl⟩
set_option maxHeartbeats 4000000 in
set_option maxRecDepth 100000 in
theorem c_X9_ringsAt {σ : aS} {t h : Int32}  : AC 1 0 0 mX9_ringsAt [.int t, .int h] σ (a_eq (some (.int (b2i (sRings t h)))) σ) := by
  refine AC.of (L := [some (.int t), some (.int h)]) (j := 0) (by decide) rfl (Nat.le_of_ble_eq_true rfl) ?_
  refine AW.iload_n (n := 1) dX9_ringsAt_0 rfl rfl ?_
  refine AW.iconst (n := 2) (v := 1) dX9_ringsAt_1 rfl rfl ?_
  refine AW.iconst (n := 3) (v := 3) dX9_ringsAt_2 rfl rfl ?_
  refine AW.es3i (Mc := mX9_within) (n := 6) dX9_ringsAt_3 lk_X9_79 k_mX9_within (c_X9_within) (Nat.le_of_ble_eq_true rfl) (by decide) (Nat.zero_le _) (Nat.zero_le _) rfl ?_
  refine AW.bif_eq (n := 9) (t := 17) dX9_ringsAt_6 rfl rfl (fun h6 => ?_) (fun h6 => ?_)
  · refine AW.iconst (n := 18) (v := 1) dX9_ringsAt_17 rfl rfl ?_
    refine AW.goto (t := 22) dX9_ringsAt_18 rfl ?_
    refine AW.iret dX9_ringsAt_22 rfl rfl (Nat.zero_le _) (Nat.zero_le _) ?_
    exact ⟨by simp [sRings, b2i, h6], rfl⟩
  · refine AW.iload_n (n := 10) dX9_ringsAt_9 rfl rfl ?_
    refine AW.iconst (n := 11) (v := 5) dX9_ringsAt_10 rfl rfl ?_
    refine AW.iload_n (n := 12) dX9_ringsAt_11 rfl rfl ?_
    refine AW.isub (n := 13) dX9_ringsAt_12 rfl ?_
    refine AW.irem (n := 14) dX9_ringsAt_13 (ra_ne h6) rfl ?_
    refine AW.if_eq (n := 17) (t := 21) dX9_ringsAt_14 rfl rfl (fun h14 => ?_) (fun h14 => ?_)
    · refine AW.iconst (n := 22) (v := 0) dX9_ringsAt_21 rfl rfl ?_
      refine AW.iret dX9_ringsAt_22 rfl rfl (Nat.zero_le _) (Nat.zero_le _) ?_
      exact ⟨by simp [sRings, b2i, h6, h14], rfl⟩
    · refine AW.iconst (n := 18) (v := 1) dX9_ringsAt_17 rfl rfl ?_
      refine AW.goto (t := 22) dX9_ringsAt_18 rfl ?_
      refine AW.iret dX9_ringsAt_22 rfl rfl (Nat.zero_le _) (Nat.zero_le _) ?_
      exact ⟨by simp [sRings, b2i, h6, h14], rfl⟩
set_option maxHeartbeats 4000000 in
set_option maxRecDepth 100000 in
theorem c_X6_has {μ : Me} {e : Nat × (Nat → aC)} {a : Nat} {s : Int32} (ha : sS a) : AC 0 0 0 mX6_has [.ref a, .int s] (wS μ e) (a_eq (some (.int (b2i (sHas (μ a 3) s)))) (wS μ e)) := by
  refine AC.of (L := [some (.ref a), some (.int s)]) (j := 0) (by decide) rfl (Nat.le_of_ble_eq_true rfl) ?_
  refine AW.iload_n (n := 1) dX6_has_0 rfl rfl ?_
  refine AW.if_lt (n := 4) (t := 16) dX6_has_1 rfl rfl (fun h1 => ?_) (fun h1 => ?_)
  · refine AW.iconst (n := 17) (v := 0) dX6_has_16 rfl rfl ?_
    refine AW.iret dX6_has_17 rfl rfl (Nat.zero_le _) (Nat.zero_le _) ?_
    exact ⟨by simp [sHas, b2i, h1], rfl⟩
  · refine AW.iload_n (n := 5) dX6_has_4 rfl rfl ?_
    refine AW.aload_n (n := 6) dX6_has_5 rfl rfl ?_
    refine AW.gi (n := 9) dX6_has_6 fl_X6_21 ha.1 rfl rfl ?_
    refine AW.icmp_ge (n := 12) (t := 16) dX6_has_9 rfl rfl (fun h9 => ?_) (fun h9 => ?_)
    · refine AW.iconst (n := 17) (v := 0) dX6_has_16 rfl rfl ?_
      refine AW.iret dX6_has_17 rfl rfl (Nat.zero_le _) (Nat.zero_le _) ?_
      exact ⟨by simp [sHas, b2i, h1, h9], rfl⟩
    · refine AW.iconst (n := 13) (v := 1) dX6_has_12 rfl rfl ?_
      refine AW.goto (t := 17) dX6_has_13 rfl ?_
      refine AW.iret dX6_has_17 rfl rfl (Nat.zero_le _) (Nat.zero_le _) ?_
      exact ⟨by simp [sHas, b2i, h1, h9], rfl⟩
set_option maxHeartbeats 4000000 in
set_option maxRecDepth 100000 in
theorem c_X6_dinOf {μ : Me} {e : Nat × (Nat → aC)} {a dn : Nat} {hour : Int32} (ha : sS a) (hd : μ a 4 = nI dn) (h12 : dn ≤ 12) : AC 0 0 0 mX6_dinOf [.ref a, .int hour] (wS μ e) (a_eq (some (.int (sDinOf (μ a 4) (μ (a + 6)) hour))) (wS μ e)) := by
  refine AC.of (L := [some (.ref a), some (.int hour)]) (j := 0) (by decide) rfl (Nat.le_of_ble_eq_true rfl) ?_
  refine AW.iload_n (n := 1) dX6_dinOf_0 rfl rfl ?_
  refine AW.if_lt (n := 4) (t := 12) dX6_dinOf_1 rfl rfl (fun h1 => ?_) (fun h1 => ?_)
  · refine AW.iconst (n := 13) (v := 0) dX6_dinOf_12 rfl rfl ?_
    refine AW.goto (t := 27) dX6_dinOf_13 rfl ?_
    refine AW.iret dX6_dinOf_27 rfl rfl (Nat.zero_le _) (Nat.zero_le _) ?_
    exact ⟨by simp [sDinOf, h1], rfl⟩
  · refine AW.aload_n (n := 5) dX6_dinOf_4 rfl rfl ?_
    refine AW.gi (n := 8) dX6_dinOf_5 fl_X6_24 ha.1 rfl rfl ?_
    refine AW.iconst (n := 9) (v := 1) dX6_dinOf_8 rfl rfl ?_
    refine AW.icmp_ge (n := 12) (t := 16) dX6_dinOf_9 rfl rfl (fun h9 => ?_) (fun h9 => ?_)
    · refine AW.aload_n (n := 17) dX6_dinOf_16 rfl rfl ?_
      refine AW.gr (n := 20) dX6_dinOf_17 fl_X6_43 ha.1 rfl rfl ?_
      refine AW.iload_n (n := 21) dX6_dinOf_20 rfl rfl ?_
      refine AW.aload_n (n := 22) dX6_dinOf_21 rfl rfl ?_
      refine AW.gi (n := 25) dX6_dinOf_22 fl_X6_24 ha.1 rfl rfl ?_
      refine AW.irem (n := 26) dX6_dinOf_25 (dn_ne h9) rfl ?_
      obtain ⟨j, hj, hjj⟩ := din_j hd h12 h1 h9
      refine AW.ia (n := 27) j dX6_dinOf_26 ha.2.2.2.2.2.2 hjj (by omega) (by decide) rfl ?_
      refine AW.iret dX6_dinOf_27 rfl rfl (Nat.zero_le _) (Nat.zero_le _) ?_
      exact ⟨by rw [sDinOf, if_neg h1, if_pos h9, hjj, cl_nI (show j < 2147483648 by omega)], rfl⟩
    · refine AW.iconst (n := 13) (v := 0) dX6_dinOf_12 rfl rfl ?_
      refine AW.goto (t := 27) dX6_dinOf_13 rfl ?_
      refine AW.iret dX6_dinOf_27 rfl rfl (Nat.zero_le _) (Nat.zero_le _) ?_
      exact ⟨by simp [sDinOf, h1, h9], rfl⟩
set_option maxHeartbeats 4000000 in
set_option maxRecDepth 100000 in
theorem c_X6_isIn {μ : Me} {e : Nat × (Nat → aC)} {a n : Nat} {s hour : Int32} (ha : sS a) (hn : μ a 3 = nI n) (h7 : n ≤ 7) : AC 1 0 0 mX6_isIn [.ref a, .int s, .int hour] (wS μ e) (a_eq (some (.int (b2i (sIsIn (μ a 3) (μ (a + 2)) s hour)))) (wS μ e)) := by
  refine AC.of (L := [some (.ref a), some (.int s), some (.int hour)]) (j := 0) (by decide) rfl (Nat.le_of_ble_eq_true rfl) ?_
  refine AW.aload_n (n := 1) dX6_isIn_0 rfl rfl ?_
  refine AW.iload_n (n := 2) dX6_isIn_1 rfl rfl ?_
  refine AW.ev1i (Mc := mX6_has) (n := 5) dX6_isIn_2 lk_X6_52 k_mX6_has ha.1 rfl rfl (c_X6_has ha) (Nat.le_of_ble_eq_true rfl) (by decide) (Nat.zero_le _) (Nat.zero_le _) rfl ?_
  refine AW.bif_eq (n := 8) (t := 35) dX6_isIn_5 rfl rfl (fun h5 => ?_) (fun h5 => ?_)
  · refine AW.iconst (n := 36) (v := 0) dX6_isIn_35 rfl rfl ?_
    refine AW.iret dX6_isIn_36 rfl rfl (Nat.zero_le _) (Nat.zero_le _) ?_
    exact ⟨by simp [sIsIn, sBit, b2i, h5], rfl⟩
  · refine AW.iload_n (n := 9) dX6_isIn_8 rfl rfl ?_
    refine AW.iconst (n := 10) (v := 0) dX6_isIn_9 rfl rfl ?_
    refine AW.bipush (n := 12) (v := 11) dX6_isIn_10 rfl rfl ?_
    refine AW.es3i (Mc := mX9_within) (n := 15) dX6_isIn_12 lk_X6_56 k_mX9_within (c_X9_within) (Nat.le_of_ble_eq_true rfl) (by decide) (Nat.zero_le _) (Nat.zero_le _) rfl ?_
    refine AW.bif_eq (n := 18) (t := 35) dX6_isIn_15 rfl rfl (fun h15 => ?_) (fun h15 => ?_)
    · refine AW.iconst (n := 36) (v := 0) dX6_isIn_35 rfl rfl ?_
      refine AW.iret dX6_isIn_36 rfl rfl (Nat.zero_le _) (Nat.zero_le _) ?_
      exact ⟨by simp [sIsIn, sBit, b2i, h5, h15], rfl⟩
    · obtain ⟨j, hj, rfl⟩ := sHas_j hn h7 h5
      have hjc := cl_nI (show j < 2147483648 by omega)
      refine AW.aload_n (n := 19) dX6_isIn_18 rfl rfl ?_
      refine AW.gr (n := 22) dX6_isIn_19 fl_X6_31 ha.1 rfl rfl ?_
      refine AW.iload_n (n := 23) dX6_isIn_22 rfl rfl ?_
      refine AW.ia (n := 24) j dX6_isIn_23 ha.2.2.1 rfl (by omega) (by decide) rfl ?_
      refine AW.iload_n (n := 25) dX6_isIn_24 rfl rfl ?_
      refine AW.ishr (n := 26) dX6_isIn_25 rfl ?_
      refine AW.iconst (n := 27) (v := 1) dX6_isIn_26 rfl rfl ?_
      refine AW.iand (n := 28) dX6_isIn_27 rfl ?_
      refine AW.if_eq (n := 31) (t := 35) dX6_isIn_28 rfl rfl (fun h28 => ?_) (fun h28 => ?_)
      · refine AW.iconst (n := 36) (v := 0) dX6_isIn_35 rfl rfl ?_
        refine AW.iret dX6_isIn_36 rfl rfl (Nat.zero_le _) (Nat.zero_le _) ?_
        exact ⟨by simp [sIsIn, sBit, b2i, h5, h15, h28, hjc], rfl⟩
      · refine AW.iconst (n := 32) (v := 1) dX6_isIn_31 rfl rfl ?_
        refine AW.goto (t := 36) dX6_isIn_32 rfl ?_
        refine AW.iret dX6_isIn_36 rfl rfl (Nat.zero_le _) (Nat.zero_le _) ?_
        exact ⟨by simp [sIsIn, sBit, b2i, h5, h15, h28, hjc], rfl⟩
set_option maxHeartbeats 4000000 in
set_option maxRecDepth 100000 in
theorem c_X6_secondsAtDoor {μ : Me} {e : Nat × (Nat → aC)} {a : Nat} {rg : Bool} {bc : Int32} (ha : sS a) : AC 0 0 0 mX6_secondsAtDoor [.ref a, .int (b2i rg), .int bc] (wS μ e) (a_eq (some (.int (sDoor μ a rg bc))) (wS μ e)) := by
  refine AC.of (L := [some (.ref a), some (.int (b2i rg)), some (.int bc)]) (j := 0) (by decide) rfl (Nat.le_of_ble_eq_true rfl) ?_
  refine AW.iload_n (n := 1) dX6_secondsAtDoor_0 rfl rfl ?_
  refine AW.bif_eq (n := 4) (t := 11) dX6_secondsAtDoor_1 rfl rfl (fun h1 => ?_) (fun h1 => ?_)
  · refine AW.iconst (n := 12) (v := 0) dX6_secondsAtDoor_11 rfl rfl ?_
    refine AW.iload_n (n := 13) dX6_secondsAtDoor_12 rfl rfl ?_
    refine AW.iconst (n := 14) (v := 2) dX6_secondsAtDoor_13 rfl rfl ?_
    refine AW.icmp_ne (n := 17) (t := 21) dX6_secondsAtDoor_14 rfl rfl (fun h14 => ?_) (fun h14 => ?_)
    · refine AW.aload_n (n := 22) dX6_secondsAtDoor_21 rfl rfl ?_
      refine AW.gi (n := 25) dX6_secondsAtDoor_22 fl_X6_18 ha.1 rfl rfl ?_
      refine AW.iadd (n := 26) dX6_secondsAtDoor_25 rfl ?_
      refine AW.iret dX6_secondsAtDoor_26 rfl rfl (Nat.zero_le _) (Nat.zero_le _) ?_
      exact ⟨by simp [sDoor, h1, h14], rfl⟩
    · refine AW.iconst (n := 18) (v := 0) dX6_secondsAtDoor_17 rfl rfl ?_
      refine AW.goto (t := 25) dX6_secondsAtDoor_18 rfl ?_
      refine AW.iadd (n := 26) dX6_secondsAtDoor_25 rfl ?_
      refine AW.iret dX6_secondsAtDoor_26 rfl rfl (Nat.zero_le _) (Nat.zero_le _) ?_
      exact ⟨by simp [sDoor, h1, h14], rfl⟩
  · refine AW.aload_n (n := 5) dX6_secondsAtDoor_4 rfl rfl ?_
    refine AW.gi (n := 8) dX6_secondsAtDoor_5 fl_X6_9 ha.1 rfl rfl ?_
    refine AW.goto (t := 12) dX6_secondsAtDoor_8 rfl ?_
    refine AW.iload_n (n := 13) dX6_secondsAtDoor_12 rfl rfl ?_
    refine AW.iconst (n := 14) (v := 2) dX6_secondsAtDoor_13 rfl rfl ?_
    refine AW.icmp_ne (n := 17) (t := 21) dX6_secondsAtDoor_14 rfl rfl (fun h14 => ?_) (fun h14 => ?_)
    · refine AW.aload_n (n := 22) dX6_secondsAtDoor_21 rfl rfl ?_
      refine AW.gi (n := 25) dX6_secondsAtDoor_22 fl_X6_18 ha.1 rfl rfl ?_
      refine AW.iadd (n := 26) dX6_secondsAtDoor_25 rfl ?_
      refine AW.iret dX6_secondsAtDoor_26 rfl rfl (Nat.zero_le _) (Nat.zero_le _) ?_
      exact ⟨by simp [sDoor, h1, h14], rfl⟩
    · refine AW.iconst (n := 18) (v := 0) dX6_secondsAtDoor_17 rfl rfl ?_
      refine AW.goto (t := 25) dX6_secondsAtDoor_18 rfl ?_
      refine AW.iadd (n := 26) dX6_secondsAtDoor_25 rfl ?_
      refine AW.iret dX6_secondsAtDoor_26 rfl rfl (Nat.zero_le _) (Nat.zero_le _) ?_
      exact ⟨by simp [sDoor, h1, h14], rfl⟩
set_option maxHeartbeats 4000000 in
set_option maxRecDepth 100000 in
theorem c_X6_secondsBetween {μ : Me} {e : Nat × (Nat → aC)} {a : Nat} {x y : Int32} (ha : sS a) : AC 1 0 0 mX6_secondsBetween [.ref a, .int x, .int y] (wS μ e) (a_eq (some (.int (sBetw μ a x y))) (wS μ e)) := by
  refine AC.of (L := [some (.ref a), some (.int x), some (.int y)]) (j := 0) (by decide) rfl (Nat.le_of_ble_eq_true rfl) ?_
  refine AW.iload_n (n := 1) dX6_secondsBetween_0 rfl rfl ?_
  refine AW.iload_n (n := 2) dX6_secondsBetween_1 rfl rfl ?_
  refine AW.isub (n := 3) dX6_secondsBetween_2 rfl ?_
  refine AW.mabsS (n := 6) dX6_secondsBetween_3 lj_X6_68 jm_abs_s jm_i jm_abs_c (Nat.le_of_ble_eq_true rfl) (by decide) (Nat.zero_le _) (Nat.zero_le _) rfl ?_
  refine AW.aload_n (n := 7) dX6_secondsBetween_6 rfl rfl ?_
  refine AW.gi (n := 10) dX6_secondsBetween_7 fl_X6_15 ha.1 rfl rfl ?_
  refine AW.imul (n := 11) dX6_secondsBetween_10 rfl ?_
  refine AW.iret dX6_secondsBetween_11 rfl rfl (Nat.zero_le _) (Nat.zero_le _) ?_
  exact ⟨rfl, rfl⟩
set_option maxHeartbeats 4000000 in
set_option maxRecDepth 100000 in
theorem c_X6_meets {μ : Me} {e : Nat × (Nat → aC)} {a n dn : Nat} {s sec tk : Int32} {rg : Bool} (ha : sS a) (ho : sOk μ a n dn) : AC 2 0 0 mX6_meets [.ref a, .int s, .int sec, .int (b2i rg), .int tk] (wS μ e) (a_eq (some (.int (sMeets μ a s sec rg tk))) (wS μ e)) := by
  refine AC.of (L := [some (.ref a), some (.int s), some (.int sec), some (.int (b2i rg)), some (.int tk), none]) (j := 1) (by decide) rfl (Nat.le_of_ble_eq_true rfl) ?_
  refine AW.aload_n (n := 1) dX6_meets_0 rfl rfl ?_
  refine AW.iload_n (n := 2) dX6_meets_1 rfl rfl ?_
  refine AW.ev1i (Mc := mX6_has) (n := 5) dX6_meets_2 lk_X6_52 k_mX6_has ha.1 rfl rfl (c_X6_has ha) (Nat.le_of_ble_eq_true rfl) (by decide) (Nat.zero_le _) (Nat.zero_le _) rfl ?_
  refine AW.bif_ne (n := 8) (t := 10) dX6_meets_5 rfl rfl (fun h5 => ?_) (fun h5 => ?_)
  · obtain ⟨j, hj, rfl⟩ := sHas_j ho.1 ho.2.1 h5
    have hjc := cl_nI (show j < 2147483648 by have := ho.2.1; omega)
    have h7 := ho.2.1
    refine AW.iload_n (n := 11) dX6_meets_10 rfl rfl ?_
    refine AW.sipush (n := 14) (v := 3600) dX6_meets_11 rfl rfl ?_
    refine AW.idiv (n := 15) dX6_meets_14 (by decide) rfl ?_
    refine AW.ist5 (n := 17) dX6_meets_15 (Nat.le_of_ble_eq_true rfl) rfl rfl ?_
    refine AW.iload_n (n := 18) dX6_meets_17 rfl rfl ?_
    refine AW.bif_eq (n := 21) (t := 48) dX6_meets_18 rfl rfl (fun h18 => ?_) (fun h18 => ?_)
    · refine AW.aload_n (n := 49) dX6_meets_48 rfl rfl ?_
      refine AW.aload_n (n := 50) dX6_meets_49 rfl rfl ?_
      refine AW.gr (n := 53) dX6_meets_50 fl_X6_37 ha.1 rfl rfl ?_
      refine AW.iload_n (n := 54) dX6_meets_53 rfl rfl ?_
      refine AW.ia (n := 55) j dX6_meets_54 ha.2.2.2.2.1 rfl (by omega) (by decide) rfl ?_
      refine AW.iload (n := 57) dX6_meets_55 rfl rfl ?_
      refine AW.ev2i (Mc := mX6_isIn) (n := 60) dX6_meets_57 lk_X6_60 k_mX6_isIn ha.1 rfl rfl (c_X6_isIn ha ho.1 ho.2.1) (Nat.le_of_ble_eq_true rfl) (by decide) (Nat.zero_le _) (Nat.zero_le _) rfl ?_
      refine AW.bif_eq (n := 63) (t := 78) dX6_meets_60 rfl rfl (fun h60 => ?_) (fun h60 => ?_)
      · refine AW.iconst (n := 79) (v := 4) dX6_meets_78 rfl rfl ?_
        refine AW.iret dX6_meets_79 rfl rfl (Nat.zero_le _) (Nat.zero_le _) ?_
        exact ⟨by simp [sMeets, h5, h18, h60, hjc], rfl⟩
      · refine AW.iload (n := 65) dX6_meets_63 rfl rfl ?_
        refine AW.aload_n (n := 66) dX6_meets_65 rfl rfl ?_
        refine AW.gr (n := 69) dX6_meets_66 fl_X6_40 ha.1 rfl rfl ?_
        refine AW.iload_n (n := 70) dX6_meets_69 rfl rfl ?_
        refine AW.ia (n := 71) j dX6_meets_70 ha.2.2.2.2.2.1 rfl (by omega) (by decide) rfl ?_
        refine AW.icmp_ge (n := 74) (t := 78) dX6_meets_71 rfl rfl (fun h71 => ?_) (fun h71 => ?_)
        · refine AW.iconst (n := 79) (v := 4) dX6_meets_78 rfl rfl ?_
          refine AW.iret dX6_meets_79 rfl rfl (Nat.zero_le _) (Nat.zero_le _) ?_
          exact ⟨by simp [sMeets, h5, h18, h60, h71, hjc], rfl⟩
        · refine AW.iconst (n := 75) (v := 3) dX6_meets_74 rfl rfl ?_
          refine AW.goto (t := 79) dX6_meets_75 rfl ?_
          refine AW.iret dX6_meets_79 rfl rfl (Nat.zero_le _) (Nat.zero_le _) ?_
          exact ⟨by simp [sMeets, h5, h18, h60, h71, hjc], rfl⟩
    · refine AW.aload_n (n := 22) dX6_meets_21 rfl rfl ?_
      refine AW.iload_n (n := 23) dX6_meets_22 rfl rfl ?_
      refine AW.iload (n := 25) dX6_meets_23 rfl rfl ?_
      refine AW.ev2i (Mc := mX6_isIn) (n := 28) dX6_meets_25 lk_X6_60 k_mX6_isIn ha.1 rfl rfl (c_X6_isIn ha ho.1 ho.2.1) (Nat.le_of_ble_eq_true rfl) (by decide) (Nat.zero_le _) (Nat.zero_le _) rfl ?_
      refine AW.bif_eq (n := 31) (t := 48) dX6_meets_28 rfl rfl (fun h28 => ?_) (fun h28 => ?_)
      · refine AW.aload_n (n := 49) dX6_meets_48 rfl rfl ?_
        refine AW.aload_n (n := 50) dX6_meets_49 rfl rfl ?_
        refine AW.gr (n := 53) dX6_meets_50 fl_X6_37 ha.1 rfl rfl ?_
        refine AW.iload_n (n := 54) dX6_meets_53 rfl rfl ?_
        refine AW.ia (n := 55) j dX6_meets_54 ha.2.2.2.2.1 rfl (by omega) (by decide) rfl ?_
        refine AW.iload (n := 57) dX6_meets_55 rfl rfl ?_
        refine AW.ev2i (Mc := mX6_isIn) (n := 60) dX6_meets_57 lk_X6_60 k_mX6_isIn ha.1 rfl rfl (c_X6_isIn ha ho.1 ho.2.1) (Nat.le_of_ble_eq_true rfl) (by decide) (Nat.zero_le _) (Nat.zero_le _) rfl ?_
        refine AW.bif_eq (n := 63) (t := 78) dX6_meets_60 rfl rfl (fun h60 => ?_) (fun h60 => ?_)
        · refine AW.iconst (n := 79) (v := 4) dX6_meets_78 rfl rfl ?_
          refine AW.iret dX6_meets_79 rfl rfl (Nat.zero_le _) (Nat.zero_le _) ?_
          exact ⟨by simp [sMeets, h5, h18, h28, h60, hjc], rfl⟩
        · refine AW.iload (n := 65) dX6_meets_63 rfl rfl ?_
          refine AW.aload_n (n := 66) dX6_meets_65 rfl rfl ?_
          refine AW.gr (n := 69) dX6_meets_66 fl_X6_40 ha.1 rfl rfl ?_
          refine AW.iload_n (n := 70) dX6_meets_69 rfl rfl ?_
          refine AW.ia (n := 71) j dX6_meets_70 ha.2.2.2.2.2.1 rfl (by omega) (by decide) rfl ?_
          refine AW.icmp_ge (n := 74) (t := 78) dX6_meets_71 rfl rfl (fun h71 => ?_) (fun h71 => ?_)
          · refine AW.iconst (n := 79) (v := 4) dX6_meets_78 rfl rfl ?_
            refine AW.iret dX6_meets_79 rfl rfl (Nat.zero_le _) (Nat.zero_le _) ?_
            exact ⟨by simp [sMeets, h5, h18, h28, h60, h71, hjc], rfl⟩
          · refine AW.iconst (n := 75) (v := 3) dX6_meets_74 rfl rfl ?_
            refine AW.goto (t := 79) dX6_meets_75 rfl ?_
            refine AW.iret dX6_meets_79 rfl rfl (Nat.zero_le _) (Nat.zero_le _) ?_
            exact ⟨by simp [sMeets, h5, h18, h28, h60, h71, hjc], rfl⟩
      · refine AW.aload_n (n := 32) dX6_meets_31 rfl rfl ?_
        refine AW.iload (n := 34) dX6_meets_32 rfl rfl ?_
        refine AW.ev1i (Mc := mX6_dinOf) (n := 37) dX6_meets_34 lk_X6_64 k_mX6_dinOf ha.1 rfl rfl (c_X6_dinOf ha ho.2.2.1 ho.2.2.2) (Nat.le_of_ble_eq_true rfl) (by decide) (Nat.zero_le _) (Nat.zero_le _) rfl ?_
        refine AW.aload_n (n := 38) dX6_meets_37 rfl rfl ?_
        refine AW.gr (n := 41) dX6_meets_38 fl_X6_34 ha.1 rfl rfl ?_
        refine AW.iload_n (n := 42) dX6_meets_41 rfl rfl ?_
        refine AW.ia (n := 43) j dX6_meets_42 ha.2.2.2.1 rfl (by omega) (by decide) rfl ?_
        refine AW.icmp_ge (n := 46) (t := 48) dX6_meets_43 rfl rfl (fun h43 => ?_) (fun h43 => ?_)
        · refine AW.aload_n (n := 49) dX6_meets_48 rfl rfl ?_
          refine AW.aload_n (n := 50) dX6_meets_49 rfl rfl ?_
          refine AW.gr (n := 53) dX6_meets_50 fl_X6_37 ha.1 rfl rfl ?_
          refine AW.iload_n (n := 54) dX6_meets_53 rfl rfl ?_
          refine AW.ia (n := 55) j dX6_meets_54 ha.2.2.2.2.1 rfl (by omega) (by decide) rfl ?_
          refine AW.iload (n := 57) dX6_meets_55 rfl rfl ?_
          refine AW.ev2i (Mc := mX6_isIn) (n := 60) dX6_meets_57 lk_X6_60 k_mX6_isIn ha.1 rfl rfl (c_X6_isIn ha ho.1 ho.2.1) (Nat.le_of_ble_eq_true rfl) (by decide) (Nat.zero_le _) (Nat.zero_le _) rfl ?_
          refine AW.bif_eq (n := 63) (t := 78) dX6_meets_60 rfl rfl (fun h60 => ?_) (fun h60 => ?_)
          · refine AW.iconst (n := 79) (v := 4) dX6_meets_78 rfl rfl ?_
            refine AW.iret dX6_meets_79 rfl rfl (Nat.zero_le _) (Nat.zero_le _) ?_
            exact ⟨by simp [sMeets, h5, h18, h28, h43, h60, hjc], rfl⟩
          · refine AW.iload (n := 65) dX6_meets_63 rfl rfl ?_
            refine AW.aload_n (n := 66) dX6_meets_65 rfl rfl ?_
            refine AW.gr (n := 69) dX6_meets_66 fl_X6_40 ha.1 rfl rfl ?_
            refine AW.iload_n (n := 70) dX6_meets_69 rfl rfl ?_
            refine AW.ia (n := 71) j dX6_meets_70 ha.2.2.2.2.2.1 rfl (by omega) (by decide) rfl ?_
            refine AW.icmp_ge (n := 74) (t := 78) dX6_meets_71 rfl rfl (fun h71 => ?_) (fun h71 => ?_)
            · refine AW.iconst (n := 79) (v := 4) dX6_meets_78 rfl rfl ?_
              refine AW.iret dX6_meets_79 rfl rfl (Nat.zero_le _) (Nat.zero_le _) ?_
              exact ⟨by simp [sMeets, h5, h18, h28, h43, h60, h71, hjc], rfl⟩
            · refine AW.iconst (n := 75) (v := 3) dX6_meets_74 rfl rfl ?_
              refine AW.goto (t := 79) dX6_meets_75 rfl ?_
              refine AW.iret dX6_meets_79 rfl rfl (Nat.zero_le _) (Nat.zero_le _) ?_
              exact ⟨by simp [sMeets, h5, h18, h28, h43, h60, h71, hjc], rfl⟩
        · refine AW.iconst (n := 47) (v := 2) dX6_meets_46 rfl rfl ?_
          refine AW.iret dX6_meets_47 rfl rfl (Nat.zero_le _) (Nat.zero_le _) ?_
          exact ⟨by simp [sMeets, h5, h18, h28, h43, hjc], rfl⟩
  · refine AW.iconst (n := 9) (v := 4) dX6_meets_8 rfl rfl ?_
    refine AW.iret dX6_meets_9 rfl rfl (Nat.zero_le _) (Nat.zero_le _) ?_
    exact ⟨by simp [sMeets, h5], rfl⟩
set_option maxHeartbeats 4000000 in
set_option maxRecDepth 100000 in
theorem c_X1_counts {μ : Me} {e : Nat × (Nat → aC)} {a j : Nat} (ha : sD a) (hj : j < 7) : AC 0 0 0 mX1_counts [.ref a, .int (nI j)] (wS μ e) (a_eq (some (.int (b2i (sCounts (μ (a + 1) j))))) (wS μ e)) := by
  refine AC.of (L := [some (.ref a), some (.int (nI j))]) (j := 0) (by decide) rfl (Nat.le_of_ble_eq_true rfl) ?_
  refine AW.aload_n (n := 1) dX1_counts_0 rfl rfl ?_
  refine AW.gr (n := 4) dX1_counts_1 fl_X1_9 ha.1 rfl rfl ?_
  refine AW.iload_n (n := 5) dX1_counts_4 rfl rfl ?_
  refine AW.ia (n := 6) _ dX1_counts_5 ha.2.1 rfl (by omega) (by decide) rfl ?_
  refine AW.iconst (n := 7) (v := 1) dX1_counts_6 rfl rfl ?_
  refine AW.icmp_eq (n := 10) (t := 20) dX1_counts_7 rfl rfl (fun h7 => ?_) (fun h7 => ?_)
  · refine AW.iconst (n := 21) (v := 1) dX1_counts_20 rfl rfl ?_
    refine AW.goto (t := 25) dX1_counts_21 rfl ?_
    refine AW.iret dX1_counts_25 rfl rfl (Nat.zero_le _) (Nat.zero_le _) ?_
    exact ⟨by simp [sCounts, b2i, h7], rfl⟩
  · refine AW.aload_n (n := 11) dX1_counts_10 rfl rfl ?_
    refine AW.gr (n := 14) dX1_counts_11 fl_X1_9 ha.1 rfl rfl ?_
    refine AW.iload_n (n := 15) dX1_counts_14 rfl rfl ?_
    refine AW.ia (n := 16) _ dX1_counts_15 ha.2.1 rfl (by omega) (by decide) rfl ?_
    refine AW.iconst (n := 17) (v := 4) dX1_counts_16 rfl rfl ?_
    refine AW.icmp_ne (n := 20) (t := 24) dX1_counts_17 rfl rfl (fun h17 => ?_) (fun h17 => ?_)
    · refine AW.iconst (n := 25) (v := 0) dX1_counts_24 rfl rfl ?_
      refine AW.iret dX1_counts_25 rfl rfl (Nat.zero_le _) (Nat.zero_le _) ?_
      exact ⟨by simp [sCounts, b2i, h7, h17], rfl⟩
    · refine AW.iconst (n := 21) (v := 1) dX1_counts_20 rfl rfl ?_
      refine AW.goto (t := 25) dX1_counts_21 rfl ?_
      refine AW.iret dX1_counts_25 rfl rfl (Nat.zero_le _) (Nat.zero_le _) ?_
      exact ⟨by simp [sCounts, b2i, h7, h17], rfl⟩
end
section
theorem lt_lit {x : Int32} {z b : Nat} (hz : x = nI z) (h1 : z < 2147483648) (hb : b < 2147483648) (h : x < nI b) : z < b := by subst hz; exact (nI_ltI h1 hb).mp h
theorem nlt_lit {x : Int32} {z b : Nat} (hz : x = nI z) (h1 : z < 2147483648) (hb : b < 2147483648) (h : ¬ x < nI b) : b ≤ z := by subst hz; exact Nat.le_of_not_lt (fun q => h ((nI_ltI h1 hb).mpr q))
theorem le_lit {x : Int32} {z b : Nat} (hz : x = nI z) (h1 : z < 2147483648) (hb : b < 2147483648) (h : nI b ≤ x) : b ≤ z := by subst hz; exact (nI_leI hb h1).mp h
theorem nle_lit {x : Int32} {z b : Nat} (hz : x = nI z) (h1 : z < 2147483648) (hb : b < 2147483648) (h : ¬ nI b ≤ x) : z < b := by subst hz; exact Nat.lt_of_not_le (fun q => h ((nI_leI hb h1).mpr q))
theorem mu_self (μ : Me) (a j : Nat) : mu μ a j (μ a j) = μ := by
  funext b i
  rw [mu_at]
  split
  · next h => rw [h.1, h.2]
  · rfl
theorem mu_mu (μ : Me) (a j : Nat) (x y : Int32) : mu (mu μ a j x) a j y = mu μ a j y := by
  funext b i
  simp only [mu_at]
  split <;> simp_all
theorem mu_self' {μ : Me} {a j : Nat} {x : Int32} (h : μ a j = x) : mu μ a j x = μ := by rw [← h]; exact mu_self μ a j
def sBAdd (μ : Me) (z : Nat) (s is : Int32) : Me := mu (mu (mu μ 124 z s) 125 z is) 123 2 (nI (z + 1))
def sSAdd (μ : Me) (z : Nat) (s : Int32) (b : Bool) : Me := mu (mu (mu μ 121 z s) 122 z (b2i b)) 120 2 (nI (z + 1))
def sTAdd (μ : Me) (z : Nat) (x : Int32) : Me := mu (mu μ 2 z x) 1 1 (nI (z + 1))
def sWrong (f g h : Nat → Int32) : Nat → Nat → Int32
  | 0, _ => -1
  | m + 1, i => if f (g i).toNatClampNeg = h i then sWrong f g h m (i + 1) else nI i
def sFits (x : Int32) (g h : Nat → Int32) : Nat → Nat → Bool
  | 0, _ => true
  | m + 1, i => if b2i (sBit x (g i)) = h i then sFits x g h m (i + 1) else false
def sWhich (f : Nat → Int32) (kind : Int32) : Nat → Int32
  | 0 => 0
  | i + 1 => if f i = kind then sWhich f kind i ||| ((1 : Int32) <<< (nI i &&& 31)) else sWhich f kind i
def sBeg (μ : Me) (a : Nat) : Nat → Me
  | 0 => μ
  | i + 1 => mu (mu (sBeg μ a i) (a + 1) i 1) (a + 2) i 0
def sBegin (μ : Me) (a : Nat) : Me := mu (mu (mu (sBeg μ a 7) a 2 0) a 3 0) a 4 0
def sCopy (μ : Me) (a b : Nat) : Me :=
  let μ1 := mr μ (a + 1) (va_cpy (μ (b + 1)) (μ (a + 1)) 0 0 7)
  let μ2 := mr μ1 (a + 2) (va_cpy (μ1 (b + 2)) (μ1 (a + 2)) 0 0 7)
  let μ3 := mu μ2 a 2 (μ2 b 2)
  let μ4 := mu μ3 a 3 (μ3 b 3)
  mu μ4 a 4 (μ4 b 4)
theorem AW.eqL {scr : Option (Nat × (Nat → Int32))} {k mc ms : Nat} {M : aM} {c0 s0 pc : Nat} {L L' : List (Option Value)} {st : List Value} {σ : aS} {P : Option Value → aS → Prop} (hL : L = L') (h : AW scr k mc ms M c0 s0 pc L' st σ P) : AW scr k mc ms M c0 s0 pc L st σ P := by rw [hL]; exact h
theorem AW.eqS {scr : Option (Nat × (Nat → Int32))} {k mc ms : Nat} {M : aM} {c0 s0 pc : Nat} {L : List (Option Value)} {st : List Value} {σ σ' : aS} {P : Option Value → aS → Prop} (hL : σ = σ') (h : AW scr k mc ms M c0 s0 pc L st σ' P) : AW scr k mc ms M c0 s0 pc L st σ P := by rw [hL]; exact h
set_option maxHeartbeats 4000000 in
set_option maxRecDepth 100000 in
theorem c_X0_forget {μ : Me} {e : Nat × (Nat → aC)}   : AC 0 0 0 mX0_forget [.ref 123] (wS μ e) (a_eq none (wS (mu μ 123 2 0) e)) := by
  refine AC.of (L := [some (.ref 123)]) (j := 0) (by decide) rfl (Nat.le_of_ble_eq_true rfl) ?_
  refine AW.aload_n (n := 1) dX0_forget_0 rfl rfl ?_
  refine AW.iconst (n := 2) (v := 0) dX0_forget_1 rfl rfl ?_
  refine AW.pi (n := 5) dX0_forget_2 fp_X0_18 s_123 rfl ⟨rfl, rfl⟩ rfl ?_
  refine AW.ret dX0_forget_5 rfl (Nat.zero_le _) (Nat.zero_le _) ?_
  exact ⟨rfl, rfl⟩
set_option maxHeartbeats 4000000 in
set_option maxRecDepth 100000 in
theorem c_X3_forget {μ : Me} {e : Nat × (Nat → aC)}   : AC 0 0 0 mX3_forget [.ref 28] (wS μ e) (a_eq none (wS (mu μ 28 2 0) e)) := by
  refine AC.of (L := [some (.ref 28)]) (j := 0) (by decide) rfl (Nat.le_of_ble_eq_true rfl) ?_
  refine AW.aload_n (n := 1) dX3_forget_0 rfl rfl ?_
  refine AW.iconst (n := 2) (v := 0) dX3_forget_1 rfl rfl ?_
  refine AW.pi (n := 5) dX3_forget_2 fp_X3_21 s_28 rfl ⟨rfl, rfl⟩ rfl ?_
  refine AW.ret dX3_forget_5 rfl (Nat.zero_le _) (Nat.zero_le _) ?_
  exact ⟨rfl, rfl⟩
set_option maxHeartbeats 4000000 in
set_option maxRecDepth 100000 in
theorem c_X5_forget {μ : Me} {e : Nat × (Nat → aC)}   : AC 0 0 0 mX5_forget [.ref 120] (wS μ e) (a_eq none (wS (mu μ 120 2 0) e)) := by
  refine AC.of (L := [some (.ref 120)]) (j := 0) (by decide) rfl (Nat.le_of_ble_eq_true rfl) ?_
  refine AW.aload_n (n := 1) dX5_forget_0 rfl rfl ?_
  refine AW.iconst (n := 2) (v := 0) dX5_forget_1 rfl rfl ?_
  refine AW.pi (n := 5) dX5_forget_2 fp_X5_19 s_120 rfl ⟨rfl, rfl⟩ rfl ?_
  refine AW.ret dX5_forget_5 rfl (Nat.zero_le _) (Nat.zero_le _) ?_
  exact ⟨rfl, rfl⟩
set_option maxHeartbeats 4000000 in
set_option maxRecDepth 100000 in
theorem c_X7_empty {μ : Me} {e : Nat × (Nat → aC)}   : AC 0 0 0 mX7_empty [.ref 1] (wS μ e) (a_eq none (wS (mu μ 1 1 0) e)) := by
  refine AC.of (L := [some (.ref 1)]) (j := 0) (by decide) rfl (Nat.le_of_ble_eq_true rfl) ?_
  refine AW.aload_n (n := 1) dX7_empty_0 rfl rfl ?_
  refine AW.iconst (n := 2) (v := 0) dX7_empty_1 rfl rfl ?_
  refine AW.pi (n := 5) dX7_empty_2 fp_X7_15 s_1 rfl ⟨rfl, rfl⟩ rfl ?_
  refine AW.ret dX7_empty_5 rfl (Nat.zero_le _) (Nat.zero_le _) ?_
  exact ⟨rfl, rfl⟩
set_option maxHeartbeats 4000000 in
set_option maxRecDepth 100000 in
theorem c_X0_add {μ : Me} {e : Nat × (Nat → aC)} {z : Nat} {s is : Int32} (hz : μ 123 2 = nI z) (hz9 : z ≤ 20) : AC 0 0 0 mX0_add [.ref 123, .int s, .int is] (wS μ e) (a_eq (some (.int (b2i (decide (z < 20))))) (wS (if z < 20 then sBAdd μ z s is else μ) e)) := by
  refine AC.of (L := [some (.ref 123), some (.int s), some (.int is)]) (j := 0) (by decide) rfl (Nat.le_of_ble_eq_true rfl) ?_
  refine AW.aload_n (n := 1) dX0_add_0 rfl rfl ?_
  refine AW.gi (n := 4) dX0_add_1 fl_X0_18 s_123 rfl rfl ?_
  refine AW.bipush (n := 6) (v := 20) dX0_add_4 rfl rfl ?_
  refine AW.icmp_lt (n := 9) (t := 11) dX0_add_6 rfl rfl (fun h6 => ?_) (fun h6 => ?_)
  · have hz1 := lt_lit (b := 20) hz (by omega) (by omega) h6
    refine AW.aload_n (n := 12) dX0_add_11 rfl rfl ?_
    refine AW.gr (n := 15) dX0_add_12 fl_X0_9 s_123 rfl rfl ?_
    refine AW.aload_n (n := 16) dX0_add_15 rfl rfl ?_
    refine AW.gi (n := 19) dX0_add_16 fl_X0_18 s_123 rfl rfl ?_
    refine AW.iload_n (n := 20) dX0_add_19 rfl rfl ?_
    refine AW.is (n := 21) z dX0_add_20 s_124 (by simp [mu_at, hz]) (by omega) (by decide) rfl ?_
    refine AW.aload_n (n := 22) dX0_add_21 rfl rfl ?_
    refine AW.gr (n := 25) dX0_add_22 fl_X0_15 s_123 rfl rfl ?_
    refine AW.aload_n (n := 26) dX0_add_25 rfl rfl ?_
    refine AW.gi (n := 29) dX0_add_26 fl_X0_18 s_123 rfl rfl ?_
    refine AW.iload_n (n := 30) dX0_add_29 rfl rfl ?_
    refine AW.is (n := 31) z dX0_add_30 s_125 (by simp [mu_at, hz]) (by omega) (by decide) rfl ?_
    refine AW.aload_n (n := 32) dX0_add_31 rfl rfl ?_
    refine AW.dup (n := 33) dX0_add_32 rfl rfl ?_
    refine AW.gi (n := 36) dX0_add_33 fl_X0_18 s_123 rfl rfl ?_
    refine AW.iconst (n := 37) (v := 1) dX0_add_36 rfl rfl ?_
    refine AW.iadd (n := 38) dX0_add_37 rfl ?_
    refine AW.pi (n := 41) dX0_add_38 fp_X0_18 s_123 rfl ⟨rfl, rfl⟩ rfl ?_
    refine AW.iconst (n := 42) (v := 1) dX0_add_41 rfl rfl ?_
    refine AW.iret dX0_add_42 rfl rfl (Nat.zero_le _) (Nat.zero_le _) ?_
    exact ⟨by simp [sBAdd, b2i, mu_at, nI_1, hz, hz1], by simp [sBAdd, b2i, mu_at, nI_1, hz, hz1]⟩
  · have hz1 := nlt_lit (b := 20) hz (by omega) (by omega) h6
    refine AW.iconst (n := 10) (v := 0) dX0_add_9 rfl rfl ?_
    refine AW.iret dX0_add_10 rfl rfl (Nat.zero_le _) (Nat.zero_le _) ?_
    exact ⟨by simp [sBAdd, b2i, mu_at, nI_1, hz, Nat.not_lt.mpr hz1], by simp [sBAdd, b2i, mu_at, nI_1, hz, Nat.not_lt.mpr hz1]⟩
set_option maxHeartbeats 4000000 in
set_option maxRecDepth 100000 in
theorem c_X5_add {μ : Me} {e : Nat × (Nat → aC)} {z : Nat} {s : Int32} {b : Bool} (hz : μ 120 2 = nI z) (hz9 : z ≤ 6) : AC 0 0 0 mX5_add [.ref 120, .int s, .int (b2i b)] (wS μ e) (a_eq (some (.int (b2i (decide (z < 6))))) (wS (if z < 6 then sSAdd μ z s b else μ) e)) := by
  refine AC.of (L := [some (.ref 120), some (.int s), some (.int (b2i b))]) (j := 0) (by decide) rfl (Nat.le_of_ble_eq_true rfl) ?_
  refine AW.aload_n (n := 1) dX5_add_0 rfl rfl ?_
  refine AW.gi (n := 4) dX5_add_1 fl_X5_19 s_120 rfl rfl ?_
  refine AW.bipush (n := 6) (v := 6) dX5_add_4 rfl rfl ?_
  refine AW.icmp_lt (n := 9) (t := 11) dX5_add_6 rfl rfl (fun h6 => ?_) (fun h6 => ?_)
  · have hz1 := lt_lit (b := 6) hz (by omega) (by omega) h6
    refine AW.aload_n (n := 12) dX5_add_11 rfl rfl ?_
    refine AW.gr (n := 15) dX5_add_12 fl_X5_9 s_120 rfl rfl ?_
    refine AW.aload_n (n := 16) dX5_add_15 rfl rfl ?_
    refine AW.gi (n := 19) dX5_add_16 fl_X5_19 s_120 rfl rfl ?_
    refine AW.iload_n (n := 20) dX5_add_19 rfl rfl ?_
    refine AW.is (n := 21) z dX5_add_20 s_121 (by simp [mu_at, hz]) (by omega) (by decide) rfl ?_
    refine AW.aload_n (n := 22) dX5_add_21 rfl rfl ?_
    refine AW.gr (n := 25) dX5_add_22 fl_X5_15 s_120 rfl rfl ?_
    refine AW.aload_n (n := 26) dX5_add_25 rfl rfl ?_
    refine AW.gi (n := 29) dX5_add_26 fl_X5_19 s_120 rfl rfl ?_
    refine AW.iload_n (n := 30) dX5_add_29 rfl rfl ?_
    refine AW.zs (n := 31) z dX5_add_30 s_122 (by simp [mu_at, hz]) (by omega) (by decide) nar_b2i rfl ?_
    refine AW.aload_n (n := 32) dX5_add_31 rfl rfl ?_
    refine AW.dup (n := 33) dX5_add_32 rfl rfl ?_
    refine AW.gi (n := 36) dX5_add_33 fl_X5_19 s_120 rfl rfl ?_
    refine AW.iconst (n := 37) (v := 1) dX5_add_36 rfl rfl ?_
    refine AW.iadd (n := 38) dX5_add_37 rfl ?_
    refine AW.pi (n := 41) dX5_add_38 fp_X5_19 s_120 rfl ⟨rfl, rfl⟩ rfl ?_
    refine AW.iconst (n := 42) (v := 1) dX5_add_41 rfl rfl ?_
    refine AW.iret dX5_add_42 rfl rfl (Nat.zero_le _) (Nat.zero_le _) ?_
    exact ⟨by simp [sSAdd, b2i, mu_at, nI_1, hz, hz1], by simp [sSAdd, b2i, mu_at, nI_1, hz, hz1]⟩
  · have hz1 := nlt_lit (b := 6) hz (by omega) (by omega) h6
    refine AW.iconst (n := 10) (v := 0) dX5_add_9 rfl rfl ?_
    refine AW.iret dX5_add_10 rfl rfl (Nat.zero_le _) (Nat.zero_le _) ?_
    exact ⟨by simp [sSAdd, b2i, mu_at, nI_1, hz, Nat.not_lt.mpr hz1], by simp [sSAdd, b2i, mu_at, nI_1, hz, Nat.not_lt.mpr hz1]⟩
set_option maxHeartbeats 4000000 in
set_option maxRecDepth 100000 in
theorem l_X0_firstWrong {μ : Me} {e : Nat × (Nat → aC)} {a z : Nat} (ha : sD a) (hz : μ 123 2 = nI z) (hz9 : z ≤ 20) (hv : ∀ i, i < z → ∃ j : Nat, j < 7 ∧ μ 124 i = nI j) : ∀ (m : Nat) (i : Nat), z - i < m → i ≤ z → AW none 0 0 0 mX0_firstWrong 0 0 2 [some (.ref 123), some (.ref a), some (.int (nI i))] [] (wS μ e) (a_eq (some (.int (sWrong (μ (a + 1)) (μ 124) (μ 125) (z - i) i))) (wS μ e)) := by
  intro m
  induction m with
  | zero => intro i hm; exact absurd hm (Nat.not_lt_zero _)
  | succ m ih =>
    intro i hm hc
    refine AW.iload_n (n := 3) dX0_firstWrong_2 rfl rfl ?_
    refine AW.aload_n (n := 4) dX0_firstWrong_3 rfl rfl ?_
    refine AW.gi (n := 7) dX0_firstWrong_4 fl_X0_18 s_123 rfl rfl ?_
    refine AW.icmp_ge (n := 10) (t := 38) dX0_firstWrong_7 rfl rfl (fun h7 => ?_) (fun h7 => ?_)
    · have hi : z ≤ i := le_lit (b := z) (x := nI i) rfl (by omega) (by omega) (by rw [← hz]; exact h7)
      refine AW.iconst (n := 39) (v := -1) dX0_firstWrong_38 rfl rfl ?_
      refine AW.iret dX0_firstWrong_39 rfl rfl (Nat.zero_le _) (Nat.zero_le _) ?_
      exact ⟨by rw [show z - i = 0 by omega]; rfl, rfl⟩
    · have hi : i < z := nle_lit (b := z) (x := nI i) rfl (by omega) (by omega) (by rw [← hz]; exact h7)
      obtain ⟨j, hj, hjj⟩ := hv i hi
      have hs : z - i = (z - (i + 1)) + 1 := by omega
      refine AW.aload_n (n := 11) dX0_firstWrong_10 rfl rfl ?_
      refine AW.gr (n := 14) dX0_firstWrong_11 fl_X0_22 ha.1 rfl rfl ?_
      refine AW.aload_n (n := 15) dX0_firstWrong_14 rfl rfl ?_
      refine AW.gr (n := 18) dX0_firstWrong_15 fl_X0_9 s_123 rfl rfl ?_
      refine AW.iload_n (n := 19) dX0_firstWrong_18 rfl rfl ?_
      refine AW.ia (n := 20) i dX0_firstWrong_19 s_124 rfl (by omega) (by decide) rfl ?_
      refine AW.ia (n := 21) j dX0_firstWrong_20 ha.2.1 hjj hj (by decide) rfl ?_
      refine AW.aload_n (n := 22) dX0_firstWrong_21 rfl rfl ?_
      refine AW.gr (n := 25) dX0_firstWrong_22 fl_X0_15 s_123 rfl rfl ?_
      refine AW.iload_n (n := 26) dX0_firstWrong_25 rfl rfl ?_
      refine AW.ia (n := 27) i dX0_firstWrong_26 s_125 rfl (by omega) (by decide) rfl ?_
      refine AW.icmp_eq (n := 30) (t := 32) dX0_firstWrong_27 rfl rfl (fun h27 => ?_) (fun h27 => ?_)
      · refine AW.inc2 (n := 35) (1) dX0_firstWrong_32 rfl (Nat.le_of_ble_eq_true rfl) rfl rfl ?_
        refine AW.goto (t := 2) dX0_firstWrong_35 rfl ?_
        rw [nI_1]
        have e9 : sWrong (μ (a + 1)) (μ 124) (μ 125) (z - i) i = sWrong (μ (a + 1)) (μ 124) (μ 125) (z - (i + 1)) (i + 1) := by rw [hs, sWrong, hjj, cl_nI (by omega), if_pos h27]
        rw [e9]
        exact ih (i + 1) (by omega) (by omega)
      · refine AW.iload_n (n := 31) dX0_firstWrong_30 rfl rfl ?_
        refine AW.iret dX0_firstWrong_31 rfl rfl (Nat.zero_le _) (Nat.zero_le _) ?_
        exact ⟨by rw [hs, sWrong, hjj, cl_nI (by omega), if_neg h27], rfl⟩
set_option maxHeartbeats 4000000 in
set_option maxRecDepth 100000 in
theorem c_X0_firstWrong {μ : Me} {e : Nat × (Nat → aC)} {a z : Nat} (ha : sD a) (hz : μ 123 2 = nI z) (hz9 : z ≤ 20) (hv : ∀ i, i < z → ∃ j : Nat, j < 7 ∧ μ 124 i = nI j) : AC 0 0 0 mX0_firstWrong [.ref 123, .ref a] (wS μ e) (a_eq (some (.int (sWrong (μ (a + 1)) (μ 124) (μ 125) z 0))) (wS μ e)) := by
  refine AC.of (L := [some (.ref 123), some (.ref a), none]) (j := 1) (by decide) rfl (Nat.le_of_ble_eq_true rfl) ?_
  refine AW.iconst (n := 1) (v := 0) dX0_firstWrong_0 rfl rfl ?_
  refine AW.ist2 (n := 2) dX0_firstWrong_1 (Nat.le_of_ble_eq_true rfl) rfl rfl ?_
  exact l_X0_firstWrong ha hz hz9 hv (z + 1) 0 (by omega) (Nat.zero_le _)
set_option maxHeartbeats 4000000 in
set_option maxRecDepth 100000 in
theorem l_X1_which {μ : Me} {e : Nat × (Nat → aC)} {a n : Nat} {kd : Int32} (ha : sD a) (h7 : n ≤ 7) : ∀ (m : Nat) (i : Nat), n - i < m → i ≤ n → AW none 0 0 0 mX1_which 0 0 5 [some (.ref a), some (.int kd), some (.int (nI n)), some (.int (sWhich (μ (a + 1)) kd i)), some (.int (nI i))] [] (wS μ e) (a_eq (some (.int (sWhich (μ (a + 1)) kd n))) (wS μ e)) := by
  intro m
  induction m with
  | zero => intro i hm; exact absurd hm (Nat.not_lt_zero _)
  | succ m ih =>
    intro i hm hc
    refine AW.iload (n := 7) dX1_which_5 rfl rfl ?_
    refine AW.iload_n (n := 8) dX1_which_7 rfl rfl ?_
    refine AW.icmp_ge (n := 11) (t := 42) dX1_which_8 rfl rfl (fun h8 => ?_) (fun h8 => ?_)
    · have hi : n ≤ i := le_lit (b := n) (x := nI i) rfl (by omega) (by omega) h8
      have he : i = n := by omega
      subst he
      refine AW.iload_n (n := 43) dX1_which_42 rfl rfl ?_
      refine AW.iret dX1_which_43 rfl rfl (Nat.zero_le _) (Nat.zero_le _) ?_
      exact ⟨rfl, rfl⟩
    · have hi : i < n := nle_lit (b := n) (x := nI i) rfl (by omega) (by omega) h8
      refine AW.iload (n := 13) dX1_which_11 rfl rfl ?_
      refine AW.bipush (n := 15) (v := 7) dX1_which_13 rfl rfl ?_
      refine AW.icmp_ge (n := 18) (t := 42) dX1_which_15 rfl rfl (fun h15 => ?_) (fun h15 => ?_)
      · exact absurd (le_lit (b := 7) (x := nI i) rfl (by omega) (by omega) h15) (by omega)
      · refine AW.aload_n (n := 19) dX1_which_18 rfl rfl ?_
        refine AW.gr (n := 22) dX1_which_19 fl_X1_9 ha.1 rfl rfl ?_
        refine AW.iload (n := 24) dX1_which_22 rfl rfl ?_
        refine AW.ia (n := 25) i dX1_which_24 ha.2.1 rfl (by omega) (by decide) rfl ?_
        refine AW.iload_n (n := 26) dX1_which_25 rfl rfl ?_
        refine AW.icmp_ne (n := 29) (t := 36) dX1_which_26 rfl rfl (fun h26 => ?_) (fun h26 => ?_)
        · refine AW.inc4 (n := 39) (1) dX1_which_36 rfl (Nat.le_of_ble_eq_true rfl) rfl rfl ?_
          refine AW.goto (t := 5) dX1_which_39 rfl ?_
          rw [nI_1]
          refine AW.eqL (by simp [sWhich, h26]) (ih (i + 1) (by omega) (by omega))
        · refine AW.iload_n (n := 30) dX1_which_29 rfl rfl ?_
          refine AW.iconst (n := 31) (v := 1) dX1_which_30 rfl rfl ?_
          refine AW.iload (n := 33) dX1_which_31 rfl rfl ?_
          refine AW.ishl (n := 34) dX1_which_33 rfl ?_
          refine AW.ior (n := 35) dX1_which_34 rfl ?_
          refine AW.ist3 (n := 36) dX1_which_35 (Nat.le_of_ble_eq_true rfl) rfl rfl ?_
          refine AW.inc4 (n := 39) (1) dX1_which_36 rfl (Nat.le_of_ble_eq_true rfl) rfl rfl ?_
          refine AW.goto (t := 5) dX1_which_39 rfl ?_
          rw [nI_1]
          refine AW.eqL (by simp [sWhich, h26]) (ih (i + 1) (by omega) (by omega))
set_option maxHeartbeats 4000000 in
set_option maxRecDepth 100000 in
theorem c_X1_which {μ : Me} {e : Nat × (Nat → aC)} {a n : Nat} {kd : Int32} (ha : sD a) (h7 : n ≤ 7) : AC 0 0 0 mX1_which [.ref a, .int kd, .int (nI n)] (wS μ e) (a_eq (some (.int (sWhich (μ (a + 1)) kd n))) (wS μ e)) := by
  refine AC.of (L := [some (.ref a), some (.int kd), some (.int (nI n)), none, none]) (j := 2) (by decide) rfl (Nat.le_of_ble_eq_true rfl) ?_
  refine AW.iconst (n := 1) (v := 0) dX1_which_0 rfl rfl ?_
  refine AW.ist3 (n := 2) dX1_which_1 (Nat.le_of_ble_eq_true rfl) rfl rfl ?_
  refine AW.iconst (n := 3) (v := 0) dX1_which_2 rfl rfl ?_
  refine AW.ist4 (n := 5) dX1_which_3 (Nat.le_of_ble_eq_true rfl) rfl rfl ?_
  exact l_X1_which ha h7 (n + 1) 0 (by omega) (Nat.zero_le _)
set_option maxHeartbeats 4000000 in
set_option maxRecDepth 100000 in
theorem c_X1_copy {μ : Me} {e : Nat × (Nat → aC)} {a b : Nat} (ha : sD a) (hb : sD b) : AC 1 0 0 mX1_copy [.ref a, .ref b] (wS μ e) (a_eq none (wS (sCopy μ a b) e)) := by
  refine AC.of (L := [some (.ref a), some (.ref b)]) (j := 0) (by decide) rfl (Nat.le_of_ble_eq_true rfl) ?_
  refine AW.aload_n (n := 1) dX1_copy_0 rfl rfl ?_
  refine AW.gr (n := 4) dX1_copy_1 fl_X1_9 hb.1 rfl rfl ?_
  refine AW.iconst (n := 5) (v := 0) dX1_copy_4 rfl rfl ?_
  refine AW.aload_n (n := 6) dX1_copy_5 rfl rfl ?_
  refine AW.gr (n := 9) dX1_copy_6 fl_X1_9 ha.1 rfl rfl ?_
  refine AW.iconst (n := 10) (v := 0) dX1_copy_9 rfl rfl ?_
  refine AW.bipush (n := 12) (v := 7) dX1_copy_10 rfl rfl ?_
  refine AW.cp (n := 15) 7 dX1_copy_12 lj_X1_31 js_n js_s js_i hb.2.1 ha.2.1 rfl (by decide) (by decide) (by decide) (Nat.le_of_ble_eq_true rfl) (by decide) rfl ?_
  refine AW.aload_n (n := 16) dX1_copy_15 rfl rfl ?_
  refine AW.gr (n := 19) dX1_copy_16 fl_X1_15 hb.1 rfl rfl ?_
  refine AW.iconst (n := 20) (v := 0) dX1_copy_19 rfl rfl ?_
  refine AW.aload_n (n := 21) dX1_copy_20 rfl rfl ?_
  refine AW.gr (n := 24) dX1_copy_21 fl_X1_15 ha.1 rfl rfl ?_
  refine AW.iconst (n := 25) (v := 0) dX1_copy_24 rfl rfl ?_
  refine AW.bipush (n := 27) (v := 7) dX1_copy_25 rfl rfl ?_
  refine AW.cp (n := 30) 7 dX1_copy_27 lj_X1_31 js_n js_s js_i hb.2.2 ha.2.2 rfl (by decide) (by decide) (by decide) (Nat.le_of_ble_eq_true rfl) (by decide) rfl ?_
  refine AW.aload_n (n := 31) dX1_copy_30 rfl rfl ?_
  refine AW.aload_n (n := 32) dX1_copy_31 rfl rfl ?_
  refine AW.gi (n := 35) dX1_copy_32 fl_X1_18 hb.1 rfl rfl ?_
  refine AW.pi (n := 38) dX1_copy_35 fp_X1_18 ha.1 rfl ⟨rfl, rfl⟩ rfl ?_
  refine AW.aload_n (n := 39) dX1_copy_38 rfl rfl ?_
  refine AW.aload_n (n := 40) dX1_copy_39 rfl rfl ?_
  refine AW.gi (n := 43) dX1_copy_40 fl_X1_22 hb.1 rfl rfl ?_
  refine AW.pi (n := 46) dX1_copy_43 fp_X1_22 ha.1 rfl ⟨rfl, rfl⟩ rfl ?_
  refine AW.aload_n (n := 47) dX1_copy_46 rfl rfl ?_
  refine AW.aload_n (n := 48) dX1_copy_47 rfl rfl ?_
  refine AW.gi (n := 51) dX1_copy_48 fl_X1_25 hb.1 rfl rfl ?_
  refine AW.pi (n := 54) dX1_copy_51 fp_X1_25 ha.1 rfl ⟨rfl, rfl⟩ rfl ?_
  refine AW.ret dX1_copy_54 rfl (Nat.zero_le _) (Nat.zero_le _) ?_
  exact ⟨rfl, rfl⟩
set_option maxHeartbeats 4000000 in
set_option maxRecDepth 100000 in
theorem l_X1_begin {μ : Me} {e : Nat × (Nat → aC)} {a : Nat} (ha : sD a) : ∀ (m : Nat) (i : Nat), 7 - i < m → i ≤ 7 → AW none 0 0 0 mX1_begin 0 0 2 [some (.ref a), some (.int (nI i))] [] (wS (sBeg μ a i) e) (a_eq none (wS (sBegin μ a) e)) := by
  intro m
  induction m with
  | zero => intro i hm; exact absurd hm (Nat.not_lt_zero _)
  | succ m ih =>
    intro i hm hc
    refine AW.iload_n (n := 3) dX1_begin_2 rfl rfl ?_
    refine AW.bipush (n := 5) (v := 7) dX1_begin_3 rfl rfl ?_
    refine AW.icmp_ge (n := 8) (t := 28) dX1_begin_5 rfl rfl (fun h5 => ?_) (fun h5 => ?_)
    · have hi : 7 ≤ i := le_lit (b := 7) (x := nI i) rfl (by omega) (by omega) h5
      have he : i = 7 := by omega
      subst he
      refine AW.aload_n (n := 29) dX1_begin_28 rfl rfl ?_
      refine AW.iconst (n := 30) (v := 0) dX1_begin_29 rfl rfl ?_
      refine AW.pi (n := 33) dX1_begin_30 fp_X1_18 ha.1 rfl ⟨rfl, rfl⟩ rfl ?_
      refine AW.aload_n (n := 34) dX1_begin_33 rfl rfl ?_
      refine AW.iconst (n := 35) (v := 0) dX1_begin_34 rfl rfl ?_
      refine AW.pi (n := 38) dX1_begin_35 fp_X1_22 ha.1 rfl ⟨rfl, rfl⟩ rfl ?_
      refine AW.aload_n (n := 39) dX1_begin_38 rfl rfl ?_
      refine AW.iconst (n := 40) (v := 0) dX1_begin_39 rfl rfl ?_
      refine AW.pi (n := 43) dX1_begin_40 fp_X1_25 ha.1 rfl ⟨rfl, rfl⟩ rfl ?_
      refine AW.ret dX1_begin_43 rfl (Nat.zero_le _) (Nat.zero_le _) ?_
      exact ⟨rfl, rfl⟩
    · have hi : i < 7 := nle_lit (b := 7) (x := nI i) rfl (by omega) (by omega) h5
      refine AW.aload_n (n := 9) dX1_begin_8 rfl rfl ?_
      refine AW.gr (n := 12) dX1_begin_9 fl_X1_9 ha.1 rfl rfl ?_
      refine AW.iload_n (n := 13) dX1_begin_12 rfl rfl ?_
      refine AW.iconst (n := 14) (v := 1) dX1_begin_13 rfl rfl ?_
      refine AW.is (n := 15) i dX1_begin_14 ha.2.1 rfl (by omega) (by decide) rfl ?_
      refine AW.aload_n (n := 16) dX1_begin_15 rfl rfl ?_
      refine AW.gr (n := 19) dX1_begin_16 fl_X1_15 ha.1 rfl rfl ?_
      refine AW.iload_n (n := 20) dX1_begin_19 rfl rfl ?_
      refine AW.iconst (n := 21) (v := 0) dX1_begin_20 rfl rfl ?_
      refine AW.is (n := 22) i dX1_begin_21 ha.2.2 rfl (by omega) (by decide) rfl ?_
      refine AW.inc1 (n := 25) (1) dX1_begin_22 rfl (Nat.le_of_ble_eq_true rfl) rfl rfl ?_
      refine AW.goto (t := 2) dX1_begin_25 rfl ?_
      rw [nI_1]
      exact ih (i + 1) (by omega) (by omega)
set_option maxHeartbeats 4000000 in
set_option maxRecDepth 100000 in
theorem c_X1_begin {μ : Me} {e : Nat × (Nat → aC)} {a : Nat} (ha : sD a) : AC 0 0 0 mX1_begin [.ref a] (wS μ e) (a_eq none (wS (sBegin μ a) e)) := by
  refine AC.of (L := [some (.ref a), none]) (j := 1) (by decide) rfl (Nat.le_of_ble_eq_true rfl) ?_
  refine AW.iconst (n := 1) (v := 0) dX1_begin_0 rfl rfl ?_
  refine AW.ist1 (n := 2) dX1_begin_1 (Nat.le_of_ble_eq_true rfl) rfl rfl ?_
  exact l_X1_begin ha 8 0 (by omega) (Nat.zero_le _)
set_option maxHeartbeats 4000000 in
set_option maxRecDepth 100000 in
theorem l_X5_fits {μ : Me} {e : Nat × (Nat → aC)} {z : Nat} {x : Int32} {L3 : Option Value} (hz : μ 120 2 = nI z) (hz9 : z ≤ 6) : ∀ (m : Nat) (i : Nat) (L3 : Option Value), z - i < m → i ≤ z → AW none 0 0 0 mX5_fits 0 0 2 [some (.ref 120), some (.int x), some (.int (nI i)), L3] [] (wS μ e) (a_eq (some (.int (b2i (sFits x (μ 121) (μ 122) (z - i) i)))) (wS μ e)) := by
  intro m
  induction m with
  | zero => intro i L3 hm; exact absurd hm (Nat.not_lt_zero _)
  | succ m ih =>
    intro i L3 hm hc
    refine AW.iload_n (n := 3) dX5_fits_2 rfl rfl ?_
    refine AW.aload_n (n := 4) dX5_fits_3 rfl rfl ?_
    refine AW.gi (n := 7) dX5_fits_4 fl_X5_19 s_120 rfl rfl ?_
    refine AW.icmp_ge (n := 10) (t := 47) dX5_fits_7 rfl rfl (fun h7 => ?_) (fun h7 => ?_)
    · have hi : z ≤ i := le_lit (b := z) (x := nI i) rfl (by omega) (by omega) (by rw [← hz]; exact h7)
      refine AW.iconst (n := 48) (v := 1) dX5_fits_47 rfl rfl ?_
      refine AW.iret dX5_fits_48 rfl rfl (Nat.zero_le _) (Nat.zero_le _) ?_
      exact ⟨by rw [show z - i = 0 by omega]; rfl, rfl⟩
    · have hi : i < z := nle_lit (b := z) (x := nI i) rfl (by omega) (by omega) (by rw [← hz]; exact h7)
      have hs : z - i = (z - (i + 1)) + 1 := by omega
      refine AW.iload_n (n := 11) dX5_fits_10 rfl rfl ?_
      refine AW.aload_n (n := 12) dX5_fits_11 rfl rfl ?_
      refine AW.gr (n := 15) dX5_fits_12 fl_X5_9 s_120 rfl rfl ?_
      refine AW.iload_n (n := 16) dX5_fits_15 rfl rfl ?_
      refine AW.ia (n := 17) i dX5_fits_16 s_121 rfl (by omega) (by decide) rfl ?_
      refine AW.ishr (n := 18) dX5_fits_17 rfl ?_
      refine AW.iconst (n := 19) (v := 1) dX5_fits_18 rfl rfl ?_
      refine AW.iand (n := 20) dX5_fits_19 rfl ?_
      refine AW.if_eq (n := 23) (t := 27) dX5_fits_20 rfl rfl (fun h20 => ?_) (fun h20 => ?_)
      · refine AW.iconst (n := 28) (v := 0) dX5_fits_27 rfl rfl ?_
        refine AW.ist3 (n := 29) dX5_fits_28 (Nat.le_of_ble_eq_true rfl) rfl rfl ?_
        refine AW.iload_n (n := 30) dX5_fits_29 rfl rfl ?_
        refine AW.aload_n (n := 31) dX5_fits_30 rfl rfl ?_
        refine AW.gr (n := 34) dX5_fits_31 fl_X5_15 s_120 rfl rfl ?_
        refine AW.iload_n (n := 35) dX5_fits_34 rfl rfl ?_
        refine AW.za (n := 36) i dX5_fits_35 s_122 rfl (by omega) (by decide) rfl ?_
        refine AW.icmp_eq (n := 39) (t := 41) dX5_fits_36 rfl rfl (fun h36 => ?_) (fun h36 => ?_)
        · refine AW.inc2 (n := 44) (1) dX5_fits_41 rfl (Nat.le_of_ble_eq_true rfl) rfl rfl ?_
          refine AW.goto (t := 2) dX5_fits_44 rfl ?_
          rw [nI_1]
          have e9 : sFits x (μ 121) (μ 122) (z - i) i = sFits x (μ 121) (μ 122) (z - (i + 1)) (i + 1) := by rw [hs, sFits, if_pos (by simpa [sBit, b2i, h20] using h36)]
          rw [e9]
          exact ih (i + 1) _ (by omega) (by omega)
        · refine AW.iconst (n := 40) (v := 0) dX5_fits_39 rfl rfl ?_
          refine AW.iret dX5_fits_40 rfl rfl (Nat.zero_le _) (Nat.zero_le _) ?_
          exact ⟨by rw [hs, sFits, if_neg (by simpa [sBit, b2i, h20] using h36)]; rfl, rfl⟩
      · refine AW.iconst (n := 24) (v := 1) dX5_fits_23 rfl rfl ?_
        refine AW.goto (t := 28) dX5_fits_24 rfl ?_
        refine AW.ist3 (n := 29) dX5_fits_28 (Nat.le_of_ble_eq_true rfl) rfl rfl ?_
        refine AW.iload_n (n := 30) dX5_fits_29 rfl rfl ?_
        refine AW.aload_n (n := 31) dX5_fits_30 rfl rfl ?_
        refine AW.gr (n := 34) dX5_fits_31 fl_X5_15 s_120 rfl rfl ?_
        refine AW.iload_n (n := 35) dX5_fits_34 rfl rfl ?_
        refine AW.za (n := 36) i dX5_fits_35 s_122 rfl (by omega) (by decide) rfl ?_
        refine AW.icmp_eq (n := 39) (t := 41) dX5_fits_36 rfl rfl (fun h36 => ?_) (fun h36 => ?_)
        · refine AW.inc2 (n := 44) (1) dX5_fits_41 rfl (Nat.le_of_ble_eq_true rfl) rfl rfl ?_
          refine AW.goto (t := 2) dX5_fits_44 rfl ?_
          rw [nI_1]
          have e9 : sFits x (μ 121) (μ 122) (z - i) i = sFits x (μ 121) (μ 122) (z - (i + 1)) (i + 1) := by rw [hs, sFits, if_pos (by simpa [sBit, b2i, h20] using h36)]
          rw [e9]
          exact ih (i + 1) _ (by omega) (by omega)
        · refine AW.iconst (n := 40) (v := 0) dX5_fits_39 rfl rfl ?_
          refine AW.iret dX5_fits_40 rfl rfl (Nat.zero_le _) (Nat.zero_le _) ?_
          exact ⟨by rw [hs, sFits, if_neg (by simpa [sBit, b2i, h20] using h36)]; rfl, rfl⟩
set_option maxHeartbeats 4000000 in
set_option maxRecDepth 100000 in
theorem c_X5_fits {μ : Me} {e : Nat × (Nat → aC)} {z : Nat} {x : Int32} (hz : μ 120 2 = nI z) (hz9 : z ≤ 6) : AC 0 0 0 mX5_fits [.ref 120, .int x] (wS μ e) (a_eq (some (.int (b2i (sFits x (μ 121) (μ 122) z 0)))) (wS μ e)) := by
  refine AC.of (L := [some (.ref 120), some (.int x), none, none]) (j := 2) (by decide) rfl (Nat.le_of_ble_eq_true rfl) ?_
  refine AW.iconst (n := 1) (v := 0) dX5_fits_0 rfl rfl ?_
  refine AW.ist2 (n := 2) dX5_fits_1 (Nat.le_of_ble_eq_true rfl) rfl rfl ?_
  exact l_X5_fits (L3 := none) hz hz9 (z + 1) 0 _ (by omega) (Nat.zero_le _)
end
section
def sPush (μ : Me) (x y d : Nat) : Me := mu (mu (sCopy μ (30 + 3 * x) d) 28 1 (nI ((x + 1) % 30))) 28 2 (nI (if y + 1 ≤ 30 then y + 1 else 30))
def sPop (μ : Me) (x y n d : Nat) : Me := sCopy (mu (mu μ 28 1 (nI ((x + 30 - n) % 30))) 28 2 (nI (y - n))) d (30 + 3 * ((x + 30 - n) % 30))
def sSBegin (μ : Me) (a : Nat) : Me := mu (mu (mu (mu (mu μ a 0 0) a 1 0) a 2 0) a 3 0) a 4 0
def sSCopy (μ : Me) (a b : Nat) : Me :=
  let m0 := mu μ a 0 (μ b 0)
  let m1 := mu m0 a 1 (m0 b 1)
  let m2 := mu m1 a 2 (m1 b 2)
  let m3 := mu m2 a 3 (m2 b 3)
  let m4 := mu m3 a 4 (m3 b 4)
  let m5 := mr m4 (a + 1) (va_cpy (m4 (b + 1)) (m4 (a + 1)) 0 0 7)
  let m6 := mr m5 (a + 2) (va_cpy (m5 (b + 2)) (m5 (a + 2)) 0 0 7)
  let m7 := mr m6 (a + 3) (va_cpy (m6 (b + 3)) (m6 (a + 3)) 0 0 7)
  let m8 := mr m7 (a + 4) (va_cpy (m7 (b + 4)) (m7 (a + 4)) 0 0 7)
  let m9 := mr m8 (a + 5) (va_cpy (m8 (b + 5)) (m8 (a + 5)) 0 0 7)
  mr m9 (a + 6) (va_cpy (m9 (b + 6)) (m9 (a + 6)) 0 0 12)
def sAddStop (μ : Me) (a n : Nat) (x i b : Int32) : Me := if n < 7 then mu (mu (mu (mu (mu (mu μ (a + 1) n x) (a + 2) n i) (a + 3) n b) (a + 4) n (-1)) (a + 5) n 0) a 3 (nI (n + 1)) else μ
def sAddDin (μ : Me) (a dn : Nat) (x : Int32) : Me := if dn < 12 then mu (mu μ (a + 6) dn x) a 4 (nI (dn + 1)) else μ
def sRise : Nat → Int32
  | 0 => 0
  | i + 1 => sRise i * 10 + nI i + 1
def sNear (f : Nat → Int32) (set y d : Int32) : Nat → Int32
  | 0 => 0
  | i + 1 => if sBit set (nI i) then (if d < sAbs (f i - y) then sNear f set y d i else sNear f set y d i + 1) else sNear f set y d i
/-- whether the figures of a way are stops, none twice: from the rest on, with those used -/
def sWay (n : Int32) : Nat → Int32 → Int32 → Bool
  | 0, _, used => !decide (used = 0)
  | m + 1, rest, used => if rest ≤ 0 then !decide (used = 0) else
      let s := rest - rest / 10 * 10 - 1
      if sHas n s then (if sBit used s then false else sWay n m (rest / 10) (used ||| ((1 : Int32) <<< (s &&& 31)))) else false
theorem win_nI {a n b : Nat} (h1 : a ≤ n) (h2 : n ≤ b) (hb : b < 2147483648) : sWithin (nI n) (nI a) (nI b) = true := by
  have q1 := Int32.not_lt.mpr (nI_le h1 (by omega : n < 2 ^ 31))
  have q2 := Int32.not_lt.mpr (nI_le h2 hb)
  simp [sWithin, q1, q2]
theorem mod30 {x : Nat} (h : x < 1000) : (nI x : Int32) - nI x / 30 * 30 = nI (x % 30) := pk_rem (d := 30) (by omega) (by decide) (by decide)
theorem min30 {y : Nat} (h : y ≤ 30) : (if (30 : Int32) < nI (y + 1) then (30 : Int32) else nI (y + 1)) = nI (if y + 1 ≤ 30 then y + 1 else 30) := by
  by_cases q : y + 1 ≤ 30
  · rw [if_pos q, if_neg]
    exact fun z => absurd ((nI_ltI (a := 30) (by omega) (by omega)).mp z) (by omega)
  · rw [if_neg q, if_pos]
    · rfl
    · exact (nI_ltI (a := 30) (b := y + 1) (by omega) (by omega)).mpr (by omega)
theorem sCopy_28 {μ : Me} {a b j : Nat} (h1 : a ≠ 28) (h2 : a ≠ 27) (h3 : a ≠ 26) : sCopy μ a b 28 j = μ 28 j := by
  simp only [sCopy, mu_at, mr_at]
  rw [if_neg (by omega), if_neg (by omega), if_neg (by omega), if_neg (by omega), if_neg (by omega)]
set_option maxHeartbeats 4000000 in
set_option maxRecDepth 100000 in
theorem c_X3_push {μ : Me} {e : Nat × (Nat → aC)} {x y d : Nat} (hd : sD d) (hx : μ 28 1 = nI x) (hx9 : x < 30) (hy : μ 28 2 = nI y) (hy9 : y ≤ 30) : AC 2 0 0 mX3_push [.ref 28, .ref d] (wS μ e) (a_eq none (wS (sPush μ x y d) e)) := by
  refine AC.of (L := [some (.ref 28), some (.ref d)]) (j := 0) (by decide) rfl (Nat.le_of_ble_eq_true rfl) ?_
  refine AW.aload_n (n := 1) dX3_push_0 rfl rfl ?_
  refine AW.gr (n := 4) dX3_push_1 fl_X3_11 s_28 rfl rfl ?_
  refine AW.aload_n (n := 5) dX3_push_4 rfl rfl ?_
  refine AW.gi (n := 8) dX3_push_5 fl_X3_17 s_28 rfl rfl ?_
  refine AW.ra (n := 9) x dX3_push_8 (Or.inl rfl) s_29 hx hx9 (by decide) rfl rfl ?_
  refine AW.aload_n (n := 10) dX3_push_9 rfl rfl ?_
  refine AW.ev1v (Mc := mX1_copy) (n := 13) dX3_push_10 lk_X3_25 k_mX1_copy (sD_p hx9).1 rfl rfl (c_X1_copy (sD_p hx9) hd) (Nat.le_of_ble_eq_true rfl) (by decide) (Nat.zero_le _) (Nat.zero_le _) rfl ?_
  refine AW.aload_n (n := 14) dX3_push_13 rfl rfl ?_
  refine AW.aload_n (n := 15) dX3_push_14 rfl rfl ?_
  refine AW.gi (n := 18) dX3_push_15 fl_X3_17 s_28 rfl rfl ?_
  refine AW.iconst (n := 19) (v := 1) dX3_push_18 rfl rfl ?_
  refine AW.iadd (n := 20) dX3_push_19 rfl ?_
  refine AW.bipush (n := 22) (v := 30) dX3_push_20 rfl rfl ?_
  refine AW.irem (n := 23) dX3_push_22 (by decide) rfl ?_
  refine AW.pi (n := 26) dX3_push_23 fp_X3_17 s_28 rfl ⟨rfl, rfl⟩ rfl ?_
  refine AW.aload_n (n := 27) dX3_push_26 rfl rfl ?_
  refine AW.aload_n (n := 28) dX3_push_27 rfl rfl ?_
  refine AW.gi (n := 31) dX3_push_28 fl_X3_21 s_28 rfl rfl ?_
  refine AW.iconst (n := 32) (v := 1) dX3_push_31 rfl rfl ?_
  refine AW.iadd (n := 33) dX3_push_32 rfl ?_
  refine AW.bipush (n := 35) (v := 30) dX3_push_33 rfl rfl ?_
  refine AW.mmin (n := 38) dX3_push_35 lj_X3_29 jm_min_s jm_i jm_min_c (Nat.le_of_ble_eq_true rfl) (by decide) (Nat.zero_le _) (Nat.zero_le _) rfl ?_
  refine AW.pi (n := 41) dX3_push_38 fp_X3_21 s_28 rfl ⟨rfl, rfl⟩ rfl ?_
  refine AW.ret dX3_push_41 rfl (Nat.zero_le _) (Nat.zero_le _) ?_
  have e1 : sCopy μ (30 + 3 * x) d 28 1 = nI x := by rw [sCopy_28 (by omega) (by omega) (by omega)]; exact hx
  have e2 : sCopy μ (30 + 3 * x) d 28 2 = nI y := by rw [sCopy_28 (by omega) (by omega) (by omega)]; exact hy
  refine ⟨rfl, ?_⟩
  have m1 := mod30 (x := x + 1) (by omega)
  have m2 := min30 hy9
  simp only [sPush, mu_at, e1, e2, nI_1, m1]
  simp [e2, nI_1, m2]
set_option maxHeartbeats 4000000 in
set_option maxRecDepth 100000 in
theorem c_X3_pop {μ : Me} {e : Nat × (Nat → aC)} {x y d n : Nat} (hd : sD d) (hx : μ 28 1 = nI x) (hx9 : x < 30) (hy : μ 28 2 = nI y) (hy9 : y ≤ 30) (hn1 : 1 ≤ n) (hny : n ≤ y) : AC 2 0 0 mX3_pop [.ref 28, .int (nI n), .ref d] (wS μ e) (a_eq none (wS (sPop μ x y n d) e)) := by
  refine AC.of (L := [some (.ref 28), some (.int (nI n)), some (.ref d)]) (j := 0) (by decide) rfl (Nat.le_of_ble_eq_true rfl) ?_
  refine AW.iload_n (n := 1) dX3_pop_0 rfl rfl ?_
  refine AW.iconst (n := 2) (v := 1) dX3_pop_1 rfl rfl ?_
  refine AW.aload_n (n := 3) dX3_pop_2 rfl rfl ?_
  refine AW.gi (n := 6) dX3_pop_3 fl_X3_21 s_28 rfl rfl ?_
  refine AW.es3i (Mc := mX9_within) (n := 9) dX3_pop_6 lk_X3_35 k_mX9_within (c_X9_within) (Nat.le_of_ble_eq_true rfl) (by decide) (Nat.zero_le _) (Nat.zero_le _) rfl ?_
  refine AW.bif_ne (n := 12) (t := 13) dX3_pop_9 rfl rfl (fun h9 => ?_) (fun h9 => ?_)
  · have e1 : μ 28 1 + 30 - nI n = nI (x + 30 - n) := by rw [hx]; show nI x + nI 30 - nI n = _; rw [nI_add, pk_sub (by omega)]
    have e2 : μ 28 2 - nI n = nI (y - n) := by rw [hy, pk_sub hny]
    refine AW.aload_n (n := 14) dX3_pop_13 rfl rfl ?_
    refine AW.aload_n (n := 15) dX3_pop_14 rfl rfl ?_
    refine AW.gi (n := 18) dX3_pop_15 fl_X3_17 s_28 rfl rfl ?_
    refine AW.bipush (n := 20) (v := 30) dX3_pop_18 rfl rfl ?_
    refine AW.iadd (n := 21) dX3_pop_20 rfl ?_
    refine AW.iload_n (n := 22) dX3_pop_21 rfl rfl ?_
    refine AW.isub (n := 23) dX3_pop_22 rfl ?_
    refine AW.bipush (n := 25) (v := 30) dX3_pop_23 rfl rfl ?_
    refine AW.irem (n := 26) dX3_pop_25 (by decide) rfl ?_
    rw [e1, mod30 (by omega)]
    refine AW.pi (n := 29) dX3_pop_26 fp_X3_17 s_28 rfl ⟨rfl, rfl⟩ rfl ?_
    refine AW.aload_n (n := 30) dX3_pop_29 rfl rfl ?_
    refine AW.dup (n := 31) dX3_pop_30 rfl rfl ?_
    refine AW.gi (n := 34) dX3_pop_31 fl_X3_21 s_28 rfl rfl ?_
    refine AW.iload_n (n := 35) dX3_pop_34 rfl rfl ?_
    refine AW.isub (n := 36) dX3_pop_35 rfl ?_
    rw [mu_nj (by decide), e2]
    refine AW.pi (n := 39) dX3_pop_36 fp_X3_21 s_28 rfl ⟨rfl, rfl⟩ rfl ?_
    refine AW.aload_n (n := 40) dX3_pop_39 rfl rfl ?_
    refine AW.aload_n (n := 41) dX3_pop_40 rfl rfl ?_
    refine AW.gr (n := 44) dX3_pop_41 fl_X3_11 s_28 rfl rfl ?_
    refine AW.aload_n (n := 45) dX3_pop_44 rfl rfl ?_
    refine AW.gi (n := 48) dX3_pop_45 fl_X3_17 s_28 rfl rfl ?_
    refine AW.ra (n := 49) ((x + 30 - n) % 30) dX3_pop_48 (Or.inl rfl) s_29 (by simp [mu_at]) (Nat.mod_lt _ (by decide)) (by decide) rfl rfl ?_
    refine AW.ev1v (Mc := mX1_copy) (n := 52) dX3_pop_49 lk_X3_25 k_mX1_copy hd.1 rfl rfl (c_X1_copy hd (sD_p (Nat.mod_lt _ (by decide)))) (Nat.le_of_ble_eq_true rfl) (by decide) (Nat.zero_le _) (Nat.zero_le _) rfl ?_
    refine AW.ret dX3_pop_52 rfl (Nat.zero_le _) (Nat.zero_le _) ?_
    exact ⟨rfl, rfl⟩
  · exact Bool.noConfusion (h9.symm.trans (show sWithin (nI n) 1 (μ 28 2) = true by rw [hy]; exact win_nI hn1 hny (by omega)))
set_option maxHeartbeats 4000000 in
set_option maxRecDepth 100000 in
theorem c_X6_begin {μ : Me} {e : Nat × (Nat → aC)} {a : Nat} (ha : sS a) : AC 0 0 0 mX6_begin [.ref a] (wS μ e) (a_eq none (wS (sSBegin μ a) e)) := by
  refine AC.of (L := [some (.ref a)]) (j := 0) (by decide) rfl (Nat.le_of_ble_eq_true rfl) ?_
  refine AW.aload_n (n := 1) dX6_begin_0 rfl rfl ?_
  refine AW.iconst (n := 2) (v := 0) dX6_begin_1 rfl rfl ?_
  refine AW.pi (n := 5) dX6_begin_2 fp_X6_9 ha.1 rfl ⟨rfl, rfl⟩ rfl ?_
  refine AW.aload_n (n := 6) dX6_begin_5 rfl rfl ?_
  refine AW.iconst (n := 7) (v := 0) dX6_begin_6 rfl rfl ?_
  refine AW.pi (n := 10) dX6_begin_7 fp_X6_15 ha.1 rfl ⟨rfl, rfl⟩ rfl ?_
  refine AW.aload_n (n := 11) dX6_begin_10 rfl rfl ?_
  refine AW.iconst (n := 12) (v := 0) dX6_begin_11 rfl rfl ?_
  refine AW.pi (n := 15) dX6_begin_12 fp_X6_18 ha.1 rfl ⟨rfl, rfl⟩ rfl ?_
  refine AW.aload_n (n := 16) dX6_begin_15 rfl rfl ?_
  refine AW.iconst (n := 17) (v := 0) dX6_begin_16 rfl rfl ?_
  refine AW.pi (n := 20) dX6_begin_17 fp_X6_21 ha.1 rfl ⟨rfl, rfl⟩ rfl ?_
  refine AW.aload_n (n := 21) dX6_begin_20 rfl rfl ?_
  refine AW.iconst (n := 22) (v := 0) dX6_begin_21 rfl rfl ?_
  refine AW.pi (n := 25) dX6_begin_22 fp_X6_24 ha.1 rfl ⟨rfl, rfl⟩ rfl ?_
  refine AW.ret dX6_begin_25 rfl (Nat.zero_le _) (Nat.zero_le _) ?_
  exact ⟨rfl, rfl⟩
set_option maxHeartbeats 4000000 in
set_option maxRecDepth 100000 in
theorem c_X6_copy {μ : Me} {e : Nat × (Nat → aC)} {a b : Nat} (ha : sS a) (hb : sS b) : AC 1 0 0 mX6_copy [.ref a, .ref b] (wS μ e) (a_eq none (wS (sSCopy μ a b) e)) := by
  refine AC.of (L := [some (.ref a), some (.ref b)]) (j := 0) (by decide) rfl (Nat.le_of_ble_eq_true rfl) ?_
  refine AW.aload_n (n := 1) dX6_copy_0 rfl rfl ?_
  refine AW.aload_n (n := 2) dX6_copy_1 rfl rfl ?_
  refine AW.gi (n := 5) dX6_copy_2 fl_X6_9 hb.1 rfl rfl ?_
  refine AW.pi (n := 8) dX6_copy_5 fp_X6_9 ha.1 rfl ⟨rfl, rfl⟩ rfl ?_
  refine AW.aload_n (n := 9) dX6_copy_8 rfl rfl ?_
  refine AW.aload_n (n := 10) dX6_copy_9 rfl rfl ?_
  refine AW.gi (n := 13) dX6_copy_10 fl_X6_15 hb.1 rfl rfl ?_
  refine AW.pi (n := 16) dX6_copy_13 fp_X6_15 ha.1 rfl ⟨rfl, rfl⟩ rfl ?_
  refine AW.aload_n (n := 17) dX6_copy_16 rfl rfl ?_
  refine AW.aload_n (n := 18) dX6_copy_17 rfl rfl ?_
  refine AW.gi (n := 21) dX6_copy_18 fl_X6_18 hb.1 rfl rfl ?_
  refine AW.pi (n := 24) dX6_copy_21 fp_X6_18 ha.1 rfl ⟨rfl, rfl⟩ rfl ?_
  refine AW.aload_n (n := 25) dX6_copy_24 rfl rfl ?_
  refine AW.aload_n (n := 26) dX6_copy_25 rfl rfl ?_
  refine AW.gi (n := 29) dX6_copy_26 fl_X6_21 hb.1 rfl rfl ?_
  refine AW.pi (n := 32) dX6_copy_29 fp_X6_21 ha.1 rfl ⟨rfl, rfl⟩ rfl ?_
  refine AW.aload_n (n := 33) dX6_copy_32 rfl rfl ?_
  refine AW.aload_n (n := 34) dX6_copy_33 rfl rfl ?_
  refine AW.gi (n := 37) dX6_copy_34 fl_X6_24 hb.1 rfl rfl ?_
  refine AW.pi (n := 40) dX6_copy_37 fp_X6_24 ha.1 rfl ⟨rfl, rfl⟩ rfl ?_
  refine AW.aload_n (n := 41) dX6_copy_40 rfl rfl ?_
  refine AW.gr (n := 44) dX6_copy_41 fl_X6_27 hb.1 rfl rfl ?_
  refine AW.iconst (n := 45) (v := 0) dX6_copy_44 rfl rfl ?_
  refine AW.aload_n (n := 46) dX6_copy_45 rfl rfl ?_
  refine AW.gr (n := 49) dX6_copy_46 fl_X6_27 ha.1 rfl rfl ?_
  refine AW.iconst (n := 50) (v := 0) dX6_copy_49 rfl rfl ?_
  refine AW.bipush (n := 52) (v := 7) dX6_copy_50 rfl rfl ?_
  refine AW.cp (n := 55) 7 dX6_copy_52 lj_X6_46 js_n js_s js_i hb.2.1 ha.2.1 rfl (by decide) (by decide) (by decide) (Nat.le_of_ble_eq_true rfl) (by decide) rfl ?_
  refine AW.aload_n (n := 56) dX6_copy_55 rfl rfl ?_
  refine AW.gr (n := 59) dX6_copy_56 fl_X6_31 hb.1 rfl rfl ?_
  refine AW.iconst (n := 60) (v := 0) dX6_copy_59 rfl rfl ?_
  refine AW.aload_n (n := 61) dX6_copy_60 rfl rfl ?_
  refine AW.gr (n := 64) dX6_copy_61 fl_X6_31 ha.1 rfl rfl ?_
  refine AW.iconst (n := 65) (v := 0) dX6_copy_64 rfl rfl ?_
  refine AW.bipush (n := 67) (v := 7) dX6_copy_65 rfl rfl ?_
  refine AW.cp (n := 70) 7 dX6_copy_67 lj_X6_46 js_n js_s js_i hb.2.2.1 ha.2.2.1 rfl (by decide) (by decide) (by decide) (Nat.le_of_ble_eq_true rfl) (by decide) rfl ?_
  refine AW.aload_n (n := 71) dX6_copy_70 rfl rfl ?_
  refine AW.gr (n := 74) dX6_copy_71 fl_X6_34 hb.1 rfl rfl ?_
  refine AW.iconst (n := 75) (v := 0) dX6_copy_74 rfl rfl ?_
  refine AW.aload_n (n := 76) dX6_copy_75 rfl rfl ?_
  refine AW.gr (n := 79) dX6_copy_76 fl_X6_34 ha.1 rfl rfl ?_
  refine AW.iconst (n := 80) (v := 0) dX6_copy_79 rfl rfl ?_
  refine AW.bipush (n := 82) (v := 7) dX6_copy_80 rfl rfl ?_
  refine AW.cp (n := 85) 7 dX6_copy_82 lj_X6_46 js_n js_s js_i hb.2.2.2.1 ha.2.2.2.1 rfl (by decide) (by decide) (by decide) (Nat.le_of_ble_eq_true rfl) (by decide) rfl ?_
  refine AW.aload_n (n := 86) dX6_copy_85 rfl rfl ?_
  refine AW.gr (n := 89) dX6_copy_86 fl_X6_37 hb.1 rfl rfl ?_
  refine AW.iconst (n := 90) (v := 0) dX6_copy_89 rfl rfl ?_
  refine AW.aload_n (n := 91) dX6_copy_90 rfl rfl ?_
  refine AW.gr (n := 94) dX6_copy_91 fl_X6_37 ha.1 rfl rfl ?_
  refine AW.iconst (n := 95) (v := 0) dX6_copy_94 rfl rfl ?_
  refine AW.bipush (n := 97) (v := 7) dX6_copy_95 rfl rfl ?_
  refine AW.cp (n := 100) 7 dX6_copy_97 lj_X6_46 js_n js_s js_i hb.2.2.2.2.1 ha.2.2.2.2.1 rfl (by decide) (by decide) (by decide) (Nat.le_of_ble_eq_true rfl) (by decide) rfl ?_
  refine AW.aload_n (n := 101) dX6_copy_100 rfl rfl ?_
  refine AW.gr (n := 104) dX6_copy_101 fl_X6_40 hb.1 rfl rfl ?_
  refine AW.iconst (n := 105) (v := 0) dX6_copy_104 rfl rfl ?_
  refine AW.aload_n (n := 106) dX6_copy_105 rfl rfl ?_
  refine AW.gr (n := 109) dX6_copy_106 fl_X6_40 ha.1 rfl rfl ?_
  refine AW.iconst (n := 110) (v := 0) dX6_copy_109 rfl rfl ?_
  refine AW.bipush (n := 112) (v := 7) dX6_copy_110 rfl rfl ?_
  refine AW.cp (n := 115) 7 dX6_copy_112 lj_X6_46 js_n js_s js_i hb.2.2.2.2.2.1 ha.2.2.2.2.2.1 rfl (by decide) (by decide) (by decide) (Nat.le_of_ble_eq_true rfl) (by decide) rfl ?_
  refine AW.aload_n (n := 116) dX6_copy_115 rfl rfl ?_
  refine AW.gr (n := 119) dX6_copy_116 fl_X6_43 hb.1 rfl rfl ?_
  refine AW.iconst (n := 120) (v := 0) dX6_copy_119 rfl rfl ?_
  refine AW.aload_n (n := 121) dX6_copy_120 rfl rfl ?_
  refine AW.gr (n := 124) dX6_copy_121 fl_X6_43 ha.1 rfl rfl ?_
  refine AW.iconst (n := 125) (v := 0) dX6_copy_124 rfl rfl ?_
  refine AW.bipush (n := 127) (v := 12) dX6_copy_125 rfl rfl ?_
  refine AW.cp (n := 130) 12 dX6_copy_127 lj_X6_46 js_n js_s js_i hb.2.2.2.2.2.2 ha.2.2.2.2.2.2 rfl (by decide) (by decide) (by decide) (Nat.le_of_ble_eq_true rfl) (by decide) rfl ?_
  refine AW.ret dX6_copy_130 rfl (Nat.zero_le _) (Nat.zero_le _) ?_
  exact ⟨rfl, rfl⟩
set_option maxHeartbeats 4000000 in
set_option maxRecDepth 100000 in
theorem c_X6_addStop {μ : Me} {e : Nat × (Nat → aC)} {a n : Nat} {x i b : Int32} (ha : sS a) (hz : μ a 3 = nI n) (hz9 : n ≤ 7) : AC 0 0 0 mX6_addStop [.ref a, .int x, .int i, .int b] (wS μ e) (a_eq none (wS (sAddStop μ a n x i b) e)) := by
  refine AC.of (L := [some (.ref a), some (.int x), some (.int i), some (.int b)]) (j := 0) (by decide) rfl (Nat.le_of_ble_eq_true rfl) ?_
  refine AW.aload_n (n := 1) dX6_addStop_0 rfl rfl ?_
  refine AW.gi (n := 4) dX6_addStop_1 fl_X6_21 ha.1 rfl rfl ?_
  refine AW.bipush (n := 6) (v := 7) dX6_addStop_4 rfl rfl ?_
  refine AW.icmp_lt (n := 9) (t := 10) dX6_addStop_6 rfl rfl (fun h6 => ?_) (fun h6 => ?_)
  · have hz1 := lt_lit (b := 7) hz (by omega) (by omega) h6
    refine AW.aload_n (n := 11) dX6_addStop_10 rfl rfl ?_
    refine AW.gr (n := 14) dX6_addStop_11 fl_X6_27 ha.1 rfl rfl ?_
    refine AW.aload_n (n := 15) dX6_addStop_14 rfl rfl ?_
    refine AW.gi (n := 18) dX6_addStop_15 fl_X6_21 ha.1 rfl rfl ?_
    refine AW.iload_n (n := 19) dX6_addStop_18 rfl rfl ?_
    refine AW.is (n := 20) n dX6_addStop_19 ha.2.1 (by simp [mu_at, hz]) (by omega) (by decide) rfl ?_
    refine AW.aload_n (n := 21) dX6_addStop_20 rfl rfl ?_
    refine AW.gr (n := 24) dX6_addStop_21 fl_X6_31 ha.1 rfl rfl ?_
    refine AW.aload_n (n := 25) dX6_addStop_24 rfl rfl ?_
    refine AW.gi (n := 28) dX6_addStop_25 fl_X6_21 ha.1 rfl rfl ?_
    refine AW.iload_n (n := 29) dX6_addStop_28 rfl rfl ?_
    refine AW.is (n := 30) n dX6_addStop_29 ha.2.2.1 (by simp [mu_at, hz]) (by omega) (by decide) rfl ?_
    refine AW.aload_n (n := 31) dX6_addStop_30 rfl rfl ?_
    refine AW.gr (n := 34) dX6_addStop_31 fl_X6_34 ha.1 rfl rfl ?_
    refine AW.aload_n (n := 35) dX6_addStop_34 rfl rfl ?_
    refine AW.gi (n := 38) dX6_addStop_35 fl_X6_21 ha.1 rfl rfl ?_
    refine AW.iload_n (n := 39) dX6_addStop_38 rfl rfl ?_
    refine AW.is (n := 40) n dX6_addStop_39 ha.2.2.2.1 (by simp [mu_at, hz]) (by omega) (by decide) rfl ?_
    refine AW.aload_n (n := 41) dX6_addStop_40 rfl rfl ?_
    refine AW.gr (n := 44) dX6_addStop_41 fl_X6_37 ha.1 rfl rfl ?_
    refine AW.aload_n (n := 45) dX6_addStop_44 rfl rfl ?_
    refine AW.gi (n := 48) dX6_addStop_45 fl_X6_21 ha.1 rfl rfl ?_
    refine AW.iconst (n := 49) (v := -1) dX6_addStop_48 rfl rfl ?_
    refine AW.is (n := 50) n dX6_addStop_49 ha.2.2.2.2.1 (by simp [mu_at, hz]) (by omega) (by decide) rfl ?_
    refine AW.aload_n (n := 51) dX6_addStop_50 rfl rfl ?_
    refine AW.gr (n := 54) dX6_addStop_51 fl_X6_40 ha.1 rfl rfl ?_
    refine AW.aload_n (n := 55) dX6_addStop_54 rfl rfl ?_
    refine AW.gi (n := 58) dX6_addStop_55 fl_X6_21 ha.1 rfl rfl ?_
    refine AW.iconst (n := 59) (v := 0) dX6_addStop_58 rfl rfl ?_
    refine AW.is (n := 60) n dX6_addStop_59 ha.2.2.2.2.2.1 (by simp [mu_at, hz]) (by omega) (by decide) rfl ?_
    refine AW.aload_n (n := 61) dX6_addStop_60 rfl rfl ?_
    refine AW.dup (n := 62) dX6_addStop_61 rfl rfl ?_
    refine AW.gi (n := 65) dX6_addStop_62 fl_X6_21 ha.1 rfl rfl ?_
    refine AW.iconst (n := 66) (v := 1) dX6_addStop_65 rfl rfl ?_
    refine AW.iadd (n := 67) dX6_addStop_66 rfl ?_
    refine AW.pi (n := 70) dX6_addStop_67 fp_X6_21 ha.1 rfl ⟨rfl, rfl⟩ rfl ?_
    refine AW.ret dX6_addStop_70 rfl (Nat.zero_le _) (Nat.zero_le _) ?_
    exact ⟨rfl, by simp [sAddStop, mu_at, nI_1, hz, hz1]⟩
  · have hz1 := nlt_lit (b := 7) hz (by omega) (by omega) h6
    refine AW.ret dX6_addStop_9 rfl (Nat.zero_le _) (Nat.zero_le _) ?_
    exact ⟨rfl, by simp [sAddStop, mu_at, nI_1, hz, Nat.not_lt.mpr hz1]⟩
set_option maxHeartbeats 4000000 in
set_option maxRecDepth 100000 in
theorem c_X6_addDin {μ : Me} {e : Nat × (Nat → aC)} {a dn : Nat} {x : Int32} (ha : sS a) (hz : μ a 4 = nI dn) (hz9 : dn ≤ 12) : AC 0 0 0 mX6_addDin [.ref a, .int x] (wS μ e) (a_eq none (wS (sAddDin μ a dn x) e)) := by
  refine AC.of (L := [some (.ref a), some (.int x)]) (j := 0) (by decide) rfl (Nat.le_of_ble_eq_true rfl) ?_
  refine AW.aload_n (n := 1) dX6_addDin_0 rfl rfl ?_
  refine AW.gi (n := 4) dX6_addDin_1 fl_X6_24 ha.1 rfl rfl ?_
  refine AW.bipush (n := 6) (v := 12) dX6_addDin_4 rfl rfl ?_
  refine AW.icmp_ge (n := 9) (t := 29) dX6_addDin_6 rfl rfl (fun h6 => ?_) (fun h6 => ?_)
  · refine AW.ret dX6_addDin_29 rfl (Nat.zero_le _) (Nat.zero_le _) ?_
    have hz1 := le_lit (b := 12) hz (by omega) (by omega) h6
    exact ⟨rfl, by simp [sAddDin, Nat.not_lt.mpr hz1]⟩
  · have hz1 := nle_lit (b := 12) hz (by omega) (by omega) h6
    refine AW.aload_n (n := 10) dX6_addDin_9 rfl rfl ?_
    refine AW.gr (n := 13) dX6_addDin_10 fl_X6_43 ha.1 rfl rfl ?_
    refine AW.aload_n (n := 14) dX6_addDin_13 rfl rfl ?_
    refine AW.gi (n := 17) dX6_addDin_14 fl_X6_24 ha.1 rfl rfl ?_
    refine AW.iload_n (n := 18) dX6_addDin_17 rfl rfl ?_
    refine AW.is (n := 19) dn dX6_addDin_18 ha.2.2.2.2.2.2 (by simp [mu_at, hz]) (by omega) (by decide) rfl ?_
    refine AW.aload_n (n := 20) dX6_addDin_19 rfl rfl ?_
    refine AW.dup (n := 21) dX6_addDin_20 rfl rfl ?_
    refine AW.gi (n := 24) dX6_addDin_21 fl_X6_24 ha.1 rfl rfl ?_
    refine AW.iconst (n := 25) (v := 1) dX6_addDin_24 rfl rfl ?_
    refine AW.iadd (n := 26) dX6_addDin_25 rfl ?_
    refine AW.pi (n := 29) dX6_addDin_26 fp_X6_24 ha.1 rfl ⟨rfl, rfl⟩ rfl ?_
    refine AW.ret dX6_addDin_29 rfl (Nat.zero_le _) (Nat.zero_le _) ?_
    exact ⟨rfl, by simp [sAddDin, mu_at, nI_1, hz, hz1]⟩
set_option maxHeartbeats 4000000 in
set_option maxRecDepth 100000 in
theorem l_X6_risingWay {μ : Me} {e : Nat × (Nat → aC)} {a n : Nat} (ha : sS a) (hz : μ a 3 = nI n) (hz9 : n ≤ 7) : ∀ (m : Nat) (i : Nat), n - i < m → i ≤ n → AW none 0 0 0 mX6_risingWay 0 0 4 [some (.ref a), some (.int (sRise i)), some (.int (nI i))] [] (wS μ e) (a_eq (some (.int (sRise n))) (wS μ e)) := by
  intro m
  induction m with
  | zero => intro i hm; exact absurd hm (Nat.not_lt_zero _)
  | succ m ih =>
    intro i hm hc
    refine AW.iload_n (n := 5) dX6_risingWay_4 rfl rfl ?_
    refine AW.aload_n (n := 6) dX6_risingWay_5 rfl rfl ?_
    refine AW.gi (n := 9) dX6_risingWay_6 fl_X6_21 ha.1 rfl rfl ?_
    refine AW.icmp_ge (n := 12) (t := 27) dX6_risingWay_9 rfl rfl (fun h9 => ?_) (fun h9 => ?_)
    · have hi : n ≤ i := le_lit (b := n) (x := nI i) rfl (by omega) (by omega) (by rw [← hz]; exact h9)
      have he : i = n := by omega
      subst he
      refine AW.iload_n (n := 28) dX6_risingWay_27 rfl rfl ?_
      refine AW.iret dX6_risingWay_28 rfl rfl (Nat.zero_le _) (Nat.zero_le _) ?_
      exact ⟨rfl, rfl⟩
    · have hi : i < n := nle_lit (b := n) (x := nI i) rfl (by omega) (by omega) (by rw [← hz]; exact h9)
      refine AW.iload_n (n := 13) dX6_risingWay_12 rfl rfl ?_
      refine AW.bipush (n := 15) (v := 10) dX6_risingWay_13 rfl rfl ?_
      refine AW.imul (n := 16) dX6_risingWay_15 rfl ?_
      refine AW.iload_n (n := 17) dX6_risingWay_16 rfl rfl ?_
      refine AW.iadd (n := 18) dX6_risingWay_17 rfl ?_
      refine AW.iconst (n := 19) (v := 1) dX6_risingWay_18 rfl rfl ?_
      refine AW.iadd (n := 20) dX6_risingWay_19 rfl ?_
      refine AW.ist1 (n := 21) dX6_risingWay_20 (Nat.le_of_ble_eq_true rfl) rfl rfl ?_
      refine AW.inc2 (n := 24) (1) dX6_risingWay_21 rfl (Nat.le_of_ble_eq_true rfl) rfl rfl ?_
      refine AW.goto (t := 4) dX6_risingWay_24 rfl ?_
      rw [nI_1 i]
      exact ih (i + 1) (by omega) (by omega)
set_option maxHeartbeats 4000000 in
set_option maxRecDepth 100000 in
theorem c_X6_risingWay {μ : Me} {e : Nat × (Nat → aC)} {a n : Nat} (ha : sS a) (hz : μ a 3 = nI n) (hz9 : n ≤ 7) : AC 0 0 0 mX6_risingWay [.ref a] (wS μ e) (a_eq (some (.int (sRise n))) (wS μ e)) := by
  refine AC.of (L := [some (.ref a), none, none]) (j := 2) (by decide) rfl (Nat.le_of_ble_eq_true rfl) ?_
  refine AW.iconst (n := 1) (v := 0) dX6_risingWay_0 rfl rfl ?_
  refine AW.ist1 (n := 2) dX6_risingWay_1 (Nat.le_of_ble_eq_true rfl) rfl rfl ?_
  refine AW.iconst (n := 3) (v := 0) dX6_risingWay_2 rfl rfl ?_
  refine AW.ist2 (n := 4) dX6_risingWay_3 (Nat.le_of_ble_eq_true rfl) rfl rfl ?_
  exact l_X6_risingWay ha hz hz9 (n + 1) 0 (by omega) (Nat.zero_le _)
set_option maxHeartbeats 4000000 in
set_option maxRecDepth 100000 in
theorem l_X6_countNear {μ : Me} {e : Nat × (Nat → aC)} {a n : Nat} {set y d : Int32} (ha : sS a) (hz : μ a 3 = nI n) (hz9 : n ≤ 7) : ∀ (m : Nat) (i : Nat), n - i < m → i ≤ n → AW none 1 0 0 mX6_countNear 0 0 6 [some (.ref a), some (.int set), some (.int y), some (.int d), some (.int (sNear (μ (a + 1)) set y d i)), some (.int (nI i))] [] (wS μ e) (a_eq (some (.int (sNear (μ (a + 1)) set y d n))) (wS μ e)) := by
  intro m
  induction m with
  | zero => intro i hm; exact absurd hm (Nat.not_lt_zero _)
  | succ m ih =>
    intro i hm hc
    refine AW.iload (n := 8) dX6_countNear_6 rfl rfl ?_
    refine AW.aload_n (n := 9) dX6_countNear_8 rfl rfl ?_
    refine AW.gi (n := 12) dX6_countNear_9 fl_X6_21 ha.1 rfl rfl ?_
    refine AW.icmp_ge (n := 15) (t := 49) dX6_countNear_12 rfl rfl (fun h12 => ?_) (fun h12 => ?_)
    · have hi : n ≤ i := le_lit (b := n) (x := nI i) rfl (by omega) (by omega) (by rw [← hz]; exact h12)
      have he : i = n := by omega
      subst he
      refine AW.iload (n := 51) dX6_countNear_49 rfl rfl ?_
      refine AW.iret dX6_countNear_51 rfl rfl (Nat.zero_le _) (Nat.zero_le _) ?_
      exact ⟨rfl, rfl⟩
    · have hi : i < n := nle_lit (b := n) (x := nI i) rfl (by omega) (by omega) (by rw [← hz]; exact h12)
      refine AW.iload_n (n := 16) dX6_countNear_15 rfl rfl ?_
      refine AW.iload (n := 18) dX6_countNear_16 rfl rfl ?_
      refine AW.ishr (n := 19) dX6_countNear_18 rfl ?_
      refine AW.iconst (n := 20) (v := 1) dX6_countNear_19 rfl rfl ?_
      refine AW.iand (n := 21) dX6_countNear_20 rfl ?_
      refine AW.if_eq (n := 24) (t := 43) dX6_countNear_21 rfl rfl (fun h21 => ?_) (fun h21 => ?_)
      · refine AW.inc5 (n := 46) (1) dX6_countNear_43 rfl (Nat.le_of_ble_eq_true rfl) rfl rfl ?_
        refine AW.goto (t := 6) dX6_countNear_46 rfl ?_
        rw [nI_1 i]
        refine AW.eqL ?_ (ih (i + 1) (by omega) (by omega))
        simp only [sNear, sBit]
        simp [h21]
      · refine AW.aload_n (n := 25) dX6_countNear_24 rfl rfl ?_
        refine AW.gr (n := 28) dX6_countNear_25 fl_X6_27 ha.1 rfl rfl ?_
        refine AW.iload (n := 30) dX6_countNear_28 rfl rfl ?_
        refine AW.ia (n := 31) i dX6_countNear_30 ha.2.1 rfl (by omega) (by decide) rfl ?_
        refine AW.iload_n (n := 32) dX6_countNear_31 rfl rfl ?_
        refine AW.isub (n := 33) dX6_countNear_32 rfl ?_
        refine AW.mabsS (n := 36) dX6_countNear_33 lj_X6_68 jm_abs_s jm_i jm_abs_c (Nat.le_of_ble_eq_true rfl) (by decide) (Nat.zero_le _) (Nat.zero_le _) rfl ?_
        refine AW.iload_n (n := 37) dX6_countNear_36 rfl rfl ?_
        refine AW.icmp_gt (n := 40) (t := 43) dX6_countNear_37 rfl rfl (fun h37 => ?_) (fun h37 => ?_)
        · refine AW.inc5 (n := 46) (1) dX6_countNear_43 rfl (Nat.le_of_ble_eq_true rfl) rfl rfl ?_
          refine AW.goto (t := 6) dX6_countNear_46 rfl ?_
          rw [nI_1 i]
          refine AW.eqL ?_ (ih (i + 1) (by omega) (by omega))
          simp only [sNear, sBit]
          simp [h21, h37]
        · refine AW.inc4 (n := 43) (1) dX6_countNear_40 rfl (Nat.le_of_ble_eq_true rfl) rfl rfl ?_
          refine AW.inc5 (n := 46) (1) dX6_countNear_43 rfl (Nat.le_of_ble_eq_true rfl) rfl rfl ?_
          refine AW.goto (t := 6) dX6_countNear_46 rfl ?_
          rw [nI_1 i]
          refine AW.eqL ?_ (ih (i + 1) (by omega) (by omega))
          simp only [sNear, sBit]
          simp [h21, h37]
set_option maxHeartbeats 4000000 in
set_option maxRecDepth 100000 in
theorem c_X6_countNear {μ : Me} {e : Nat × (Nat → aC)} {a n : Nat} {set y d : Int32} (ha : sS a) (hz : μ a 3 = nI n) (hz9 : n ≤ 7) : AC 1 0 0 mX6_countNear [.ref a, .int set, .int y, .int d] (wS μ e) (a_eq (some (.int (sNear (μ (a + 1)) set y d n))) (wS μ e)) := by
  refine AC.of (L := [some (.ref a), some (.int set), some (.int y), some (.int d), none, none]) (j := 2) (by decide) rfl (Nat.le_of_ble_eq_true rfl) ?_
  refine AW.iconst (n := 1) (v := 0) dX6_countNear_0 rfl rfl ?_
  refine AW.ist4 (n := 3) dX6_countNear_1 (Nat.le_of_ble_eq_true rfl) rfl rfl ?_
  refine AW.iconst (n := 4) (v := 0) dX6_countNear_3 rfl rfl ?_
  refine AW.ist5 (n := 6) dX6_countNear_4 (Nat.le_of_ble_eq_true rfl) rfl rfl ?_
  exact l_X6_countNear ha hz hz9 (n + 1) 0 (by omega) (Nat.zero_le _)
end
section
def sSkip (f : Nat → Int32) : Nat → Nat → Nat
  | 0, t => t
  | m + 1, t => if f t = 32 then sSkip f m (t + 1) else t
def tLen (μ : Me) : Nat := (μ 1 1).toNatClampNeg
def tAt (μ : Me) : Nat := (μ 1 4).toNatClampNeg
def sLook (f : Nat → Int32) (l q : Nat) : Int32 := if q < l then f q else -1
def sPos (μ : Me) : Nat := sSkip (μ 2) (tLen μ - tAt μ) (tAt μ)
def sPeek (μ : Me) : Int32 × Me := (sLook (μ 2) (tLen μ) (sPos μ), mu μ 1 4 (nI (sPos μ)))
def sIsFig (c : Int32) : Bool := sWithin c 48 57
def sFail (μ : Me) (k w : Int32) : Me := if μ 1 2 = 0 then mu (mu μ 1 2 k) 1 3 w else μ
def sDig (f : Nat → Int32) : Nat → Nat → Int32 → Int32 → Nat × Int32 × Int32
  | 0, t, v, g => (t, v, g)
  | m + 1, t, v, g => if sIsFig (f t) then sDig f m (t + 1) (if 4 < g + 1 then v else v * 10 + f t - 48) (g + 1) else (t, v, g)
def sNumE (μ : Me) (lo hi : Int32) (d : Nat × Int32 × Int32) : Int32 × Me :=
  if 4 < d.2.2 then (-1, sFail (mu μ 1 4 (nI d.1)) 2 (μ 1 5)) else if sWithin d.2.1 lo hi then (d.2.1, mu μ 1 4 (nI d.1)) else (-1, sFail (mu μ 1 4 (nI d.1)) 2 (μ 1 5))
def sNumB (μ : Me) (lo hi : Int32) : Int32 × Me := if μ 1 2 = 0 then sNumE (mu μ 1 5 (μ 1 4)) lo hi (sDig (μ 2) (tLen μ - tAt μ) (tAt μ) 0 0) else (-1, μ)
def sNum (μ : Me) (lo hi : Int32) : Int32 × Me :=
  if sIsFig (sPeek μ).1 then sNumB (sPeek μ).2 lo hi else sNumB (sFail (sPeek μ).2 1 ((sPeek μ).2 1 4)) lo hi
def sEnd (μ : Me) : Me :=
  let m1 := if (sPeek μ).1 = 59 then (sPeek μ).2 else sFail (sPeek μ).2 1 ((sPeek μ).2 1 4)
  mu m1 1 4 (m1 1 4 + 1)
/-- the text's own numbers: its length, and where the reading stands, B at most -/
def tOk (B : Nat) (μ : Me) : Prop := ∃ l t : Nat, μ 1 1 = nI l ∧ l ≤ 240 ∧ μ 1 4 = nI t ∧ t ≤ B
theorem tOk.r {B l t : Nat} {μ : Me} (h1 : μ 1 1 = nI l) (h2 : l ≤ 240) (h3 : μ 1 4 = nI t) (h4 : t ≤ B) (hB : B ≤ 100000) : tLen μ = l ∧ tAt μ = t := by
  unfold tLen tAt
  rw [h1, h3, cl_nI (by omega), cl_nI (by omega)]
  exact ⟨rfl, rfl⟩
theorem sSkip_le (f : Nat → Int32) : ∀ (m t : Nat), sSkip f m t ≤ t + m := by
  intro m
  induction m with
  | zero => intro t; exact Nat.le_refl _
  | succ m ih =>
    intro t
    rw [sSkip]
    split
    · have := ih (t + 1); omega
    · omega
theorem sSkip_ge (f : Nat → Int32) : ∀ (m t : Nat), t ≤ sSkip f m t := by
  intro m
  induction m with
  | zero => intro t; exact Nat.le_refl _
  | succ m ih =>
    intro t
    rw [sSkip]
    split
    · have := ih (t + 1); omega
    · omega
theorem sDig_le (f : Nat → Int32) : ∀ (m t : Nat) (v g : Int32), (sDig f m t v g).1 ≤ t + m := by
  intro m
  induction m with
  | zero => intro t v g; exact Nat.le_refl _
  | succ m ih =>
    intro t v g
    rw [sDig]
    split
    · have := ih (t + 1) (if 4 < g + 1 then v else v * 10 + f t - 48) (g + 1); omega
    · show t ≤ _; omega
theorem win_at {l t : Nat} (hl : l ≤ 240) (ht : t ≤ 100000) : sWithin (nI t) 0 (nI l - 1) = decide (t < l) := by
  rcases Nat.eq_zero_or_pos l with h | h
  · subst h
    have : (nI 0 - 1 : Int32) < nI t := by
      refine Int32.lt_of_lt_of_le (b := 0) (by decide) (nI_pos' (by omega))
    simp [sWithin, this]
  · have e : (nI l : Int32) - 1 = nI (l - 1) := by
      have := pk_sub (a := l) (b := 1) h
      exact this
    rw [e]
    have q1 := nI_pos (n := t) (by omega)
    by_cases q : t < l
    · have q2 := nI_nlt (a := l - 1) (b := t) (by omega) (by omega)
      simp [sWithin, q1, q2, q]
    · have q2 := nI_lt (a := l - 1) (b := t) (by omega) (by omega)
      simp [sWithin, q1, q2, q]
set_option maxHeartbeats 4000000 in
set_option maxRecDepth 100000 in
theorem l_X6_isWay {μ : Me} {e : Nat × (Nat → aC)} {a n : Nat} {way : Int32} (ha : sS a) (hn : μ a 3 = nI n) (h7 : n ≤ 7) : ∀ (m : Nat) (rest used : Int32) (L4 : Option Value), (rest ≤ 0 ∨ ∃ r : Nat, rest = nI r ∧ r < 10 ^ m ∧ r < 2147483648) → AW none 1 0 0 mX6_isWay 0 0 4 [some (.ref a), some (.int way), some (.int used), some (.int rest), L4] [] (wS μ e) (a_eq (some (.int (b2i (sWay (μ a 3) m rest used)))) (wS μ e)) := by
  intro m
  induction m with
  | zero =>
    intro rest used L4 hr
    have hz : rest ≤ 0 := by
      rcases hr with h | ⟨r, rfl, h, -⟩
      · exact h
      · have : r = 0 := by omega
        subst this
        decide
    refine AW.iload_n (n := 5) dX6_isWay_4 rfl rfl ?_
    refine AW.if_le (n := 8) (t := 51) dX6_isWay_5 rfl rfl (fun h5 => ?_) (fun h5 => ?_)
    · refine AW.iload_n (n := 52) dX6_isWay_51 rfl rfl ?_
      refine AW.if_eq (n := 55) (t := 59) dX6_isWay_52 rfl rfl (fun h52 => ?_) (fun h52 => ?_)
      · refine AW.iconst (n := 60) (v := 0) dX6_isWay_59 rfl rfl ?_
        refine AW.iret dX6_isWay_60 rfl rfl (Nat.zero_le _) (Nat.zero_le _) ?_
        exact ⟨by simp [sWay, b2i, h5, h52], rfl⟩
      · refine AW.iconst (n := 56) (v := 1) dX6_isWay_55 rfl rfl ?_
        refine AW.goto (t := 60) dX6_isWay_56 rfl ?_
        refine AW.iret dX6_isWay_60 rfl rfl (Nat.zero_le _) (Nat.zero_le _) ?_
        exact ⟨by simp [sWay, b2i, h5, h52], rfl⟩
    · exact absurd hz h5
  | succ m ih =>
    intro rest used L4 hr
    refine AW.iload_n (n := 5) dX6_isWay_4 rfl rfl ?_
    refine AW.if_le (n := 8) (t := 51) dX6_isWay_5 rfl rfl (fun h5 => ?_) (fun h5 => ?_)
    · refine AW.iload_n (n := 52) dX6_isWay_51 rfl rfl ?_
      refine AW.if_eq (n := 55) (t := 59) dX6_isWay_52 rfl rfl (fun h52 => ?_) (fun h52 => ?_)
      · refine AW.iconst (n := 60) (v := 0) dX6_isWay_59 rfl rfl ?_
        refine AW.iret dX6_isWay_60 rfl rfl (Nat.zero_le _) (Nat.zero_le _) ?_
        exact ⟨by simp [sWay, b2i, sBit, h5, h52], rfl⟩
      · refine AW.iconst (n := 56) (v := 1) dX6_isWay_55 rfl rfl ?_
        refine AW.goto (t := 60) dX6_isWay_56 rfl ?_
        refine AW.iret dX6_isWay_60 rfl rfl (Nat.zero_le _) (Nat.zero_le _) ?_
        exact ⟨by simp [sWay, b2i, sBit, h5, h52], rfl⟩
    · refine AW.iload_n (n := 9) dX6_isWay_8 rfl rfl ?_
      refine AW.bipush (n := 11) (v := 10) dX6_isWay_9 rfl rfl ?_
      refine AW.irem (n := 12) dX6_isWay_11 (by decide) rfl ?_
      refine AW.iconst (n := 13) (v := 1) dX6_isWay_12 rfl rfl ?_
      refine AW.isub (n := 14) dX6_isWay_13 rfl ?_
      refine AW.ist4 (n := 16) dX6_isWay_14 (Nat.le_of_ble_eq_true rfl) rfl rfl ?_
      refine AW.aload_n (n := 17) dX6_isWay_16 rfl rfl ?_
      refine AW.iload (n := 19) dX6_isWay_17 rfl rfl ?_
      refine AW.ev1i (Mc := mX6_has) (n := 22) dX6_isWay_19 lk_X6_52 k_mX6_has ha.1 rfl rfl (c_X6_has ha) (Nat.le_of_ble_eq_true rfl) (by decide) (Nat.zero_le _) (Nat.zero_le _) rfl ?_
      refine AW.bif_eq (n := 25) (t := 34) dX6_isWay_22 rfl rfl (fun h22 => ?_) (fun h22 => ?_)
      · refine AW.iconst (n := 35) (v := 0) dX6_isWay_34 rfl rfl ?_
        refine AW.iret dX6_isWay_35 rfl rfl (Nat.zero_le _) (Nat.zero_le _) ?_
        exact ⟨by simp [sWay, b2i, sBit, h5, h22], rfl⟩
      · refine AW.iload_n (n := 26) dX6_isWay_25 rfl rfl ?_
        refine AW.iload (n := 28) dX6_isWay_26 rfl rfl ?_
        refine AW.ishr (n := 29) dX6_isWay_28 rfl ?_
        refine AW.iconst (n := 30) (v := 1) dX6_isWay_29 rfl rfl ?_
        refine AW.iand (n := 31) dX6_isWay_30 rfl ?_
        refine AW.if_eq (n := 34) (t := 36) dX6_isWay_31 rfl rfl (fun h31 => ?_) (fun h31 => ?_)
        · refine AW.iload_n (n := 37) dX6_isWay_36 rfl rfl ?_
          refine AW.iconst (n := 38) (v := 1) dX6_isWay_37 rfl rfl ?_
          refine AW.iload (n := 40) dX6_isWay_38 rfl rfl ?_
          refine AW.ishl (n := 41) dX6_isWay_40 rfl ?_
          refine AW.ior (n := 42) dX6_isWay_41 rfl ?_
          refine AW.ist2 (n := 43) dX6_isWay_42 (Nat.le_of_ble_eq_true rfl) rfl rfl ?_
          refine AW.iload_n (n := 44) dX6_isWay_43 rfl rfl ?_
          refine AW.bipush (n := 46) (v := 10) dX6_isWay_44 rfl rfl ?_
          refine AW.idiv (n := 47) dX6_isWay_46 (by decide) rfl ?_
          refine AW.ist3 (n := 48) dX6_isWay_47 (Nat.le_of_ble_eq_true rfl) rfl rfl ?_
          refine AW.goto (t := 4) dX6_isWay_48 rfl ?_
          have e9 : sWay (μ a 3) (m + 1) rest used = sWay (μ a 3) m (rest / 10) (used ||| ((1 : Int32) <<< ((rest - rest / 10 * 10 - 1) &&& 31))) := by simp [sWay, sBit, h5, h22, h31]
          rw [e9]
          refine ih _ _ _ ?_
          rcases hr with h | ⟨r, rfl, h, h9⟩
          · exact absurd h h5
          · refine Or.inr ⟨r / 10, pk_div (d := 10) h9 (by decide) (by decide), ?_, by omega⟩
            rw [Nat.pow_succ] at h
            omega
        · refine AW.iconst (n := 35) (v := 0) dX6_isWay_34 rfl rfl ?_
          refine AW.iret dX6_isWay_35 rfl rfl (Nat.zero_le _) (Nat.zero_le _) ?_
          exact ⟨by simp [sWay, b2i, sBit, h5, h22, h31], rfl⟩
def sIsWay (n way : Int32) : Bool := sWay n 10 way 0
theorem way_ok (way : Int32) : way ≤ 0 ∨ ∃ r : Nat, way = nI r ∧ r < 10 ^ 10 ∧ r < 2147483648 := by
  by_cases h : way < 0
  · exact Or.inl (Int32.le_of_lt h)
  · obtain ⟨r, hr, e⟩ := nI_of h
    exact Or.inr ⟨r, e, by omega, hr⟩
set_option maxHeartbeats 4000000 in
set_option maxRecDepth 100000 in
theorem c_X6_isWay {μ : Me} {e : Nat × (Nat → aC)} {a n : Nat} {way : Int32} (ha : sS a) (hn : μ a 3 = nI n) (h7 : n ≤ 7) : AC 1 0 0 mX6_isWay [.ref a, .int way] (wS μ e) (a_eq (some (.int (b2i (sIsWay (μ a 3) way)))) (wS μ e)) := by
  refine AC.of (L := [some (.ref a), some (.int way), none, none, none]) (j := 3) (by decide) rfl (Nat.le_of_ble_eq_true rfl) ?_
  refine AW.iconst (n := 1) (v := 0) dX6_isWay_0 rfl rfl ?_
  refine AW.ist2 (n := 2) dX6_isWay_1 (Nat.le_of_ble_eq_true rfl) rfl rfl ?_
  refine AW.iload_n (n := 3) dX6_isWay_2 rfl rfl ?_
  refine AW.ist3 (n := 4) dX6_isWay_3 (Nat.le_of_ble_eq_true rfl) rfl rfl ?_
  exact l_X6_isWay ha hn h7 10 _ _ _ (way_ok way)
set_option maxHeartbeats 4000000 in
set_option maxRecDepth 100000 in
theorem c_X7_add {μ : Me} {e : Nat × (Nat → aC)} {z : Nat} {x : Int32} (hz : μ 1 1 = nI z) (hz9 : z ≤ 240) : AC 0 0 0 mX7_add [.ref 1, .int x] (wS μ e) (a_eq (some (.int (b2i (decide (z < 240))))) (wS (if z < 240 then sTAdd μ z x else μ) e)) := by
  refine AC.of (L := [some (.ref 1), some (.int x)]) (j := 0) (by decide) rfl (Nat.le_of_ble_eq_true rfl) ?_
  refine AW.aload_n (n := 1) dX7_add_0 rfl rfl ?_
  refine AW.gi (n := 4) dX7_add_1 fl_X7_15 s_1 rfl rfl ?_
  refine AW.sipush (n := 7) (v := 240) dX7_add_4 rfl rfl ?_
  refine AW.icmp_lt (n := 10) (t := 12) dX7_add_7 rfl rfl (fun h7 => ?_) (fun h7 => ?_)
  · have hz1 := lt_lit (b := 240) hz (by omega) (by omega) h7
    refine AW.aload_n (n := 13) dX7_add_12 rfl rfl ?_
    refine AW.gr (n := 16) dX7_add_13 fl_X7_9 s_1 rfl rfl ?_
    refine AW.aload_n (n := 17) dX7_add_16 rfl rfl ?_
    refine AW.gi (n := 20) dX7_add_17 fl_X7_15 s_1 rfl rfl ?_
    refine AW.iload_n (n := 21) dX7_add_20 rfl rfl ?_
    refine AW.is (n := 22) z dX7_add_21 s_2 hz (by omega) (by decide) rfl ?_
    refine AW.aload_n (n := 23) dX7_add_22 rfl rfl ?_
    refine AW.dup (n := 24) dX7_add_23 rfl rfl ?_
    refine AW.gi (n := 27) dX7_add_24 fl_X7_15 s_1 rfl rfl ?_
    refine AW.iconst (n := 28) (v := 1) dX7_add_27 rfl rfl ?_
    refine AW.iadd (n := 29) dX7_add_28 rfl ?_
    refine AW.pi (n := 32) dX7_add_29 fp_X7_15 s_1 rfl ⟨rfl, rfl⟩ rfl ?_
    refine AW.iconst (n := 33) (v := 1) dX7_add_32 rfl rfl ?_
    refine AW.iret dX7_add_33 rfl rfl (Nat.zero_le _) (Nat.zero_le _) ?_
    exact ⟨by simp [sTAdd, b2i, mu_at, nI_1, hz, hz1], by simp [sTAdd, b2i, mu_at, nI_1, hz, hz1]⟩
  · have hz1 := nlt_lit (b := 240) hz (by omega) (by omega) h7
    refine AW.iconst (n := 11) (v := 0) dX7_add_10 rfl rfl ?_
    refine AW.iret dX7_add_11 rfl rfl (Nat.zero_le _) (Nat.zero_le _) ?_
    exact ⟨by simp [sTAdd, b2i, mu_at, nI_1, hz, Nat.not_lt.mpr hz1], by simp [sTAdd, b2i, mu_at, nI_1, hz, Nat.not_lt.mpr hz1]⟩
set_option maxHeartbeats 4000000 in
set_option maxRecDepth 100000 in
theorem c_X7_fail {μ : Me} {e : Nat × (Nat → aC)} {k w : Int32}  : AC 0 0 0 mX7_fail [.ref 1, .int k, .int w] (wS μ e) (a_eq none (wS (sFail μ k w) e)) := by
  refine AC.of (L := [some (.ref 1), some (.int k), some (.int w)]) (j := 0) (by decide) rfl (Nat.le_of_ble_eq_true rfl) ?_
  refine AW.aload_n (n := 1) dX7_fail_0 rfl rfl ?_
  refine AW.gi (n := 4) dX7_fail_1 fl_X7_19 s_1 rfl rfl ?_
  refine AW.if_ne (n := 7) (t := 17) dX7_fail_4 rfl rfl (fun h4 => ?_) (fun h4 => ?_)
  · refine AW.ret dX7_fail_17 rfl (Nat.zero_le _) (Nat.zero_le _) ?_
    exact ⟨rfl, by simp [sFail, h4]⟩
  · refine AW.aload_n (n := 8) dX7_fail_7 rfl rfl ?_
    refine AW.iload_n (n := 9) dX7_fail_8 rfl rfl ?_
    refine AW.pi (n := 12) dX7_fail_9 fp_X7_19 s_1 rfl ⟨rfl, rfl⟩ rfl ?_
    refine AW.aload_n (n := 13) dX7_fail_12 rfl rfl ?_
    refine AW.iload_n (n := 14) dX7_fail_13 rfl rfl ?_
    refine AW.pi (n := 17) dX7_fail_14 fp_X7_22 s_1 rfl ⟨rfl, rfl⟩ rfl ?_
    refine AW.ret dX7_fail_17 rfl (Nat.zero_le _) (Nat.zero_le _) ?_
    exact ⟨rfl, by simp [sFail, h4]⟩
set_option maxHeartbeats 4000000 in
set_option maxRecDepth 100000 in
theorem c_X7_isFigure {σ : aS} {c : Int32}  : AC 1 0 0 mX7_isFigure [.int c] σ (a_eq (some (.int (b2i (sIsFig c)))) σ) := by
  refine AC.of (L := [some (.int c)]) (j := 0) (by decide) rfl (Nat.le_of_ble_eq_true rfl) ?_
  refine AW.iload_n (n := 1) dX7_isFigure_0 rfl rfl ?_
  refine AW.bipush (n := 3) (v := 48) dX7_isFigure_1 rfl rfl ?_
  refine AW.bipush (n := 5) (v := 57) dX7_isFigure_3 rfl rfl ?_
  refine AW.es3i (Mc := mX9_within) (n := 8) dX7_isFigure_5 lk_X7_105 k_mX9_within (c_X9_within) (Nat.le_of_ble_eq_true rfl) (by decide) (Nat.zero_le _) (Nat.zero_le _) rfl ?_
  refine AW.iret dX7_isFigure_8 rfl nar_b2i (Nat.zero_le _) (Nat.zero_le _) ?_
  exact ⟨rfl, rfl⟩
set_option maxHeartbeats 4000000 in
set_option maxRecDepth 100000 in
theorem l_X7_peek {μ : Me} {e : Nat × (Nat → aC)} {l : Nat} (hl : μ 1 1 = nI l) (hl9 : l ≤ 240) : ∀ (m : Nat) (t : Nat), l - t < m → t ≤ 100000 → AW none 1 0 0 mX7_peek 0 0 0 [some (.ref 1)] [] (wS (mu μ 1 4 (nI t)) e) (a_eq (some (.int (sLook (μ 2) l (sSkip (μ 2) (l - t) t)))) (wS (mu μ 1 4 (nI (sSkip (μ 2) (l - t) t))) e)) := by
  intro m
  induction m with
  | zero => intro t hm; exact absurd hm (Nat.not_lt_zero _)
  | succ m ih =>
    intro t hm hc
    have ea : (mu μ 1 4 (nI t)) 1 4 = nI t := mu_same _ _ _ _
    have el : (mu μ 1 4 (nI t)) 1 1 = nI l := (mu_nj (by decide)).trans hl
    have e2 : (mu μ 1 4 (nI t)) 2 = μ 2 := mu_ne (by decide)
    refine AW.aload_n (n := 1) dX7_peek_0 rfl rfl ?_
    refine AW.gi (n := 4) dX7_peek_1 fl_X7_25 s_1 rfl rfl ?_
    refine AW.aload_n (n := 5) dX7_peek_4 rfl rfl ?_
    refine AW.gi (n := 8) dX7_peek_5 fl_X7_15 s_1 rfl rfl ?_
    rw [ea, el]
    refine AW.icmp_ge (n := 11) (t := 38) dX7_peek_8 rfl rfl (fun h8 => ?_) (fun h8 => ?_)
    · have ht : l ≤ t := le_lit (b := l) (x := nI t) rfl (by omega) (by omega) h8
      have e9 : sSkip (μ 2) (l - t) t = t := by rw [show l - t = 0 by omega, sSkip]
      have e8 : sLook (μ 2) l t = -1 := by unfold sLook; rw [if_neg (by omega)]
      rw [e9, e8]
      refine AW.aload_n (n := 39) dX7_peek_38 rfl rfl ?_
      refine AW.gi (n := 42) dX7_peek_39 fl_X7_25 s_1 rfl rfl ?_
      refine AW.iconst (n := 43) (v := 0) dX7_peek_42 rfl rfl ?_
      refine AW.aload_n (n := 44) dX7_peek_43 rfl rfl ?_
      refine AW.gi (n := 47) dX7_peek_44 fl_X7_15 s_1 rfl rfl ?_
      refine AW.iconst (n := 48) (v := 1) dX7_peek_47 rfl rfl ?_
      refine AW.isub (n := 49) dX7_peek_48 rfl ?_
      refine AW.es3i (Mc := mX9_within) (n := 52) dX7_peek_49 lk_X7_105 k_mX9_within (c_X9_within) (Nat.le_of_ble_eq_true rfl) (by decide) (Nat.zero_le _) (Nat.zero_le _) rfl ?_
      refine AW.bif_eq (n := 55) (t := 67) dX7_peek_52 rfl rfl (fun h52 => ?_) (fun h52 => ?_)
      · refine AW.iconst (n := 68) (v := -1) dX7_peek_67 rfl rfl ?_
        refine AW.iret dX7_peek_68 rfl rfl (Nat.zero_le _) (Nat.zero_le _) ?_
        exact ⟨rfl, rfl⟩
      · exact absurd h52 (by rw [ea, el, win_at hl9 hc]; simp; omega)
    · have ht : t < l := nle_lit (b := l) (x := nI t) rfl (by omega) (by omega) h8
      have hs : l - t = (l - (t + 1)) + 1 := by omega
      refine AW.aload_n (n := 12) dX7_peek_11 rfl rfl ?_
      refine AW.gr (n := 15) dX7_peek_12 fl_X7_9 s_1 rfl rfl ?_
      refine AW.aload_n (n := 16) dX7_peek_15 rfl rfl ?_
      refine AW.gi (n := 19) dX7_peek_16 fl_X7_25 s_1 rfl rfl ?_
      refine AW.ia (n := 20) t dX7_peek_19 s_2 ea (by omega) (by decide) rfl ?_
      refine AW.bipush (n := 22) (v := 32) dX7_peek_20 rfl rfl ?_
      rw [e2]
      refine AW.icmp_ne (n := 25) (t := 38) dX7_peek_22 rfl rfl (fun h22 => ?_) (fun h22 => ?_)
      · have e9 : sSkip (μ 2) (l - t) t = t := by rw [hs, sSkip, if_neg h22]
        have e8 : sLook (μ 2) l t = μ 2 t := by unfold sLook; rw [if_pos ht]
        rw [e9, e8]
        refine AW.aload_n (n := 39) dX7_peek_38 rfl rfl ?_
        refine AW.gi (n := 42) dX7_peek_39 fl_X7_25 s_1 rfl rfl ?_
        refine AW.iconst (n := 43) (v := 0) dX7_peek_42 rfl rfl ?_
        refine AW.aload_n (n := 44) dX7_peek_43 rfl rfl ?_
        refine AW.gi (n := 47) dX7_peek_44 fl_X7_15 s_1 rfl rfl ?_
        refine AW.iconst (n := 48) (v := 1) dX7_peek_47 rfl rfl ?_
        refine AW.isub (n := 49) dX7_peek_48 rfl ?_
        refine AW.es3i (Mc := mX9_within) (n := 52) dX7_peek_49 lk_X7_105 k_mX9_within (c_X9_within) (Nat.le_of_ble_eq_true rfl) (by decide) (Nat.zero_le _) (Nat.zero_le _) rfl ?_
        refine AW.bif_eq (n := 55) (t := 67) dX7_peek_52 rfl rfl (fun h52 => ?_) (fun h52 => ?_)
        · exact absurd h52 (by rw [ea, el, win_at hl9 hc]; simp; omega)
        · refine AW.aload_n (n := 56) dX7_peek_55 rfl rfl ?_
          refine AW.gr (n := 59) dX7_peek_56 fl_X7_9 s_1 rfl rfl ?_
          refine AW.aload_n (n := 60) dX7_peek_59 rfl rfl ?_
          refine AW.gi (n := 63) dX7_peek_60 fl_X7_25 s_1 rfl rfl ?_
          refine AW.ia (n := 64) t dX7_peek_63 s_2 ea (by omega) (by decide) rfl ?_
          refine AW.goto (t := 68) dX7_peek_64 rfl ?_
          refine AW.iret dX7_peek_68 rfl rfl (Nat.zero_le _) (Nat.zero_le _) ?_
          exact ⟨by rw [e2], rfl⟩
      · refine AW.aload_n (n := 26) dX7_peek_25 rfl rfl ?_
        refine AW.dup (n := 27) dX7_peek_26 rfl rfl ?_
        refine AW.gi (n := 30) dX7_peek_27 fl_X7_25 s_1 rfl rfl ?_
        refine AW.iconst (n := 31) (v := 1) dX7_peek_30 rfl rfl ?_
        refine AW.iadd (n := 32) dX7_peek_31 rfl ?_
        refine AW.pi (n := 35) dX7_peek_32 fp_X7_25 s_1 rfl ⟨rfl, rfl⟩ rfl ?_
        refine AW.goto (t := 0) dX7_peek_35 rfl ?_
        rw [ea]
        have e9 : sSkip (μ 2) (l - t) t = sSkip (μ 2) (l - (t + 1)) (t + 1) := by rw [hs, sSkip, if_pos h22]
        rw [e9]
        refine AW.eqS (by rw [mu_mu, nI_1]) (ih (t + 1) (by omega) (by omega))
set_option maxHeartbeats 4000000 in
set_option maxRecDepth 100000 in
theorem c_X7_peek {μ : Me} {e : Nat × (Nat → aC)} {B : Nat} (ho : tOk B μ) (hB : B ≤ 100000) : AC 1 0 0 mX7_peek [.ref 1] (wS μ e) (a_eq (some (.int ((sPeek μ).1))) (wS ((sPeek μ).2) e)) := by
  refine AC.of (L := [some (.ref 1)]) (j := 0) (by decide) rfl (Nat.le_of_ble_eq_true rfl) ?_
  obtain ⟨l, t, h1, h2, h3, h4⟩ := ho
  obtain ⟨e1, e2⟩ := tOk.r h1 h2 h3 h4 hB
  have h := l_X7_peek (e := e) h1 h2 (l - t + 1) t (by omega) (by omega)
  rw [mu_self' h3] at h
  unfold sPeek sPos
  rw [e1, e2]
  exact h
end
section
theorem tOk.mset {B a j : Nat} {x : Int32} {μ : Me} (h : tOk B μ) (hj : a = 1 → j ≠ 1 ∧ j ≠ 4) : tOk B (mu μ a j x) := by
  obtain ⟨l, t, h1, h2, h3, h4⟩ := h
  refine ⟨l, t, ?_, h2, ?_, h4⟩
  · rw [mu_at, if_neg]
    · exact h1
    · rintro ⟨q1, q2⟩; exact (hj q1.symm).1 q2.symm
  · rw [mu_at, if_neg]
    · exact h3
    · rintro ⟨q1, q2⟩; exact (hj q1.symm).2 q2.symm
theorem tOk.at {B B' t' : Nat} {μ : Me} (h : tOk B μ) (ht : t' ≤ B') : tOk B' (mu μ 1 4 (nI t')) := by
  obtain ⟨l, t, h1, h2, h3, h4⟩ := h
  exact ⟨l, t', by rw [mu_nj (by decide)]; exact h1, h2, mu_same _ _ _ _, ht⟩
theorem tOk.fail {B : Nat} {k w : Int32} {μ : Me} (h : tOk B μ) : tOk B (sFail μ k w) := by
  unfold sFail
  split
  · exact (h.mset (fun _ => ⟨by decide, by decide⟩)).mset (fun _ => ⟨by decide, by decide⟩)
  · exact h
theorem tOk.pos {B : Nat} {μ : Me} (h : tOk B μ) (hB : 240 ≤ B) (hB9 : B ≤ 100000) : sPos μ ≤ B := by
  obtain ⟨l, t, h1, h2, h3, h4⟩ := h
  obtain ⟨e1, e2⟩ := tOk.r h1 h2 h3 h4 hB9
  unfold sPos
  rw [e1, e2]
  have := sSkip_le (μ 2) (l - t) t
  omega
theorem tOk.peek {B : Nat} {μ : Me} (h : tOk B μ) (hB : 240 ≤ B) (hB9 : B ≤ 100000) : tOk B (sPeek μ).2 := h.at (h.pos hB hB9)
theorem tOk.inc {B : Nat} {μ : Me} (h : tOk B μ) : tOk (B + 1) (mu μ 1 4 (μ 1 4 + 1)) := by
  obtain ⟨l, t, h1, h2, h3, h4⟩ := h
  refine ⟨l, t + 1, by rw [mu_nj (by decide)]; exact h1, h2, ?_, by omega⟩
  rw [mu_same, h3, nI_1]
theorem tOk.numB {B : Nat} {lo hi : Int32} {μ : Me} (h : tOk B μ) (hB : 240 ≤ B) (hB9 : B ≤ 100000) : tOk B (sNumB μ lo hi).2 := by
  have hd : (sDig (μ 2) (tLen μ - tAt μ) (tAt μ) 0 0).1 ≤ B := by
    obtain ⟨l, t, h1, h2, h3, h4⟩ := h
    obtain ⟨e1, e2⟩ := tOk.r h1 h2 h3 h4 hB9
    rw [e1, e2]
    have := sDig_le (μ 2) (l - t) t 0 0
    omega
  have h5 : tOk B (mu μ 1 5 (μ 1 4)) := h.mset (fun _ => ⟨by decide, by decide⟩)
  unfold sNumB
  split
  · unfold sNumE
    split
    · exact (h5.at hd).fail
    · split
      · exact h5.at hd
      · exact (h5.at hd).fail
  · exact h
theorem tOk.num {B : Nat} {lo hi : Int32} {μ : Me} (h : tOk B μ) (hB : 240 ≤ B) (hB9 : B ≤ 100000) : tOk B (sNum μ lo hi).2 := by
  unfold sNum
  split
  · exact (h.peek hB hB9).numB hB hB9
  · exact (h.peek hB hB9).fail.numB hB hB9
theorem tOk.endc {B : Nat} {μ : Me} (h : tOk B μ) (hB : 240 ≤ B) (hB9 : B ≤ 100000) : tOk (B + 1) (sEnd μ) := by
  unfold sEnd
  refine tOk.inc ?_
  split
  · exact h.peek hB hB9
  · exact (h.peek hB hB9).fail
theorem tOk.up {B B' : Nat} {μ : Me} (h : tOk B μ) (hB : B ≤ B') : tOk B' μ := by
  obtain ⟨l, t, h1, h2, h3, h4⟩ := h
  exact ⟨l, t, h1, h2, h3, Nat.le_trans h4 hB⟩
theorem sFail_ne {μ : Me} {k w : Int32} {i : Nat} (h : i ≠ 1) : sFail μ k w i = μ i := by
  unfold sFail
  split
  · rw [mu_ne h, mu_ne h]
  · rfl
theorem sPeek_ne {μ : Me} {i : Nat} (h : i ≠ 1) : (sPeek μ).2 i = μ i := mu_ne h
theorem sNumB_ne {μ : Me} {lo hi : Int32} {i : Nat} (h : i ≠ 1) : (sNumB μ lo hi).2 i = μ i := by
  unfold sNumB
  split
  · unfold sNumE
    split
    · show sFail _ _ _ i = _; rw [sFail_ne h, mu_ne h, mu_ne h]
    · split
      · show mu _ _ _ _ i = _; rw [mu_ne h, mu_ne h]
      · show sFail _ _ _ i = _; rw [sFail_ne h, mu_ne h, mu_ne h]
  · rfl
theorem sNum_ne {μ : Me} {lo hi : Int32} {i : Nat} (h : i ≠ 1) : (sNum μ lo hi).2 i = μ i := by
  unfold sNum
  split
  · rw [sNumB_ne h, sPeek_ne h]
  · rw [sNumB_ne h, sFail_ne h, sPeek_ne h]
theorem sEnd_ne {μ : Me} {i : Nat} (h : i ≠ 1) : sEnd μ i = μ i := by
  unfold sEnd
  rw [mu_ne h]
  split
  · exact sPeek_ne h
  · rw [sFail_ne h]; exact sPeek_ne h
set_option maxHeartbeats 4000000 in
set_option maxRecDepth 100000 in
theorem l_X7_number_41 {μ : Me} {e : Nat × (Nat → aC)} {l : Nat} {lo hi : Int32} (hl : μ 1 1 = nI l) (hl9 : l ≤ 240) : ∀ (m : Nat) (t : Nat) (v g : Int32), l - t < m → t ≤ 100000 → AW none 2 0 0 mX7_number 0 0 41 [some (.ref 1), some (.int lo), some (.int hi), some (.int v), some (.int g)] [] (wS (mu μ 1 4 (nI t)) e) (a_eq (some (.int (sNumE μ lo hi (sDig (μ 2) (l - t) t v g)).1)) (wS (sNumE μ lo hi (sDig (μ 2) (l - t) t v g)).2 e)) := by
  intro m
  induction m with
  | zero => intro t v g hm; exact absurd hm (Nat.not_lt_zero _)
  | succ m ih =>
    intro t v g hm hc
    have ea : (mu μ 1 4 (nI t)) 1 4 = nI t := mu_same _ _ _ _
    have el : (mu μ 1 4 (nI t)) 1 1 = nI l := (mu_nj (by decide)).trans hl
    have e2 : (mu μ 1 4 (nI t)) 2 = μ 2 := mu_ne (by decide)
    refine AW.aload_n (n := 42) dX7_number_41 rfl rfl ?_
    refine AW.gi (n := 45) dX7_number_42 fl_X7_25 s_1 rfl rfl ?_
    refine AW.aload_n (n := 46) dX7_number_45 rfl rfl ?_
    refine AW.gi (n := 49) dX7_number_46 fl_X7_15 s_1 rfl rfl ?_
    rw [ea, el]
    refine AW.icmp_ge (n := 52) (t := 107) dX7_number_49 rfl rfl (fun h49 => ?_) (fun h49 => ?_)
    · have ht : l ≤ t := le_lit (b := l) (x := nI t) rfl (by omega) (by omega) h49
      have e9 : sDig (μ 2) (l - t) t v g = (t, v, g) := by rw [show l - t = 0 by omega, sDig]
      rw [e9]
      refine AW.iload (n := 109) dX7_number_107 rfl rfl ?_
      refine AW.iconst (n := 110) (v := 4) dX7_number_109 rfl rfl ?_
      refine AW.icmp_gt (n := 113) (t := 122) dX7_number_110 rfl rfl (fun h110 => ?_) (fun h110 => ?_)
      · refine AW.aload_n (n := 123) dX7_number_122 rfl rfl ?_
        refine AW.iconst (n := 124) (v := 2) dX7_number_123 rfl rfl ?_
        refine AW.aload_n (n := 125) dX7_number_124 rfl rfl ?_
        refine AW.gi (n := 128) dX7_number_125 fl_X7_28 s_1 rfl rfl ?_
        refine AW.ev2v (Mc := mX7_fail) (n := 131) dX7_number_128 lk_X7_47 k_mX7_fail s_1 rfl rfl (c_X7_fail) (Nat.le_of_ble_eq_true rfl) (by decide) (Nat.zero_le _) (Nat.zero_le _) rfl ?_
        refine AW.iconst (n := 132) (v := -1) dX7_number_131 rfl rfl ?_
        refine AW.iret dX7_number_132 rfl rfl (Nat.zero_le _) (Nat.zero_le _) ?_
        exact ⟨by simp [sNumE, h110], by simp [sNumE, h110, mu_at]⟩
      · refine AW.iload_n (n := 114) dX7_number_113 rfl rfl ?_
        refine AW.iload_n (n := 115) dX7_number_114 rfl rfl ?_
        refine AW.iload_n (n := 116) dX7_number_115 rfl rfl ?_
        refine AW.es3i (Mc := mX9_within) (n := 119) dX7_number_116 lk_X7_105 k_mX9_within (c_X9_within) (Nat.le_of_ble_eq_true rfl) (by decide) (Nat.zero_le _) (Nat.zero_le _) rfl ?_
        refine AW.bif_ne (n := 122) (t := 133) dX7_number_119 rfl rfl (fun h119 => ?_) (fun h119 => ?_)
        · refine AW.iload_n (n := 134) dX7_number_133 rfl rfl ?_
          refine AW.iret dX7_number_134 rfl rfl (Nat.zero_le _) (Nat.zero_le _) ?_
          exact ⟨by simp [sNumE, h110, h119], by simp [sNumE, h110, h119]⟩
        · refine AW.aload_n (n := 123) dX7_number_122 rfl rfl ?_
          refine AW.iconst (n := 124) (v := 2) dX7_number_123 rfl rfl ?_
          refine AW.aload_n (n := 125) dX7_number_124 rfl rfl ?_
          refine AW.gi (n := 128) dX7_number_125 fl_X7_28 s_1 rfl rfl ?_
          refine AW.ev2v (Mc := mX7_fail) (n := 131) dX7_number_128 lk_X7_47 k_mX7_fail s_1 rfl rfl (c_X7_fail) (Nat.le_of_ble_eq_true rfl) (by decide) (Nat.zero_le _) (Nat.zero_le _) rfl ?_
          refine AW.iconst (n := 132) (v := -1) dX7_number_131 rfl rfl ?_
          refine AW.iret dX7_number_132 rfl rfl (Nat.zero_le _) (Nat.zero_le _) ?_
          exact ⟨by simp [sNumE, h110, h119], by simp [sNumE, h110, h119, mu_at]⟩
    · have ht : t < l := nle_lit (b := l) (x := nI t) rfl (by omega) (by omega) h49
      have hs : l - t = (l - (t + 1)) + 1 := by omega
      refine AW.aload_n (n := 53) dX7_number_52 rfl rfl ?_
      refine AW.gr (n := 56) dX7_number_53 fl_X7_9 s_1 rfl rfl ?_
      refine AW.aload_n (n := 57) dX7_number_56 rfl rfl ?_
      refine AW.gi (n := 60) dX7_number_57 fl_X7_25 s_1 rfl rfl ?_
      refine AW.ia (n := 61) t dX7_number_60 s_2 ea (by omega) (by decide) rfl ?_
      rw [e2]
      refine AW.es1i (Mc := mX7_isFigure) (n := 64) dX7_number_61 lk_X7_102 k_mX7_isFigure (c_X7_isFigure) (Nat.le_of_ble_eq_true rfl) (by decide) (Nat.zero_le _) (Nat.zero_le _) rfl ?_
      refine AW.bif_eq (n := 67) (t := 107) dX7_number_64 rfl rfl (fun h64 => ?_) (fun h64 => ?_)
      · have e9 : sDig (μ 2) (l - t) t v g = (t, v, g) := by rw [hs, sDig, h64]; rfl
        rw [e9]
        refine AW.iload (n := 109) dX7_number_107 rfl rfl ?_
        refine AW.iconst (n := 110) (v := 4) dX7_number_109 rfl rfl ?_
        refine AW.icmp_gt (n := 113) (t := 122) dX7_number_110 rfl rfl (fun h110 => ?_) (fun h110 => ?_)
        · refine AW.aload_n (n := 123) dX7_number_122 rfl rfl ?_
          refine AW.iconst (n := 124) (v := 2) dX7_number_123 rfl rfl ?_
          refine AW.aload_n (n := 125) dX7_number_124 rfl rfl ?_
          refine AW.gi (n := 128) dX7_number_125 fl_X7_28 s_1 rfl rfl ?_
          refine AW.ev2v (Mc := mX7_fail) (n := 131) dX7_number_128 lk_X7_47 k_mX7_fail s_1 rfl rfl (c_X7_fail) (Nat.le_of_ble_eq_true rfl) (by decide) (Nat.zero_le _) (Nat.zero_le _) rfl ?_
          refine AW.iconst (n := 132) (v := -1) dX7_number_131 rfl rfl ?_
          refine AW.iret dX7_number_132 rfl rfl (Nat.zero_le _) (Nat.zero_le _) ?_
          exact ⟨by simp [sNumE, h110], by simp [sNumE, h110, mu_at]⟩
        · refine AW.iload_n (n := 114) dX7_number_113 rfl rfl ?_
          refine AW.iload_n (n := 115) dX7_number_114 rfl rfl ?_
          refine AW.iload_n (n := 116) dX7_number_115 rfl rfl ?_
          refine AW.es3i (Mc := mX9_within) (n := 119) dX7_number_116 lk_X7_105 k_mX9_within (c_X9_within) (Nat.le_of_ble_eq_true rfl) (by decide) (Nat.zero_le _) (Nat.zero_le _) rfl ?_
          refine AW.bif_ne (n := 122) (t := 133) dX7_number_119 rfl rfl (fun h119 => ?_) (fun h119 => ?_)
          · refine AW.iload_n (n := 134) dX7_number_133 rfl rfl ?_
            refine AW.iret dX7_number_134 rfl rfl (Nat.zero_le _) (Nat.zero_le _) ?_
            exact ⟨by simp [sNumE, h110, h119], by simp [sNumE, h110, h119]⟩
          · refine AW.aload_n (n := 123) dX7_number_122 rfl rfl ?_
            refine AW.iconst (n := 124) (v := 2) dX7_number_123 rfl rfl ?_
            refine AW.aload_n (n := 125) dX7_number_124 rfl rfl ?_
            refine AW.gi (n := 128) dX7_number_125 fl_X7_28 s_1 rfl rfl ?_
            refine AW.ev2v (Mc := mX7_fail) (n := 131) dX7_number_128 lk_X7_47 k_mX7_fail s_1 rfl rfl (c_X7_fail) (Nat.le_of_ble_eq_true rfl) (by decide) (Nat.zero_le _) (Nat.zero_le _) rfl ?_
            refine AW.iconst (n := 132) (v := -1) dX7_number_131 rfl rfl ?_
            refine AW.iret dX7_number_132 rfl rfl (Nat.zero_le _) (Nat.zero_le _) ?_
            exact ⟨by simp [sNumE, h110, h119], by simp [sNumE, h110, h119, mu_at]⟩
      · refine AW.inc4 (n := 70) (1) dX7_number_67 rfl (Nat.le_of_ble_eq_true rfl) rfl rfl ?_
        refine AW.iload (n := 72) dX7_number_70 rfl rfl ?_
        refine AW.iconst (n := 73) (v := 4) dX7_number_72 rfl rfl ?_
        refine AW.icmp_gt (n := 76) (t := 94) dX7_number_73 rfl rfl (fun h73 => ?_) (fun h73 => ?_)
        · refine AW.aload_n (n := 95) dX7_number_94 rfl rfl ?_
          refine AW.dup (n := 96) dX7_number_95 rfl rfl ?_
          refine AW.gi (n := 99) dX7_number_96 fl_X7_25 s_1 rfl rfl ?_
          refine AW.iconst (n := 100) (v := 1) dX7_number_99 rfl rfl ?_
          refine AW.iadd (n := 101) dX7_number_100 rfl ?_
          refine AW.pi (n := 104) dX7_number_101 fp_X7_25 s_1 rfl ⟨rfl, rfl⟩ rfl ?_
          refine AW.goto (t := 41) dX7_number_104 rfl ?_
          rw [ea]
          have e9 : sDig (μ 2) (l - t) t v g = sDig (μ 2) (l - (t + 1)) (t + 1) (if 4 < g + 1 then v else v * 10 + μ 2 t - 48) (g + 1) := by rw [hs, sDig, h64]; rfl
          rw [e9]
          have ev : (if 4 < g + 1 then v else v * 10 + μ 2 t - 48) = v := by simp [h73]
          rw [ev]
          refine AW.eqS (by rw [mu_mu, nI_1]) (ih (t + 1) _ _ (by omega) (by omega))
        · refine AW.iload_n (n := 77) dX7_number_76 rfl rfl ?_
          refine AW.bipush (n := 79) (v := 10) dX7_number_77 rfl rfl ?_
          refine AW.imul (n := 80) dX7_number_79 rfl ?_
          refine AW.aload_n (n := 81) dX7_number_80 rfl rfl ?_
          refine AW.gr (n := 84) dX7_number_81 fl_X7_9 s_1 rfl rfl ?_
          refine AW.aload_n (n := 85) dX7_number_84 rfl rfl ?_
          refine AW.gi (n := 88) dX7_number_85 fl_X7_25 s_1 rfl rfl ?_
          refine AW.ia (n := 89) t dX7_number_88 s_2 ea (by omega) (by decide) rfl ?_
          rw [e2]
          refine AW.iadd (n := 90) dX7_number_89 rfl ?_
          refine AW.bipush (n := 92) (v := 48) dX7_number_90 rfl rfl ?_
          refine AW.isub (n := 93) dX7_number_92 rfl ?_
          refine AW.ist3 (n := 94) dX7_number_93 (Nat.le_of_ble_eq_true rfl) rfl rfl ?_
          refine AW.aload_n (n := 95) dX7_number_94 rfl rfl ?_
          refine AW.dup (n := 96) dX7_number_95 rfl rfl ?_
          refine AW.gi (n := 99) dX7_number_96 fl_X7_25 s_1 rfl rfl ?_
          refine AW.iconst (n := 100) (v := 1) dX7_number_99 rfl rfl ?_
          refine AW.iadd (n := 101) dX7_number_100 rfl ?_
          refine AW.pi (n := 104) dX7_number_101 fp_X7_25 s_1 rfl ⟨rfl, rfl⟩ rfl ?_
          refine AW.goto (t := 41) dX7_number_104 rfl ?_
          rw [ea]
          have e9 : sDig (μ 2) (l - t) t v g = sDig (μ 2) (l - (t + 1)) (t + 1) (if 4 < g + 1 then v else v * 10 + μ 2 t - 48) (g + 1) := by rw [hs, sDig, h64]; rfl
          rw [e9]
          have ev : (if 4 < g + 1 then v else v * 10 + μ 2 t - 48) = v * 10 + μ 2 t - 48 := by simp [h73]
          rw [ev]
          refine AW.eqS (by rw [mu_mu, nI_1]) (ih (t + 1) _ _ (by omega) (by omega))
set_option maxHeartbeats 4000000 in
set_option maxRecDepth 100000 in
theorem l_X7_number_19 {μ : Me} {e : Nat × (Nat → aC)} {B : Nat} {lo hi : Int32} (ho : tOk B μ) (hB : B ≤ 100000) : AW none 2 0 0 mX7_number 0 0 19 [some (.ref 1), some (.int lo), some (.int hi), none, none] [] (wS μ e) (a_eq (some (.int (sNumB μ lo hi).1)) (wS (sNumB μ lo hi).2 e)) := by
  refine AW.aload_n (n := 20) dX7_number_19 rfl rfl ?_
  refine AW.gi (n := 23) dX7_number_20 fl_X7_19 s_1 rfl rfl ?_
  refine AW.if_eq (n := 26) (t := 28) dX7_number_23 rfl rfl (fun h23 => ?_) (fun h23 => ?_)
  · refine AW.aload_n (n := 29) dX7_number_28 rfl rfl ?_
    refine AW.aload_n (n := 30) dX7_number_29 rfl rfl ?_
    refine AW.gi (n := 33) dX7_number_30 fl_X7_25 s_1 rfl rfl ?_
    refine AW.pi (n := 36) dX7_number_33 fp_X7_28 s_1 rfl ⟨rfl, rfl⟩ rfl ?_
    refine AW.iconst (n := 37) (v := 0) dX7_number_36 rfl rfl ?_
    refine AW.ist3 (n := 38) dX7_number_37 (Nat.le_of_ble_eq_true rfl) rfl rfl ?_
    refine AW.iconst (n := 39) (v := 0) dX7_number_38 rfl rfl ?_
    refine AW.ist4 (n := 41) dX7_number_39 (Nat.le_of_ble_eq_true rfl) rfl rfl ?_
    obtain ⟨l, t, h1, h2, h3, h4⟩ := ho
    obtain ⟨e1, e2⟩ := tOk.r h1 h2 h3 h4 hB
    have e3 : (mu μ 1 5 (μ 1 4)) 1 4 = nI t := by rw [mu_nj (by decide)]; exact h3
    have h := l_X7_number_41 (μ := mu μ 1 5 (μ 1 4)) (e := e) (lo := lo) (hi := hi) (l := l) (by rw [mu_nj (by decide)]; exact h1) h2 (l - t + 1) t 0 0 (by omega) (by omega)
    rw [mu_self' e3] at h
    unfold sNumB
    rw [if_pos h23, e1, e2]
    exact h
  · refine AW.iconst (n := 27) (v := -1) dX7_number_26 rfl rfl ?_
    refine AW.iret dX7_number_27 rfl rfl (Nat.zero_le _) (Nat.zero_le _) ?_
    exact ⟨by simp [sNumB, h23], by simp [sNumB, h23]⟩
set_option maxHeartbeats 4000000 in
set_option maxRecDepth 100000 in
theorem c_X7_number {μ : Me} {e : Nat × (Nat → aC)} {B : Nat} {lo hi : Int32} (ho : tOk B μ) (hB : 240 ≤ B) (hB9 : B ≤ 100000) : AC 2 0 0 mX7_number [.ref 1, .int lo, .int hi] (wS μ e) (a_eq (some (.int ((sNum μ lo hi).1))) (wS ((sNum μ lo hi).2) e)) := by
  refine AC.of (L := [some (.ref 1), some (.int lo), some (.int hi), none, none]) (j := 2) (by decide) rfl (Nat.le_of_ble_eq_true rfl) ?_
  refine AW.aload_n (n := 1) dX7_number_0 rfl rfl ?_
  refine AW.ev0i (Mc := mX7_peek) (n := 4) dX7_number_1 lk_X7_36 k_mX7_peek s_1 rfl rfl (c_X7_peek ho hB9) (Nat.le_of_ble_eq_true rfl) (by decide) (Nat.zero_le _) (Nat.zero_le _) rfl ?_
  refine AW.es1i (Mc := mX7_isFigure) (n := 7) dX7_number_4 lk_X7_102 k_mX7_isFigure (c_X7_isFigure) (Nat.le_of_ble_eq_true rfl) (by decide) (Nat.zero_le _) (Nat.zero_le _) rfl ?_
  refine AW.bif_ne (n := 10) (t := 19) dX7_number_7 rfl rfl (fun h7 => ?_) (fun h7 => ?_)
  · have hk := ho.peek hB hB9
    unfold sNum
    rw [if_pos h7]
    exact l_X7_number_19 hk hB9
  · refine AW.aload_n (n := 11) dX7_number_10 rfl rfl ?_
    refine AW.iconst (n := 12) (v := 1) dX7_number_11 rfl rfl ?_
    refine AW.aload_n (n := 13) dX7_number_12 rfl rfl ?_
    refine AW.gi (n := 16) dX7_number_13 fl_X7_25 s_1 rfl rfl ?_
    refine AW.ev2v (Mc := mX7_fail) (n := 19) dX7_number_16 lk_X7_47 k_mX7_fail s_1 rfl rfl (c_X7_fail) (Nat.le_of_ble_eq_true rfl) (by decide) (Nat.zero_le _) (Nat.zero_le _) rfl ?_
    have hk := ho.peek hB hB9
    unfold sNum
    rw [if_neg (by rw [h7]; decide)]
    exact l_X7_number_19 hk.fail hB9
set_option maxHeartbeats 4000000 in
set_option maxRecDepth 100000 in
theorem c_X7_endClause {μ : Me} {e : Nat × (Nat → aC)} {B : Nat} (ho : tOk B μ) (hB9 : B ≤ 100000) : AC 2 0 0 mX7_endClause [.ref 1] (wS μ e) (a_eq none (wS (sEnd μ) e)) := by
  refine AC.of (L := [some (.ref 1)]) (j := 0) (by decide) rfl (Nat.le_of_ble_eq_true rfl) ?_
  refine AW.aload_n (n := 1) dX7_endClause_0 rfl rfl ?_
  refine AW.ev0i (Mc := mX7_peek) (n := 4) dX7_endClause_1 lk_X7_36 k_mX7_peek s_1 rfl rfl (c_X7_peek ho hB9) (Nat.le_of_ble_eq_true rfl) (by decide) (Nat.zero_le _) (Nat.zero_le _) rfl ?_
  refine AW.bipush (n := 6) (v := 59) dX7_endClause_4 rfl rfl ?_
  refine AW.icmp_eq (n := 9) (t := 18) dX7_endClause_6 rfl rfl (fun h6 => ?_) (fun h6 => ?_)
  · refine AW.aload_n (n := 19) dX7_endClause_18 rfl rfl ?_
    refine AW.dup (n := 20) dX7_endClause_19 rfl rfl ?_
    refine AW.gi (n := 23) dX7_endClause_20 fl_X7_25 s_1 rfl rfl ?_
    refine AW.iconst (n := 24) (v := 1) dX7_endClause_23 rfl rfl ?_
    refine AW.iadd (n := 25) dX7_endClause_24 rfl ?_
    refine AW.pi (n := 28) dX7_endClause_25 fp_X7_25 s_1 rfl ⟨rfl, rfl⟩ rfl ?_
    refine AW.ret dX7_endClause_28 rfl (Nat.zero_le _) (Nat.zero_le _) ?_
    exact ⟨rfl, by simp [sEnd, h6]⟩
  · refine AW.aload_n (n := 10) dX7_endClause_9 rfl rfl ?_
    refine AW.iconst (n := 11) (v := 1) dX7_endClause_10 rfl rfl ?_
    refine AW.aload_n (n := 12) dX7_endClause_11 rfl rfl ?_
    refine AW.gi (n := 15) dX7_endClause_12 fl_X7_25 s_1 rfl rfl ?_
    refine AW.ev2v (Mc := mX7_fail) (n := 18) dX7_endClause_15 lk_X7_47 k_mX7_fail s_1 rfl rfl (c_X7_fail) (Nat.le_of_ble_eq_true rfl) (by decide) (Nat.zero_le _) (Nat.zero_le _) rfl ?_
    refine AW.aload_n (n := 19) dX7_endClause_18 rfl rfl ?_
    refine AW.dup (n := 20) dX7_endClause_19 rfl rfl ?_
    refine AW.gi (n := 23) dX7_endClause_20 fl_X7_25 s_1 rfl rfl ?_
    refine AW.iconst (n := 24) (v := 1) dX7_endClause_23 rfl rfl ?_
    refine AW.iadd (n := 25) dX7_endClause_24 rfl ?_
    refine AW.pi (n := 28) dX7_endClause_25 fp_X7_25 s_1 rfl ⟨rfl, rfl⟩ rfl ?_
    refine AW.ret dX7_endClause_28 rfl (Nat.zero_le _) (Nat.zero_le _) ?_
    exact ⟨rfl, by simp [sEnd, h6]⟩
end
