section
-- ===== PART A: goes FIRST, ahead of the names: the tables' words, and 'selects' of the private methods out of them =====
/-- a private method of a class that the tables say can be made, by its rows of tables_1 -/
def lw_okq (q : MethodName × Nat) : Prop := (q.1.cls ≠ "java/lang/invoke/MethodHandle" ∧ q.1.cls ≠ "java/lang/invoke/VarHandle") ∧ Cond.instantiable q.1.cls q.2 ∈ tables_1 ∧ Cond.privateMethod q.1 ∈ tables_1 ∧ Cond.instanceMethod q.1 ∈ tables_1
theorem lw_p0 : lw_okq (⟨"FlexedFaces$Tape", "add", "(I)I"⟩, 2) := ⟨⟨by decide +kernel, by decide +kernel⟩, List.mem_of_getElem? (i := 24) (by decide +kernel), List.mem_of_getElem? (i := 276) (by decide +kernel), List.mem_of_getElem? (i := 277) (by decide +kernel)⟩
theorem lw_p1 : lw_okq (⟨"FlexedFaces$Reader", "readWhole", "(LFlexedFaces$Tape;)Z"⟩, 2) := ⟨⟨by decide +kernel, by decide +kernel⟩, List.mem_of_getElem? (i := 40) (by decide +kernel), List.mem_of_getElem? (i := 284) (by decide +kernel), List.mem_of_getElem? (i := 285) (by decide +kernel)⟩
theorem lw_p2 : lw_okq (⟨"FlexedFaces$Strip", "reset", "()V"⟩, 10) := ⟨⟨by decide +kernel, by decide +kernel⟩, List.mem_of_getElem? (i := 46) (by decide +kernel), List.mem_of_getElem? (i := 288) (by decide +kernel), List.mem_of_getElem? (i := 289) (by decide +kernel)⟩
theorem lw_p3 : lw_okq (⟨"FlexedFaces$Reader", "readSign", "(LFlexedFaces$Tape;I)Z"⟩, 2) := ⟨⟨by decide +kernel, by decide +kernel⟩, List.mem_of_getElem? (i := 40) (by decide +kernel), List.mem_of_getElem? (i := 292) (by decide +kernel), List.mem_of_getElem? (i := 293) (by decide +kernel)⟩
theorem lw_p4 : lw_okq (⟨"FlexedFaces$Tape", "at", "(I)I"⟩, 2) := ⟨⟨by decide +kernel, by decide +kernel⟩, List.mem_of_getElem? (i := 24) (by decide +kernel), List.mem_of_getElem? (i := 296) (by decide +kernel), List.mem_of_getElem? (i := 297) (by decide +kernel)⟩
theorem lw_p5 : lw_okq (⟨"FlexedFaces$Reader", "readPictures", "(LFlexedFaces$Tape;)Z"⟩, 2) := ⟨⟨by decide +kernel, by decide +kernel⟩, List.mem_of_getElem? (i := 40) (by decide +kernel), List.mem_of_getElem? (i := 300) (by decide +kernel), List.mem_of_getElem? (i := 301) (by decide +kernel)⟩
theorem lw_p6 : lw_okq (⟨"FlexedFaces$Reader", "readPicture", "(LFlexedFaces$Tape;)Z"⟩, 2) := ⟨⟨by decide +kernel, by decide +kernel⟩, List.mem_of_getElem? (i := 40) (by decide +kernel), List.mem_of_getElem? (i := 304) (by decide +kernel), List.mem_of_getElem? (i := 305) (by decide +kernel)⟩
theorem lw_p7 : lw_okq (⟨"FlexedFaces$Reader", "figure", "(LFlexedFaces$Tape;)I"⟩, 2) := ⟨⟨by decide +kernel, by decide +kernel⟩, List.mem_of_getElem? (i := 40) (by decide +kernel), List.mem_of_getElem? (i := 311) (by decide +kernel), List.mem_of_getElem? (i := 312) (by decide +kernel)⟩
theorem lw_p8 : lw_okq (⟨"FlexedFaces$Strip", "addPicture", "(III)V"⟩, 10) := ⟨⟨by decide +kernel, by decide +kernel⟩, List.mem_of_getElem? (i := 46) (by decide +kernel), List.mem_of_getElem? (i := 315) (by decide +kernel), List.mem_of_getElem? (i := 316) (by decide +kernel)⟩
theorem lw_p9 : lw_okq (⟨"FlexedFaces$Reader", "readFolds", "(LFlexedFaces$Tape;)Z"⟩, 2) := ⟨⟨by decide +kernel, by decide +kernel⟩, List.mem_of_getElem? (i := 40) (by decide +kernel), List.mem_of_getElem? (i := 319) (by decide +kernel), List.mem_of_getElem? (i := 320) (by decide +kernel)⟩
theorem lw_p10 : lw_okq (⟨"FlexedFaces$Strip", "layRing", "()V"⟩, 10) := ⟨⟨by decide +kernel, by decide +kernel⟩, List.mem_of_getElem? (i := 46) (by decide +kernel), List.mem_of_getElem? (i := 323) (by decide +kernel), List.mem_of_getElem? (i := 324) (by decide +kernel)⟩
theorem lw_p11 : lw_okq (⟨"FlexedFaces$Strip", "join", "(II)V"⟩, 10) := ⟨⟨by decide +kernel, by decide +kernel⟩, List.mem_of_getElem? (i := 46) (by decide +kernel), List.mem_of_getElem? (i := 327) (by decide +kernel), List.mem_of_getElem? (i := 328) (by decide +kernel)⟩
theorem lw_p12 : lw_okq (⟨"FlexedFaces$Strip", "has", "(I)Z"⟩, 10) := ⟨⟨by decide +kernel, by decide +kernel⟩, List.mem_of_getElem? (i := 46) (by decide +kernel), List.mem_of_getElem? (i := 331) (by decide +kernel), List.mem_of_getElem? (i := 332) (by decide +kernel)⟩
theorem lw_p13 : lw_okq (⟨"FlexedFaces$Reader", "readFold", "(LFlexedFaces$Tape;)Z"⟩, 2) := ⟨⟨by decide +kernel, by decide +kernel⟩, List.mem_of_getElem? (i := 40) (by decide +kernel), List.mem_of_getElem? (i := 335) (by decide +kernel), List.mem_of_getElem? (i := 336) (by decide +kernel)⟩
theorem lw_p14 : lw_okq (⟨"FlexedFaces$Strip", "canJoin", "(II)Z"⟩, 10) := ⟨⟨by decide +kernel, by decide +kernel⟩, List.mem_of_getElem? (i := 46) (by decide +kernel), List.mem_of_getElem? (i := 340) (by decide +kernel), List.mem_of_getElem? (i := 341) (by decide +kernel)⟩
theorem lw_p15 : lw_okq (⟨"FlexedFaces$Strip", "areLinked", "(II)Z"⟩, 10) := ⟨⟨by decide +kernel, by decide +kernel⟩, List.mem_of_getElem? (i := 46) (by decide +kernel), List.mem_of_getElem? (i := 344) (by decide +kernel), List.mem_of_getElem? (i := 345) (by decide +kernel)⟩
def lw_privs_1 : List (MethodName × Nat) := [(⟨"FlexedFaces$Tape", "add", "(I)I"⟩, 2), (⟨"FlexedFaces$Reader", "readWhole", "(LFlexedFaces$Tape;)Z"⟩, 2), (⟨"FlexedFaces$Strip", "reset", "()V"⟩, 10), (⟨"FlexedFaces$Reader", "readSign", "(LFlexedFaces$Tape;I)Z"⟩, 2), (⟨"FlexedFaces$Tape", "at", "(I)I"⟩, 2), (⟨"FlexedFaces$Reader", "readPictures", "(LFlexedFaces$Tape;)Z"⟩, 2), (⟨"FlexedFaces$Reader", "readPicture", "(LFlexedFaces$Tape;)Z"⟩, 2), (⟨"FlexedFaces$Reader", "figure", "(LFlexedFaces$Tape;)I"⟩, 2), (⟨"FlexedFaces$Strip", "addPicture", "(III)V"⟩, 10), (⟨"FlexedFaces$Reader", "readFolds", "(LFlexedFaces$Tape;)Z"⟩, 2), (⟨"FlexedFaces$Strip", "layRing", "()V"⟩, 10), (⟨"FlexedFaces$Strip", "join", "(II)V"⟩, 10), (⟨"FlexedFaces$Strip", "has", "(I)Z"⟩, 10), (⟨"FlexedFaces$Reader", "readFold", "(LFlexedFaces$Tape;)Z"⟩, 2), (⟨"FlexedFaces$Strip", "canJoin", "(II)Z"⟩, 10), (⟨"FlexedFaces$Strip", "areLinked", "(II)Z"⟩, 10)]
theorem lw_r1 : ∀ q ∈ lw_privs_1, lw_okq q := List.forall_mem_cons.mpr ⟨lw_p0, List.forall_mem_cons.mpr ⟨lw_p1, List.forall_mem_cons.mpr ⟨lw_p2, List.forall_mem_cons.mpr ⟨lw_p3, List.forall_mem_cons.mpr ⟨lw_p4, List.forall_mem_cons.mpr ⟨lw_p5, List.forall_mem_cons.mpr ⟨lw_p6, List.forall_mem_cons.mpr ⟨lw_p7, List.forall_mem_cons.mpr ⟨lw_p8, List.forall_mem_cons.mpr ⟨lw_p9, List.forall_mem_cons.mpr ⟨lw_p10, List.forall_mem_cons.mpr ⟨lw_p11, List.forall_mem_cons.mpr ⟨lw_p12, List.forall_mem_cons.mpr ⟨lw_p13, List.forall_mem_cons.mpr ⟨lw_p14, List.forall_mem_cons.mpr ⟨lw_p15, fun _ h => absurd h List.not_mem_nil⟩⟩⟩⟩⟩⟩⟩⟩⟩⟩⟩⟩⟩⟩⟩⟩
theorem lw_p16 : lw_okq (⟨"FlexedFaces$Reader", "readShown", "(LFlexedFaces$Tape;)Z"⟩, 2) := ⟨⟨by decide +kernel, by decide +kernel⟩, List.mem_of_getElem? (i := 40) (by decide +kernel), List.mem_of_getElem? (i := 355) (by decide +kernel), List.mem_of_getElem? (i := 356) (by decide +kernel)⟩
theorem lw_p17 : lw_okq (⟨"FlexedFaces$Tape", "empty", "()V"⟩, 2) := ⟨⟨by decide +kernel, by decide +kernel⟩, List.mem_of_getElem? (i := 24) (by decide +kernel), List.mem_of_getElem? (i := 360) (by decide +kernel), List.mem_of_getElem? (i := 361) (by decide +kernel)⟩
theorem lw_p18 : lw_okq (⟨"FlexedFaces$Strip", "takeFrom", "(LFlexedFaces$Strip;)V"⟩, 10) := ⟨⟨by decide +kernel, by decide +kernel⟩, List.mem_of_getElem? (i := 46) (by decide +kernel), List.mem_of_getElem? (i := 364) (by decide +kernel), List.mem_of_getElem? (i := 365) (by decide +kernel)⟩
theorem lw_p19 : lw_okq (⟨"FlexedFaces$History", "forget", "()V"⟩, 3) := ⟨⟨by decide +kernel, by decide +kernel⟩, List.mem_of_getElem? (i := 111) (by decide +kernel), List.mem_of_getElem? (i := 371) (by decide +kernel), List.mem_of_getElem? (i := 372) (by decide +kernel)⟩
theorem lw_p20 : lw_okq (⟨"FlexedFaces$Strip", "effortOf", "(I)I"⟩, 10) := ⟨⟨by decide +kernel, by decide +kernel⟩, List.mem_of_getElem? (i := 46) (by decide +kernel), List.mem_of_getElem? (i := 380) (by decide +kernel), List.mem_of_getElem? (i := 381) (by decide +kernel)⟩
theorem lw_p21 : lw_okq (⟨"FlexedFaces$Strip", "isTorn", "(I)Z"⟩, 10) := ⟨⟨by decide +kernel, by decide +kernel⟩, List.mem_of_getElem? (i := 46) (by decide +kernel), List.mem_of_getElem? (i := 390) (by decide +kernel), List.mem_of_getElem? (i := 391) (by decide +kernel)⟩
theorem lw_p22 : lw_okq (⟨"FlexedFaces$Strip", "isMissing", "()Z"⟩, 10) := ⟨⟨by decide +kernel, by decide +kernel⟩, List.mem_of_getElem? (i := 46) (by decide +kernel), List.mem_of_getElem? (i := 410) (by decide +kernel), List.mem_of_getElem? (i := 411) (by decide +kernel)⟩
theorem lw_p23 : lw_okq (⟨"FlexedFaces$Strip", "third", "(III)I"⟩, 10) := ⟨⟨by decide +kernel, by decide +kernel⟩, List.mem_of_getElem? (i := 46) (by decide +kernel), List.mem_of_getElem? (i := 414) (by decide +kernel), List.mem_of_getElem? (i := 415) (by decide +kernel)⟩
theorem lw_p24 : lw_okq (⟨"FlexedFaces", "doMove", "(I)I"⟩, 9) := ⟨⟨by decide +kernel, by decide +kernel⟩, List.mem_of_getElem? (i := 16) (by decide +kernel), List.mem_of_getElem? (i := 422) (by decide +kernel), List.mem_of_getElem? (i := 423) (by decide +kernel)⟩
theorem lw_p25 : lw_okq (⟨"FlexedFaces$Strip", "comesBy", "(I)I"⟩, 10) := ⟨⟨by decide +kernel, by decide +kernel⟩, List.mem_of_getElem? (i := 46) (by decide +kernel), List.mem_of_getElem? (i := 426) (by decide +kernel), List.mem_of_getElem? (i := 427) (by decide +kernel)⟩
theorem lw_p26 : lw_okq (⟨"FlexedFaces$History", "keep", "(LFlexedFaces$Strip;)V"⟩, 3) := ⟨⟨by decide +kernel, by decide +kernel⟩, List.mem_of_getElem? (i := 111) (by decide +kernel), List.mem_of_getElem? (i := 432) (by decide +kernel), List.mem_of_getElem? (i := 433) (by decide +kernel)⟩
theorem lw_p27 : lw_okq (⟨"FlexedFaces$Strip", "go", "(I)V"⟩, 10) := ⟨⟨by decide +kernel, by decide +kernel⟩, List.mem_of_getElem? (i := 46) (by decide +kernel), List.mem_of_getElem? (i := 438) (by decide +kernel), List.mem_of_getElem? (i := 439) (by decide +kernel)⟩
theorem lw_p28 : lw_okq (⟨"FlexedFaces$Strip", "isFold", "(II)Z"⟩, 10) := ⟨⟨by decide +kernel, by decide +kernel⟩, List.mem_of_getElem? (i := 46) (by decide +kernel), List.mem_of_getElem? (i := 457) (by decide +kernel), List.mem_of_getElem? (i := 458) (by decide +kernel)⟩
theorem lw_p29 : lw_okq (⟨"FlexedFaces$Strip", "areNeighbours", "(II)Z"⟩, 10) := ⟨⟨by decide +kernel, by decide +kernel⟩, List.mem_of_getElem? (i := 46) (by decide +kernel), List.mem_of_getElem? (i := 461) (by decide +kernel), List.mem_of_getElem? (i := 462) (by decide +kernel)⟩
theorem lw_p30 : lw_okq (⟨"FlexedFaces$Strip", "isShowing", "(II)Z"⟩, 10) := ⟨⟨by decide +kernel, by decide +kernel⟩, List.mem_of_getElem? (i := 46) (by decide +kernel), List.mem_of_getElem? (i := 468) (by decide +kernel), List.mem_of_getElem? (i := 469) (by decide +kernel)⟩
theorem lw_p31 : lw_okq (⟨"FlexedFaces$Strip", "part", "(II)V"⟩, 10) := ⟨⟨by decide +kernel, by decide +kernel⟩, List.mem_of_getElem? (i := 46) (by decide +kernel), List.mem_of_getElem? (i := 472) (by decide +kernel), List.mem_of_getElem? (i := 473) (by decide +kernel)⟩
def lw_privs_2 : List (MethodName × Nat) := [(⟨"FlexedFaces$Reader", "readShown", "(LFlexedFaces$Tape;)Z"⟩, 2), (⟨"FlexedFaces$Tape", "empty", "()V"⟩, 2), (⟨"FlexedFaces$Strip", "takeFrom", "(LFlexedFaces$Strip;)V"⟩, 10), (⟨"FlexedFaces$History", "forget", "()V"⟩, 3), (⟨"FlexedFaces$Strip", "effortOf", "(I)I"⟩, 10), (⟨"FlexedFaces$Strip", "isTorn", "(I)Z"⟩, 10), (⟨"FlexedFaces$Strip", "isMissing", "()Z"⟩, 10), (⟨"FlexedFaces$Strip", "third", "(III)I"⟩, 10), (⟨"FlexedFaces", "doMove", "(I)I"⟩, 9), (⟨"FlexedFaces$Strip", "comesBy", "(I)I"⟩, 10), (⟨"FlexedFaces$History", "keep", "(LFlexedFaces$Strip;)V"⟩, 3), (⟨"FlexedFaces$Strip", "go", "(I)V"⟩, 10), (⟨"FlexedFaces$Strip", "isFold", "(II)Z"⟩, 10), (⟨"FlexedFaces$Strip", "areNeighbours", "(II)Z"⟩, 10), (⟨"FlexedFaces$Strip", "isShowing", "(II)Z"⟩, 10), (⟨"FlexedFaces$Strip", "part", "(II)V"⟩, 10)]
theorem lw_r2 : ∀ q ∈ lw_privs_2, lw_okq q := List.forall_mem_cons.mpr ⟨lw_p16, List.forall_mem_cons.mpr ⟨lw_p17, List.forall_mem_cons.mpr ⟨lw_p18, List.forall_mem_cons.mpr ⟨lw_p19, List.forall_mem_cons.mpr ⟨lw_p20, List.forall_mem_cons.mpr ⟨lw_p21, List.forall_mem_cons.mpr ⟨lw_p22, List.forall_mem_cons.mpr ⟨lw_p23, List.forall_mem_cons.mpr ⟨lw_p24, List.forall_mem_cons.mpr ⟨lw_p25, List.forall_mem_cons.mpr ⟨lw_p26, List.forall_mem_cons.mpr ⟨lw_p27, List.forall_mem_cons.mpr ⟨lw_p28, List.forall_mem_cons.mpr ⟨lw_p29, List.forall_mem_cons.mpr ⟨lw_p30, List.forall_mem_cons.mpr ⟨lw_p31, fun _ h => absurd h List.not_mem_nil⟩⟩⟩⟩⟩⟩⟩⟩⟩⟩⟩⟩⟩⟩⟩⟩
theorem lw_p32 : lw_okq (⟨"FlexedFaces$History", "giveBack", "(LFlexedFaces$Strip;)Z"⟩, 3) := ⟨⟨by decide +kernel, by decide +kernel⟩, List.mem_of_getElem? (i := 111) (by decide +kernel), List.mem_of_getElem? (i := 487) (by decide +kernel), List.mem_of_getElem? (i := 488) (by decide +kernel)⟩
theorem lw_p33 : lw_okq (⟨"FlexedFaces$Paths", "lay", "(LFlexedFaces$Strip;)V"⟩, 6) := ⟨⟨by decide +kernel, by decide +kernel⟩, List.mem_of_getElem? (i := 133) (by decide +kernel), List.mem_of_getElem? (i := 503) (by decide +kernel), List.mem_of_getElem? (i := 504) (by decide +kernel)⟩
theorem lw_p34 : lw_okq (⟨"FlexedFaces$Paths", "reached", "()I"⟩, 6) := ⟨⟨by decide +kernel, by decide +kernel⟩, List.mem_of_getElem? (i := 133) (by decide +kernel), List.mem_of_getElem? (i := 519) (by decide +kernel), List.mem_of_getElem? (i := 520) (by decide +kernel)⟩
theorem lw_p35 : lw_okq (⟨"FlexedFaces$Paths", "spotsOneMoveOn", "(I)J"⟩, 6) := ⟨⟨by decide +kernel, by decide +kernel⟩, List.mem_of_getElem? (i := 133) (by decide +kernel), List.mem_of_getElem? (i := 523) (by decide +kernel), List.mem_of_getElem? (i := 524) (by decide +kernel)⟩
theorem lw_p36 : lw_okq (⟨"FlexedFaces$Paths", "behind", "(II)I"⟩, 6) := ⟨⟨by decide +kernel, by decide +kernel⟩, List.mem_of_getElem? (i := 133) (by decide +kernel), List.mem_of_getElem? (i := 527) (by decide +kernel), List.mem_of_getElem? (i := 528) (by decide +kernel)⟩
theorem lw_p37 : lw_okq (⟨"FlexedFaces$Paths", "measure", "(LFlexedFaces$Strip;I)V"⟩, 6) := ⟨⟨by decide +kernel, by decide +kernel⟩, List.mem_of_getElem? (i := 133) (by decide +kernel), List.mem_of_getElem? (i := 535) (by decide +kernel), List.mem_of_getElem? (i := 536) (by decide +kernel)⟩
theorem lw_p38 : lw_okq (⟨"FlexedFaces$Paths", "leastOver", "(LFlexedFaces$Strip;I)I"⟩, 6) := ⟨⟨by decide +kernel, by decide +kernel⟩, List.mem_of_getElem? (i := 133) (by decide +kernel), List.mem_of_getElem? (i := 540) (by decide +kernel), List.mem_of_getElem? (i := 541) (by decide +kernel)⟩
theorem lw_p39 : lw_okq (⟨"FlexedFaces$Paths", "lengthBy", "(LFlexedFaces$Strip;II)I"⟩, 6) := ⟨⟨by decide +kernel, by decide +kernel⟩, List.mem_of_getElem? (i := 133) (by decide +kernel), List.mem_of_getElem? (i := 544) (by decide +kernel), List.mem_of_getElem? (i := 545) (by decide +kernel)⟩
theorem lw_p40 : lw_okq (⟨"FlexedFaces$Paths", "hasWay", "()Z"⟩, 6) := ⟨⟨by decide +kernel, by decide +kernel⟩, List.mem_of_getElem? (i := 133) (by decide +kernel), List.mem_of_getElem? (i := 550) (by decide +kernel), List.mem_of_getElem? (i := 551) (by decide +kernel)⟩
theorem lw_p41 : lw_okq (⟨"FlexedFaces$Paths", "wayEffort", "()I"⟩, 6) := ⟨⟨by decide +kernel, by decide +kernel⟩, List.mem_of_getElem? (i := 133) (by decide +kernel), List.mem_of_getElem? (i := 554) (by decide +kernel), List.mem_of_getElem? (i := 555) (by decide +kernel)⟩
theorem lw_p42 : lw_okq (⟨"FlexedFaces$Paths", "wayMoves", "()I"⟩, 6) := ⟨⟨by decide +kernel, by decide +kernel⟩, List.mem_of_getElem? (i := 133) (by decide +kernel), List.mem_of_getElem? (i := 558) (by decide +kernel), List.mem_of_getElem? (i := 559) (by decide +kernel)⟩
theorem lw_p43 : lw_okq (⟨"FlexedFaces$Paths", "wayMove", "(LFlexedFaces$Strip;I)I"⟩, 6) := ⟨⟨by decide +kernel, by decide +kernel⟩, List.mem_of_getElem? (i := 133) (by decide +kernel), List.mem_of_getElem? (i := 562) (by decide +kernel), List.mem_of_getElem? (i := 563) (by decide +kernel)⟩
theorem lw_p44 : lw_okq (⟨"FlexedFaces$Paths", "firstBest", "(LFlexedFaces$Strip;I)I"⟩, 6) := ⟨⟨by decide +kernel, by decide +kernel⟩, List.mem_of_getElem? (i := 133) (by decide +kernel), List.mem_of_getElem? (i := 567) (by decide +kernel), List.mem_of_getElem? (i := 568) (by decide +kernel)⟩
theorem lw_p45 : lw_okq (⟨"FlexedFaces$Paths", "fewestToSee", "(I)I"⟩, 6) := ⟨⟨by decide +kernel, by decide +kernel⟩, List.mem_of_getElem? (i := 133) (by decide +kernel), List.mem_of_getElem? (i := 575) (by decide +kernel), List.mem_of_getElem? (i := 576) (by decide +kernel)⟩
theorem lw_p46 : lw_okq (⟨"FlexedFaces$Paths", "enqueue", "(III)I"⟩, 6) := ⟨⟨by decide +kernel, by decide +kernel⟩, List.mem_of_getElem? (i := 133) (by decide +kernel), List.mem_of_getElem? (i := 579) (by decide +kernel), List.mem_of_getElem? (i := 580) (by decide +kernel)⟩
theorem lw_p47 : lw_okq (⟨"FlexedFaces$Paths", "movesAheadOfCircle", "()I"⟩, 6) := ⟨⟨by decide +kernel, by decide +kernel⟩, List.mem_of_getElem? (i := 133) (by decide +kernel), List.mem_of_getElem? (i := 587) (by decide +kernel), List.mem_of_getElem? (i := 588) (by decide +kernel)⟩
def lw_privs_3 : List (MethodName × Nat) := [(⟨"FlexedFaces$History", "giveBack", "(LFlexedFaces$Strip;)Z"⟩, 3), (⟨"FlexedFaces$Paths", "lay", "(LFlexedFaces$Strip;)V"⟩, 6), (⟨"FlexedFaces$Paths", "reached", "()I"⟩, 6), (⟨"FlexedFaces$Paths", "spotsOneMoveOn", "(I)J"⟩, 6), (⟨"FlexedFaces$Paths", "behind", "(II)I"⟩, 6), (⟨"FlexedFaces$Paths", "measure", "(LFlexedFaces$Strip;I)V"⟩, 6), (⟨"FlexedFaces$Paths", "leastOver", "(LFlexedFaces$Strip;I)I"⟩, 6), (⟨"FlexedFaces$Paths", "lengthBy", "(LFlexedFaces$Strip;II)I"⟩, 6), (⟨"FlexedFaces$Paths", "hasWay", "()Z"⟩, 6), (⟨"FlexedFaces$Paths", "wayEffort", "()I"⟩, 6), (⟨"FlexedFaces$Paths", "wayMoves", "()I"⟩, 6), (⟨"FlexedFaces$Paths", "wayMove", "(LFlexedFaces$Strip;I)I"⟩, 6), (⟨"FlexedFaces$Paths", "firstBest", "(LFlexedFaces$Strip;I)I"⟩, 6), (⟨"FlexedFaces$Paths", "fewestToSee", "(I)I"⟩, 6), (⟨"FlexedFaces$Paths", "enqueue", "(III)I"⟩, 6), (⟨"FlexedFaces$Paths", "movesAheadOfCircle", "()I"⟩, 6)]
theorem lw_r3 : ∀ q ∈ lw_privs_3, lw_okq q := List.forall_mem_cons.mpr ⟨lw_p32, List.forall_mem_cons.mpr ⟨lw_p33, List.forall_mem_cons.mpr ⟨lw_p34, List.forall_mem_cons.mpr ⟨lw_p35, List.forall_mem_cons.mpr ⟨lw_p36, List.forall_mem_cons.mpr ⟨lw_p37, List.forall_mem_cons.mpr ⟨lw_p38, List.forall_mem_cons.mpr ⟨lw_p39, List.forall_mem_cons.mpr ⟨lw_p40, List.forall_mem_cons.mpr ⟨lw_p41, List.forall_mem_cons.mpr ⟨lw_p42, List.forall_mem_cons.mpr ⟨lw_p43, List.forall_mem_cons.mpr ⟨lw_p44, List.forall_mem_cons.mpr ⟨lw_p45, List.forall_mem_cons.mpr ⟨lw_p46, List.forall_mem_cons.mpr ⟨lw_p47, fun _ h => absurd h List.not_mem_nil⟩⟩⟩⟩⟩⟩⟩⟩⟩⟩⟩⟩⟩⟩⟩⟩
theorem lw_p48 : lw_okq (⟨"FlexedFaces$Paths", "circle", "(Z)I"⟩, 6) := ⟨⟨by decide +kernel, by decide +kernel⟩, List.mem_of_getElem? (i := 133) (by decide +kernel), List.mem_of_getElem? (i := 591) (by decide +kernel), List.mem_of_getElem? (i := 592) (by decide +kernel)⟩
theorem lw_p49 : lw_okq (⟨"FlexedFaces$Paths", "moveOfCircle", "(II)I"⟩, 6) := ⟨⟨by decide +kernel, by decide +kernel⟩, List.mem_of_getElem? (i := 133) (by decide +kernel), List.mem_of_getElem? (i := 595) (by decide +kernel), List.mem_of_getElem? (i := 596) (by decide +kernel)⟩
theorem lw_p50 : lw_okq (⟨"FlexedFaces$Paths", "movesOfCircle", "()I"⟩, 6) := ⟨⟨by decide +kernel, by decide +kernel⟩, List.mem_of_getElem? (i := 133) (by decide +kernel), List.mem_of_getElem? (i := 599) (by decide +kernel), List.mem_of_getElem? (i := 600) (by decide +kernel)⟩
theorem lw_p51 : lw_okq (⟨"FlexedFaces$Going", "partsOf", "(LFlexedFaces$Strip;III)I"⟩, 1) := ⟨⟨by decide +kernel, by decide +kernel⟩, List.mem_of_getElem? (i := 158) (by decide +kernel), List.mem_of_getElem? (i := 607) (by decide +kernel), List.mem_of_getElem? (i := 608) (by decide +kernel)⟩
theorem lw_p52 : lw_okq (⟨"FlexedFaces$Going", "parts", "(III)I"⟩, 1) := ⟨⟨by decide +kernel, by decide +kernel⟩, List.mem_of_getElem? (i := 158) (by decide +kernel), List.mem_of_getElem? (i := 612) (by decide +kernel), List.mem_of_getElem? (i := 613) (by decide +kernel)⟩
theorem lw_p53 : lw_okq (⟨"FlexedFaces$Strip", "mayDo", "(I)Z"⟩, 10) := ⟨⟨by decide +kernel, by decide +kernel⟩, List.mem_of_getElem? (i := 46) (by decide +kernel), List.mem_of_getElem? (i := 616) (by decide +kernel), List.mem_of_getElem? (i := 617) (by decide +kernel)⟩
theorem lw_p54 : lw_okq (⟨"FlexedFaces$Going", "goOn", "(II)V"⟩, 1) := ⟨⟨by decide +kernel, by decide +kernel⟩, List.mem_of_getElem? (i := 158) (by decide +kernel), List.mem_of_getElem? (i := 620) (by decide +kernel), List.mem_of_getElem? (i := 621) (by decide +kernel)⟩
theorem lw_p55 : lw_okq (⟨"FlexedFaces$Going", "gainOf", "(LFlexedFaces$Strip;I)I"⟩, 1) := ⟨⟨by decide +kernel, by decide +kernel⟩, List.mem_of_getElem? (i := 158) (by decide +kernel), List.mem_of_getElem? (i := 632) (by decide +kernel), List.mem_of_getElem? (i := 633) (by decide +kernel)⟩
theorem lw_p56 : lw_okq (⟨"FlexedFaces$Going", "gain", "(I)I"⟩, 1) := ⟨⟨by decide +kernel, by decide +kernel⟩, List.mem_of_getElem? (i := 158) (by decide +kernel), List.mem_of_getElem? (i := 636) (by decide +kernel), List.mem_of_getElem? (i := 637) (by decide +kernel)⟩
theorem lw_p57 : lw_okq (⟨"FlexedFaces$Strip", "worthOf", "(I)I"⟩, 10) := ⟨⟨by decide +kernel, by decide +kernel⟩, List.mem_of_getElem? (i := 46) (by decide +kernel), List.mem_of_getElem? (i := 641) (by decide +kernel), List.mem_of_getElem? (i := 642) (by decide +kernel)⟩
theorem lw_p58 : lw_okq (⟨"FlexedFaces$Going", "drawn", "(LFlexedFaces$Strip;II)LFlexedFaces$Strip;"⟩, 1) := ⟨⟨by decide +kernel, by decide +kernel⟩, List.mem_of_getElem? (i := 158) (by decide +kernel), List.mem_of_getElem? (i := 651) (by decide +kernel), List.mem_of_getElem? (i := 652) (by decide +kernel)⟩
theorem lw_p59 : lw_okq (⟨"FlexedFaces$Sheet", "lay", "(II)V"⟩, 3) := ⟨⟨by decide +kernel, by decide +kernel⟩, List.mem_of_getElem? (i := 221) (by decide +kernel), List.mem_of_getElem? (i := 669) (by decide +kernel), List.mem_of_getElem? (i := 670) (by decide +kernel)⟩
theorem lw_p60 : lw_okq (⟨"FlexedFaces$Sheet", "isNothing", "()Z"⟩, 3) := ⟨⟨by decide +kernel, by decide +kernel⟩, List.mem_of_getElem? (i := 221) (by decide +kernel), List.mem_of_getElem? (i := 677) (by decide +kernel), List.mem_of_getElem? (i := 678) (by decide +kernel)⟩
theorem lw_p61 : lw_okq (⟨"FlexedFaces$Sheet", "clear", "()V"⟩, 3) := ⟨⟨by decide +kernel, by decide +kernel⟩, List.mem_of_getElem? (i := 221) (by decide +kernel), List.mem_of_getElem? (i := 681) (by decide +kernel), List.mem_of_getElem? (i := 682) (by decide +kernel)⟩
theorem lw_p62 : lw_okq (⟨"FlexedFaces$Sheet", "refusal", "(III)I"⟩, 3) := ⟨⟨by decide +kernel, by decide +kernel⟩, List.mem_of_getElem? (i := 221) (by decide +kernel), List.mem_of_getElem? (i := 690) (by decide +kernel), List.mem_of_getElem? (i := 691) (by decide +kernel)⟩
theorem lw_p63 : lw_okq (⟨"FlexedFaces$Sheet", "spans", "(II)Z"⟩, 3) := ⟨⟨by decide +kernel, by decide +kernel⟩, List.mem_of_getElem? (i := 221) (by decide +kernel), List.mem_of_getElem? (i := 695) (by decide +kernel), List.mem_of_getElem? (i := 696) (by decide +kernel)⟩
def lw_privs_4 : List (MethodName × Nat) := [(⟨"FlexedFaces$Paths", "circle", "(Z)I"⟩, 6), (⟨"FlexedFaces$Paths", "moveOfCircle", "(II)I"⟩, 6), (⟨"FlexedFaces$Paths", "movesOfCircle", "()I"⟩, 6), (⟨"FlexedFaces$Going", "partsOf", "(LFlexedFaces$Strip;III)I"⟩, 1), (⟨"FlexedFaces$Going", "parts", "(III)I"⟩, 1), (⟨"FlexedFaces$Strip", "mayDo", "(I)Z"⟩, 10), (⟨"FlexedFaces$Going", "goOn", "(II)V"⟩, 1), (⟨"FlexedFaces$Going", "gainOf", "(LFlexedFaces$Strip;I)I"⟩, 1), (⟨"FlexedFaces$Going", "gain", "(I)I"⟩, 1), (⟨"FlexedFaces$Strip", "worthOf", "(I)I"⟩, 10), (⟨"FlexedFaces$Going", "drawn", "(LFlexedFaces$Strip;II)LFlexedFaces$Strip;"⟩, 1), (⟨"FlexedFaces$Sheet", "lay", "(II)V"⟩, 3), (⟨"FlexedFaces$Sheet", "isNothing", "()Z"⟩, 3), (⟨"FlexedFaces$Sheet", "clear", "()V"⟩, 3), (⟨"FlexedFaces$Sheet", "refusal", "(III)I"⟩, 3), (⟨"FlexedFaces$Sheet", "spans", "(II)Z"⟩, 3)]
theorem lw_r4 : ∀ q ∈ lw_privs_4, lw_okq q := List.forall_mem_cons.mpr ⟨lw_p48, List.forall_mem_cons.mpr ⟨lw_p49, List.forall_mem_cons.mpr ⟨lw_p50, List.forall_mem_cons.mpr ⟨lw_p51, List.forall_mem_cons.mpr ⟨lw_p52, List.forall_mem_cons.mpr ⟨lw_p53, List.forall_mem_cons.mpr ⟨lw_p54, List.forall_mem_cons.mpr ⟨lw_p55, List.forall_mem_cons.mpr ⟨lw_p56, List.forall_mem_cons.mpr ⟨lw_p57, List.forall_mem_cons.mpr ⟨lw_p58, List.forall_mem_cons.mpr ⟨lw_p59, List.forall_mem_cons.mpr ⟨lw_p60, List.forall_mem_cons.mpr ⟨lw_p61, List.forall_mem_cons.mpr ⟨lw_p62, List.forall_mem_cons.mpr ⟨lw_p63, fun _ h => absurd h List.not_mem_nil⟩⟩⟩⟩⟩⟩⟩⟩⟩⟩⟩⟩⟩⟩⟩⟩
theorem lw_p64 : lw_okq (⟨"FlexedFaces$Sheet", "put", "(IJ)J"⟩, 3) := ⟨⟨by decide +kernel, by decide +kernel⟩, List.mem_of_getElem? (i := 221) (by decide +kernel), List.mem_of_getElem? (i := 699) (by decide +kernel), List.mem_of_getElem? (i := 700) (by decide +kernel)⟩
theorem lw_p65 : lw_okq (⟨"FlexedFaces$Sheet", "cutToLane", "(J)J"⟩, 3) := ⟨⟨by decide +kernel, by decide +kernel⟩, List.mem_of_getElem? (i := 221) (by decide +kernel), List.mem_of_getElem? (i := 704) (by decide +kernel), List.mem_of_getElem? (i := 705) (by decide +kernel)⟩
theorem lw_p66 : lw_okq (⟨"FlexedFaces$Paths", "writeCircle", "(LFlexedFaces$Sheet;II)V"⟩, 6) := ⟨⟨by decide +kernel, by decide +kernel⟩, List.mem_of_getElem? (i := 133) (by decide +kernel), List.mem_of_getElem? (i := 718) (by decide +kernel), List.mem_of_getElem? (i := 719) (by decide +kernel)⟩
theorem lw_p67 : lw_okq (⟨"FlexedFaces$Foldings", "hear", "(LFlexedFaces$Sheet;III)Z"⟩, 14) := ⟨⟨by decide +kernel, by decide +kernel⟩, List.mem_of_getElem? (i := 170) (by decide +kernel), List.mem_of_getElem? (i := 727) (by decide +kernel), List.mem_of_getElem? (i := 728) (by decide +kernel)⟩
theorem lw_p68 : lw_okq (⟨"FlexedFaces$Sheet", "at", "(I)J"⟩, 3) := ⟨⟨by decide +kernel, by decide +kernel⟩, List.mem_of_getElem? (i := 221) (by decide +kernel), List.mem_of_getElem? (i := 731) (by decide +kernel), List.mem_of_getElem? (i := 732) (by decide +kernel)⟩
theorem lw_p69 : lw_okq (⟨"FlexedFaces$Foldings", "wouldGo", "(LFlexedFaces$Strip;)Z"⟩, 14) := ⟨⟨by decide +kernel, by decide +kernel⟩, List.mem_of_getElem? (i := 170) (by decide +kernel), List.mem_of_getElem? (i := 738) (by decide +kernel), List.mem_of_getElem? (i := 739) (by decide +kernel)⟩
theorem lw_p70 : lw_okq (⟨"FlexedFaces$Foldings", "goThroughAll", "(I)V"⟩, 14) := ⟨⟨by decide +kernel, by decide +kernel⟩, List.mem_of_getElem? (i := 170) (by decide +kernel), List.mem_of_getElem? (i := 744) (by decide +kernel), List.mem_of_getElem? (i := 745) (by decide +kernel)⟩
theorem lw_p71 : lw_okq (⟨"FlexedFaces$Strip", "beBare", "(I)V"⟩, 10) := ⟨⟨by decide +kernel, by decide +kernel⟩, List.mem_of_getElem? (i := 46) (by decide +kernel), List.mem_of_getElem? (i := 748) (by decide +kernel), List.mem_of_getElem? (i := 749) (by decide +kernel)⟩
theorem lw_p72 : lw_okq (⟨"FlexedFaces$Foldings", "listPairs", "()V"⟩, 14) := ⟨⟨by decide +kernel, by decide +kernel⟩, List.mem_of_getElem? (i := 170) (by decide +kernel), List.mem_of_getElem? (i := 755) (by decide +kernel), List.mem_of_getElem? (i := 756) (by decide +kernel)⟩
theorem lw_p73 : lw_okq (⟨"FlexedFaces$Foldings", "crossedBy", "(I)I"⟩, 14) := ⟨⟨by decide +kernel, by decide +kernel⟩, List.mem_of_getElem? (i := 170) (by decide +kernel), List.mem_of_getElem? (i := 760) (by decide +kernel), List.mem_of_getElem? (i := 761) (by decide +kernel)⟩
theorem lw_p74 : lw_okq (⟨"FlexedFaces$Foldings", "choose", "(III)V"⟩, 14) := ⟨⟨by decide +kernel, by decide +kernel⟩, List.mem_of_getElem? (i := 170) (by decide +kernel), List.mem_of_getElem? (i := 764) (by decide +kernel), List.mem_of_getElem? (i := 765) (by decide +kernel)⟩
theorem lw_p75 : lw_okq (⟨"FlexedFaces$Foldings", "weigh", "()V"⟩, 14) := ⟨⟨by decide +kernel, by decide +kernel⟩, List.mem_of_getElem? (i := 170) (by decide +kernel), List.mem_of_getElem? (i := 768) (by decide +kernel), List.mem_of_getElem? (i := 769) (by decide +kernel)⟩
theorem lw_p76 : lw_okq (⟨"FlexedFaces$Foldings", "bestTry", "()I"⟩, 14) := ⟨⟨by decide +kernel, by decide +kernel⟩, List.mem_of_getElem? (i := 170) (by decide +kernel), List.mem_of_getElem? (i := 776) (by decide +kernel), List.mem_of_getElem? (i := 777) (by decide +kernel)⟩
theorem lw_p77 : lw_okq (⟨"FlexedFaces$Foldings", "greatestPart", "(I)I"⟩, 14) := ⟨⟨by decide +kernel, by decide +kernel⟩, List.mem_of_getElem? (i := 170) (by decide +kernel), List.mem_of_getElem? (i := 780) (by decide +kernel), List.mem_of_getElem? (i := 781) (by decide +kernel)⟩
theorem lw_p78 : lw_okq (⟨"FlexedFaces$Strip", "shownSet", "()I"⟩, 10) := ⟨⟨by decide +kernel, by decide +kernel⟩, List.mem_of_getElem? (i := 46) (by decide +kernel), List.mem_of_getElem? (i := 814) (by decide +kernel), List.mem_of_getElem? (i := 815) (by decide +kernel)⟩
theorem lw_p79 : lw_okq (⟨"FlexedFaces$Strip", "tornSet", "()I"⟩, 10) := ⟨⟨by decide +kernel, by decide +kernel⟩, List.mem_of_getElem? (i := 46) (by decide +kernel), List.mem_of_getElem? (i := 818) (by decide +kernel), List.mem_of_getElem? (i := 819) (by decide +kernel)⟩
def lw_privs_5 : List (MethodName × Nat) := [(⟨"FlexedFaces$Sheet", "put", "(IJ)J"⟩, 3), (⟨"FlexedFaces$Sheet", "cutToLane", "(J)J"⟩, 3), (⟨"FlexedFaces$Paths", "writeCircle", "(LFlexedFaces$Sheet;II)V"⟩, 6), (⟨"FlexedFaces$Foldings", "hear", "(LFlexedFaces$Sheet;III)Z"⟩, 14), (⟨"FlexedFaces$Sheet", "at", "(I)J"⟩, 3), (⟨"FlexedFaces$Foldings", "wouldGo", "(LFlexedFaces$Strip;)Z"⟩, 14), (⟨"FlexedFaces$Foldings", "goThroughAll", "(I)V"⟩, 14), (⟨"FlexedFaces$Strip", "beBare", "(I)V"⟩, 10), (⟨"FlexedFaces$Foldings", "listPairs", "()V"⟩, 14), (⟨"FlexedFaces$Foldings", "crossedBy", "(I)I"⟩, 14), (⟨"FlexedFaces$Foldings", "choose", "(III)V"⟩, 14), (⟨"FlexedFaces$Foldings", "weigh", "()V"⟩, 14), (⟨"FlexedFaces$Foldings", "bestTry", "()I"⟩, 14), (⟨"FlexedFaces$Foldings", "greatestPart", "(I)I"⟩, 14), (⟨"FlexedFaces$Strip", "shownSet", "()I"⟩, 10), (⟨"FlexedFaces$Strip", "tornSet", "()I"⟩, 10)]
theorem lw_r5 : ∀ q ∈ lw_privs_5, lw_okq q := List.forall_mem_cons.mpr ⟨lw_p64, List.forall_mem_cons.mpr ⟨lw_p65, List.forall_mem_cons.mpr ⟨lw_p66, List.forall_mem_cons.mpr ⟨lw_p67, List.forall_mem_cons.mpr ⟨lw_p68, List.forall_mem_cons.mpr ⟨lw_p69, List.forall_mem_cons.mpr ⟨lw_p70, List.forall_mem_cons.mpr ⟨lw_p71, List.forall_mem_cons.mpr ⟨lw_p72, List.forall_mem_cons.mpr ⟨lw_p73, List.forall_mem_cons.mpr ⟨lw_p74, List.forall_mem_cons.mpr ⟨lw_p75, List.forall_mem_cons.mpr ⟨lw_p76, List.forall_mem_cons.mpr ⟨lw_p77, List.forall_mem_cons.mpr ⟨lw_p78, List.forall_mem_cons.mpr ⟨lw_p79, fun _ h => absurd h List.not_mem_nil⟩⟩⟩⟩⟩⟩⟩⟩⟩⟩⟩⟩⟩⟩⟩⟩
theorem lw_p80 : lw_okq (⟨"FlexedFaces$Strip", "wearOfAll", "()I"⟩, 10) := ⟨⟨by decide +kernel, by decide +kernel⟩, List.mem_of_getElem? (i := 46) (by decide +kernel), List.mem_of_getElem? (i := 822) (by decide +kernel), List.mem_of_getElem? (i := 823) (by decide +kernel)⟩
theorem lw_p81 : lw_okq (⟨"FlexedFacesModel", "reads", "()Z"⟩, 26) := ⟨⟨by decide +kernel, by decide +kernel⟩, List.mem_of_getElem? (i := 826) (by decide +kernel), List.mem_of_getElem? (i := 924) (by decide +kernel), List.mem_of_getElem? (i := 925) (by decide +kernel)⟩
theorem lw_p82 : lw_okq (⟨"FlexedFacesModel", "has", "(I)Z"⟩, 26) := ⟨⟨by decide +kernel, by decide +kernel⟩, List.mem_of_getElem? (i := 826) (by decide +kernel), List.mem_of_getElem? (i := 928) (by decide +kernel), List.mem_of_getElem? (i := 929) (by decide +kernel)⟩
theorem lw_p83 : lw_okq (⟨"FlexedFacesModel", "here", "()I"⟩, 26) := ⟨⟨by decide +kernel, by decide +kernel⟩, List.mem_of_getElem? (i := 826) (by decide +kernel), List.mem_of_getElem? (i := 932) (by decide +kernel), List.mem_of_getElem? (i := 933) (by decide +kernel)⟩
theorem lw_p84 : lw_okq (⟨"FlexedFacesModel", "readsPictures", "()Z"⟩, 26) := ⟨⟨by decide +kernel, by decide +kernel⟩, List.mem_of_getElem? (i := 826) (by decide +kernel), List.mem_of_getElem? (i := 936) (by decide +kernel), List.mem_of_getElem? (i := 937) (by decide +kernel)⟩
theorem lw_p85 : lw_okq (⟨"FlexedFacesModel", "figure", "(II)I"⟩, 26) := ⟨⟨by decide +kernel, by decide +kernel⟩, List.mem_of_getElem? (i := 826) (by decide +kernel), List.mem_of_getElem? (i := 943) (by decide +kernel), List.mem_of_getElem? (i := 944) (by decide +kernel)⟩
theorem lw_p86 : lw_okq (⟨"FlexedFacesModel", "readsFolds", "()Z"⟩, 26) := ⟨⟨by decide +kernel, by decide +kernel⟩, List.mem_of_getElem? (i := 826) (by decide +kernel), List.mem_of_getElem? (i := 947) (by decide +kernel), List.mem_of_getElem? (i := 948) (by decide +kernel)⟩
theorem lw_p87 : lw_okq (⟨"FlexedFacesModel", "isPicture", "(I)Z"⟩, 26) := ⟨⟨by decide +kernel, by decide +kernel⟩, List.mem_of_getElem? (i := 826) (by decide +kernel), List.mem_of_getElem? (i := 967) (by decide +kernel), List.mem_of_getElem? (i := 968) (by decide +kernel)⟩
theorem lw_p88 : lw_okq (⟨"FlexedFacesModel", "effortNow", "(I)I"⟩, 26) := ⟨⟨by decide +kernel, by decide +kernel⟩, List.mem_of_getElem? (i := 826) (by decide +kernel), List.mem_of_getElem? (i := 971) (by decide +kernel), List.mem_of_getElem? (i := 972) (by decide +kernel)⟩
theorem lw_p89 : lw_okq (⟨"FlexedFacesModel", "isTorn", "(I)Z"⟩, 26) := ⟨⟨by decide +kernel, by decide +kernel⟩, List.mem_of_getElem? (i := 826) (by decide +kernel), List.mem_of_getElem? (i := 978) (by decide +kernel), List.mem_of_getElem? (i := 979) (by decide +kernel)⟩
theorem lw_p90 : lw_okq (⟨"FlexedFacesModel", "isThere", "()Z"⟩, 26) := ⟨⟨by decide +kernel, by decide +kernel⟩, List.mem_of_getElem? (i := 826) (by decide +kernel), List.mem_of_getElem? (i := 994) (by decide +kernel), List.mem_of_getElem? (i := 995) (by decide +kernel)⟩
theorem lw_p91 : lw_okq (⟨"FlexedFacesModel", "bringsNow", "(I)I"⟩, 26) := ⟨⟨by decide +kernel, by decide +kernel⟩, List.mem_of_getElem? (i := 826) (by decide +kernel), List.mem_of_getElem? (i := 998) (by decide +kernel), List.mem_of_getElem? (i := 999) (by decide +kernel)⟩
theorem lw_p92 : lw_okq (⟨"FlexedFacesModel", "may", "(I)Z"⟩, 26) := ⟨⟨by decide +kernel, by decide +kernel⟩, List.mem_of_getElem? (i := 826) (by decide +kernel), List.mem_of_getElem? (i := 1012) (by decide +kernel), List.mem_of_getElem? (i := 1013) (by decide +kernel)⟩
theorem lw_p93 : lw_okq (⟨"FlexedFacesModel", "notes", "()V"⟩, 26) := ⟨⟨by decide +kernel, by decide +kernel⟩, List.mem_of_getElem? (i := 826) (by decide +kernel), List.mem_of_getElem? (i := 1016) (by decide +kernel), List.mem_of_getElem? (i := 1017) (by decide +kernel)⟩
theorem lw_p94 : lw_okq (⟨"FlexedFacesModel", "moves", "(I)I"⟩, 26) := ⟨⟨by decide +kernel, by decide +kernel⟩, List.mem_of_getElem? (i := 826) (by decide +kernel), List.mem_of_getElem? (i := 1020) (by decide +kernel), List.mem_of_getElem? (i := 1021) (by decide +kernel)⟩
theorem lw_p95 : lw_okq (⟨"FlexedFacesModel", "stateNow", "()I"⟩, 26) := ⟨⟨by decide +kernel, by decide +kernel⟩, List.mem_of_getElem? (i := 826) (by decide +kernel), List.mem_of_getElem? (i := 1055) (by decide +kernel), List.mem_of_getElem? (i := 1056) (by decide +kernel)⟩
def lw_privs_6 : List (MethodName × Nat) := [(⟨"FlexedFaces$Strip", "wearOfAll", "()I"⟩, 10), (⟨"FlexedFacesModel", "reads", "()Z"⟩, 26), (⟨"FlexedFacesModel", "has", "(I)Z"⟩, 26), (⟨"FlexedFacesModel", "here", "()I"⟩, 26), (⟨"FlexedFacesModel", "readsPictures", "()Z"⟩, 26), (⟨"FlexedFacesModel", "figure", "(II)I"⟩, 26), (⟨"FlexedFacesModel", "readsFolds", "()Z"⟩, 26), (⟨"FlexedFacesModel", "isPicture", "(I)Z"⟩, 26), (⟨"FlexedFacesModel", "effortNow", "(I)I"⟩, 26), (⟨"FlexedFacesModel", "isTorn", "(I)Z"⟩, 26), (⟨"FlexedFacesModel", "isThere", "()Z"⟩, 26), (⟨"FlexedFacesModel", "bringsNow", "(I)I"⟩, 26), (⟨"FlexedFacesModel", "may", "(I)Z"⟩, 26), (⟨"FlexedFacesModel", "notes", "()V"⟩, 26), (⟨"FlexedFacesModel", "moves", "(I)I"⟩, 26), (⟨"FlexedFacesModel", "stateNow", "()I"⟩, 26)]
theorem lw_r6 : ∀ q ∈ lw_privs_6, lw_okq q := List.forall_mem_cons.mpr ⟨lw_p80, List.forall_mem_cons.mpr ⟨lw_p81, List.forall_mem_cons.mpr ⟨lw_p82, List.forall_mem_cons.mpr ⟨lw_p83, List.forall_mem_cons.mpr ⟨lw_p84, List.forall_mem_cons.mpr ⟨lw_p85, List.forall_mem_cons.mpr ⟨lw_p86, List.forall_mem_cons.mpr ⟨lw_p87, List.forall_mem_cons.mpr ⟨lw_p88, List.forall_mem_cons.mpr ⟨lw_p89, List.forall_mem_cons.mpr ⟨lw_p90, List.forall_mem_cons.mpr ⟨lw_p91, List.forall_mem_cons.mpr ⟨lw_p92, List.forall_mem_cons.mpr ⟨lw_p93, List.forall_mem_cons.mpr ⟨lw_p94, List.forall_mem_cons.mpr ⟨lw_p95, fun _ h => absurd h List.not_mem_nil⟩⟩⟩⟩⟩⟩⟩⟩⟩⟩⟩⟩⟩⟩⟩⟩
theorem lw_p96 : lw_okq (⟨"FlexedFacesModel", "next", "(II)I"⟩, 26) := ⟨⟨by decide +kernel, by decide +kernel⟩, List.mem_of_getElem? (i := 826) (by decide +kernel), List.mem_of_getElem? (i := 1059) (by decide +kernel), List.mem_of_getElem? (i := 1060) (by decide +kernel)⟩
theorem lw_p97 : lw_okq (⟨"FlexedFacesModel", "measures", "(I)V"⟩, 26) := ⟨⟨by decide +kernel, by decide +kernel⟩, List.mem_of_getElem? (i := 826) (by decide +kernel), List.mem_of_getElem? (i := 1067) (by decide +kernel), List.mem_of_getElem? (i := 1068) (by decide +kernel)⟩
theorem lw_p98 : lw_okq (⟨"FlexedFacesModel", "costOf", "(II)I"⟩, 26) := ⟨⟨by decide +kernel, by decide +kernel⟩, List.mem_of_getElem? (i := 826) (by decide +kernel), List.mem_of_getElem? (i := 1072) (by decide +kernel), List.mem_of_getElem? (i := 1073) (by decide +kernel)⟩
theorem lw_p99 : lw_okq (⟨"FlexedFacesModel", "byTurns", "(II)I"⟩, 26) := ⟨⟨by decide +kernel, by decide +kernel⟩, List.mem_of_getElem? (i := 826) (by decide +kernel), List.mem_of_getElem? (i := 1085) (by decide +kernel), List.mem_of_getElem? (i := 1086) (by decide +kernel)⟩
theorem lw_p100 : lw_okq (⟨"FlexedFacesModel", "asides", "()V"⟩, 26) := ⟨⟨by decide +kernel, by decide +kernel⟩, List.mem_of_getElem? (i := 826) (by decide +kernel), List.mem_of_getElem? (i := 1095) (by decide +kernel), List.mem_of_getElem? (i := 1096) (by decide +kernel)⟩
theorem lw_p101 : lw_okq (⟨"FlexedFacesModel", "noted", "(I)V"⟩, 26) := ⟨⟨by decide +kernel, by decide +kernel⟩, List.mem_of_getElem? (i := 826) (by decide +kernel), List.mem_of_getElem? (i := 1099) (by decide +kernel), List.mem_of_getElem? (i := 1100) (by decide +kernel)⟩
theorem lw_p102 : lw_okq (⟨"FlexedFacesModel", "backs", "()V"⟩, 26) := ⟨⟨by decide +kernel, by decide +kernel⟩, List.mem_of_getElem? (i := 826) (by decide +kernel), List.mem_of_getElem? (i := 1103) (by decide +kernel), List.mem_of_getElem? (i := 1104) (by decide +kernel)⟩
theorem lw_p103 : lw_okq (⟨"FlexedFacesModel", "comesTo", "(III)I"⟩, 26) := ⟨⟨by decide +kernel, by decide +kernel⟩, List.mem_of_getElem? (i := 826) (by decide +kernel), List.mem_of_getElem? (i := 1114) (by decide +kernel), List.mem_of_getElem? (i := 1115) (by decide +kernel)⟩
theorem lw_p104 : lw_okq (⟨"FlexedFacesModel", "why", "(IIII)I"⟩, 26) := ⟨⟨by decide +kernel, by decide +kernel⟩, List.mem_of_getElem? (i := 826) (by decide +kernel), List.mem_of_getElem? (i := 1146) (by decide +kernel), List.mem_of_getElem? (i := 1147) (by decide +kernel)⟩
theorem lw_p105 : lw_okq (⟨"FlexedFacesModel", "whyNot", "(II)I"⟩, 26) := ⟨⟨by decide +kernel, by decide +kernel⟩, List.mem_of_getElem? (i := 826) (by decide +kernel), List.mem_of_getElem? (i := 1167) (by decide +kernel), List.mem_of_getElem? (i := 1168) (by decide +kernel)⟩
theorem lw_p106 : lw_okq (⟨"FlexedFacesModel", "goesSo", "([IIII)I"⟩, 26) := ⟨⟨by decide +kernel, by decide +kernel⟩, List.mem_of_getElem? (i := 826) (by decide +kernel), List.mem_of_getElem? (i := 1171) (by decide +kernel), List.mem_of_getElem? (i := 1172) (by decide +kernel)⟩
theorem lw_p107 : lw_okq (⟨"FlexedFacesModel", "all", "(I)V"⟩, 26) := ⟨⟨by decide +kernel, by decide +kernel⟩, List.mem_of_getElem? (i := 826) (by decide +kernel), List.mem_of_getElem? (i := 1175) (by decide +kernel), List.mem_of_getElem? (i := 1176) (by decide +kernel)⟩
theorem lw_p108 : lw_okq (⟨"FlexedFacesModel", "pairs", "(I)I"⟩, 26) := ⟨⟨by decide +kernel, by decide +kernel⟩, List.mem_of_getElem? (i := 826) (by decide +kernel), List.mem_of_getElem? (i := 1179) (by decide +kernel), List.mem_of_getElem? (i := 1180) (by decide +kernel)⟩
theorem lw_p109 : lw_okq (⟨"FlexedFacesModel", "lays", "(II)V"⟩, 26) := ⟨⟨by decide +kernel, by decide +kernel⟩, List.mem_of_getElem? (i := 826) (by decide +kernel), List.mem_of_getElem? (i := 1183) (by decide +kernel), List.mem_of_getElem? (i := 1184) (by decide +kernel)⟩
theorem lw_p110 : lw_okq (⟨"FlexedFacesModel", "greatest", "(III)I"⟩, 26) := ⟨⟨by decide +kernel, by decide +kernel⟩, List.mem_of_getElem? (i := 826) (by decide +kernel), List.mem_of_getElem? (i := 1187) (by decide +kernel), List.mem_of_getElem? (i := 1188) (by decide +kernel)⟩
theorem lw_p111 : lw_okq (⟨"FlexedFacesModel", "tried", "(I)I"⟩, 26) := ⟨⟨by decide +kernel, by decide +kernel⟩, List.mem_of_getElem? (i := 826) (by decide +kernel), List.mem_of_getElem? (i := 1199) (by decide +kernel), List.mem_of_getElem? (i := 1200) (by decide +kernel)⟩
def lw_privs_7 : List (MethodName × Nat) := [(⟨"FlexedFacesModel", "next", "(II)I"⟩, 26), (⟨"FlexedFacesModel", "measures", "(I)V"⟩, 26), (⟨"FlexedFacesModel", "costOf", "(II)I"⟩, 26), (⟨"FlexedFacesModel", "byTurns", "(II)I"⟩, 26), (⟨"FlexedFacesModel", "asides", "()V"⟩, 26), (⟨"FlexedFacesModel", "noted", "(I)V"⟩, 26), (⟨"FlexedFacesModel", "backs", "()V"⟩, 26), (⟨"FlexedFacesModel", "comesTo", "(III)I"⟩, 26), (⟨"FlexedFacesModel", "why", "(IIII)I"⟩, 26), (⟨"FlexedFacesModel", "whyNot", "(II)I"⟩, 26), (⟨"FlexedFacesModel", "goesSo", "([IIII)I"⟩, 26), (⟨"FlexedFacesModel", "all", "(I)V"⟩, 26), (⟨"FlexedFacesModel", "pairs", "(I)I"⟩, 26), (⟨"FlexedFacesModel", "lays", "(II)V"⟩, 26), (⟨"FlexedFacesModel", "greatest", "(III)I"⟩, 26), (⟨"FlexedFacesModel", "tried", "(I)I"⟩, 26)]
theorem lw_r7 : ∀ q ∈ lw_privs_7, lw_okq q := List.forall_mem_cons.mpr ⟨lw_p96, List.forall_mem_cons.mpr ⟨lw_p97, List.forall_mem_cons.mpr ⟨lw_p98, List.forall_mem_cons.mpr ⟨lw_p99, List.forall_mem_cons.mpr ⟨lw_p100, List.forall_mem_cons.mpr ⟨lw_p101, List.forall_mem_cons.mpr ⟨lw_p102, List.forall_mem_cons.mpr ⟨lw_p103, List.forall_mem_cons.mpr ⟨lw_p104, List.forall_mem_cons.mpr ⟨lw_p105, List.forall_mem_cons.mpr ⟨lw_p106, List.forall_mem_cons.mpr ⟨lw_p107, List.forall_mem_cons.mpr ⟨lw_p108, List.forall_mem_cons.mpr ⟨lw_p109, List.forall_mem_cons.mpr ⟨lw_p110, List.forall_mem_cons.mpr ⟨lw_p111, fun _ h => absurd h List.not_mem_nil⟩⟩⟩⟩⟩⟩⟩⟩⟩⟩⟩⟩⟩⟩⟩⟩
theorem lw_p112 : lw_okq (⟨"FlexedFacesModel", "setOf", "(Z)I"⟩, 26) := ⟨⟨by decide +kernel, by decide +kernel⟩, List.mem_of_getElem? (i := 826) (by decide +kernel), List.mem_of_getElem? (i := 1207) (by decide +kernel), List.mem_of_getElem? (i := 1208) (by decide +kernel)⟩
theorem lw_p113 : lw_okq (⟨"FlexedFacesModel", "wearOfAll", "()I"⟩, 26) := ⟨⟨by decide +kernel, by decide +kernel⟩, List.mem_of_getElem? (i := 826) (by decide +kernel), List.mem_of_getElem? (i := 1211) (by decide +kernel), List.mem_of_getElem? (i := 1212) (by decide +kernel)⟩
def lw_privs_8 : List (MethodName × Nat) := [(⟨"FlexedFacesModel", "setOf", "(Z)I"⟩, 26), (⟨"FlexedFacesModel", "wearOfAll", "()I"⟩, 26)]
theorem lw_r8 : ∀ q ∈ lw_privs_8, lw_okq q := List.forall_mem_cons.mpr ⟨lw_p112, List.forall_mem_cons.mpr ⟨lw_p113, fun _ h => absurd h List.not_mem_nil⟩⟩
def lw_privs : List (MethodName × Nat) := lw_privs_1 ++ (lw_privs_2 ++ (lw_privs_3 ++ (lw_privs_4 ++ (lw_privs_5 ++ (lw_privs_6 ++ (lw_privs_7 ++ (lw_privs_8)))))))
def lw_tbl : List Cond := k2_sels lw_privs ++ tables_1
theorem lw_privs_ok : ∀ q ∈ lw_privs, lw_okq q := by
  show ∀ q ∈ lw_privs_1 ++ (lw_privs_2 ++ (lw_privs_3 ++ (lw_privs_4 ++ (lw_privs_5 ++ (lw_privs_6 ++ (lw_privs_7 ++ (lw_privs_8))))))), lw_okq q
  exact List.forall_mem_append.mpr ⟨lw_r1, List.forall_mem_append.mpr ⟨lw_r2, List.forall_mem_append.mpr ⟨lw_r3, List.forall_mem_append.mpr ⟨lw_r4, List.forall_mem_append.mpr ⟨lw_r5, List.forall_mem_append.mpr ⟨lw_r6, List.forall_mem_append.mpr ⟨lw_r7, lw_r8⟩⟩⟩⟩⟩⟩⟩
end
section
def RX0 : String := "FlexedFaces$Foldings"
def TX0 : u_T := fun k => match k with
  | 0 => ("FlexedFaces$Foldings", "trial", "LFlexedFaces$Strip;", true)
  | 1 => ("FlexedFaces$Foldings", "ones", "[I", true)
  | 2 => ("FlexedFaces$Foldings", "others", "[I", true)
  | 3 => ("FlexedFaces$Foldings", "crossed", "[I", true)
  | 4 => ("FlexedFaces$Foldings", "toldMoves", "[I", true)
  | 5 => ("FlexedFaces$Foldings", "toldFronts", "[I", true)
  | 6 => ("FlexedFaces$Foldings", "parts", "[I", true)
  | 7 => ("FlexedFaces$Foldings", "pairs", "I", false)
  | 8 => ("FlexedFaces$Foldings", "told", "I", false)
  | 9 => ("FlexedFaces$Foldings", "firstFront", "I", false)
  | 10 => ("FlexedFaces$Foldings", "firstBack", "I", false)
  | 11 => ("FlexedFaces$Foldings", "lastFront", "I", false)
  | 12 => ("FlexedFaces$Foldings", "lastBack", "I", false)
  | _ => ("FlexedFaces$Foldings", "found", "I", false)
def tyX0 : Nat → FieldType := fun k => match k with
  | 0 => .object "FlexedFaces$Strip"
  | 1 => .array .int
  | 2 => .array .int
  | 3 => .array .int
  | 4 => .array .int
  | 5 => .array .int
  | 6 => .array .int
  | 7 => .int
  | 8 => .int
  | 9 => .int
  | 10 => .int
  | 11 => .int
  | 12 => .int
  | _ => .int
abbrev wsX00 : List Cond := u_ws RX0 TX0 14
theorem nmX0 : ∀ a, a < 14 → ∀ b, b < 14 → a ≠ b → (TX0 a).2.1 ≠ (TX0 b).2.1 := by decide +kernel
theorem tyX0_ok : ∀ k, k < 14 → parseFieldDescriptor (TX0 k).2.2.1 = some (tyX0 k) := by decide +kernel
abbrev cX0_init : ByteArray := prog_2_method_1_code
def yX0_init : MethodName := ⟨RX0, "<init>", "()V"⟩
abbrev cX0_hear : ByteArray := prog_2_method_2_code
def yX0_hear : MethodName := ⟨RX0, "hear", "(LFlexedFaces$Sheet;III)Z"⟩
abbrev cX0_isBelow : ByteArray := prog_2_method_3_code
def yX0_isBelow : MethodName := ⟨RX0, "isBelow", "(JI)Z"⟩
abbrev cX0_wouldGo : ByteArray := prog_2_method_4_code
def yX0_wouldGo : MethodName := ⟨RX0, "wouldGo", "(LFlexedFaces$Strip;)Z"⟩
abbrev cX0_goThroughAll : ByteArray := prog_2_method_5_code
def yX0_goThroughAll : MethodName := ⟨RX0, "goThroughAll", "(I)V"⟩
abbrev cX0_listPairs : ByteArray := prog_2_method_6_code
def yX0_listPairs : MethodName := ⟨RX0, "listPairs", "()V"⟩
abbrev cX0_crossedBy : ByteArray := prog_2_method_7_code
def yX0_crossedBy : MethodName := ⟨RX0, "crossedBy", "(I)I"⟩
abbrev cX0_choose : ByteArray := prog_2_method_8_code
def yX0_choose : MethodName := ⟨RX0, "choose", "(III)V"⟩
abbrev cX0_weigh : ByteArray := prog_2_method_9_code
def yX0_weigh : MethodName := ⟨RX0, "weigh", "()V"⟩
abbrev cX0_bestTry : ByteArray := prog_2_method_10_code
def yX0_bestTry : MethodName := ⟨RX0, "bestTry", "()I"⟩
abbrev cX0_greatestPart : ByteArray := prog_2_method_11_code
def yX0_greatestPart : MethodName := ⟨RX0, "greatestPart", "(I)I"⟩
def RX1 : String := "FlexedFaces$Going"
def TX1 : u_T := fun k => match k with
  | _ => ("FlexedFaces$Going", "withLeft", "[LFlexedFaces$Strip;", true)
def tyX1 : Nat → FieldType := fun k => match k with
  | _ => .array (.object "FlexedFaces$Strip")
abbrev wsX10 : List Cond := u_ws RX1 TX1 1
theorem nmX1 : ∀ a, a < 1 → ∀ b, b < 1 → a ≠ b → (TX1 a).2.1 ≠ (TX1 b).2.1 := by decide +kernel
theorem tyX1_ok : ∀ k, k < 1 → parseFieldDescriptor (TX1 k).2.2.1 = some (tyX1 k) := by decide +kernel
abbrev cX1_init : ByteArray := prog_3_method_1_code
def yX1_init : MethodName := ⟨RX1, "<init>", "()V"⟩
abbrev cX1_partsOf : ByteArray := prog_3_method_2_code
def yX1_partsOf : MethodName := ⟨RX1, "partsOf", "(LFlexedFaces$Strip;III)I"⟩
abbrev cX1_parts : ByteArray := prog_3_method_3_code
def yX1_parts : MethodName := ⟨RX1, "parts", "(III)I"⟩
abbrev cX1_gainOf : ByteArray := prog_3_method_4_code
def yX1_gainOf : MethodName := ⟨RX1, "gainOf", "(LFlexedFaces$Strip;I)I"⟩
abbrev cX1_gain : ByteArray := prog_3_method_5_code
def yX1_gain : MethodName := ⟨RX1, "gain", "(I)I"⟩
abbrev cX1_goOn : ByteArray := prog_3_method_6_code
def yX1_goOn : MethodName := ⟨RX1, "goOn", "(II)V"⟩
abbrev cX1_drawn : ByteArray := prog_3_method_7_code
def yX1_drawn : MethodName := ⟨RX1, "drawn", "(LFlexedFaces$Strip;II)LFlexedFaces$Strip;"⟩
def RX2 : String := "FlexedFaces$History"
def TX2 : u_T := fun k => match k with
  | 0 => ("FlexedFaces$History", "before", "[LFlexedFaces$Strip;", true)
  | 1 => ("FlexedFaces$History", "next", "I", false)
  | _ => ("FlexedFaces$History", "held", "I", false)
def tyX2 : Nat → FieldType := fun k => match k with
  | 0 => .array (.object "FlexedFaces$Strip")
  | 1 => .int
  | _ => .int
abbrev wsX20 : List Cond := u_ws RX2 TX2 3
theorem nmX2 : ∀ a, a < 3 → ∀ b, b < 3 → a ≠ b → (TX2 a).2.1 ≠ (TX2 b).2.1 := by decide +kernel
theorem tyX2_ok : ∀ k, k < 3 → parseFieldDescriptor (TX2 k).2.2.1 = some (tyX2 k) := by decide +kernel
abbrev cX2_init : ByteArray := prog_4_method_1_code
def yX2_init : MethodName := ⟨RX2, "<init>", "()V"⟩
abbrev cX2_keep : ByteArray := prog_4_method_2_code
def yX2_keep : MethodName := ⟨RX2, "keep", "(LFlexedFaces$Strip;)V"⟩
abbrev cX2_giveBack : ByteArray := prog_4_method_3_code
def yX2_giveBack : MethodName := ⟨RX2, "giveBack", "(LFlexedFaces$Strip;)Z"⟩
abbrev cX2_forget : ByteArray := prog_4_method_4_code
def yX2_forget : MethodName := ⟨RX2, "forget", "()V"⟩
def RX3 : String := "FlexedFaces$Kinds"
def TX3 : u_T := fun k => match k with
  | _ => ("", "", "", false)
def tyX3 : Nat → FieldType := fun k => match k with
  | _ => .int
abbrev wsX30 : List Cond := u_ws RX3 TX3 0
theorem nmX3 : ∀ a, a < 0 → ∀ b, b < 0 → a ≠ b → (TX3 a).2.1 ≠ (TX3 b).2.1 := by decide +kernel
theorem tyX3_ok : ∀ k, k < 0 → parseFieldDescriptor (TX3 k).2.2.1 = some (tyX3 k) := by decide +kernel
abbrev cX3_byLetter : ByteArray := prog_5_method_2_code
def yX3_byLetter : MethodName := ⟨RX3, "byLetter", "(I)I"⟩
abbrev cX3_isUnder : ByteArray := prog_5_method_3_code
def yX3_isUnder : MethodName := ⟨RX3, "isUnder", "(II)Z"⟩
abbrev cX3_effort : ByteArray := prog_5_method_4_code
def yX3_effort : MethodName := ⟨RX3, "effort", "(II)I"⟩
abbrev cX3_wears : ByteArray := prog_5_method_5_code
def yX3_wears : MethodName := ⟨RX3, "wears", "(I)I"⟩
abbrev cX3_fitting : ByteArray := prog_5_method_6_code
def yX3_fitting : MethodName := ⟨RX3, "fitting", "(LFlexedFaces$Sheet;II)I"⟩
abbrev cX3_taking : ByteArray := prog_5_method_7_code
def yX3_taking : MethodName := ⟨RX3, "taking", "(IJ)I"⟩
abbrev cX3_bestTry : ByteArray := prog_5_method_8_code
def yX3_bestTry : MethodName := ⟨RX3, "bestTry", "(I)I"⟩
abbrev cX3_greatestPart : ByteArray := prog_5_method_9_code
def yX3_greatestPart : MethodName := ⟨RX3, "greatestPart", "(II)I"⟩
def RX4 : String := "FlexedFaces$Paths"
def TX4 : u_T := fun k => match k with
  | 0 => ("FlexedFaces$Paths", "next", "[I", true)
  | 1 => ("FlexedFaces$Paths", "least", "[I", true)
  | 2 => ("FlexedFaces$Paths", "firstSeen", "[I", true)
  | 3 => ("FlexedFaces$Paths", "queue", "[I", true)
  | 4 => ("FlexedFaces$Paths", "queued", "[I", true)
  | _ => ("FlexedFaces$Paths", "start", "I", false)
def tyX4 : Nat → FieldType := fun k => match k with
  | 0 => .array .int
  | 1 => .array .int
  | 2 => .array .int
  | 3 => .array .int
  | 4 => .array .int
  | _ => .int
abbrev wsX40 : List Cond := u_ws RX4 TX4 6
theorem nmX4 : ∀ a, a < 6 → ∀ b, b < 6 → a ≠ b → (TX4 a).2.1 ≠ (TX4 b).2.1 := by decide +kernel
theorem tyX4_ok : ∀ k, k < 6 → parseFieldDescriptor (TX4 k).2.2.1 = some (tyX4 k) := by decide +kernel
abbrev cX4_init : ByteArray := prog_6_method_1_code
def yX4_init : MethodName := ⟨RX4, "<init>", "()V"⟩
abbrev cX4_spotOf : ByteArray := prog_6_method_2_code
def yX4_spotOf : MethodName := ⟨RX4, "spotOf", "(II)I"⟩
abbrev cX4_frontOf : ByteArray := prog_6_method_3_code
def yX4_frontOf : MethodName := ⟨RX4, "frontOf", "(I)I"⟩
abbrev cX4_lay : ByteArray := prog_6_method_4_code
def yX4_lay : MethodName := ⟨RX4, "lay", "(LFlexedFaces$Strip;)V"⟩
abbrev cX4_spotBehind : ByteArray := prog_6_method_5_code
def yX4_spotBehind : MethodName := ⟨RX4, "spotBehind", "(LFlexedFaces$Strip;II)I"⟩
abbrev cX4_behind : ByteArray := prog_6_method_6_code
def yX4_behind : MethodName := ⟨RX4, "behind", "(II)I"⟩
abbrev cX4_reached : ByteArray := prog_6_method_7_code
def yX4_reached : MethodName := ⟨RX4, "reached", "()I"⟩
abbrev cX4_spotsOneMoveOn : ByteArray := prog_6_method_8_code
def yX4_spotsOneMoveOn : MethodName := ⟨RX4, "spotsOneMoveOn", "(I)J"⟩
abbrev cX4_measure : ByteArray := prog_6_method_9_code
def yX4_measure : MethodName := ⟨RX4, "measure", "(LFlexedFaces$Strip;I)V"⟩
abbrev cX4_leastOver : ByteArray := prog_6_method_10_code
def yX4_leastOver : MethodName := ⟨RX4, "leastOver", "(LFlexedFaces$Strip;I)I"⟩
abbrev cX4_lengthBy : ByteArray := prog_6_method_11_code
def yX4_lengthBy : MethodName := ⟨RX4, "lengthBy", "(LFlexedFaces$Strip;II)I"⟩
abbrev cX4_hasWay : ByteArray := prog_6_method_12_code
def yX4_hasWay : MethodName := ⟨RX4, "hasWay", "()Z"⟩
abbrev cX4_wayEffort : ByteArray := prog_6_method_13_code
def yX4_wayEffort : MethodName := ⟨RX4, "wayEffort", "()I"⟩
abbrev cX4_wayMoves : ByteArray := prog_6_method_14_code
def yX4_wayMoves : MethodName := ⟨RX4, "wayMoves", "()I"⟩
abbrev cX4_wayMove : ByteArray := prog_6_method_15_code
def yX4_wayMove : MethodName := ⟨RX4, "wayMove", "(LFlexedFaces$Strip;I)I"⟩
abbrev cX4_firstBest : ByteArray := prog_6_method_16_code
def yX4_firstBest : MethodName := ⟨RX4, "firstBest", "(LFlexedFaces$Strip;I)I"⟩
abbrev cX4_fewestToSee : ByteArray := prog_6_method_17_code
def yX4_fewestToSee : MethodName := ⟨RX4, "fewestToSee", "(I)I"⟩
abbrev cX4_enqueue : ByteArray := prog_6_method_18_code
def yX4_enqueue : MethodName := ⟨RX4, "enqueue", "(III)I"⟩
abbrev cX4_moveOfCircle : ByteArray := prog_6_method_19_code
def yX4_moveOfCircle : MethodName := ⟨RX4, "moveOfCircle", "(II)I"⟩
abbrev cX4_movesAheadOfCircle : ByteArray := prog_6_method_20_code
def yX4_movesAheadOfCircle : MethodName := ⟨RX4, "movesAheadOfCircle", "()I"⟩
abbrev cX4_movesOfCircle : ByteArray := prog_6_method_21_code
def yX4_movesOfCircle : MethodName := ⟨RX4, "movesOfCircle", "()I"⟩
abbrev cX4_circle : ByteArray := prog_6_method_22_code
def yX4_circle : MethodName := ⟨RX4, "circle", "(Z)I"⟩
abbrev cX4_writeCircle : ByteArray := prog_6_method_23_code
def yX4_writeCircle : MethodName := ⟨RX4, "writeCircle", "(LFlexedFaces$Sheet;II)V"⟩
def RX5 : String := "FlexedFaces$Reader"
def TX5 : u_T := fun k => match k with
  | 0 => ("FlexedFaces$Reader", "made", "LFlexedFaces$Strip;", true)
  | _ => ("FlexedFaces$Reader", "place", "I", false)
def tyX5 : Nat → FieldType := fun k => match k with
  | 0 => .object "FlexedFaces$Strip"
  | _ => .int
abbrev wsX50 : List Cond := u_ws RX5 TX5 2
theorem nmX5 : ∀ a, a < 2 → ∀ b, b < 2 → a ≠ b → (TX5 a).2.1 ≠ (TX5 b).2.1 := by decide +kernel
theorem tyX5_ok : ∀ k, k < 2 → parseFieldDescriptor (TX5 k).2.2.1 = some (tyX5 k) := by decide +kernel
abbrev cX5_init : ByteArray := prog_7_method_1_code
def yX5_init : MethodName := ⟨RX5, "<init>", "()V"⟩
abbrev cX5_readWhole : ByteArray := prog_7_method_2_code
def yX5_readWhole : MethodName := ⟨RX5, "readWhole", "(LFlexedFaces$Tape;)Z"⟩
abbrev cX5_readSign : ByteArray := prog_7_method_3_code
def yX5_readSign : MethodName := ⟨RX5, "readSign", "(LFlexedFaces$Tape;I)Z"⟩
abbrev cX5_readPictures : ByteArray := prog_7_method_4_code
def yX5_readPictures : MethodName := ⟨RX5, "readPictures", "(LFlexedFaces$Tape;)Z"⟩
abbrev cX5_readPicture : ByteArray := prog_7_method_5_code
def yX5_readPicture : MethodName := ⟨RX5, "readPicture", "(LFlexedFaces$Tape;)Z"⟩
abbrev cX5_readFolds : ByteArray := prog_7_method_6_code
def yX5_readFolds : MethodName := ⟨RX5, "readFolds", "(LFlexedFaces$Tape;)Z"⟩
abbrev cX5_readFold : ByteArray := prog_7_method_7_code
def yX5_readFold : MethodName := ⟨RX5, "readFold", "(LFlexedFaces$Tape;)Z"⟩
abbrev cX5_readShown : ByteArray := prog_7_method_8_code
def yX5_readShown : MethodName := ⟨RX5, "readShown", "(LFlexedFaces$Tape;)Z"⟩
abbrev cX5_figure : ByteArray := prog_7_method_9_code
def yX5_figure : MethodName := ⟨RX5, "figure", "(LFlexedFaces$Tape;)I"⟩
def RX6 : String := "FlexedFaces$Sheet"
def TX6 : u_T := fun k => match k with
  | 0 => ("FlexedFaces$Sheet", "items", "[J", true)
  | 1 => ("FlexedFaces$Sheet", "lane", "I", false)
  | _ => ("FlexedFaces$Sheet", "size", "I", false)
def tyX6 : Nat → FieldType := fun k => match k with
  | 0 => .array .long
  | 1 => .int
  | _ => .int
abbrev wsX60 : List Cond := u_ws RX6 TX6 3
theorem nmX6 : ∀ a, a < 3 → ∀ b, b < 3 → a ≠ b → (TX6 a).2.1 ≠ (TX6 b).2.1 := by decide +kernel
theorem tyX6_ok : ∀ k, k < 3 → parseFieldDescriptor (TX6 k).2.2.1 = some (tyX6 k) := by decide +kernel
abbrev cX6_init : ByteArray := prog_8_method_1_code
def yX6_init : MethodName := ⟨RX6, "<init>", "()V"⟩
abbrev cX6_lay : ByteArray := prog_8_method_2_code
def yX6_lay : MethodName := ⟨RX6, "lay", "(II)V"⟩
abbrev cX6_clear : ByteArray := prog_8_method_3_code
def yX6_clear : MethodName := ⟨RX6, "clear", "()V"⟩
abbrev cX6_isNothing : ByteArray := prog_8_method_4_code
def yX6_isNothing : MethodName := ⟨RX6, "isNothing", "()Z"⟩
abbrev cX6_spans : ByteArray := prog_8_method_5_code
def yX6_spans : MethodName := ⟨RX6, "spans", "(II)Z"⟩
abbrev cX6_refusal : ByteArray := prog_8_method_6_code
def yX6_refusal : MethodName := ⟨RX6, "refusal", "(III)I"⟩
abbrev cX6_at : ByteArray := prog_8_method_7_code
def yX6_at : MethodName := ⟨RX6, "at", "(I)J"⟩
abbrev cX6_put : ByteArray := prog_8_method_8_code
def yX6_put : MethodName := ⟨RX6, "put", "(IJ)J"⟩
abbrev cX6_cutToLane : ByteArray := prog_8_method_9_code
def yX6_cutToLane : MethodName := ⟨RX6, "cutToLane", "(J)J"⟩
def RX7 : String := "FlexedFaces$Strip"
def TX7 : u_T := fun k => match k with
  | 0 => ("FlexedFaces$Strip", "kind", "[I", true)
  | 1 => ("FlexedFaces$Strip", "worth", "[I", true)
  | 2 => ("FlexedFaces$Strip", "bears", "[I", true)
  | 3 => ("FlexedFaces$Strip", "wear", "[I", true)
  | 4 => ("FlexedFaces$Strip", "shown", "[I", true)
  | 5 => ("FlexedFaces$Strip", "linked", "[I", true)
  | 6 => ("FlexedFaces$Strip", "pictures", "I", false)
  | 7 => ("FlexedFaces$Strip", "front", "I", false)
  | 8 => ("FlexedFaces$Strip", "back", "I", false)
  | _ => ("FlexedFaces$Strip", "effort", "I", false)
def tyX7 : Nat → FieldType := fun k => match k with
  | 0 => .array .int
  | 1 => .array .int
  | 2 => .array .int
  | 3 => .array .int
  | 4 => .array .int
  | 5 => .array .int
  | 6 => .int
  | 7 => .int
  | 8 => .int
  | _ => .int
abbrev wsX70 : List Cond := u_ws RX7 TX7 10
theorem nmX7 : ∀ a, a < 10 → ∀ b, b < 10 → a ≠ b → (TX7 a).2.1 ≠ (TX7 b).2.1 := by decide +kernel
theorem tyX7_ok : ∀ k, k < 10 → parseFieldDescriptor (TX7 k).2.2.1 = some (tyX7 k) := by decide +kernel
abbrev cX7_init : ByteArray := prog_9_method_1_code
def yX7_init : MethodName := ⟨RX7, "<init>", "()V"⟩
abbrev cX7_reset : ByteArray := prog_9_method_2_code
def yX7_reset : MethodName := ⟨RX7, "reset", "()V"⟩
abbrev cX7_takeFrom : ByteArray := prog_9_method_3_code
def yX7_takeFrom : MethodName := ⟨RX7, "takeFrom", "(LFlexedFaces$Strip;)V"⟩
abbrev cX7_addPicture : ByteArray := prog_9_method_4_code
def yX7_addPicture : MethodName := ⟨RX7, "addPicture", "(III)V"⟩
abbrev cX7_beBare : ByteArray := prog_9_method_5_code
def yX7_beBare : MethodName := ⟨RX7, "beBare", "(I)V"⟩
abbrev cX7_layRing : ByteArray := prog_9_method_6_code
def yX7_layRing : MethodName := ⟨RX7, "layRing", "()V"⟩
abbrev cX7_isMissing : ByteArray := prog_9_method_7_code
def yX7_isMissing : MethodName := ⟨RX7, "isMissing", "()Z"⟩
abbrev cX7_has : ByteArray := prog_9_method_8_code
def yX7_has : MethodName := ⟨RX7, "has", "(I)Z"⟩
abbrev cX7_areLinked : ByteArray := prog_9_method_9_code
def yX7_areLinked : MethodName := ⟨RX7, "areLinked", "(II)Z"⟩
abbrev cX7_areNeighbours : ByteArray := prog_9_method_10_code
def yX7_areNeighbours : MethodName := ⟨RX7, "areNeighbours", "(II)Z"⟩
abbrev cX7_isFold : ByteArray := prog_9_method_11_code
def yX7_isFold : MethodName := ⟨RX7, "isFold", "(II)Z"⟩
abbrev cX7_isShowing : ByteArray := prog_9_method_12_code
def yX7_isShowing : MethodName := ⟨RX7, "isShowing", "(II)Z"⟩
abbrev cX7_canJoin : ByteArray := prog_9_method_13_code
def yX7_canJoin : MethodName := ⟨RX7, "canJoin", "(II)Z"⟩
abbrev cX7_join : ByteArray := prog_9_method_14_code
def yX7_join : MethodName := ⟨RX7, "join", "(II)V"⟩
abbrev cX7_part : ByteArray := prog_9_method_15_code
def yX7_part : MethodName := ⟨RX7, "part", "(II)V"⟩
abbrev cX7_third : ByteArray := prog_9_method_16_code
def yX7_third : MethodName := ⟨RX7, "third", "(III)I"⟩
abbrev cX7_isTorn : ByteArray := prog_9_method_17_code
def yX7_isTorn : MethodName := ⟨RX7, "isTorn", "(I)Z"⟩
abbrev cX7_effortOf : ByteArray := prog_9_method_18_code
def yX7_effortOf : MethodName := ⟨RX7, "effortOf", "(I)I"⟩
abbrev cX7_comesBy : ByteArray := prog_9_method_19_code
def yX7_comesBy : MethodName := ⟨RX7, "comesBy", "(I)I"⟩
abbrev cX7_mayDo : ByteArray := prog_9_method_20_code
def yX7_mayDo : MethodName := ⟨RX7, "mayDo", "(I)Z"⟩
abbrev cX7_go : ByteArray := prog_9_method_21_code
def yX7_go : MethodName := ⟨RX7, "go", "(I)V"⟩
abbrev cX7_worthOf : ByteArray := prog_9_method_22_code
def yX7_worthOf : MethodName := ⟨RX7, "worthOf", "(I)I"⟩
abbrev cX7_shownSet : ByteArray := prog_9_method_23_code
def yX7_shownSet : MethodName := ⟨RX7, "shownSet", "()I"⟩
abbrev cX7_tornSet : ByteArray := prog_9_method_24_code
def yX7_tornSet : MethodName := ⟨RX7, "tornSet", "()I"⟩
abbrev cX7_wearOfAll : ByteArray := prog_9_method_25_code
def yX7_wearOfAll : MethodName := ⟨RX7, "wearOfAll", "()I"⟩
def RX8 : String := "FlexedFaces$Tape"
def TX8 : u_T := fun k => match k with
  | 0 => ("FlexedFaces$Tape", "bytes", "[I", true)
  | _ => ("FlexedFaces$Tape", "length", "I", false)
def tyX8 : Nat → FieldType := fun k => match k with
  | 0 => .array .int
  | _ => .int
abbrev wsX80 : List Cond := u_ws RX8 TX8 2
theorem nmX8 : ∀ a, a < 2 → ∀ b, b < 2 → a ≠ b → (TX8 a).2.1 ≠ (TX8 b).2.1 := by decide +kernel
theorem tyX8_ok : ∀ k, k < 2 → parseFieldDescriptor (TX8 k).2.2.1 = some (tyX8 k) := by decide +kernel
abbrev cX8_init : ByteArray := prog_10_method_1_code
def yX8_init : MethodName := ⟨RX8, "<init>", "()V"⟩
abbrev cX8_add : ByteArray := prog_10_method_2_code
def yX8_add : MethodName := ⟨RX8, "add", "(I)I"⟩
abbrev cX8_at : ByteArray := prog_10_method_3_code
def yX8_at : MethodName := ⟨RX8, "at", "(I)I"⟩
abbrev cX8_empty : ByteArray := prog_10_method_4_code
def yX8_empty : MethodName := ⟨RX8, "empty", "()V"⟩
def RX9 : String := "FlexedFaces"
def TX9 : u_T := fun k => match k with
  | 0 => ("FlexedFaces", "tape", "LFlexedFaces$Tape;", true)
  | 1 => ("FlexedFaces", "reader", "LFlexedFaces$Reader;", true)
  | 2 => ("FlexedFaces", "strip", "LFlexedFaces$Strip;", true)
  | 3 => ("FlexedFaces", "history", "LFlexedFaces$History;", true)
  | 4 => ("FlexedFaces", "images", "[LFlexedFaces$Strip;", true)
  | 5 => ("FlexedFaces", "sheets", "[LFlexedFaces$Sheet;", true)
  | 6 => ("FlexedFaces", "paths", "LFlexedFaces$Paths;", true)
  | 7 => ("FlexedFaces", "going", "LFlexedFaces$Going;", true)
  | _ => ("FlexedFaces", "guesses", "LFlexedFaces$Foldings;", true)
def tyX9 : Nat → FieldType := fun k => match k with
  | 0 => .object "FlexedFaces$Tape"
  | 1 => .object "FlexedFaces$Reader"
  | 2 => .object "FlexedFaces$Strip"
  | 3 => .object "FlexedFaces$History"
  | 4 => .array (.object "FlexedFaces$Strip")
  | 5 => .array (.object "FlexedFaces$Sheet")
  | 6 => .object "FlexedFaces$Paths"
  | 7 => .object "FlexedFaces$Going"
  | _ => .object "FlexedFaces$Foldings"
abbrev wsX90 : List Cond := u_ws RX9 TX9 9
theorem nmX9 : ∀ a, a < 9 → ∀ b, b < 9 → a ≠ b → (TX9 a).2.1 ≠ (TX9 b).2.1 := by decide +kernel
theorem tyX9_ok : ∀ k, k < 9 → parseFieldDescriptor (TX9 k).2.2.1 = some (tyX9 k) := by decide +kernel
abbrev cX9_init : ByteArray := prog_1_method_1_code
def yX9_init : MethodName := ⟨RX9, "<init>", "()V"⟩
abbrev cX9_feed : ByteArray := prog_1_method_2_code
def yX9_feed : MethodName := ⟨RX9, "feed", "(I)I"⟩
abbrev cX9_strip : ByteArray := prog_1_method_3_code
def yX9_strip : MethodName := ⟨RX9, "strip", "()I"⟩
abbrev cX9_picture : ByteArray := prog_1_method_4_code
def yX9_picture : MethodName := ⟨RX9, "picture", "(II)I"⟩
abbrev cX9_as : ByteArray := prog_1_method_5_code
def yX9_as : MethodName := ⟨RX9, "as", "(II)I"⟩
abbrev cX9_brings : ByteArray := prog_1_method_6_code
def yX9_brings : MethodName := ⟨RX9, "brings", "(I)I"⟩
abbrev cX9_flex : ByteArray := prog_1_method_7_code
def yX9_flex : MethodName := ⟨RX9, "flex", "(I)I"⟩
abbrev cX9_turn : ByteArray := prog_1_method_8_code
def yX9_turn : MethodName := ⟨RX9, "turn", "()I"⟩
abbrev cX9_doMove : ByteArray := prog_1_method_9_code
def yX9_doMove : MethodName := ⟨RX9, "doMove", "(I)I"⟩
abbrev cX9_refold : ByteArray := prog_1_method_10_code
def yX9_refold : MethodName := ⟨RX9, "refold", "(II)I"⟩
abbrev cX9_mend : ByteArray := prog_1_method_11_code
def yX9_mend : MethodName := ⟨RX9, "mend", "(I)I"⟩
abbrev cX9_undo : ByteArray := prog_1_method_12_code
def yX9_undo : MethodName := ⟨RX9, "undo", "()I"⟩
abbrev cX9_image : ByteArray := prog_1_method_13_code
def yX9_image : MethodName := ⟨RX9, "image", "(I)I"⟩
abbrev cX9_restore : ByteArray := prog_1_method_14_code
def yX9_restore : MethodName := ⟨RX9, "restore", "(I)I"⟩
abbrev cX9_reach : ByteArray := prog_1_method_15_code
def yX9_reach : MethodName := ⟨RX9, "reach", "()I"⟩
abbrev cX9_way : ByteArray := prog_1_method_16_code
def yX9_way : MethodName := ⟨RX9, "way", "(II)I"⟩
abbrev cX9_tour : ByteArray := prog_1_method_17_code
def yX9_tour : MethodName := ⟨RX9, "tour", "()I"⟩
abbrev cX9_round : ByteArray := prog_1_method_18_code
def yX9_round : MethodName := ⟨RX9, "round", "(I)I"⟩
abbrev cX9_hand : ByteArray := prog_1_method_19_code
def yX9_hand : MethodName := ⟨RX9, "hand", "(IIII)I"⟩
abbrev cX9_duel : ByteArray := prog_1_method_20_code
def yX9_duel : MethodName := ⟨RX9, "duel", "(I)I"⟩
abbrev cX9_decades : ByteArray := prog_1_method_21_code
def yX9_decades : MethodName := ⟨RX9, "decades", "(III)I"⟩
abbrev cX9_sheet : ByteArray := prog_1_method_22_code
def yX9_sheet : MethodName := ⟨RX9, "sheet", "(III)I"⟩
abbrev cX9_drop : ByteArray := prog_1_method_23_code
def yX9_drop : MethodName := ⟨RX9, "drop", "(I)I"⟩
abbrev cX9_item : ByteArray := prog_1_method_24_code
def yX9_item : MethodName := ⟨RX9, "item", "(IIIJ)J"⟩
abbrev cX9_copy : ByteArray := prog_1_method_25_code
def yX9_copy : MethodName := ⟨RX9, "copy", "(IIIII)I"⟩
abbrev cX9_log : ByteArray := prog_1_method_26_code
def yX9_log : MethodName := ⟨RX9, "log", "(IIII)I"⟩
abbrev cX9_foldings : ByteArray := prog_1_method_27_code
def yX9_foldings : MethodName := ⟨RX9, "foldings", "(IIIII)I"⟩
abbrev cX9_kinds : ByteArray := prog_1_method_28_code
def yX9_kinds : MethodName := ⟨RX9, "kinds", "(IIIII)I"⟩
abbrev cX9_count : ByteArray := prog_1_method_29_code
def yX9_count : MethodName := ⟨RX9, "count", "(I)I"⟩
abbrev cX9_isWithin : ByteArray := prog_1_method_30_code
def yX9_isWithin : MethodName := ⟨RX9, "isWithin", "(III)Z"⟩
abbrev cX9_isSide : ByteArray := prog_1_method_31_code
def yX9_isSide : MethodName := ⟨RX9, "isSide", "(I)Z"⟩
abbrev cX9_isSheet : ByteArray := prog_1_method_32_code
def yX9_isSheet : MethodName := ⟨RX9, "isSheet", "(I)Z"⟩
abbrev cX9_isLane : ByteArray := prog_1_method_33_code
def yX9_isLane : MethodName := ⟨RX9, "isLane", "(I)Z"⟩
abbrev cX9_greatestDivisor : ByteArray := prog_1_method_34_code
def yX9_greatestDivisor : MethodName := ⟨RX9, "greatestDivisor", "(II)I"⟩
def RX10 : String := "FlexedFacesModel"
def TX10 : u_T := fun k => match k with
  | 0 => ("FlexedFacesModel", "now", "[I", true)
  | 1 => ("FlexedFacesModel", "tape", "[I", true)
  | 2 => ("FlexedFacesModel", "taped", "I", false)
  | 3 => ("FlexedFacesModel", "place", "I", false)
  | 4 => ("FlexedFacesModel", "read", "[I", true)
  | 5 => ("FlexedFacesModel", "ahead", "[I", true)
  | 6 => ("FlexedFacesModel", "acts", "I", false)
  | 7 => ("FlexedFacesModel", "kept", "[I", true)
  | 8 => ("FlexedFacesModel", "aside", "[I", true)
  | 9 => ("FlexedFacesModel", "queue", "[I", true)
  | 10 => ("FlexedFacesModel", "seen", "[Z", true)
  | 11 => ("FlexedFacesModel", "left", "[I", true)
  | 12 => ("FlexedFacesModel", "when", "[I", true)
  | 13 => ("FlexedFacesModel", "latest", "I", false)
  | 14 => ("FlexedFacesModel", "ends", "[I", true)
  | 15 => ("FlexedFacesModel", "lanes", "[I", true)
  | 16 => ("FlexedFacesModel", "sizes", "[I", true)
  | 17 => ("FlexedFacesModel", "items", "[J", true)
  | 18 => ("FlexedFacesModel", "moved", "[J", true)
  | 19 => ("FlexedFacesModel", "foldings", "[I", true)
  | 20 => ("FlexedFacesModel", "foldingsThere", "I", false)
  | 21 => ("FlexedFacesModel", "ones", "[I", true)
  | 22 => ("FlexedFacesModel", "others", "[I", true)
  | 23 => ("FlexedFacesModel", "taken", "[I", true)
  | 24 => ("FlexedFacesModel", "laid", "[I", true)
  | _ => ("FlexedFacesModel", "bring", "[I", true)
def tyX10 : Nat → FieldType := fun k => match k with
  | 0 => .array .int
  | 1 => .array .int
  | 2 => .int
  | 3 => .int
  | 4 => .array .int
  | 5 => .array .int
  | 6 => .int
  | 7 => .array .int
  | 8 => .array .int
  | 9 => .array .int
  | 10 => .array .boolean
  | 11 => .array .int
  | 12 => .array .int
  | 13 => .int
  | 14 => .array .int
  | 15 => .array .int
  | 16 => .array .int
  | 17 => .array .long
  | 18 => .array .long
  | 19 => .array .int
  | 20 => .int
  | 21 => .array .int
  | 22 => .array .int
  | 23 => .array .int
  | 24 => .array .int
  | _ => .array .int
abbrev wsX100 : List Cond := u_ws RX10 TX10 26
theorem nmX10 : ∀ a, a < 26 → ∀ b, b < 26 → a ≠ b → (TX10 a).2.1 ≠ (TX10 b).2.1 := by decide +kernel
theorem tyX10_ok : ∀ k, k < 26 → parseFieldDescriptor (TX10 k).2.2.1 = some (tyX10 k) := by decide +kernel
abbrev cX10_in : ByteArray := prog_12_method_2_code
def yX10_in : MethodName := ⟨RX10, "in", "(JJJ)Z"⟩
abbrev cX10_init : ByteArray := prog_12_method_3_code
def yX10_init : MethodName := ⟨RX10, "<init>", "()V"⟩
abbrev cX10_feed : ByteArray := prog_12_method_4_code
def yX10_feed : MethodName := ⟨RX10, "feed", "(I)I"⟩
abbrev cX10_here : ByteArray := prog_12_method_5_code
def yX10_here : MethodName := ⟨RX10, "here", "()I"⟩
abbrev cX10_figure : ByteArray := prog_12_method_6_code
def yX10_figure : MethodName := ⟨RX10, "figure", "(II)I"⟩
abbrev cX10_has : ByteArray := prog_12_method_7_code
def yX10_has : MethodName := ⟨RX10, "has", "(I)Z"⟩
abbrev cX10_kindBy : ByteArray := prog_12_method_8_code
def yX10_kindBy : MethodName := ⟨RX10, "kindBy", "(I)I"⟩
abbrev cX10_readsPictures : ByteArray := prog_12_method_9_code
def yX10_readsPictures : MethodName := ⟨RX10, "readsPictures", "()Z"⟩
abbrev cX10_isBetween : ByteArray := prog_12_method_10_code
def yX10_isBetween : MethodName := ⟨RX10, "isBetween", "(IIII)Z"⟩
abbrev cX10_joins : ByteArray := prog_12_method_11_code
def yX10_joins : MethodName := ⟨RX10, "joins", "([IIIII)Z"⟩
abbrev cX10_links : ByteArray := prog_12_method_12_code
def yX10_links : MethodName := ⟨RX10, "links", "([IIII)V"⟩
abbrev cX10_ring : ByteArray := prog_12_method_13_code
def yX10_ring : MethodName := ⟨RX10, "ring", "([III)V"⟩
abbrev cX10_readsFolds : ByteArray := prog_12_method_14_code
def yX10_readsFolds : MethodName := ⟨RX10, "readsFolds", "()Z"⟩
abbrev cX10_reads : ByteArray := prog_12_method_15_code
def yX10_reads : MethodName := ⟨RX10, "reads", "()Z"⟩
abbrev cX10_strip : ByteArray := prog_12_method_16_code
def yX10_strip : MethodName := ⟨RX10, "strip", "()I"⟩
abbrev cX10_isThere : ByteArray := prog_12_method_17_code
def yX10_isThere : MethodName := ⟨RX10, "isThere", "()Z"⟩
abbrev cX10_isPicture : ByteArray := prog_12_method_18_code
def yX10_isPicture : MethodName := ⟨RX10, "isPicture", "(I)Z"⟩
abbrev cX10_effortOf : ByteArray := prog_12_method_19_code
def yX10_effortOf : MethodName := ⟨RX10, "effortOf", "(II)I"⟩
abbrev cX10_effortNow : ByteArray := prog_12_method_20_code
def yX10_effortNow : MethodName := ⟨RX10, "effortNow", "(I)I"⟩
abbrev cX10_wears : ByteArray := prog_12_method_21_code
def yX10_wears : MethodName := ⟨RX10, "wears", "(I)I"⟩
abbrev cX10_isTorn : ByteArray := prog_12_method_22_code
def yX10_isTorn : MethodName := ⟨RX10, "isTorn", "(I)Z"⟩
abbrev cX10_picture : ByteArray := prog_12_method_23_code
def yX10_picture : MethodName := ⟨RX10, "picture", "(II)I"⟩
abbrev cX10_isOf : ByteArray := prog_12_method_24_code
def yX10_isOf : MethodName := ⟨RX10, "isOf", "(II)Z"⟩
abbrev cX10_as : ByteArray := prog_12_method_25_code
def yX10_as : MethodName := ⟨RX10, "as", "(II)I"⟩
abbrev cX10_third : ByteArray := prog_12_method_26_code
def yX10_third : MethodName := ⟨RX10, "third", "([IIIII)I"⟩
abbrev cX10_brought : ByteArray := prog_12_method_27_code
def yX10_brought : MethodName := ⟨RX10, "brought", "([IIIIII)I"⟩
abbrev cX10_bringsNow : ByteArray := prog_12_method_28_code
def yX10_bringsNow : MethodName := ⟨RX10, "bringsNow", "(I)I"⟩
abbrev cX10_brings : ByteArray := prog_12_method_29_code
def yX10_brings : MethodName := ⟨RX10, "brings", "(I)I"⟩
abbrev cX10_notes : ByteArray := prog_12_method_30_code
def yX10_notes : MethodName := ⟨RX10, "notes", "()V"⟩
abbrev cX10_may : ByteArray := prog_12_method_31_code
def yX10_may : MethodName := ⟨RX10, "may", "(I)Z"⟩
abbrev cX10_moves : ByteArray := prog_12_method_32_code
def yX10_moves : MethodName := ⟨RX10, "moves", "(I)I"⟩
abbrev cX10_flex : ByteArray := prog_12_method_33_code
def yX10_flex : MethodName := ⟨RX10, "flex", "(I)I"⟩
abbrev cX10_turn : ByteArray := prog_12_method_34_code
def yX10_turn : MethodName := ⟨RX10, "turn", "()I"⟩
abbrev cX10_refold : ByteArray := prog_12_method_35_code
def yX10_refold : MethodName := ⟨RX10, "refold", "(II)I"⟩
abbrev cX10_mend : ByteArray := prog_12_method_36_code
def yX10_mend : MethodName := ⟨RX10, "mend", "(I)I"⟩
abbrev cX10_undo : ByteArray := prog_12_method_37_code
def yX10_undo : MethodName := ⟨RX10, "undo", "()I"⟩
abbrev cX10_image : ByteArray := prog_12_method_38_code
def yX10_image : MethodName := ⟨RX10, "image", "(I)I"⟩
abbrev cX10_restore : ByteArray := prog_12_method_39_code
def yX10_restore : MethodName := ⟨RX10, "restore", "(I)I"⟩
abbrev cX10_asides : ByteArray := prog_12_method_40_code
def yX10_asides : MethodName := ⟨RX10, "asides", "()V"⟩
abbrev cX10_backs : ByteArray := prog_12_method_41_code
def yX10_backs : MethodName := ⟨RX10, "backs", "()V"⟩
abbrev cX10_next : ByteArray := prog_12_method_42_code
def yX10_next : MethodName := ⟨RX10, "next", "(II)I"⟩
abbrev cX10_stateNow : ByteArray := prog_12_method_43_code
def yX10_stateNow : MethodName := ⟨RX10, "stateNow", "()I"⟩
abbrev cX10_reach : ByteArray := prog_12_method_44_code
def yX10_reach : MethodName := ⟨RX10, "reach", "()I"⟩
abbrev cX10_costOf : ByteArray := prog_12_method_45_code
def yX10_costOf : MethodName := ⟨RX10, "costOf", "(II)I"⟩
abbrev cX10_measures : ByteArray := prog_12_method_46_code
def yX10_measures : MethodName := ⟨RX10, "measures", "(I)V"⟩
abbrev cX10_way : ByteArray := prog_12_method_47_code
def yX10_way : MethodName := ⟨RX10, "way", "(II)I"⟩
abbrev cX10_tour : ByteArray := prog_12_method_48_code
def yX10_tour : MethodName := ⟨RX10, "tour", "()I"⟩
abbrev cX10_byTurns : ByteArray := prog_12_method_49_code
def yX10_byTurns : MethodName := ⟨RX10, "byTurns", "(II)I"⟩
abbrev cX10_round : ByteArray := prog_12_method_50_code
def yX10_round : MethodName := ⟨RX10, "round", "(I)I"⟩
abbrev cX10_part : ByteArray := prog_12_method_51_code
def yX10_part : MethodName := ⟨RX10, "part", "(JJI)I"⟩
abbrev cX10_hand : ByteArray := prog_12_method_52_code
def yX10_hand : MethodName := ⟨RX10, "hand", "(IIII)I"⟩
abbrev cX10_noted : ByteArray := prog_12_method_53_code
def yX10_noted : MethodName := ⟨RX10, "noted", "(I)V"⟩
abbrev cX10_comesTo : ByteArray := prog_12_method_54_code
def yX10_comesTo : MethodName := ⟨RX10, "comesTo", "(III)I"⟩
abbrev cX10_duel : ByteArray := prog_12_method_55_code
def yX10_duel : MethodName := ⟨RX10, "duel", "(I)I"⟩
abbrev cX10_decades : ByteArray := prog_12_method_56_code
def yX10_decades : MethodName := ⟨RX10, "decades", "(III)I"⟩
abbrev cX10_isSheet : ByteArray := prog_12_method_57_code
def yX10_isSheet : MethodName := ⟨RX10, "isSheet", "(I)Z"⟩
abbrev cX10_cut : ByteArray := prog_12_method_58_code
def yX10_cut : MethodName := ⟨RX10, "cut", "(JI)J"⟩
abbrev cX10_sheet : ByteArray := prog_12_method_59_code
def yX10_sheet : MethodName := ⟨RX10, "sheet", "(III)I"⟩
abbrev cX10_drop : ByteArray := prog_12_method_60_code
def yX10_drop : MethodName := ⟨RX10, "drop", "(I)I"⟩
abbrev cX10_why : ByteArray := prog_12_method_61_code
def yX10_why : MethodName := ⟨RX10, "why", "(IIII)I"⟩
abbrev cX10_item : ByteArray := prog_12_method_62_code
def yX10_item : MethodName := ⟨RX10, "item", "(IIIJ)J"⟩
abbrev cX10_copy : ByteArray := prog_12_method_63_code
def yX10_copy : MethodName := ⟨RX10, "copy", "(IIIII)I"⟩
abbrev cX10_log : ByteArray := prog_12_method_64_code
def yX10_log : MethodName := ⟨RX10, "log", "(IIII)I"⟩
abbrev cX10_pairs : ByteArray := prog_12_method_65_code
def yX10_pairs : MethodName := ⟨RX10, "pairs", "(I)I"⟩
abbrev cX10_lays : ByteArray := prog_12_method_66_code
def yX10_lays : MethodName := ⟨RX10, "lays", "(II)V"⟩
abbrev cX10_all : ByteArray := prog_12_method_67_code
def yX10_all : MethodName := ⟨RX10, "all", "(I)V"⟩
abbrev cX10_whyNot : ByteArray := prog_12_method_68_code
def yX10_whyNot : MethodName := ⟨RX10, "whyNot", "(II)I"⟩
abbrev cX10_goesSo : ByteArray := prog_12_method_69_code
def yX10_goesSo : MethodName := ⟨RX10, "goesSo", "([IIII)I"⟩
abbrev cX10_greatest : ByteArray := prog_12_method_70_code
def yX10_greatest : MethodName := ⟨RX10, "greatest", "(III)I"⟩
abbrev cX10_foldings : ByteArray := prog_12_method_71_code
def yX10_foldings : MethodName := ⟨RX10, "foldings", "(IIIII)I"⟩
abbrev cX10_shownOf : ByteArray := prog_12_method_72_code
def yX10_shownOf : MethodName := ⟨RX10, "shownOf", "(J)I"⟩
abbrev cX10_kinds : ByteArray := prog_12_method_73_code
def yX10_kinds : MethodName := ⟨RX10, "kinds", "(IIIII)I"⟩
abbrev cX10_tried : ByteArray := prog_12_method_74_code
def yX10_tried : MethodName := ⟨RX10, "tried", "(I)I"⟩
abbrev cX10_setOf : ByteArray := prog_12_method_75_code
def yX10_setOf : MethodName := ⟨RX10, "setOf", "(Z)I"⟩
abbrev cX10_wearOfAll : ByteArray := prog_12_method_76_code
def yX10_wearOfAll : MethodName := ⟨RX10, "wearOfAll", "()I"⟩
abbrev cX10_count : ByteArray := prog_12_method_77_code
def yX10_count : MethodName := ⟨RX10, "count", "(I)I"⟩
def RJ6 : String := "java/lang/Integer"
def TJ6 : u_T := fun k => match k with
  | _ => ("", "", "", false)
def tyJ6 : Nat → FieldType := fun k => match k with
  | _ => .int
abbrev wsJ60 : List Cond := u_ws RJ6 TJ6 0
theorem nmJ6 : ∀ a, a < 0 → ∀ b, b < 0 → a ≠ b → (TJ6 a).2.1 ≠ (TJ6 b).2.1 := by decide +kernel
theorem tyJ6_ok : ∀ k, k < 0 → parseFieldDescriptor (TJ6 k).2.2.1 = some (tyJ6 k) := by decide +kernel
abbrev cJ6_bitCount_0f7a4 : ByteArray := prog_13_method_49_code
def yJ6_bitCount_0f7a4 : MethodName := ⟨RJ6, "bitCount", "(I)I"⟩
def RJ9 : String := "java/lang/Math"
def TJ9 : u_T := fun k => match k with
  | _ => ("", "", "", false)
def tyJ9 : Nat → FieldType := fun k => match k with
  | _ => .int
abbrev wsJ90 : List Cond := u_ws RJ9 TJ9 0
theorem nmJ9 : ∀ a, a < 0 → ∀ b, b < 0 → a ≠ b → (TJ9 a).2.1 ≠ (TJ9 b).2.1 := by decide +kernel
theorem tyJ9_ok : ∀ k, k < 0 → parseFieldDescriptor (TJ9 k).2.2.1 = some (tyJ9 k) := by decide +kernel
abbrev cJ9_abs_0f7a4 : ByteArray := prog_14_method_59_code
def yJ9_abs_0f7a4 : MethodName := ⟨RJ9, "abs", "(I)I"⟩
abbrev cJ9_max_7cf53 : ByteArray := prog_14_method_65_code
def yJ9_max_7cf53 : MethodName := ⟨RJ9, "max", "(II)I"⟩
abbrev cJ9_min_7cf53 : ByteArray := prog_14_method_69_code
def yJ9_min_7cf53 : MethodName := ⟨RJ9, "min", "(II)I"⟩
def RJ10 : String := "java/lang/System"
def TJ10 : u_T := fun k => match k with
  | _ => ("", "", "", false)
def tyJ10 : Nat → FieldType := fun k => match k with
  | _ => .int
abbrev wsJ100 : List Cond := u_ws RJ10 TJ10 0
theorem nmJ10 : ∀ a, a < 0 → ∀ b, b < 0 → a ≠ b → (TJ10 a).2.1 ≠ (TJ10 b).2.1 := by decide +kernel
theorem tyJ10_ok : ∀ k, k < 0 → parseFieldDescriptor (TJ10 k).2.2.1 = some (tyJ10 k) := by decide +kernel
def RL : String := "FlexedFacesLaw"
abbrev cL_law : ByteArray := code
def yL_law : MethodName := ⟨RL, "law", "([I)Z"⟩
abbrev vwCl : List vw_C := [(RX0, TX0, 14), (RX1, TX1, 1), (RX2, TX2, 3), (RX4, TX4, 6), (RX5, TX5, 2), (RX6, TX6, 3), (RX7, TX7, 10), (RX8, TX8, 2), (RX9, TX9, 9), (RX10, TX10, 26)]
end
section
theorem dX7_init_0 : decode cX7_init 0 = .ok (.aload_n 0, 1) := by decide +kernel
theorem dX7_init_1 : decode cX7_init 1 = .ok (.invokespecial 3, 3) := by decide +kernel
theorem dX7_init_4 : decode cX7_init 4 = .ok (.aload_n 0, 1) := by decide +kernel
theorem dX7_init_5 : decode cX7_init 5 = .ok (.bipush 8, 2) := by decide +kernel
theorem dX7_init_7 : decode cX7_init 7 = .ok (.newarray .int, 2) := by decide +kernel
theorem dX7_init_9 : decode cX7_init 9 = .ok (.putfield 9, 3) := by decide +kernel
theorem dX7_init_12 : decode cX7_init 12 = .ok (.aload_n 0, 1) := by decide +kernel
theorem dX7_init_13 : decode cX7_init 13 = .ok (.bipush 8, 2) := by decide +kernel
theorem dX7_init_15 : decode cX7_init 15 = .ok (.newarray .int, 2) := by decide +kernel
theorem dX7_init_17 : decode cX7_init 17 = .ok (.putfield 15, 3) := by decide +kernel
theorem dX7_init_20 : decode cX7_init 20 = .ok (.aload_n 0, 1) := by decide +kernel
theorem dX7_init_21 : decode cX7_init 21 = .ok (.bipush 8, 2) := by decide +kernel
theorem dX7_init_23 : decode cX7_init 23 = .ok (.newarray .int, 2) := by decide +kernel
theorem dX7_init_25 : decode cX7_init 25 = .ok (.putfield 18, 3) := by decide +kernel
theorem dX7_init_28 : decode cX7_init 28 = .ok (.aload_n 0, 1) := by decide +kernel
theorem dX7_init_29 : decode cX7_init 29 = .ok (.bipush 8, 2) := by decide +kernel
theorem dX7_init_31 : decode cX7_init 31 = .ok (.newarray .int, 2) := by decide +kernel
theorem dX7_init_33 : decode cX7_init 33 = .ok (.putfield 21, 3) := by decide +kernel
theorem dX7_init_36 : decode cX7_init 36 = .ok (.aload_n 0, 1) := by decide +kernel
theorem dX7_init_37 : decode cX7_init 37 = .ok (.bipush 8, 2) := by decide +kernel
theorem dX7_init_39 : decode cX7_init 39 = .ok (.newarray .int, 2) := by decide +kernel
theorem dX7_init_41 : decode cX7_init 41 = .ok (.putfield 24, 3) := by decide +kernel
theorem dX7_init_44 : decode cX7_init 44 = .ok (.aload_n 0, 1) := by decide +kernel
theorem dX7_init_45 : decode cX7_init 45 = .ok (.bipush 8, 2) := by decide +kernel
theorem dX7_init_47 : decode cX7_init 47 = .ok (.newarray .int, 2) := by decide +kernel
theorem dX7_init_49 : decode cX7_init 49 = .ok (.putfield 27, 3) := by decide +kernel
theorem dX7_init_52 : decode cX7_init 52 = .ok (.return_, 1) := by decide +kernel
theorem dX7_reset_0 : decode cX7_reset 0 = .ok (.aload_n 0, 1) := by decide +kernel
theorem dX7_reset_1 : decode cX7_reset 1 = .ok (.iconst 0, 1) := by decide +kernel
theorem dX7_reset_2 : decode cX7_reset 2 = .ok (.putfield 30, 3) := by decide +kernel
theorem dX7_reset_5 : decode cX7_reset 5 = .ok (.aload_n 0, 1) := by decide +kernel
theorem dX7_reset_6 : decode cX7_reset 6 = .ok (.iconst 0, 1) := by decide +kernel
theorem dX7_reset_7 : decode cX7_reset 7 = .ok (.putfield 34, 3) := by decide +kernel
theorem dX7_reset_10 : decode cX7_reset 10 = .ok (.aload_n 0, 1) := by decide +kernel
theorem dX7_reset_11 : decode cX7_reset 11 = .ok (.iconst 0, 1) := by decide +kernel
theorem dX7_reset_12 : decode cX7_reset 12 = .ok (.putfield 37, 3) := by decide +kernel
theorem dX7_reset_15 : decode cX7_reset 15 = .ok (.aload_n 0, 1) := by decide +kernel
theorem dX7_reset_16 : decode cX7_reset 16 = .ok (.iconst 0, 1) := by decide +kernel
theorem dX7_reset_17 : decode cX7_reset 17 = .ok (.putfield 40, 3) := by decide +kernel
theorem dX7_reset_20 : decode cX7_reset 20 = .ok (.return_, 1) := by decide +kernel
theorem dX7_takeFrom_0 : decode cX7_takeFrom 0 = .ok (.aload_n 1, 1) := by decide +kernel
theorem dX7_takeFrom_1 : decode cX7_takeFrom 1 = .ok (.getfield 9, 3) := by decide +kernel
theorem dX7_takeFrom_4 : decode cX7_takeFrom 4 = .ok (.iconst 0, 1) := by decide +kernel
theorem dX7_takeFrom_5 : decode cX7_takeFrom 5 = .ok (.aload_n 0, 1) := by decide +kernel
theorem dX7_takeFrom_6 : decode cX7_takeFrom 6 = .ok (.getfield 9, 3) := by decide +kernel
theorem dX7_takeFrom_9 : decode cX7_takeFrom 9 = .ok (.iconst 0, 1) := by decide +kernel
theorem dX7_takeFrom_10 : decode cX7_takeFrom 10 = .ok (.bipush 8, 2) := by decide +kernel
theorem dX7_takeFrom_12 : decode cX7_takeFrom 12 = .ok (.invokestatic 43, 3) := by decide +kernel
theorem dX7_takeFrom_15 : decode cX7_takeFrom 15 = .ok (.aload_n 1, 1) := by decide +kernel
theorem dX7_takeFrom_16 : decode cX7_takeFrom 16 = .ok (.getfield 15, 3) := by decide +kernel
theorem dX7_takeFrom_19 : decode cX7_takeFrom 19 = .ok (.iconst 0, 1) := by decide +kernel
theorem dX7_takeFrom_20 : decode cX7_takeFrom 20 = .ok (.aload_n 0, 1) := by decide +kernel
theorem dX7_takeFrom_21 : decode cX7_takeFrom 21 = .ok (.getfield 15, 3) := by decide +kernel
theorem dX7_takeFrom_24 : decode cX7_takeFrom 24 = .ok (.iconst 0, 1) := by decide +kernel
theorem dX7_takeFrom_25 : decode cX7_takeFrom 25 = .ok (.bipush 8, 2) := by decide +kernel
theorem dX7_takeFrom_27 : decode cX7_takeFrom 27 = .ok (.invokestatic 43, 3) := by decide +kernel
theorem dX7_takeFrom_30 : decode cX7_takeFrom 30 = .ok (.aload_n 1, 1) := by decide +kernel
theorem dX7_takeFrom_31 : decode cX7_takeFrom 31 = .ok (.getfield 18, 3) := by decide +kernel
theorem dX7_takeFrom_34 : decode cX7_takeFrom 34 = .ok (.iconst 0, 1) := by decide +kernel
theorem dX7_takeFrom_35 : decode cX7_takeFrom 35 = .ok (.aload_n 0, 1) := by decide +kernel
theorem dX7_takeFrom_36 : decode cX7_takeFrom 36 = .ok (.getfield 18, 3) := by decide +kernel
theorem dX7_takeFrom_39 : decode cX7_takeFrom 39 = .ok (.iconst 0, 1) := by decide +kernel
theorem dX7_takeFrom_40 : decode cX7_takeFrom 40 = .ok (.bipush 8, 2) := by decide +kernel
theorem dX7_takeFrom_42 : decode cX7_takeFrom 42 = .ok (.invokestatic 43, 3) := by decide +kernel
theorem dX7_takeFrom_45 : decode cX7_takeFrom 45 = .ok (.aload_n 1, 1) := by decide +kernel
theorem dX7_takeFrom_46 : decode cX7_takeFrom 46 = .ok (.getfield 21, 3) := by decide +kernel
theorem dX7_takeFrom_49 : decode cX7_takeFrom 49 = .ok (.iconst 0, 1) := by decide +kernel
theorem dX7_takeFrom_50 : decode cX7_takeFrom 50 = .ok (.aload_n 0, 1) := by decide +kernel
theorem dX7_takeFrom_51 : decode cX7_takeFrom 51 = .ok (.getfield 21, 3) := by decide +kernel
theorem dX7_takeFrom_54 : decode cX7_takeFrom 54 = .ok (.iconst 0, 1) := by decide +kernel
theorem dX7_takeFrom_55 : decode cX7_takeFrom 55 = .ok (.bipush 8, 2) := by decide +kernel
theorem dX7_takeFrom_57 : decode cX7_takeFrom 57 = .ok (.invokestatic 43, 3) := by decide +kernel
theorem dX7_takeFrom_60 : decode cX7_takeFrom 60 = .ok (.aload_n 1, 1) := by decide +kernel
theorem dX7_takeFrom_61 : decode cX7_takeFrom 61 = .ok (.getfield 24, 3) := by decide +kernel
theorem dX7_takeFrom_64 : decode cX7_takeFrom 64 = .ok (.iconst 0, 1) := by decide +kernel
theorem dX7_takeFrom_65 : decode cX7_takeFrom 65 = .ok (.aload_n 0, 1) := by decide +kernel
theorem dX7_takeFrom_66 : decode cX7_takeFrom 66 = .ok (.getfield 24, 3) := by decide +kernel
theorem dX7_takeFrom_69 : decode cX7_takeFrom 69 = .ok (.iconst 0, 1) := by decide +kernel
theorem dX7_takeFrom_70 : decode cX7_takeFrom 70 = .ok (.bipush 8, 2) := by decide +kernel
theorem dX7_takeFrom_72 : decode cX7_takeFrom 72 = .ok (.invokestatic 43, 3) := by decide +kernel
theorem dX7_takeFrom_75 : decode cX7_takeFrom 75 = .ok (.aload_n 1, 1) := by decide +kernel
theorem dX7_takeFrom_76 : decode cX7_takeFrom 76 = .ok (.getfield 27, 3) := by decide +kernel
theorem dX7_takeFrom_79 : decode cX7_takeFrom 79 = .ok (.iconst 0, 1) := by decide +kernel
theorem dX7_takeFrom_80 : decode cX7_takeFrom 80 = .ok (.aload_n 0, 1) := by decide +kernel
theorem dX7_takeFrom_81 : decode cX7_takeFrom 81 = .ok (.getfield 27, 3) := by decide +kernel
theorem dX7_takeFrom_84 : decode cX7_takeFrom 84 = .ok (.iconst 0, 1) := by decide +kernel
theorem dX7_takeFrom_85 : decode cX7_takeFrom 85 = .ok (.bipush 8, 2) := by decide +kernel
theorem dX7_takeFrom_87 : decode cX7_takeFrom 87 = .ok (.invokestatic 43, 3) := by decide +kernel
theorem dX7_takeFrom_90 : decode cX7_takeFrom 90 = .ok (.aload_n 0, 1) := by decide +kernel
theorem dX7_takeFrom_91 : decode cX7_takeFrom 91 = .ok (.aload_n 1, 1) := by decide +kernel
theorem dX7_takeFrom_92 : decode cX7_takeFrom 92 = .ok (.getfield 30, 3) := by decide +kernel
theorem dX7_takeFrom_95 : decode cX7_takeFrom 95 = .ok (.putfield 30, 3) := by decide +kernel
theorem dX7_takeFrom_98 : decode cX7_takeFrom 98 = .ok (.aload_n 0, 1) := by decide +kernel
theorem dX7_takeFrom_99 : decode cX7_takeFrom 99 = .ok (.aload_n 1, 1) := by decide +kernel
theorem dX7_takeFrom_100 : decode cX7_takeFrom 100 = .ok (.getfield 34, 3) := by decide +kernel
theorem dX7_takeFrom_103 : decode cX7_takeFrom 103 = .ok (.putfield 34, 3) := by decide +kernel
theorem dX7_takeFrom_106 : decode cX7_takeFrom 106 = .ok (.aload_n 0, 1) := by decide +kernel
theorem dX7_takeFrom_107 : decode cX7_takeFrom 107 = .ok (.aload_n 1, 1) := by decide +kernel
theorem dX7_takeFrom_108 : decode cX7_takeFrom 108 = .ok (.getfield 37, 3) := by decide +kernel
theorem dX7_takeFrom_111 : decode cX7_takeFrom 111 = .ok (.putfield 37, 3) := by decide +kernel
theorem dX7_takeFrom_114 : decode cX7_takeFrom 114 = .ok (.aload_n 0, 1) := by decide +kernel
theorem dX7_takeFrom_115 : decode cX7_takeFrom 115 = .ok (.aload_n 1, 1) := by decide +kernel
theorem dX7_takeFrom_116 : decode cX7_takeFrom 116 = .ok (.getfield 40, 3) := by decide +kernel
theorem dX7_takeFrom_119 : decode cX7_takeFrom 119 = .ok (.putfield 40, 3) := by decide +kernel
theorem dX7_takeFrom_122 : decode cX7_takeFrom 122 = .ok (.return_, 1) := by decide +kernel
theorem dX7_addPicture_0 : decode cX7_addPicture 0 = .ok (.aload_n 0, 1) := by decide +kernel
theorem dX7_addPicture_1 : decode cX7_addPicture 1 = .ok (.getfield 30, 3) := by decide +kernel
theorem dX7_addPicture_4 : decode cX7_addPicture 4 = .ok (.ifCond .lt 12, 3) := by decide +kernel
theorem dX7_addPicture_7 : decode cX7_addPicture 7 = .ok (.aload_n 0, 1) := by decide +kernel
theorem dX7_addPicture_8 : decode cX7_addPicture 8 = .ok (.getfield 30, 3) := by decide +kernel
theorem dX7_addPicture_11 : decode cX7_addPicture 11 = .ok (.bipush 8, 2) := by decide +kernel
theorem dX7_addPicture_13 : decode cX7_addPicture 13 = .ok (.if_icmp .lt 4, 3) := by decide +kernel
theorem dX7_addPicture_16 : decode cX7_addPicture 16 = .ok (.return_, 1) := by decide +kernel
theorem dX7_addPicture_17 : decode cX7_addPicture 17 = .ok (.aload_n 0, 1) := by decide +kernel
theorem dX7_addPicture_18 : decode cX7_addPicture 18 = .ok (.getfield 9, 3) := by decide +kernel
theorem dX7_addPicture_21 : decode cX7_addPicture 21 = .ok (.aload_n 0, 1) := by decide +kernel
theorem dX7_addPicture_22 : decode cX7_addPicture 22 = .ok (.getfield 30, 3) := by decide +kernel
theorem dX7_addPicture_25 : decode cX7_addPicture 25 = .ok (.iload_n 1, 1) := by decide +kernel
theorem dX7_addPicture_26 : decode cX7_addPicture 26 = .ok (.iastore, 1) := by decide +kernel
theorem dX7_addPicture_27 : decode cX7_addPicture 27 = .ok (.aload_n 0, 1) := by decide +kernel
theorem dX7_addPicture_28 : decode cX7_addPicture 28 = .ok (.getfield 15, 3) := by decide +kernel
theorem dX7_addPicture_31 : decode cX7_addPicture 31 = .ok (.aload_n 0, 1) := by decide +kernel
theorem dX7_addPicture_32 : decode cX7_addPicture 32 = .ok (.getfield 30, 3) := by decide +kernel
theorem dX7_addPicture_35 : decode cX7_addPicture 35 = .ok (.iload_n 2, 1) := by decide +kernel
theorem dX7_addPicture_36 : decode cX7_addPicture 36 = .ok (.iastore, 1) := by decide +kernel
theorem dX7_addPicture_37 : decode cX7_addPicture 37 = .ok (.aload_n 0, 1) := by decide +kernel
theorem dX7_addPicture_38 : decode cX7_addPicture 38 = .ok (.getfield 18, 3) := by decide +kernel
theorem dX7_addPicture_41 : decode cX7_addPicture 41 = .ok (.aload_n 0, 1) := by decide +kernel
theorem dX7_addPicture_42 : decode cX7_addPicture 42 = .ok (.getfield 30, 3) := by decide +kernel
theorem dX7_addPicture_45 : decode cX7_addPicture 45 = .ok (.iload_n 3, 1) := by decide +kernel
theorem dX7_addPicture_46 : decode cX7_addPicture 46 = .ok (.iastore, 1) := by decide +kernel
theorem dX7_addPicture_47 : decode cX7_addPicture 47 = .ok (.aload_n 0, 1) := by decide +kernel
theorem dX7_addPicture_48 : decode cX7_addPicture 48 = .ok (.getfield 21, 3) := by decide +kernel
theorem dX7_addPicture_51 : decode cX7_addPicture 51 = .ok (.aload_n 0, 1) := by decide +kernel
theorem dX7_addPicture_52 : decode cX7_addPicture 52 = .ok (.getfield 30, 3) := by decide +kernel
theorem dX7_addPicture_55 : decode cX7_addPicture 55 = .ok (.iconst 0, 1) := by decide +kernel
theorem dX7_addPicture_56 : decode cX7_addPicture 56 = .ok (.iastore, 1) := by decide +kernel
theorem dX7_addPicture_57 : decode cX7_addPicture 57 = .ok (.aload_n 0, 1) := by decide +kernel
theorem dX7_addPicture_58 : decode cX7_addPicture 58 = .ok (.getfield 24, 3) := by decide +kernel
theorem dX7_addPicture_61 : decode cX7_addPicture 61 = .ok (.aload_n 0, 1) := by decide +kernel
theorem dX7_addPicture_62 : decode cX7_addPicture 62 = .ok (.getfield 30, 3) := by decide +kernel
theorem dX7_addPicture_65 : decode cX7_addPicture 65 = .ok (.iconst 0, 1) := by decide +kernel
theorem dX7_addPicture_66 : decode cX7_addPicture 66 = .ok (.iastore, 1) := by decide +kernel
theorem dX7_addPicture_67 : decode cX7_addPicture 67 = .ok (.aload_n 0, 1) := by decide +kernel
theorem dX7_addPicture_68 : decode cX7_addPicture 68 = .ok (.dup, 1) := by decide +kernel
theorem dX7_addPicture_69 : decode cX7_addPicture 69 = .ok (.getfield 30, 3) := by decide +kernel
theorem dX7_addPicture_72 : decode cX7_addPicture 72 = .ok (.iconst 1, 1) := by decide +kernel
theorem dX7_addPicture_73 : decode cX7_addPicture 73 = .ok (.iadd, 1) := by decide +kernel
theorem dX7_addPicture_74 : decode cX7_addPicture 74 = .ok (.putfield 30, 3) := by decide +kernel
theorem dX7_addPicture_77 : decode cX7_addPicture 77 = .ok (.return_, 1) := by decide +kernel
theorem dX7_beBare_0 : decode cX7_beBare 0 = .ok (.aload_n 0, 1) := by decide +kernel
theorem dX7_beBare_1 : decode cX7_beBare 1 = .ok (.invokevirtual 49, 3) := by decide +kernel
theorem dX7_beBare_4 : decode cX7_beBare 4 = .ok (.iconst 0, 1) := by decide +kernel
theorem dX7_beBare_5 : decode cX7_beBare 5 = .ok (.istore_n 2, 1) := by decide +kernel
theorem dX7_beBare_6 : decode cX7_beBare 6 = .ok (.iload_n 2, 1) := by decide +kernel
theorem dX7_beBare_7 : decode cX7_beBare 7 = .ok (.iload_n 1, 1) := by decide +kernel
theorem dX7_beBare_8 : decode cX7_beBare 8 = .ok (.if_icmp .ge 16, 3) := by decide +kernel
theorem dX7_beBare_11 : decode cX7_beBare 11 = .ok (.aload_n 0, 1) := by decide +kernel
theorem dX7_beBare_12 : decode cX7_beBare 12 = .ok (.iconst 1, 1) := by decide +kernel
theorem dX7_beBare_13 : decode cX7_beBare 13 = .ok (.iconst 0, 1) := by decide +kernel
theorem dX7_beBare_14 : decode cX7_beBare 14 = .ok (.iconst 1, 1) := by decide +kernel
theorem dX7_beBare_15 : decode cX7_beBare 15 = .ok (.invokevirtual 54, 3) := by decide +kernel
theorem dX7_beBare_18 : decode cX7_beBare 18 = .ok (.iinc 2 1, 3) := by decide +kernel
theorem dX7_beBare_21 : decode cX7_beBare 21 = .ok (.goto (-15), 3) := by decide +kernel
theorem dX7_beBare_24 : decode cX7_beBare 24 = .ok (.aload_n 0, 1) := by decide +kernel
theorem dX7_beBare_25 : decode cX7_beBare 25 = .ok (.invokevirtual 58, 3) := by decide +kernel
theorem dX7_beBare_28 : decode cX7_beBare 28 = .ok (.return_, 1) := by decide +kernel
theorem dX7_layRing_0 : decode cX7_layRing 0 = .ok (.iconst 0, 1) := by decide +kernel
theorem dX7_layRing_1 : decode cX7_layRing 1 = .ok (.istore_n 1, 1) := by decide +kernel
theorem dX7_layRing_2 : decode cX7_layRing 2 = .ok (.iload_n 1, 1) := by decide +kernel
theorem dX7_layRing_3 : decode cX7_layRing 3 = .ok (.bipush 8, 2) := by decide +kernel
theorem dX7_layRing_5 : decode cX7_layRing 5 = .ok (.if_icmp .ge 16, 3) := by decide +kernel
theorem dX7_layRing_8 : decode cX7_layRing 8 = .ok (.aload_n 0, 1) := by decide +kernel
theorem dX7_layRing_9 : decode cX7_layRing 9 = .ok (.getfield 27, 3) := by decide +kernel
theorem dX7_layRing_12 : decode cX7_layRing 12 = .ok (.iload_n 1, 1) := by decide +kernel
theorem dX7_layRing_13 : decode cX7_layRing 13 = .ok (.iconst 0, 1) := by decide +kernel
theorem dX7_layRing_14 : decode cX7_layRing 14 = .ok (.iastore, 1) := by decide +kernel
theorem dX7_layRing_15 : decode cX7_layRing 15 = .ok (.iinc 1 1, 3) := by decide +kernel
theorem dX7_layRing_18 : decode cX7_layRing 18 = .ok (.goto (-16), 3) := by decide +kernel
theorem dX7_layRing_21 : decode cX7_layRing 21 = .ok (.iconst 0, 1) := by decide +kernel
theorem dX7_layRing_22 : decode cX7_layRing 22 = .ok (.istore_n 1, 1) := by decide +kernel
theorem dX7_layRing_23 : decode cX7_layRing 23 = .ok (.iload_n 1, 1) := by decide +kernel
theorem dX7_layRing_24 : decode cX7_layRing 24 = .ok (.aload_n 0, 1) := by decide +kernel
theorem dX7_layRing_25 : decode cX7_layRing 25 = .ok (.getfield 30, 3) := by decide +kernel
theorem dX7_layRing_28 : decode cX7_layRing 28 = .ok (.if_icmp .ge 22, 3) := by decide +kernel
theorem dX7_layRing_31 : decode cX7_layRing 31 = .ok (.aload_n 0, 1) := by decide +kernel
theorem dX7_layRing_32 : decode cX7_layRing 32 = .ok (.iload_n 1, 1) := by decide +kernel
theorem dX7_layRing_33 : decode cX7_layRing 33 = .ok (.iload_n 1, 1) := by decide +kernel
theorem dX7_layRing_34 : decode cX7_layRing 34 = .ok (.iconst 1, 1) := by decide +kernel
theorem dX7_layRing_35 : decode cX7_layRing 35 = .ok (.iadd, 1) := by decide +kernel
theorem dX7_layRing_36 : decode cX7_layRing 36 = .ok (.aload_n 0, 1) := by decide +kernel
theorem dX7_layRing_37 : decode cX7_layRing 37 = .ok (.getfield 30, 3) := by decide +kernel
theorem dX7_layRing_40 : decode cX7_layRing 40 = .ok (.irem, 1) := by decide +kernel
theorem dX7_layRing_41 : decode cX7_layRing 41 = .ok (.invokevirtual 61, 3) := by decide +kernel
theorem dX7_layRing_44 : decode cX7_layRing 44 = .ok (.iinc 1 1, 3) := by decide +kernel
theorem dX7_layRing_47 : decode cX7_layRing 47 = .ok (.goto (-24), 3) := by decide +kernel
theorem dX7_layRing_50 : decode cX7_layRing 50 = .ok (.return_, 1) := by decide +kernel
theorem dX7_isMissing_0 : decode cX7_isMissing 0 = .ok (.aload_n 0, 1) := by decide +kernel
theorem dX7_isMissing_1 : decode cX7_isMissing 1 = .ok (.getfield 30, 3) := by decide +kernel
theorem dX7_isMissing_4 : decode cX7_isMissing 4 = .ok (.ifCond .ne 7, 3) := by decide +kernel
theorem dX7_isMissing_7 : decode cX7_isMissing 7 = .ok (.iconst 1, 1) := by decide +kernel
theorem dX7_isMissing_8 : decode cX7_isMissing 8 = .ok (.goto 4, 3) := by decide +kernel
theorem dX7_isMissing_11 : decode cX7_isMissing 11 = .ok (.iconst 0, 1) := by decide +kernel
theorem dX7_isMissing_12 : decode cX7_isMissing 12 = .ok (.ireturn, 1) := by decide +kernel
theorem dX7_has_0 : decode cX7_has 0 = .ok (.iload_n 1, 1) := by decide +kernel
theorem dX7_has_1 : decode cX7_has 1 = .ok (.ifCond .lt 21, 3) := by decide +kernel
theorem dX7_has_4 : decode cX7_has 4 = .ok (.iload_n 1, 1) := by decide +kernel
theorem dX7_has_5 : decode cX7_has 5 = .ok (.aload_n 0, 1) := by decide +kernel
theorem dX7_has_6 : decode cX7_has 6 = .ok (.getfield 30, 3) := by decide +kernel
theorem dX7_has_9 : decode cX7_has 9 = .ok (.if_icmp .ge 13, 3) := by decide +kernel
theorem dX7_has_12 : decode cX7_has 12 = .ok (.iload_n 1, 1) := by decide +kernel
theorem dX7_has_13 : decode cX7_has 13 = .ok (.bipush 8, 2) := by decide +kernel
theorem dX7_has_15 : decode cX7_has 15 = .ok (.if_icmp .ge 7, 3) := by decide +kernel
theorem dX7_has_18 : decode cX7_has 18 = .ok (.iconst 1, 1) := by decide +kernel
theorem dX7_has_19 : decode cX7_has 19 = .ok (.goto 4, 3) := by decide +kernel
theorem dX7_has_22 : decode cX7_has 22 = .ok (.iconst 0, 1) := by decide +kernel
theorem dX7_has_23 : decode cX7_has 23 = .ok (.ireturn, 1) := by decide +kernel
theorem dX7_areLinked_0 : decode cX7_areLinked 0 = .ok (.aload_n 0, 1) := by decide +kernel
theorem dX7_areLinked_1 : decode cX7_areLinked 1 = .ok (.iload_n 1, 1) := by decide +kernel
theorem dX7_areLinked_2 : decode cX7_areLinked 2 = .ok (.invokevirtual 65, 3) := by decide +kernel
theorem dX7_areLinked_5 : decode cX7_areLinked 5 = .ok (.ifCond .eq 29, 3) := by decide +kernel
theorem dX7_areLinked_8 : decode cX7_areLinked 8 = .ok (.aload_n 0, 1) := by decide +kernel
theorem dX7_areLinked_9 : decode cX7_areLinked 9 = .ok (.iload_n 2, 1) := by decide +kernel
theorem dX7_areLinked_10 : decode cX7_areLinked 10 = .ok (.invokevirtual 65, 3) := by decide +kernel
theorem dX7_areLinked_13 : decode cX7_areLinked 13 = .ok (.ifCond .eq 21, 3) := by decide +kernel
theorem dX7_areLinked_16 : decode cX7_areLinked 16 = .ok (.aload_n 0, 1) := by decide +kernel
theorem dX7_areLinked_17 : decode cX7_areLinked 17 = .ok (.getfield 27, 3) := by decide +kernel
theorem dX7_areLinked_20 : decode cX7_areLinked 20 = .ok (.iload_n 1, 1) := by decide +kernel
theorem dX7_areLinked_21 : decode cX7_areLinked 21 = .ok (.iaload, 1) := by decide +kernel
theorem dX7_areLinked_22 : decode cX7_areLinked 22 = .ok (.iload_n 2, 1) := by decide +kernel
theorem dX7_areLinked_23 : decode cX7_areLinked 23 = .ok (.ishr, 1) := by decide +kernel
theorem dX7_areLinked_24 : decode cX7_areLinked 24 = .ok (.iconst 1, 1) := by decide +kernel
theorem dX7_areLinked_25 : decode cX7_areLinked 25 = .ok (.iand, 1) := by decide +kernel
theorem dX7_areLinked_26 : decode cX7_areLinked 26 = .ok (.iconst 1, 1) := by decide +kernel
theorem dX7_areLinked_27 : decode cX7_areLinked 27 = .ok (.if_icmp .ne 7, 3) := by decide +kernel
theorem dX7_areLinked_30 : decode cX7_areLinked 30 = .ok (.iconst 1, 1) := by decide +kernel
theorem dX7_areLinked_31 : decode cX7_areLinked 31 = .ok (.goto 4, 3) := by decide +kernel
theorem dX7_areLinked_34 : decode cX7_areLinked 34 = .ok (.iconst 0, 1) := by decide +kernel
theorem dX7_areLinked_35 : decode cX7_areLinked 35 = .ok (.ireturn, 1) := by decide +kernel
theorem dX7_areNeighbours_0 : decode cX7_areNeighbours 0 = .ok (.iload_n 1, 1) := by decide +kernel
theorem dX7_areNeighbours_1 : decode cX7_areNeighbours 1 = .ok (.iload_n 2, 1) := by decide +kernel
theorem dX7_areNeighbours_2 : decode cX7_areNeighbours 2 = .ok (.isub, 1) := by decide +kernel
theorem dX7_areNeighbours_3 : decode cX7_areNeighbours 3 = .ok (.invokestatic 69, 3) := by decide +kernel
theorem dX7_areNeighbours_6 : decode cX7_areNeighbours 6 = .ok (.istore_n 3, 1) := by decide +kernel
theorem dX7_areNeighbours_7 : decode cX7_areNeighbours 7 = .ok (.iload_n 3, 1) := by decide +kernel
theorem dX7_areNeighbours_8 : decode cX7_areNeighbours 8 = .ok (.iconst 1, 1) := by decide +kernel
theorem dX7_areNeighbours_9 : decode cX7_areNeighbours 9 = .ok (.if_icmp .eq 13, 3) := by decide +kernel
theorem dX7_areNeighbours_12 : decode cX7_areNeighbours 12 = .ok (.iload_n 3, 1) := by decide +kernel
theorem dX7_areNeighbours_13 : decode cX7_areNeighbours 13 = .ok (.aload_n 0, 1) := by decide +kernel
theorem dX7_areNeighbours_14 : decode cX7_areNeighbours 14 = .ok (.getfield 30, 3) := by decide +kernel
theorem dX7_areNeighbours_17 : decode cX7_areNeighbours 17 = .ok (.iconst 1, 1) := by decide +kernel
theorem dX7_areNeighbours_18 : decode cX7_areNeighbours 18 = .ok (.isub, 1) := by decide +kernel
theorem dX7_areNeighbours_19 : decode cX7_areNeighbours 19 = .ok (.if_icmp .ne 7, 3) := by decide +kernel
theorem dX7_areNeighbours_22 : decode cX7_areNeighbours 22 = .ok (.iconst 1, 1) := by decide +kernel
theorem dX7_areNeighbours_23 : decode cX7_areNeighbours 23 = .ok (.goto 4, 3) := by decide +kernel
theorem dX7_areNeighbours_26 : decode cX7_areNeighbours 26 = .ok (.iconst 0, 1) := by decide +kernel
theorem dX7_areNeighbours_27 : decode cX7_areNeighbours 27 = .ok (.ireturn, 1) := by decide +kernel
theorem dX7_isFold_0 : decode cX7_isFold 0 = .ok (.aload_n 0, 1) := by decide +kernel
theorem dX7_isFold_1 : decode cX7_isFold 1 = .ok (.iload_n 1, 1) := by decide +kernel
theorem dX7_isFold_2 : decode cX7_isFold 2 = .ok (.iload_n 2, 1) := by decide +kernel
theorem dX7_isFold_3 : decode cX7_isFold 3 = .ok (.invokevirtual 75, 3) := by decide +kernel
theorem dX7_isFold_6 : decode cX7_isFold 6 = .ok (.ifCond .eq 16, 3) := by decide +kernel
theorem dX7_isFold_9 : decode cX7_isFold 9 = .ok (.aload_n 0, 1) := by decide +kernel
theorem dX7_isFold_10 : decode cX7_isFold 10 = .ok (.iload_n 1, 1) := by decide +kernel
theorem dX7_isFold_11 : decode cX7_isFold 11 = .ok (.iload_n 2, 1) := by decide +kernel
theorem dX7_isFold_12 : decode cX7_isFold 12 = .ok (.invokevirtual 79, 3) := by decide +kernel
theorem dX7_isFold_15 : decode cX7_isFold 15 = .ok (.ifCond .ne 7, 3) := by decide +kernel
theorem dX7_isFold_18 : decode cX7_isFold 18 = .ok (.iconst 1, 1) := by decide +kernel
theorem dX7_isFold_19 : decode cX7_isFold 19 = .ok (.goto 4, 3) := by decide +kernel
theorem dX7_isFold_22 : decode cX7_isFold 22 = .ok (.iconst 0, 1) := by decide +kernel
theorem dX7_isFold_23 : decode cX7_isFold 23 = .ok (.ireturn, 1) := by decide +kernel
theorem dX7_isShowing_0 : decode cX7_isShowing 0 = .ok (.aload_n 0, 1) := by decide +kernel
theorem dX7_isShowing_1 : decode cX7_isShowing 1 = .ok (.getfield 34, 3) := by decide +kernel
theorem dX7_isShowing_4 : decode cX7_isShowing 4 = .ok (.iload_n 1, 1) := by decide +kernel
theorem dX7_isShowing_5 : decode cX7_isShowing 5 = .ok (.if_icmp .ne 11, 3) := by decide +kernel
theorem dX7_isShowing_8 : decode cX7_isShowing 8 = .ok (.aload_n 0, 1) := by decide +kernel
theorem dX7_isShowing_9 : decode cX7_isShowing 9 = .ok (.getfield 37, 3) := by decide +kernel
theorem dX7_isShowing_12 : decode cX7_isShowing 12 = .ok (.iload_n 2, 1) := by decide +kernel
theorem dX7_isShowing_13 : decode cX7_isShowing 13 = .ok (.if_icmp .eq 19, 3) := by decide +kernel
theorem dX7_isShowing_16 : decode cX7_isShowing 16 = .ok (.aload_n 0, 1) := by decide +kernel
theorem dX7_isShowing_17 : decode cX7_isShowing 17 = .ok (.getfield 34, 3) := by decide +kernel
theorem dX7_isShowing_20 : decode cX7_isShowing 20 = .ok (.iload_n 2, 1) := by decide +kernel
theorem dX7_isShowing_21 : decode cX7_isShowing 21 = .ok (.if_icmp .ne 15, 3) := by decide +kernel
theorem dX7_isShowing_24 : decode cX7_isShowing 24 = .ok (.aload_n 0, 1) := by decide +kernel
theorem dX7_isShowing_25 : decode cX7_isShowing 25 = .ok (.getfield 37, 3) := by decide +kernel
theorem dX7_isShowing_28 : decode cX7_isShowing 28 = .ok (.iload_n 1, 1) := by decide +kernel
theorem dX7_isShowing_29 : decode cX7_isShowing 29 = .ok (.if_icmp .ne 7, 3) := by decide +kernel
theorem dX7_isShowing_32 : decode cX7_isShowing 32 = .ok (.iconst 1, 1) := by decide +kernel
theorem dX7_isShowing_33 : decode cX7_isShowing 33 = .ok (.goto 4, 3) := by decide +kernel
theorem dX7_isShowing_36 : decode cX7_isShowing 36 = .ok (.iconst 0, 1) := by decide +kernel
theorem dX7_isShowing_37 : decode cX7_isShowing 37 = .ok (.ireturn, 1) := by decide +kernel
theorem dX7_canJoin_0 : decode cX7_canJoin 0 = .ok (.aload_n 0, 1) := by decide +kernel
theorem dX7_canJoin_1 : decode cX7_canJoin 1 = .ok (.iload_n 1, 1) := by decide +kernel
theorem dX7_canJoin_2 : decode cX7_canJoin 2 = .ok (.invokevirtual 65, 3) := by decide +kernel
theorem dX7_canJoin_5 : decode cX7_canJoin 5 = .ok (.ifCond .eq 25, 3) := by decide +kernel
theorem dX7_canJoin_8 : decode cX7_canJoin 8 = .ok (.aload_n 0, 1) := by decide +kernel
theorem dX7_canJoin_9 : decode cX7_canJoin 9 = .ok (.iload_n 2, 1) := by decide +kernel
theorem dX7_canJoin_10 : decode cX7_canJoin 10 = .ok (.invokevirtual 65, 3) := by decide +kernel
theorem dX7_canJoin_13 : decode cX7_canJoin 13 = .ok (.ifCond .eq 17, 3) := by decide +kernel
theorem dX7_canJoin_16 : decode cX7_canJoin 16 = .ok (.iload_n 1, 1) := by decide +kernel
theorem dX7_canJoin_17 : decode cX7_canJoin 17 = .ok (.iload_n 2, 1) := by decide +kernel
theorem dX7_canJoin_18 : decode cX7_canJoin 18 = .ok (.if_icmp .eq 12, 3) := by decide +kernel
theorem dX7_canJoin_21 : decode cX7_canJoin 21 = .ok (.aload_n 0, 1) := by decide +kernel
theorem dX7_canJoin_22 : decode cX7_canJoin 22 = .ok (.iload_n 1, 1) := by decide +kernel
theorem dX7_canJoin_23 : decode cX7_canJoin 23 = .ok (.iload_n 2, 1) := by decide +kernel
theorem dX7_canJoin_24 : decode cX7_canJoin 24 = .ok (.invokevirtual 75, 3) := by decide +kernel
theorem dX7_canJoin_27 : decode cX7_canJoin 27 = .ok (.ifCond .eq 5, 3) := by decide +kernel
theorem dX7_canJoin_30 : decode cX7_canJoin 30 = .ok (.iconst 0, 1) := by decide +kernel
theorem dX7_canJoin_31 : decode cX7_canJoin 31 = .ok (.ireturn, 1) := by decide +kernel
theorem dX7_canJoin_32 : decode cX7_canJoin 32 = .ok (.iload_n 1, 1) := by decide +kernel
theorem dX7_canJoin_33 : decode cX7_canJoin 33 = .ok (.iload_n 2, 1) := by decide +kernel
theorem dX7_canJoin_34 : decode cX7_canJoin 34 = .ok (.invokestatic 82, 3) := by decide +kernel
theorem dX7_canJoin_37 : decode cX7_canJoin 37 = .ok (.istore_n 3, 1) := by decide +kernel
theorem dX7_canJoin_38 : decode cX7_canJoin 38 = .ok (.iload_n 1, 1) := by decide +kernel
theorem dX7_canJoin_39 : decode cX7_canJoin 39 = .ok (.iload_n 2, 1) := by decide +kernel
theorem dX7_canJoin_40 : decode cX7_canJoin 40 = .ok (.invokestatic 86, 3) := by decide +kernel
theorem dX7_canJoin_43 : decode cX7_canJoin 43 = .ok (.istore 4, 2) := by decide +kernel
theorem dX7_canJoin_45 : decode cX7_canJoin 45 = .ok (.iload_n 3, 1) := by decide +kernel
theorem dX7_canJoin_46 : decode cX7_canJoin 46 = .ok (.iconst 1, 1) := by decide +kernel
theorem dX7_canJoin_47 : decode cX7_canJoin 47 = .ok (.iadd, 1) := by decide +kernel
theorem dX7_canJoin_48 : decode cX7_canJoin 48 = .ok (.istore 5, 2) := by decide +kernel
theorem dX7_canJoin_50 : decode cX7_canJoin 50 = .ok (.iload 5, 2) := by decide +kernel
theorem dX7_canJoin_52 : decode cX7_canJoin 52 = .ok (.iload 4, 2) := by decide +kernel
theorem dX7_canJoin_54 : decode cX7_canJoin 54 = .ok (.if_icmp .ge 53, 3) := by decide +kernel
theorem dX7_canJoin_57 : decode cX7_canJoin 57 = .ok (.iconst 0, 1) := by decide +kernel
theorem dX7_canJoin_58 : decode cX7_canJoin 58 = .ok (.istore 6, 2) := by decide +kernel
theorem dX7_canJoin_60 : decode cX7_canJoin 60 = .ok (.iload 6, 2) := by decide +kernel
theorem dX7_canJoin_62 : decode cX7_canJoin 62 = .ok (.aload_n 0, 1) := by decide +kernel
theorem dX7_canJoin_63 : decode cX7_canJoin 63 = .ok (.getfield 30, 3) := by decide +kernel
theorem dX7_canJoin_66 : decode cX7_canJoin 66 = .ok (.if_icmp .ge 35, 3) := by decide +kernel
theorem dX7_canJoin_69 : decode cX7_canJoin 69 = .ok (.iload 6, 2) := by decide +kernel
theorem dX7_canJoin_71 : decode cX7_canJoin 71 = .ok (.iload_n 3, 1) := by decide +kernel
theorem dX7_canJoin_72 : decode cX7_canJoin 72 = .ok (.if_icmp .lt 10, 3) := by decide +kernel
theorem dX7_canJoin_75 : decode cX7_canJoin 75 = .ok (.iload 6, 2) := by decide +kernel
theorem dX7_canJoin_77 : decode cX7_canJoin 77 = .ok (.iload 4, 2) := by decide +kernel
theorem dX7_canJoin_79 : decode cX7_canJoin 79 = .ok (.if_icmp .le 16, 3) := by decide +kernel
theorem dX7_canJoin_82 : decode cX7_canJoin 82 = .ok (.aload_n 0, 1) := by decide +kernel
theorem dX7_canJoin_83 : decode cX7_canJoin 83 = .ok (.iload 5, 2) := by decide +kernel
theorem dX7_canJoin_85 : decode cX7_canJoin 85 = .ok (.iload 6, 2) := by decide +kernel
theorem dX7_canJoin_87 : decode cX7_canJoin 87 = .ok (.invokevirtual 75, 3) := by decide +kernel
theorem dX7_canJoin_90 : decode cX7_canJoin 90 = .ok (.ifCond .eq 5, 3) := by decide +kernel
theorem dX7_canJoin_93 : decode cX7_canJoin 93 = .ok (.iconst 0, 1) := by decide +kernel
theorem dX7_canJoin_94 : decode cX7_canJoin 94 = .ok (.ireturn, 1) := by decide +kernel
theorem dX7_canJoin_95 : decode cX7_canJoin 95 = .ok (.iinc 6 1, 3) := by decide +kernel
theorem dX7_canJoin_98 : decode cX7_canJoin 98 = .ok (.goto (-38), 3) := by decide +kernel
theorem dX7_canJoin_101 : decode cX7_canJoin 101 = .ok (.iinc 5 1, 3) := by decide +kernel
theorem dX7_canJoin_104 : decode cX7_canJoin 104 = .ok (.goto (-54), 3) := by decide +kernel
theorem dX7_canJoin_107 : decode cX7_canJoin 107 = .ok (.iconst 1, 1) := by decide +kernel
theorem dX7_canJoin_108 : decode cX7_canJoin 108 = .ok (.ireturn, 1) := by decide +kernel
theorem dX7_join_0 : decode cX7_join 0 = .ok (.aload_n 0, 1) := by decide +kernel
theorem dX7_join_1 : decode cX7_join 1 = .ok (.iload_n 1, 1) := by decide +kernel
theorem dX7_join_2 : decode cX7_join 2 = .ok (.invokevirtual 65, 3) := by decide +kernel
theorem dX7_join_5 : decode cX7_join 5 = .ok (.ifCond .eq 35, 3) := by decide +kernel
theorem dX7_join_8 : decode cX7_join 8 = .ok (.aload_n 0, 1) := by decide +kernel
theorem dX7_join_9 : decode cX7_join 9 = .ok (.iload_n 2, 1) := by decide +kernel
theorem dX7_join_10 : decode cX7_join 10 = .ok (.invokevirtual 65, 3) := by decide +kernel
theorem dX7_join_13 : decode cX7_join 13 = .ok (.ifCond .eq 27, 3) := by decide +kernel
theorem dX7_join_16 : decode cX7_join 16 = .ok (.aload_n 0, 1) := by decide +kernel
theorem dX7_join_17 : decode cX7_join 17 = .ok (.getfield 27, 3) := by decide +kernel
theorem dX7_join_20 : decode cX7_join 20 = .ok (.iload_n 1, 1) := by decide +kernel
theorem dX7_join_21 : decode cX7_join 21 = .ok (.dup2, 1) := by decide +kernel
theorem dX7_join_22 : decode cX7_join 22 = .ok (.iaload, 1) := by decide +kernel
theorem dX7_join_23 : decode cX7_join 23 = .ok (.iconst 1, 1) := by decide +kernel
theorem dX7_join_24 : decode cX7_join 24 = .ok (.iload_n 2, 1) := by decide +kernel
theorem dX7_join_25 : decode cX7_join 25 = .ok (.ishl, 1) := by decide +kernel
theorem dX7_join_26 : decode cX7_join 26 = .ok (.ior, 1) := by decide +kernel
theorem dX7_join_27 : decode cX7_join 27 = .ok (.iastore, 1) := by decide +kernel
theorem dX7_join_28 : decode cX7_join 28 = .ok (.aload_n 0, 1) := by decide +kernel
theorem dX7_join_29 : decode cX7_join 29 = .ok (.getfield 27, 3) := by decide +kernel
theorem dX7_join_32 : decode cX7_join 32 = .ok (.iload_n 2, 1) := by decide +kernel
theorem dX7_join_33 : decode cX7_join 33 = .ok (.dup2, 1) := by decide +kernel
theorem dX7_join_34 : decode cX7_join 34 = .ok (.iaload, 1) := by decide +kernel
theorem dX7_join_35 : decode cX7_join 35 = .ok (.iconst 1, 1) := by decide +kernel
theorem dX7_join_36 : decode cX7_join 36 = .ok (.iload_n 1, 1) := by decide +kernel
theorem dX7_join_37 : decode cX7_join 37 = .ok (.ishl, 1) := by decide +kernel
theorem dX7_join_38 : decode cX7_join 38 = .ok (.ior, 1) := by decide +kernel
theorem dX7_join_39 : decode cX7_join 39 = .ok (.iastore, 1) := by decide +kernel
theorem dX7_join_40 : decode cX7_join 40 = .ok (.return_, 1) := by decide +kernel
theorem dX7_part_0 : decode cX7_part 0 = .ok (.aload_n 0, 1) := by decide +kernel
theorem dX7_part_1 : decode cX7_part 1 = .ok (.iload_n 1, 1) := by decide +kernel
theorem dX7_part_2 : decode cX7_part 2 = .ok (.invokevirtual 65, 3) := by decide +kernel
theorem dX7_part_5 : decode cX7_part 5 = .ok (.ifCond .eq 39, 3) := by decide +kernel
theorem dX7_part_8 : decode cX7_part 8 = .ok (.aload_n 0, 1) := by decide +kernel
theorem dX7_part_9 : decode cX7_part 9 = .ok (.iload_n 2, 1) := by decide +kernel
theorem dX7_part_10 : decode cX7_part 10 = .ok (.invokevirtual 65, 3) := by decide +kernel
theorem dX7_part_13 : decode cX7_part 13 = .ok (.ifCond .eq 31, 3) := by decide +kernel
theorem dX7_part_16 : decode cX7_part 16 = .ok (.aload_n 0, 1) := by decide +kernel
theorem dX7_part_17 : decode cX7_part 17 = .ok (.getfield 27, 3) := by decide +kernel
theorem dX7_part_20 : decode cX7_part 20 = .ok (.iload_n 1, 1) := by decide +kernel
theorem dX7_part_21 : decode cX7_part 21 = .ok (.dup2, 1) := by decide +kernel
theorem dX7_part_22 : decode cX7_part 22 = .ok (.iaload, 1) := by decide +kernel
theorem dX7_part_23 : decode cX7_part 23 = .ok (.iconst 1, 1) := by decide +kernel
theorem dX7_part_24 : decode cX7_part 24 = .ok (.iload_n 2, 1) := by decide +kernel
theorem dX7_part_25 : decode cX7_part 25 = .ok (.ishl, 1) := by decide +kernel
theorem dX7_part_26 : decode cX7_part 26 = .ok (.iconst (-1), 1) := by decide +kernel
theorem dX7_part_27 : decode cX7_part 27 = .ok (.ixor, 1) := by decide +kernel
theorem dX7_part_28 : decode cX7_part 28 = .ok (.iand, 1) := by decide +kernel
theorem dX7_part_29 : decode cX7_part 29 = .ok (.iastore, 1) := by decide +kernel
theorem dX7_part_30 : decode cX7_part 30 = .ok (.aload_n 0, 1) := by decide +kernel
theorem dX7_part_31 : decode cX7_part 31 = .ok (.getfield 27, 3) := by decide +kernel
theorem dX7_part_34 : decode cX7_part 34 = .ok (.iload_n 2, 1) := by decide +kernel
theorem dX7_part_35 : decode cX7_part 35 = .ok (.dup2, 1) := by decide +kernel
theorem dX7_part_36 : decode cX7_part 36 = .ok (.iaload, 1) := by decide +kernel
theorem dX7_part_37 : decode cX7_part 37 = .ok (.iconst 1, 1) := by decide +kernel
theorem dX7_part_38 : decode cX7_part 38 = .ok (.iload_n 1, 1) := by decide +kernel
theorem dX7_part_39 : decode cX7_part 39 = .ok (.ishl, 1) := by decide +kernel
theorem dX7_part_40 : decode cX7_part 40 = .ok (.iconst (-1), 1) := by decide +kernel
theorem dX7_part_41 : decode cX7_part 41 = .ok (.ixor, 1) := by decide +kernel
theorem dX7_part_42 : decode cX7_part 42 = .ok (.iand, 1) := by decide +kernel
theorem dX7_part_43 : decode cX7_part 43 = .ok (.iastore, 1) := by decide +kernel
theorem dX7_part_44 : decode cX7_part 44 = .ok (.return_, 1) := by decide +kernel
theorem dX7_third_0 : decode cX7_third 0 = .ok (.aload_n 0, 1) := by decide +kernel
theorem dX7_third_1 : decode cX7_third 1 = .ok (.iload_n 1, 1) := by decide +kernel
theorem dX7_third_2 : decode cX7_third 2 = .ok (.invokevirtual 65, 3) := by decide +kernel
theorem dX7_third_5 : decode cX7_third 5 = .ok (.ifCond .eq 11, 3) := by decide +kernel
theorem dX7_third_8 : decode cX7_third 8 = .ok (.aload_n 0, 1) := by decide +kernel
theorem dX7_third_9 : decode cX7_third 9 = .ok (.iload_n 2, 1) := by decide +kernel
theorem dX7_third_10 : decode cX7_third 10 = .ok (.invokevirtual 65, 3) := by decide +kernel
theorem dX7_third_13 : decode cX7_third 13 = .ok (.ifCond .ne 6, 3) := by decide +kernel
theorem dX7_third_16 : decode cX7_third 16 = .ok (.bipush (-4), 2) := by decide +kernel
theorem dX7_third_18 : decode cX7_third 18 = .ok (.ireturn, 1) := by decide +kernel
theorem dX7_third_19 : decode cX7_third 19 = .ok (.aload_n 0, 1) := by decide +kernel
theorem dX7_third_20 : decode cX7_third 20 = .ok (.getfield 27, 3) := by decide +kernel
theorem dX7_third_23 : decode cX7_third 23 = .ok (.iload_n 1, 1) := by decide +kernel
theorem dX7_third_24 : decode cX7_third 24 = .ok (.iaload, 1) := by decide +kernel
theorem dX7_third_25 : decode cX7_third 25 = .ok (.aload_n 0, 1) := by decide +kernel
theorem dX7_third_26 : decode cX7_third 26 = .ok (.getfield 27, 3) := by decide +kernel
theorem dX7_third_29 : decode cX7_third 29 = .ok (.iload_n 2, 1) := by decide +kernel
theorem dX7_third_30 : decode cX7_third 30 = .ok (.iaload, 1) := by decide +kernel
theorem dX7_third_31 : decode cX7_third 31 = .ok (.iand, 1) := by decide +kernel
theorem dX7_third_32 : decode cX7_third 32 = .ok (.istore 4, 2) := by decide +kernel
theorem dX7_third_34 : decode cX7_third 34 = .ok (.iload_n 3, 1) := by decide +kernel
theorem dX7_third_35 : decode cX7_third 35 = .ok (.ifCond .ne 7, 3) := by decide +kernel
theorem dX7_third_38 : decode cX7_third 38 = .ok (.iload_n 1, 1) := by decide +kernel
theorem dX7_third_39 : decode cX7_third 39 = .ok (.goto 4, 3) := by decide +kernel
theorem dX7_third_42 : decode cX7_third 42 = .ok (.iload_n 2, 1) := by decide +kernel
theorem dX7_third_43 : decode cX7_third 43 = .ok (.istore 5, 2) := by decide +kernel
theorem dX7_third_45 : decode cX7_third 45 = .ok (.iload_n 3, 1) := by decide +kernel
theorem dX7_third_46 : decode cX7_third 46 = .ok (.ifCond .ne 7, 3) := by decide +kernel
theorem dX7_third_49 : decode cX7_third 49 = .ok (.iload_n 2, 1) := by decide +kernel
theorem dX7_third_50 : decode cX7_third 50 = .ok (.goto 4, 3) := by decide +kernel
theorem dX7_third_53 : decode cX7_third 53 = .ok (.iload_n 1, 1) := by decide +kernel
theorem dX7_third_54 : decode cX7_third 54 = .ok (.istore 6, 2) := by decide +kernel
theorem dX7_third_56 : decode cX7_third 56 = .ok (.iconst 1, 1) := by decide +kernel
theorem dX7_third_57 : decode cX7_third 57 = .ok (.istore 7, 2) := by decide +kernel
theorem dX7_third_59 : decode cX7_third 59 = .ok (.iload 7, 2) := by decide +kernel
theorem dX7_third_61 : decode cX7_third 61 = .ok (.aload_n 0, 1) := by decide +kernel
theorem dX7_third_62 : decode cX7_third 62 = .ok (.getfield 30, 3) := by decide +kernel
theorem dX7_third_65 : decode cX7_third 65 = .ok (.if_icmp .ge 45, 3) := by decide +kernel
theorem dX7_third_68 : decode cX7_third 68 = .ok (.iload 5, 2) := by decide +kernel
theorem dX7_third_70 : decode cX7_third 70 = .ok (.iload 7, 2) := by decide +kernel
theorem dX7_third_72 : decode cX7_third 72 = .ok (.iadd, 1) := by decide +kernel
theorem dX7_third_73 : decode cX7_third 73 = .ok (.aload_n 0, 1) := by decide +kernel
theorem dX7_third_74 : decode cX7_third 74 = .ok (.getfield 30, 3) := by decide +kernel
theorem dX7_third_77 : decode cX7_third 77 = .ok (.irem, 1) := by decide +kernel
theorem dX7_third_78 : decode cX7_third 78 = .ok (.istore 8, 2) := by decide +kernel
theorem dX7_third_80 : decode cX7_third 80 = .ok (.iload 8, 2) := by decide +kernel
theorem dX7_third_82 : decode cX7_third 82 = .ok (.iload 6, 2) := by decide +kernel
theorem dX7_third_84 : decode cX7_third 84 = .ok (.if_icmp .ne 6, 3) := by decide +kernel
theorem dX7_third_87 : decode cX7_third 87 = .ok (.bipush (-4), 2) := by decide +kernel
theorem dX7_third_89 : decode cX7_third 89 = .ok (.ireturn, 1) := by decide +kernel
theorem dX7_third_90 : decode cX7_third 90 = .ok (.iload 4, 2) := by decide +kernel
theorem dX7_third_92 : decode cX7_third 92 = .ok (.iload 8, 2) := by decide +kernel
theorem dX7_third_94 : decode cX7_third 94 = .ok (.ishr, 1) := by decide +kernel
theorem dX7_third_95 : decode cX7_third 95 = .ok (.iconst 1, 1) := by decide +kernel
theorem dX7_third_96 : decode cX7_third 96 = .ok (.iand, 1) := by decide +kernel
theorem dX7_third_97 : decode cX7_third 97 = .ok (.iconst 1, 1) := by decide +kernel
theorem dX7_third_98 : decode cX7_third 98 = .ok (.if_icmp .ne 6, 3) := by decide +kernel
theorem dX7_third_101 : decode cX7_third 101 = .ok (.iload 8, 2) := by decide +kernel
theorem dX7_third_103 : decode cX7_third 103 = .ok (.ireturn, 1) := by decide +kernel
theorem dX7_third_104 : decode cX7_third 104 = .ok (.iinc 7 1, 3) := by decide +kernel
theorem dX7_third_107 : decode cX7_third 107 = .ok (.goto (-48), 3) := by decide +kernel
theorem dX7_third_110 : decode cX7_third 110 = .ok (.bipush (-4), 2) := by decide +kernel
theorem dX7_third_112 : decode cX7_third 112 = .ok (.ireturn, 1) := by decide +kernel
theorem dX7_isTorn_0 : decode cX7_isTorn 0 = .ok (.aload_n 0, 1) := by decide +kernel
theorem dX7_isTorn_1 : decode cX7_isTorn 1 = .ok (.iload_n 1, 1) := by decide +kernel
theorem dX7_isTorn_2 : decode cX7_isTorn 2 = .ok (.invokevirtual 65, 3) := by decide +kernel
theorem dX7_isTorn_5 : decode cX7_isTorn 5 = .ok (.ifCond .eq 22, 3) := by decide +kernel
theorem dX7_isTorn_8 : decode cX7_isTorn 8 = .ok (.aload_n 0, 1) := by decide +kernel
theorem dX7_isTorn_9 : decode cX7_isTorn 9 = .ok (.getfield 21, 3) := by decide +kernel
theorem dX7_isTorn_12 : decode cX7_isTorn 12 = .ok (.iload_n 1, 1) := by decide +kernel
theorem dX7_isTorn_13 : decode cX7_isTorn 13 = .ok (.iaload, 1) := by decide +kernel
theorem dX7_isTorn_14 : decode cX7_isTorn 14 = .ok (.aload_n 0, 1) := by decide +kernel
theorem dX7_isTorn_15 : decode cX7_isTorn 15 = .ok (.getfield 18, 3) := by decide +kernel
theorem dX7_isTorn_18 : decode cX7_isTorn 18 = .ok (.iload_n 1, 1) := by decide +kernel
theorem dX7_isTorn_19 : decode cX7_isTorn 19 = .ok (.iaload, 1) := by decide +kernel
theorem dX7_isTorn_20 : decode cX7_isTorn 20 = .ok (.if_icmp .lt 7, 3) := by decide +kernel
theorem dX7_isTorn_23 : decode cX7_isTorn 23 = .ok (.iconst 1, 1) := by decide +kernel
theorem dX7_isTorn_24 : decode cX7_isTorn 24 = .ok (.goto 4, 3) := by decide +kernel
theorem dX7_isTorn_27 : decode cX7_isTorn 27 = .ok (.iconst 0, 1) := by decide +kernel
theorem dX7_isTorn_28 : decode cX7_isTorn 28 = .ok (.ireturn, 1) := by decide +kernel
theorem dX7_effortOf_0 : decode cX7_effortOf 0 = .ok (.aload_n 0, 1) := by decide +kernel
theorem dX7_effortOf_1 : decode cX7_effortOf 1 = .ok (.iload_n 1, 1) := by decide +kernel
theorem dX7_effortOf_2 : decode cX7_effortOf 2 = .ok (.invokevirtual 65, 3) := by decide +kernel
theorem dX7_effortOf_5 : decode cX7_effortOf 5 = .ok (.ifCond .eq 21, 3) := by decide +kernel
theorem dX7_effortOf_8 : decode cX7_effortOf 8 = .ok (.aload_n 0, 1) := by decide +kernel
theorem dX7_effortOf_9 : decode cX7_effortOf 9 = .ok (.getfield 9, 3) := by decide +kernel
theorem dX7_effortOf_12 : decode cX7_effortOf 12 = .ok (.iload_n 1, 1) := by decide +kernel
theorem dX7_effortOf_13 : decode cX7_effortOf 13 = .ok (.iaload, 1) := by decide +kernel
theorem dX7_effortOf_14 : decode cX7_effortOf 14 = .ok (.aload_n 0, 1) := by decide +kernel
theorem dX7_effortOf_15 : decode cX7_effortOf 15 = .ok (.getfield 24, 3) := by decide +kernel
theorem dX7_effortOf_18 : decode cX7_effortOf 18 = .ok (.iload_n 1, 1) := by decide +kernel
theorem dX7_effortOf_19 : decode cX7_effortOf 19 = .ok (.iaload, 1) := by decide +kernel
theorem dX7_effortOf_20 : decode cX7_effortOf 20 = .ok (.invokestatic 89, 3) := by decide +kernel
theorem dX7_effortOf_23 : decode cX7_effortOf 23 = .ok (.goto 4, 3) := by decide +kernel
theorem dX7_effortOf_26 : decode cX7_effortOf 26 = .ok (.iconst 0, 1) := by decide +kernel
theorem dX7_effortOf_27 : decode cX7_effortOf 27 = .ok (.ireturn, 1) := by decide +kernel
theorem dX7_comesBy_0 : decode cX7_comesBy 0 = .ok (.iload_n 1, 1) := by decide +kernel
theorem dX7_comesBy_1 : decode cX7_comesBy 1 = .ok (.iconst 2, 1) := by decide +kernel
theorem dX7_comesBy_2 : decode cX7_comesBy 2 = .ok (.if_icmp .ne 8, 3) := by decide +kernel
theorem dX7_comesBy_5 : decode cX7_comesBy 5 = .ok (.aload_n 0, 1) := by decide +kernel
theorem dX7_comesBy_6 : decode cX7_comesBy 6 = .ok (.getfield 37, 3) := by decide +kernel
theorem dX7_comesBy_9 : decode cX7_comesBy 9 = .ok (.ireturn, 1) := by decide +kernel
theorem dX7_comesBy_10 : decode cX7_comesBy 10 = .ok (.aload_n 0, 1) := by decide +kernel
theorem dX7_comesBy_11 : decode cX7_comesBy 11 = .ok (.aload_n 0, 1) := by decide +kernel
theorem dX7_comesBy_12 : decode cX7_comesBy 12 = .ok (.getfield 34, 3) := by decide +kernel
theorem dX7_comesBy_15 : decode cX7_comesBy 15 = .ok (.aload_n 0, 1) := by decide +kernel
theorem dX7_comesBy_16 : decode cX7_comesBy 16 = .ok (.getfield 37, 3) := by decide +kernel
theorem dX7_comesBy_19 : decode cX7_comesBy 19 = .ok (.iload_n 1, 1) := by decide +kernel
theorem dX7_comesBy_20 : decode cX7_comesBy 20 = .ok (.invokevirtual 91, 3) := by decide +kernel
theorem dX7_comesBy_23 : decode cX7_comesBy 23 = .ok (.istore_n 2, 1) := by decide +kernel
theorem dX7_comesBy_24 : decode cX7_comesBy 24 = .ok (.aload_n 0, 1) := by decide +kernel
theorem dX7_comesBy_25 : decode cX7_comesBy 25 = .ok (.iload_n 2, 1) := by decide +kernel
theorem dX7_comesBy_26 : decode cX7_comesBy 26 = .ok (.invokevirtual 95, 3) := by decide +kernel
theorem dX7_comesBy_29 : decode cX7_comesBy 29 = .ok (.ifCond .eq 8, 3) := by decide +kernel
theorem dX7_comesBy_32 : decode cX7_comesBy 32 = .ok (.bipush (-4), 2) := by decide +kernel
theorem dX7_comesBy_34 : decode cX7_comesBy 34 = .ok (.goto 4, 3) := by decide +kernel
theorem dX7_comesBy_37 : decode cX7_comesBy 37 = .ok (.iload_n 2, 1) := by decide +kernel
theorem dX7_comesBy_38 : decode cX7_comesBy 38 = .ok (.ireturn, 1) := by decide +kernel
theorem dX7_mayDo_0 : decode cX7_mayDo 0 = .ok (.aload_n 0, 1) := by decide +kernel
theorem dX7_mayDo_1 : decode cX7_mayDo 1 = .ok (.iload_n 1, 1) := by decide +kernel
theorem dX7_mayDo_2 : decode cX7_mayDo 2 = .ok (.invokevirtual 98, 3) := by decide +kernel
theorem dX7_mayDo_5 : decode cX7_mayDo 5 = .ok (.ifCond .lt 7, 3) := by decide +kernel
theorem dX7_mayDo_8 : decode cX7_mayDo 8 = .ok (.iconst 1, 1) := by decide +kernel
theorem dX7_mayDo_9 : decode cX7_mayDo 9 = .ok (.goto 4, 3) := by decide +kernel
theorem dX7_mayDo_12 : decode cX7_mayDo 12 = .ok (.iconst 0, 1) := by decide +kernel
theorem dX7_mayDo_13 : decode cX7_mayDo 13 = .ok (.ireturn, 1) := by decide +kernel
theorem dX7_go_0 : decode cX7_go 0 = .ok (.aload_n 0, 1) := by decide +kernel
theorem dX7_go_1 : decode cX7_go 1 = .ok (.iload_n 1, 1) := by decide +kernel
theorem dX7_go_2 : decode cX7_go 2 = .ok (.invokevirtual 98, 3) := by decide +kernel
theorem dX7_go_5 : decode cX7_go 5 = .ok (.istore_n 2, 1) := by decide +kernel
theorem dX7_go_6 : decode cX7_go 6 = .ok (.aload_n 0, 1) := by decide +kernel
theorem dX7_go_7 : decode cX7_go 7 = .ok (.iload_n 2, 1) := by decide +kernel
theorem dX7_go_8 : decode cX7_go 8 = .ok (.invokevirtual 65, 3) := by decide +kernel
theorem dX7_go_11 : decode cX7_go 11 = .ok (.ifCond .ne 4, 3) := by decide +kernel
theorem dX7_go_14 : decode cX7_go 14 = .ok (.return_, 1) := by decide +kernel
theorem dX7_go_15 : decode cX7_go 15 = .ok (.iload_n 1, 1) := by decide +kernel
theorem dX7_go_16 : decode cX7_go 16 = .ok (.iconst 2, 1) := by decide +kernel
theorem dX7_go_17 : decode cX7_go 17 = .ok (.if_icmp .ne 16, 3) := by decide +kernel
theorem dX7_go_20 : decode cX7_go 20 = .ok (.aload_n 0, 1) := by decide +kernel
theorem dX7_go_21 : decode cX7_go 21 = .ok (.dup, 1) := by decide +kernel
theorem dX7_go_22 : decode cX7_go 22 = .ok (.getfield 40, 3) := by decide +kernel
theorem dX7_go_25 : decode cX7_go 25 = .ok (.iconst 1, 1) := by decide +kernel
theorem dX7_go_26 : decode cX7_go 26 = .ok (.iadd, 1) := by decide +kernel
theorem dX7_go_27 : decode cX7_go 27 = .ok (.putfield 40, 3) := by decide +kernel
theorem dX7_go_30 : decode cX7_go 30 = .ok (.goto 54, 3) := by decide +kernel
theorem dX7_go_33 : decode cX7_go 33 = .ok (.aload_n 0, 1) := by decide +kernel
theorem dX7_go_34 : decode cX7_go 34 = .ok (.dup, 1) := by decide +kernel
theorem dX7_go_35 : decode cX7_go 35 = .ok (.getfield 40, 3) := by decide +kernel
theorem dX7_go_38 : decode cX7_go 38 = .ok (.aload_n 0, 1) := by decide +kernel
theorem dX7_go_39 : decode cX7_go 39 = .ok (.iload_n 2, 1) := by decide +kernel
theorem dX7_go_40 : decode cX7_go 40 = .ok (.invokevirtual 101, 3) := by decide +kernel
theorem dX7_go_43 : decode cX7_go 43 = .ok (.iadd, 1) := by decide +kernel
theorem dX7_go_44 : decode cX7_go 44 = .ok (.putfield 40, 3) := by decide +kernel
theorem dX7_go_47 : decode cX7_go 47 = .ok (.aload_n 0, 1) := by decide +kernel
theorem dX7_go_48 : decode cX7_go 48 = .ok (.getfield 21, 3) := by decide +kernel
theorem dX7_go_51 : decode cX7_go 51 = .ok (.iload_n 2, 1) := by decide +kernel
theorem dX7_go_52 : decode cX7_go 52 = .ok (.dup2, 1) := by decide +kernel
theorem dX7_go_53 : decode cX7_go 53 = .ok (.iaload, 1) := by decide +kernel
theorem dX7_go_54 : decode cX7_go 54 = .ok (.aload_n 0, 1) := by decide +kernel
theorem dX7_go_55 : decode cX7_go 55 = .ok (.getfield 9, 3) := by decide +kernel
theorem dX7_go_58 : decode cX7_go 58 = .ok (.iload_n 2, 1) := by decide +kernel
theorem dX7_go_59 : decode cX7_go 59 = .ok (.iaload, 1) := by decide +kernel
theorem dX7_go_60 : decode cX7_go 60 = .ok (.invokestatic 104, 3) := by decide +kernel
theorem dX7_go_63 : decode cX7_go 63 = .ok (.iadd, 1) := by decide +kernel
theorem dX7_go_64 : decode cX7_go 64 = .ok (.iastore, 1) := by decide +kernel
theorem dX7_go_65 : decode cX7_go 65 = .ok (.aload_n 0, 1) := by decide +kernel
theorem dX7_go_66 : decode cX7_go 66 = .ok (.getfield 24, 3) := by decide +kernel
theorem dX7_go_69 : decode cX7_go 69 = .ok (.iload_n 2, 1) := by decide +kernel
theorem dX7_go_70 : decode cX7_go 70 = .ok (.bipush 99, 2) := by decide +kernel
theorem dX7_go_72 : decode cX7_go 72 = .ok (.aload_n 0, 1) := by decide +kernel
theorem dX7_go_73 : decode cX7_go 73 = .ok (.getfield 24, 3) := by decide +kernel
theorem dX7_go_76 : decode cX7_go 76 = .ok (.iload_n 2, 1) := by decide +kernel
theorem dX7_go_77 : decode cX7_go 77 = .ok (.iaload, 1) := by decide +kernel
theorem dX7_go_78 : decode cX7_go 78 = .ok (.iconst 1, 1) := by decide +kernel
theorem dX7_go_79 : decode cX7_go 79 = .ok (.iadd, 1) := by decide +kernel
theorem dX7_go_80 : decode cX7_go 80 = .ok (.invokestatic 82, 3) := by decide +kernel
theorem dX7_go_83 : decode cX7_go 83 = .ok (.iastore, 1) := by decide +kernel
theorem dX7_go_84 : decode cX7_go 84 = .ok (.aload_n 0, 1) := by decide +kernel
theorem dX7_go_85 : decode cX7_go 85 = .ok (.aload_n 0, 1) := by decide +kernel
theorem dX7_go_86 : decode cX7_go 86 = .ok (.getfield 34, 3) := by decide +kernel
theorem dX7_go_89 : decode cX7_go 89 = .ok (.putfield 37, 3) := by decide +kernel
theorem dX7_go_92 : decode cX7_go 92 = .ok (.aload_n 0, 1) := by decide +kernel
theorem dX7_go_93 : decode cX7_go 93 = .ok (.iload_n 2, 1) := by decide +kernel
theorem dX7_go_94 : decode cX7_go 94 = .ok (.putfield 34, 3) := by decide +kernel
theorem dX7_go_97 : decode cX7_go 97 = .ok (.return_, 1) := by decide +kernel
theorem dX7_worthOf_0 : decode cX7_worthOf 0 = .ok (.aload_n 0, 1) := by decide +kernel
theorem dX7_worthOf_1 : decode cX7_worthOf 1 = .ok (.iload_n 1, 1) := by decide +kernel
theorem dX7_worthOf_2 : decode cX7_worthOf 2 = .ok (.invokevirtual 65, 3) := by decide +kernel
theorem dX7_worthOf_5 : decode cX7_worthOf 5 = .ok (.ifCond .eq 12, 3) := by decide +kernel
theorem dX7_worthOf_8 : decode cX7_worthOf 8 = .ok (.aload_n 0, 1) := by decide +kernel
theorem dX7_worthOf_9 : decode cX7_worthOf 9 = .ok (.getfield 15, 3) := by decide +kernel
theorem dX7_worthOf_12 : decode cX7_worthOf 12 = .ok (.iload_n 1, 1) := by decide +kernel
theorem dX7_worthOf_13 : decode cX7_worthOf 13 = .ok (.iaload, 1) := by decide +kernel
theorem dX7_worthOf_14 : decode cX7_worthOf 14 = .ok (.goto 4, 3) := by decide +kernel
theorem dX7_worthOf_17 : decode cX7_worthOf 17 = .ok (.iconst 0, 1) := by decide +kernel
theorem dX7_worthOf_18 : decode cX7_worthOf 18 = .ok (.ireturn, 1) := by decide +kernel
theorem dX7_shownSet_0 : decode cX7_shownSet 0 = .ok (.iconst 0, 1) := by decide +kernel
theorem dX7_shownSet_1 : decode cX7_shownSet 1 = .ok (.istore_n 1, 1) := by decide +kernel
theorem dX7_shownSet_2 : decode cX7_shownSet 2 = .ok (.iconst 0, 1) := by decide +kernel
theorem dX7_shownSet_3 : decode cX7_shownSet 3 = .ok (.istore_n 2, 1) := by decide +kernel
theorem dX7_shownSet_4 : decode cX7_shownSet 4 = .ok (.iload_n 2, 1) := by decide +kernel
theorem dX7_shownSet_5 : decode cX7_shownSet 5 = .ok (.aload_n 0, 1) := by decide +kernel
theorem dX7_shownSet_6 : decode cX7_shownSet 6 = .ok (.getfield 30, 3) := by decide +kernel
theorem dX7_shownSet_9 : decode cX7_shownSet 9 = .ok (.if_icmp .ge 24, 3) := by decide +kernel
theorem dX7_shownSet_12 : decode cX7_shownSet 12 = .ok (.aload_n 0, 1) := by decide +kernel
theorem dX7_shownSet_13 : decode cX7_shownSet 13 = .ok (.getfield 24, 3) := by decide +kernel
theorem dX7_shownSet_16 : decode cX7_shownSet 16 = .ok (.iload_n 2, 1) := by decide +kernel
theorem dX7_shownSet_17 : decode cX7_shownSet 17 = .ok (.iaload, 1) := by decide +kernel
theorem dX7_shownSet_18 : decode cX7_shownSet 18 = .ok (.ifCond .le 9, 3) := by decide +kernel
theorem dX7_shownSet_21 : decode cX7_shownSet 21 = .ok (.iload_n 1, 1) := by decide +kernel
theorem dX7_shownSet_22 : decode cX7_shownSet 22 = .ok (.iconst 1, 1) := by decide +kernel
theorem dX7_shownSet_23 : decode cX7_shownSet 23 = .ok (.iload_n 2, 1) := by decide +kernel
theorem dX7_shownSet_24 : decode cX7_shownSet 24 = .ok (.ishl, 1) := by decide +kernel
theorem dX7_shownSet_25 : decode cX7_shownSet 25 = .ok (.ior, 1) := by decide +kernel
theorem dX7_shownSet_26 : decode cX7_shownSet 26 = .ok (.istore_n 1, 1) := by decide +kernel
theorem dX7_shownSet_27 : decode cX7_shownSet 27 = .ok (.iinc 2 1, 3) := by decide +kernel
theorem dX7_shownSet_30 : decode cX7_shownSet 30 = .ok (.goto (-26), 3) := by decide +kernel
theorem dX7_shownSet_33 : decode cX7_shownSet 33 = .ok (.iload_n 1, 1) := by decide +kernel
theorem dX7_shownSet_34 : decode cX7_shownSet 34 = .ok (.ireturn, 1) := by decide +kernel
theorem dX7_tornSet_0 : decode cX7_tornSet 0 = .ok (.iconst 0, 1) := by decide +kernel
theorem dX7_tornSet_1 : decode cX7_tornSet 1 = .ok (.istore_n 1, 1) := by decide +kernel
theorem dX7_tornSet_2 : decode cX7_tornSet 2 = .ok (.iconst 0, 1) := by decide +kernel
theorem dX7_tornSet_3 : decode cX7_tornSet 3 = .ok (.istore_n 2, 1) := by decide +kernel
theorem dX7_tornSet_4 : decode cX7_tornSet 4 = .ok (.iload_n 2, 1) := by decide +kernel
theorem dX7_tornSet_5 : decode cX7_tornSet 5 = .ok (.aload_n 0, 1) := by decide +kernel
theorem dX7_tornSet_6 : decode cX7_tornSet 6 = .ok (.getfield 30, 3) := by decide +kernel
theorem dX7_tornSet_9 : decode cX7_tornSet 9 = .ok (.if_icmp .ge 23, 3) := by decide +kernel
theorem dX7_tornSet_12 : decode cX7_tornSet 12 = .ok (.aload_n 0, 1) := by decide +kernel
theorem dX7_tornSet_13 : decode cX7_tornSet 13 = .ok (.iload_n 2, 1) := by decide +kernel
theorem dX7_tornSet_14 : decode cX7_tornSet 14 = .ok (.invokevirtual 95, 3) := by decide +kernel
theorem dX7_tornSet_17 : decode cX7_tornSet 17 = .ok (.ifCond .eq 9, 3) := by decide +kernel
theorem dX7_tornSet_20 : decode cX7_tornSet 20 = .ok (.iload_n 1, 1) := by decide +kernel
theorem dX7_tornSet_21 : decode cX7_tornSet 21 = .ok (.iconst 1, 1) := by decide +kernel
theorem dX7_tornSet_22 : decode cX7_tornSet 22 = .ok (.iload_n 2, 1) := by decide +kernel
theorem dX7_tornSet_23 : decode cX7_tornSet 23 = .ok (.ishl, 1) := by decide +kernel
theorem dX7_tornSet_24 : decode cX7_tornSet 24 = .ok (.ior, 1) := by decide +kernel
theorem dX7_tornSet_25 : decode cX7_tornSet 25 = .ok (.istore_n 1, 1) := by decide +kernel
theorem dX7_tornSet_26 : decode cX7_tornSet 26 = .ok (.iinc 2 1, 3) := by decide +kernel
theorem dX7_tornSet_29 : decode cX7_tornSet 29 = .ok (.goto (-25), 3) := by decide +kernel
theorem dX7_tornSet_32 : decode cX7_tornSet 32 = .ok (.iload_n 1, 1) := by decide +kernel
theorem dX7_tornSet_33 : decode cX7_tornSet 33 = .ok (.ireturn, 1) := by decide +kernel
theorem dX7_wearOfAll_0 : decode cX7_wearOfAll 0 = .ok (.iconst 0, 1) := by decide +kernel
theorem dX7_wearOfAll_1 : decode cX7_wearOfAll 1 = .ok (.istore_n 1, 1) := by decide +kernel
theorem dX7_wearOfAll_2 : decode cX7_wearOfAll 2 = .ok (.iconst 0, 1) := by decide +kernel
theorem dX7_wearOfAll_3 : decode cX7_wearOfAll 3 = .ok (.istore_n 2, 1) := by decide +kernel
theorem dX7_wearOfAll_4 : decode cX7_wearOfAll 4 = .ok (.iload_n 2, 1) := by decide +kernel
theorem dX7_wearOfAll_5 : decode cX7_wearOfAll 5 = .ok (.aload_n 0, 1) := by decide +kernel
theorem dX7_wearOfAll_6 : decode cX7_wearOfAll 6 = .ok (.getfield 30, 3) := by decide +kernel
theorem dX7_wearOfAll_9 : decode cX7_wearOfAll 9 = .ok (.if_icmp .ge 18, 3) := by decide +kernel
theorem dX7_wearOfAll_12 : decode cX7_wearOfAll 12 = .ok (.iload_n 1, 1) := by decide +kernel
theorem dX7_wearOfAll_13 : decode cX7_wearOfAll 13 = .ok (.aload_n 0, 1) := by decide +kernel
theorem dX7_wearOfAll_14 : decode cX7_wearOfAll 14 = .ok (.getfield 21, 3) := by decide +kernel
theorem dX7_wearOfAll_17 : decode cX7_wearOfAll 17 = .ok (.iload_n 2, 1) := by decide +kernel
theorem dX7_wearOfAll_18 : decode cX7_wearOfAll 18 = .ok (.iaload, 1) := by decide +kernel
theorem dX7_wearOfAll_19 : decode cX7_wearOfAll 19 = .ok (.iadd, 1) := by decide +kernel
theorem dX7_wearOfAll_20 : decode cX7_wearOfAll 20 = .ok (.istore_n 1, 1) := by decide +kernel
theorem dX7_wearOfAll_21 : decode cX7_wearOfAll 21 = .ok (.iinc 2 1, 3) := by decide +kernel
theorem dX7_wearOfAll_24 : decode cX7_wearOfAll 24 = .ok (.goto (-20), 3) := by decide +kernel
theorem dX7_wearOfAll_27 : decode cX7_wearOfAll 27 = .ok (.iload_n 1, 1) := by decide +kernel
theorem dX7_wearOfAll_28 : decode cX7_wearOfAll 28 = .ok (.ireturn, 1) := by decide +kernel
end
section
/-! my own machine layer: one memory of numbered cells for the whole run, whole numbers instead of words -/
abbrev MV : Type := Int ⊕ Int ⊕ Nat ⊕ Nat ⊕ Unit
abbrev vI (x : Int) : MV := .inl x
abbrev vL (x : Int) : MV := .inr (.inl x)
abbrev vR (k : Nat) : MV := .inr (.inr (.inl k))
abbrev vZ (a : Nat) : MV := .inr (.inr (.inr (.inl a)))
abbrev vN : MV := .inr (.inr (.inr (.inr ())))
def vv (h : Nat) : MV → Value
  | .inl x => .int (Int32.ofInt x)
  | .inr (.inl x) => .long (Int64.ofInt x)
  | .inr (.inr (.inl k)) => .ref (h + k)
  | .inr (.inr (.inr (.inl a))) => .ref a
  | .inr (.inr (.inr (.inr _))) => .null
abbrev Shp : Type := List (Nat × Nat)
abbrev Rfs : Type := Nat → Nat → Option Nat
abbrev Dat : Type := Nat → Int → Int
/-- what the run rests on: the first new cell's address; classes; array classes; the read-only rows: three static ones and the script -/
abbrev Gm : Type := Nat × va_G × (Nat → ClassId) × (Nat → Nat) × (Nat × Nat × (Nat → Int))
abbrev gH (g : Gm) : Nat := g.1
abbrev gD (g : Gm) : va_G := g.2.1
abbrev gC (g : Gm) : Nat → ClassId := g.2.2.1
abbrev gA (g : Gm) : Nat → Nat := g.2.2.2.1
abbrev gX (g : Gm) : Nat × Nat × (Nat → Int) := g.2.2.2.2
abbrev gTy (g : Gm) : List (ClassId × FieldType) := [(gC g 0, .int), (gC g 1, .long), (gC g 2, .boolean), (gC g 3, .object RX7), (gC g 4, .object RX6)]
abbrev gFr (g : Gm) : Nat → Prop := fun q => gH g ≤ q
/-- which fields are references -/
def isR (c k : Nat) : Bool :=
  match c with
  | 0 => decide (k < 7)
  | 1 => true
  | 2 => decide (k < 1)
  | 3 => decide (k < 5)
  | 4 => decide (k < 1)
  | 5 => decide (k < 1)
  | 6 => decide (k < 6)
  | 7 => decide (k < 1)
  | 8 => true
  | _ => !([2, 3, 6, 13, 20].contains k)
def rfv (h : Nat) : Option Nat → Value
  | none => .null
  | some b => .ref (h + b)
def clE (g : Gm) (sh : Nat × Nat) (Fj : Nat → Option Nat) (Dj : Int → Int) : va_E :=
  if sh.1 = 100 then .inl (gC g 0, sh.2, .inl (fun i => Int32.ofInt (Dj i)))
  else if sh.1 = 101 then .inl (gC g 1, sh.2, .inr (.inl (fun i => Int64.ofInt (Dj i))))
  else if sh.1 = 102 then .inl (gC g 2, sh.2, .inl (fun i => Int32.ofInt (Dj i)))
  else if sh.1 = 103 then .inl (gC g 3, sh.2, .inr (.inr (.inr (.inr (fun i => (Fj i).map (gH g + ·))))))
  else if sh.1 = 104 then .inl (gC g 4, sh.2, .inr (.inr (.inr (.inr (fun i => (Fj i).map (gH g + ·))))))
  else .inr (sh.1, (List.range sh.2).map (fun k => if isR sh.1 k then rfv (gH g) (Fj k) else .int (Int32.ofInt (Dj k))))
def wsF (g : Gm) : Shp → Nat → Rfs → Dat → va_W
  | [], _, _, _ => []
  | sh :: S, n, F, D => (gH g + n, clE g sh (F n) (D n)) :: wsF g S (n + 1) F D
def wsO (g : Gm) (S : Shp) (F : Rfs) (D : Dat) : va_W := wsF g S 0 F D
theorem wsF_get (g : Gm) (F : Rfs) (D : Dat) : ∀ (S : Shp) (n k : Nat), (wsF g S n F D)[k]? = (S[k]?).map (fun sh => (gH g + (n + k), clE g sh (F (n + k)) (D (n + k))))
  | [], n, k => by simp [wsF]
  | sh :: S, n, 0 => by simp [wsF]
  | sh :: S, n, k + 1 => by
    rw [wsF, List.getElem?_cons_succ, List.getElem?_cons_succ, wsF_get g F D S (n + 1) k]
    rw [show n + 1 + k = n + (k + 1) by omega]
theorem wsO_get {g : Gm} {S : Shp} {F : Rfs} {D : Dat} {k : Nat} {sh : Nat × Nat} (h : S[k]? = some sh) : (wsO g S F D)[k]? = some (gH g + k, clE g sh (F k) (D k)) := by
  rw [wsO, wsF_get, h]; simp
theorem wsO_inv {g : Gm} {S : Shp} {F : Rfs} {D : Dat} {k : Nat} {q : Nat × va_E} (h : (wsO g S F D)[k]? = some q) : ∃ sh, S[k]? = some sh ∧ q = (gH g + k, clE g sh (F k) (D k)) := by
  rw [wsO, wsF_get] at h
  cases hs : S[k]? with
  | none => rw [hs] at h; cases h
  | some sh => rw [hs] at h; refine ⟨sh, rfl, ?_⟩; simp at h; exact h.symm
theorem wsO_len (g : Gm) (S : Shp) (F : Rfs) (D : Dat) : (wsO g S F D).length = S.length := by
  have : ∀ (S : Shp) (n : Nat), (wsF g S n F D).length = S.length := by
    intro S
    induction S with
    | nil => intro n; rfl
    | cons a S ih => intro n; simp [wsF, ih]
  exact this S 0
theorem wsO_D (g : Gm) (S : Shp) (F : Rfs) (D : Dat) : va_D (gFr g) (wsO g S F D) := by
  refine ⟨fun i j p q hi hj h => ?_, fun k q hk => ?_⟩
  · obtain ⟨s1, -, rfl⟩ := wsO_inv hi
    obtain ⟨s2, -, rfl⟩ := wsO_inv hj
    dsimp at h
    omega
  · obtain ⟨s1, -, rfl⟩ := wsO_inv hk
    show gH g ≤ gH g + k
    omega
/-- one place of the memory changed -/
def upD (D : Dat) (a : Nat) (i v : Int) : Dat := fun b j => if b = a then (if j = i then v else D b j) else D b j
def upF (F : Rfs) (a i : Nat) (v : Option Nat) : Rfs := fun b j => if b = a then (if j = i then v else F b j) else F b j
theorem wsO_ext {g : Gm} {S : Shp} {F F' : Rfs} {D D' : Dat} {k : Nat} {e : va_E} {sh : Nat × Nat} (hs : S[k]? = some sh) (he : e = clE g sh (F' k) (D' k)) (hF : ∀ b, b ≠ k → F' b = F b) (hD : ∀ b, b ≠ k → D' b = D b) : (wsO g S F D).set k (gH g + k, e) = wsO g S F' D' := by
  apply List.ext_getElem?
  intro j
  have hlt : k < S.length := (List.getElem?_eq_some_iff.mp hs).1
  by_cases hj : j = k
  · subst hj
    rw [List.getElem?_set_self (by rw [wsO_len]; exact hlt), wsO_get hs, he]
  · rw [List.getElem?_set_ne (fun h => hj h.symm), wsO, wsF_get, wsO, wsF_get]
    simp only [Nat.zero_add]
    rw [hF j hj, hD j hj]
theorem upD_other {D : Dat} {a b : Nat} {i v : Int} (h : b ≠ a) : upD D a i v b = D b := by
  funext j; simp [upD, h]
theorem upF_other {F : Rfs} {a b i : Nat} {v : Option Nat} (h : b ≠ a) : upF F a i v b = F b := by
  funext j; simp [upF, h]
/-- the locals -/
def lvh (h : Nat) (ls : Array Slot) (nL : Nat) (lo : List MV) : Prop := ls.size = nL ∧ lv_wf ls ∧ ∀ (i : Nat) (v : MV), lo[i]? = some v → v ≠ vN → ls[i]? = some (.val (vv h v))
/-- the words that every method takes -/
def Wd : List Cond := lw_tbl.filter goodWord
def isNw : Cond → Bool
  | .fieldLinkNest .. => true
  | .methodLinkNest .. => true
  | _ => false
def Nst : List Cond := tables_1.filter isNw
def stN (k : Nat) : String := match k with | 0 => "OVER" | 1 => "EFFORT_AT_FIRST" | _ => "WEARS"
def stV (k : Nat) (i : Nat) : Int := match k with
  | 0 => ([-4, 0, 1, 1, 0, 4] : List Int).getD i 0
  | 1 => ([0, 2, 1, 2, 4, 4] : List Int).getD i 0
  | _ => ([0, 1, 1, 2, 0, 0] : List Int).getD i 0
/-- what every method may rest on -/
def Amb (g : Gm) (U : State) : Prop :=
  va_K (gD g) vwCl (gTy g) U ∧ gH g ≤ U.heap.size ∧ (∀ w ∈ Nst, va_Nw w U) ∧
  (∀ k, k < 3 → va_Z RX3 (stN k) "[I" (.ref (gA g k)) (gFr g) U U.heap ∧ va_T .int (gA g k) 6 (fun j => .int (Int32.ofInt (stV k j))) (gFr g) U U.heap) ∧
  va_T .int (gX g).1 (gX g).2.1 (fun j => .int (Int32.ofInt ((gX g).2.2 j))) (gFr g) U U.heap ∧ va_AO RX7 U ∧ va_AO RX6 U
def szS (S : Shp) : Nat := (S.map (fun q => q.2)).sum
/-- the machine at a place, with memory and locals, comes to the end that is asked -/
def KW (g : Gm) (n0 s0 nL : Nat) (p : Program) (l : Launch) (e : Env) (R : Room) (s : State) (m : MethodId) (args : Array Value) (below : List Frame) (meth : Method) (c : Code) (Q : State → Prop) : Nat → List MV → List MV → Shp → Rfs → Dat → Prop := fun pc lo st S F D =>
  ∀ (H : Heap) (locs : List Loc) (ls : Array Slot), va_P (gD g) vwCl (wsO g S F D) H → va_S (gFr g) s.heap H locs → n0 ≤ S.length → s0 ≤ szS S → lvh (gH g) ls nL lo →
    W p l e R s m args below meth c H locs (S.length - n0) (szS S - s0) Q (F0 m pc ls (st.map (vv (gH g))))
abbrev KT : Type := Nat → List MV → List MV → Shp → Rfs → Dat → Prop
def Act (g : Gm) (l : Launch) (cls : String) (cc : ByteArray) (nL d n0 s0 mc ms : Nat) (ini : Prop) (K : KT) : Prop :=
  ∃ (p : Program) (e : Env) (R : Room) (s : State) (m : MethodId) (args : Array Value) (below : List Frame) (meth : Method) (c : Code) (Q : State → Prop),
    p.tables.exec = Jvm.exec ∧ c.code = cc ∧ c.maxLocals = nL ∧ s.vm.findClass cls = some m.cls ∧ (∀ w ∈ Wd, w.before args s = true) ∧ Amb g s ∧ d ≤ R.frames ∧ 64 * d ≤ R.locals ∧ mc ≤ R.cells ∧ ms ≤ R.slots ∧ (ini → meth.name = "<init>") ∧ s.heap.size = gH g + n0 ∧
    K = KW g n0 s0 nL p l e R s m args below meth c Q
end
section
/-! rows: an instruction each -/
theorem n32_in {a : Int} (h : -2147483648 ≤ a ∧ a ≤ 2147483647) : (Int32.ofInt a).toInt = a := Int32.toInt_ofInt_of_le (by omega) (by omega)
theorem n64_in {a : Int} (h : -9223372036854775808 ≤ a ∧ a ≤ 9223372036854775807) : (Int64.ofInt a).toInt = a := Int64.toInt_ofInt_of_le (by omega) (by omega)
theorem n32_lt {a b : Int} (ha : -2147483648 ≤ a ∧ a ≤ 2147483647) (hb : -2147483648 ≤ b ∧ b ≤ 2147483647) : Int32.ofInt a < Int32.ofInt b ↔ a < b := by
  rw [Int32.lt_iff_toInt_lt, n32_in ha, n32_in hb]
theorem n32_le {a b : Int} (ha : -2147483648 ≤ a ∧ a ≤ 2147483647) (hb : -2147483648 ≤ b ∧ b ≤ 2147483647) : Int32.ofInt a ≤ Int32.ofInt b ↔ a ≤ b := by
  rw [Int32.le_iff_toInt_le, n32_in ha, n32_in hb]
theorem n32_eq {a b : Int} (ha : -2147483648 ≤ a ∧ a ≤ 2147483647) (hb : -2147483648 ≤ b ∧ b ≤ 2147483647) : Int32.ofInt a = Int32.ofInt b ↔ a = b := by
  rw [← Int32.toInt_inj, n32_in ha, n32_in hb]
theorem n32_z : (0 : Int32) = Int32.ofInt 0 := rfl
theorem n32_lt0 {a : Int} (ha : -2147483648 ≤ a ∧ a ≤ 2147483647) : Int32.ofInt a < 0 ↔ a < 0 := by rw [n32_z, n32_lt ha (by omega)]
theorem n32_le0 {a : Int} (ha : -2147483648 ≤ a ∧ a ≤ 2147483647) : Int32.ofInt a ≤ 0 ↔ a ≤ 0 := by rw [n32_z, n32_le ha (by omega)]
theorem n32_eq0 {a : Int} (ha : -2147483648 ≤ a ∧ a ≤ 2147483647) : Int32.ofInt a = 0 ↔ a = 0 := by rw [n32_z, n32_eq ha (by omega)]
theorem n64_lt {a b : Int} (ha : -9223372036854775808 ≤ a ∧ a ≤ 9223372036854775807) (hb : -9223372036854775808 ≤ b ∧ b ≤ 9223372036854775807) : Int64.ofInt a < Int64.ofInt b ↔ a < b := by
  rw [Int64.lt_iff_toInt_lt, n64_in ha, n64_in hb]
theorem n64_eq {a b : Int} (ha : -9223372036854775808 ≤ a ∧ a ≤ 9223372036854775807) (hb : -9223372036854775808 ≤ b ∧ b ≤ 9223372036854775807) : Int64.ofInt a = Int64.ofInt b ↔ a = b := by
  rw [← Int64.toInt_inj, n64_in ha, n64_in hb]
def iAnd (a b : Int) : Int := (Int32.ofInt a &&& Int32.ofInt b).toInt
def iOr (a b : Int) : Int := (Int32.ofInt a ||| Int32.ofInt b).toInt
def iXor (a b : Int) : Int := (Int32.ofInt a ^^^ Int32.ofInt b).toInt
def iShl (a b : Int) : Int := (Int32.ofInt a <<< (Int32.ofInt b &&& 31)).toInt
def iShr (a b : Int) : Int := (Int32.ofInt a >>> (Int32.ofInt b &&& 31)).toInt
def iUshr (a b : Int) : Int := ((Int32.ofInt a).toUInt32 >>> ((Int32.ofInt b).toUInt32 &&& Int32.toUInt32 31)).toInt32.toInt
def lAnd (a b : Int) : Int := (Int64.ofInt a &&& Int64.ofInt b).toInt
def lOr (a b : Int) : Int := (Int64.ofInt a ||| Int64.ofInt b).toInt
def lShl (a b : Int) : Int := (Int64.ofInt a <<< ((Int32.ofInt b).toInt64 &&& 63)).toInt
def lShr (a b : Int) : Int := (Int64.ofInt a >>> ((Int32.ofInt b).toInt64 &&& 63)).toInt
def toB (a : Int) : Int := (Int32.ofInt a).toInt8.toInt32.toInt
def toS (a : Int) : Int := (Int32.ofInt a).toInt16.toInt32.toInt
def cmpL (a b : Int) : Int := if b < a then 1 else if a = b then 0 else -1
section MRows
variable {g : Gm} {l : Launch} {cls : String} {cc : ByteArray} {nL d n0 s0 mc ms : Nat} {ini : Prop} {K : KT} {pc : Nat} {lo st : List MV} {S : Shp} {F : Rfs} {D : Dat}

theorem r_iconst (hA : Act g l cls cc nL d n0 s0 mc ms ini K) {n : Int} (hd : decode cc pc = .ok (.iconst n, 1)) (k : K (pc + 1) lo (vI n :: st) S F D) : K pc lo (st) S F D := by
  obtain ⟨p, e, R, s, m, args, below, meth, c, Q, hx, hb, hml, hown, hts, hAm, hfr, hlo, hmc, hms, hin, hn0, rfl⟩ := hA
  intro H locs ls hP hS h1 h2 hl
  have k2 := k H locs ls hP hS h1 h2 hl
  simp only [List.map_cons, vv] at k2
  exact lv_iconst hx hb hd rfl k2
theorem r_bipush (hA : Act g l cls cc nL d n0 s0 mc ms ini K) {n : Int} (hn : -128 ≤ n ∧ n ≤ 127) (hd : decode cc pc = .ok (.bipush n, 2)) (k : K (pc + 2) lo (vI n :: st) S F D) : K pc lo (st) S F D := by
  obtain ⟨p, e, R, s, m, args, below, meth, c, Q, hx, hb, hml, hown, hts, hAm, hfr, hlo, hmc, hms, hin, hn0, rfl⟩ := hA
  intro H locs ls hP hS h1 h2 hl
  have k2 := k H locs ls hP hS h1 h2 hl
  simp only [List.map_cons, vv] at k2
  exact lv_bipush hx hb hd (by rw [← Int32.toInt_inj, n32_in (by omega), Int8.toInt_toInt32, Int8.toInt_ofInt_of_le (by omega) (by omega)]) k2
theorem r_sipush (hA : Act g l cls cc nL d n0 s0 mc ms ini K) {n : Int} (hn : -32768 ≤ n ∧ n ≤ 32767) (hd : decode cc pc = .ok (.sipush n, 3)) (k : K (pc + 3) lo (vI n :: st) S F D) : K pc lo (st) S F D := by
  obtain ⟨p, e, R, s, m, args, below, meth, c, Q, hx, hb, hml, hown, hts, hAm, hfr, hlo, hmc, hms, hin, hn0, rfl⟩ := hA
  intro H locs ls hP hS h1 h2 hl
  have k2 := k H locs ls hP hS h1 h2 hl
  simp only [List.map_cons, vv] at k2
  exact lv_sipush hx hb hd (by rw [← Int32.toInt_inj, n32_in (by omega), Int16.toInt_toInt32, Int16.toInt_ofInt_of_le (by omega) (by omega)]) k2
theorem r_lconst (hA : Act g l cls cc nL d n0 s0 mc ms ini K) {n : Fin 2} (hd : decode cc pc = .ok (.lconst n, 1)) (k : K (pc + 1) lo (vL ((n : Nat) : Int) :: st) S F D) : K pc lo (st) S F D := by
  obtain ⟨p, e, R, s, m, args, below, meth, c, Q, hx, hb, hml, hown, hts, hAm, hfr, hlo, hmc, hms, hin, hn0, rfl⟩ := hA
  intro H locs ls hP hS h1 h2 hl
  have k2 := k H locs ls hP hS h1 h2 hl
  simp only [List.map_cons, vv] at k2
  exact lv_lconst hx hb hd (by rw [← Int64.ofInt_eq_ofNat]) k2
theorem r_iload_n (hA : Act g l cls cc nL d n0 s0 mc ms ini K) {j : Fin 4} {x : Int} (hl2 : lo[(j : Nat)]? = some (vI x)) (hd : decode cc pc = .ok (.iload_n j, 1)) (k : K (pc + 1) lo (vI x :: st) S F D) : K pc lo (st) S F D := by
  obtain ⟨p, e, R, s, m, args, below, meth, c, Q, hx, hb, hml, hown, hts, hAm, hfr, hlo, hmc, hms, hin, hn0, rfl⟩ := hA
  intro H locs ls hP hS h1 h2 hl
  have k2 := k H locs ls hP hS h1 h2 hl
  simp only [List.map_cons, vv] at k2
  exact lv_iload_n hx hb hd rfl (hl.2.2 _ _ hl2 (fun h => by cases h)) k2
theorem r_iload (hA : Act g l cls cc nL d n0 s0 mc ms ini K) {j : Nat} {x : Int} (hl2 : lo[j]? = some (vI x)) (hd : decode cc pc = .ok (.iload j, 2)) (k : K (pc + 2) lo (vI x :: st) S F D) : K pc lo (st) S F D := by
  obtain ⟨p, e, R, s, m, args, below, meth, c, Q, hx, hb, hml, hown, hts, hAm, hfr, hlo, hmc, hms, hin, hn0, rfl⟩ := hA
  intro H locs ls hP hS h1 h2 hl
  have k2 := k H locs ls hP hS h1 h2 hl
  simp only [List.map_cons, vv] at k2
  exact lv_iload hx hb hd (hl.2.2 _ _ hl2 (fun h => by cases h)) k2
theorem r_lload_n (hA : Act g l cls cc nL d n0 s0 mc ms ini K) {j : Fin 4} {x : Int} (hl2 : lo[(j : Nat)]? = some (vL x)) (hd : decode cc pc = .ok (.lload_n j, 1)) (k : K (pc + 1) lo (vL x :: st) S F D) : K pc lo (st) S F D := by
  obtain ⟨p, e, R, s, m, args, below, meth, c, Q, hx, hb, hml, hown, hts, hAm, hfr, hlo, hmc, hms, hin, hn0, rfl⟩ := hA
  intro H locs ls hP hS h1 h2 hl
  have k2 := k H locs ls hP hS h1 h2 hl
  simp only [List.map_cons, vv] at k2
  exact lv_lload_n hx hb hd rfl (hl.2.2 _ _ hl2 (fun h => by cases h)) k2
theorem r_lload (hA : Act g l cls cc nL d n0 s0 mc ms ini K) {j : Nat} {x : Int} (hl2 : lo[j]? = some (vL x)) (hd : decode cc pc = .ok (.lload j, 2)) (k : K (pc + 2) lo (vL x :: st) S F D) : K pc lo (st) S F D := by
  obtain ⟨p, e, R, s, m, args, below, meth, c, Q, hx, hb, hml, hown, hts, hAm, hfr, hlo, hmc, hms, hin, hn0, rfl⟩ := hA
  intro H locs ls hP hS h1 h2 hl
  have k2 := k H locs ls hP hS h1 h2 hl
  simp only [List.map_cons, vv] at k2
  exact lv_lload hx hb hd (hl.2.2 _ _ hl2 (fun h => by cases h)) k2
theorem r_aload_n (hA : Act g l cls cc nL d n0 s0 mc ms ini K) {j : Fin 4} {x : Nat} (hl2 : lo[(j : Nat)]? = some (vR x)) (hd : decode cc pc = .ok (.aload_n j, 1)) (k : K (pc + 1) lo (vR x :: st) S F D) : K pc lo (st) S F D := by
  obtain ⟨p, e, R, s, m, args, below, meth, c, Q, hx, hb, hml, hown, hts, hAm, hfr, hlo, hmc, hms, hin, hn0, rfl⟩ := hA
  intro H locs ls hP hS h1 h2 hl
  have k2 := k H locs ls hP hS h1 h2 hl
  simp only [List.map_cons, vv] at k2
  exact lv_aload_n hx hb hd rfl (hl.2.2 _ _ hl2 (fun h => by cases h)) k2
theorem r_aload (hA : Act g l cls cc nL d n0 s0 mc ms ini K) {j : Nat} {x : Nat} (hl2 : lo[j]? = some (vR x)) (hd : decode cc pc = .ok (.aload j, 2)) (k : K (pc + 2) lo (vR x :: st) S F D) : K pc lo (st) S F D := by
  obtain ⟨p, e, R, s, m, args, below, meth, c, Q, hx, hb, hml, hown, hts, hAm, hfr, hlo, hmc, hms, hin, hn0, rfl⟩ := hA
  intro H locs ls hP hS h1 h2 hl
  have k2 := k H locs ls hP hS h1 h2 hl
  simp only [List.map_cons, vv] at k2
  exact lv_aload hx hb hd (hl.2.2 _ _ hl2 (fun h => by cases h)) k2
theorem r_aload_nz (hA : Act g l cls cc nL d n0 s0 mc ms ini K) {j : Fin 4} {x : Nat} (hl2 : lo[(j : Nat)]? = some (vZ x)) (hd : decode cc pc = .ok (.aload_n j, 1)) (k : K (pc + 1) lo (vZ x :: st) S F D) : K pc lo (st) S F D := by
  obtain ⟨p, e, R, s, m, args, below, meth, c, Q, hx, hb, hml, hown, hts, hAm, hfr, hlo, hmc, hms, hin, hn0, rfl⟩ := hA
  intro H locs ls hP hS h1 h2 hl
  have k2 := k H locs ls hP hS h1 h2 hl
  simp only [List.map_cons, vv] at k2
  exact lv_aload_n hx hb hd rfl (hl.2.2 _ _ hl2 (fun h => by cases h)) k2
theorem r_aloadz (hA : Act g l cls cc nL d n0 s0 mc ms ini K) {j : Nat} {x : Nat} (hl2 : lo[j]? = some (vZ x)) (hd : decode cc pc = .ok (.aload j, 2)) (k : K (pc + 2) lo (vZ x :: st) S F D) : K pc lo (st) S F D := by
  obtain ⟨p, e, R, s, m, args, below, meth, c, Q, hx, hb, hml, hown, hts, hAm, hfr, hlo, hmc, hms, hin, hn0, rfl⟩ := hA
  intro H locs ls hP hS h1 h2 hl
  have k2 := k H locs ls hP hS h1 h2 hl
  simp only [List.map_cons, vv] at k2
  exact lv_aload hx hb hd (hl.2.2 _ _ hl2 (fun h => by cases h)) k2
theorem r_iadd (hA : Act g l cls cc nL d n0 s0 mc ms ini K) {a b : Int} (hd : decode cc pc = .ok (.iadd, 1)) (k : K (pc + 1) lo (vI (a + b) :: st) S F D) : K pc lo (vI b :: vI a :: st) S F D := by
  obtain ⟨p, e, R, s, m, args, below, meth, c, Q, hx, hb, hml, hown, hts, hAm, hfr, hlo, hmc, hms, hin, hn0, rfl⟩ := hA
  intro H locs ls hP hS h1 h2 hl
  have k2 := k H locs ls hP hS h1 h2 hl
  simp only [List.map_cons, vv, Int32.ofInt_add] at k2
  exact lv_iadd hx hb hd k2
theorem r_isub (hA : Act g l cls cc nL d n0 s0 mc ms ini K) {a b : Int} (hd : decode cc pc = .ok (.isub, 1)) (k : K (pc + 1) lo (vI (a - b) :: st) S F D) : K pc lo (vI b :: vI a :: st) S F D := by
  obtain ⟨p, e, R, s, m, args, below, meth, c, Q, hx, hb, hml, hown, hts, hAm, hfr, hlo, hmc, hms, hin, hn0, rfl⟩ := hA
  intro H locs ls hP hS h1 h2 hl
  have k2 := k H locs ls hP hS h1 h2 hl
  simp only [List.map_cons, vv, Int32.ofInt_sub] at k2
  exact lv_isub hx hb hd k2
theorem r_imul (hA : Act g l cls cc nL d n0 s0 mc ms ini K) {a b : Int} (hd : decode cc pc = .ok (.imul, 1)) (k : K (pc + 1) lo (vI (a * b) :: st) S F D) : K pc lo (vI b :: vI a :: st) S F D := by
  obtain ⟨p, e, R, s, m, args, below, meth, c, Q, hx, hb, hml, hown, hts, hAm, hfr, hlo, hmc, hms, hin, hn0, rfl⟩ := hA
  intro H locs ls hP hS h1 h2 hl
  have k2 := k H locs ls hP hS h1 h2 hl
  simp only [List.map_cons, vv, Int32.ofInt_mul] at k2
  exact lv_imul hx hb hd k2
theorem r_ladd (hA : Act g l cls cc nL d n0 s0 mc ms ini K) {a b : Int} (hd : decode cc pc = .ok (.ladd, 1)) (k : K (pc + 1) lo (vL (a + b) :: st) S F D) : K pc lo (vL b :: vL a :: st) S F D := by
  obtain ⟨p, e, R, s, m, args, below, meth, c, Q, hx, hb, hml, hown, hts, hAm, hfr, hlo, hmc, hms, hin, hn0, rfl⟩ := hA
  intro H locs ls hP hS h1 h2 hl
  have k2 := k H locs ls hP hS h1 h2 hl
  simp only [List.map_cons, vv, Int64.ofInt_add] at k2
  exact lv_ladd hx hb hd k2
theorem r_lsub (hA : Act g l cls cc nL d n0 s0 mc ms ini K) {a b : Int} (hd : decode cc pc = .ok (.lsub, 1)) (k : K (pc + 1) lo (vL (a - b) :: st) S F D) : K pc lo (vL b :: vL a :: st) S F D := by
  obtain ⟨p, e, R, s, m, args, below, meth, c, Q, hx, hb, hml, hown, hts, hAm, hfr, hlo, hmc, hms, hin, hn0, rfl⟩ := hA
  intro H locs ls hP hS h1 h2 hl
  have k2 := k H locs ls hP hS h1 h2 hl
  simp only [List.map_cons, vv, Int64.ofInt_sub] at k2
  exact lv_lsub hx hb hd k2
theorem r_lmul (hA : Act g l cls cc nL d n0 s0 mc ms ini K) {a b : Int} (hd : decode cc pc = .ok (.lmul, 1)) (k : K (pc + 1) lo (vL (a * b) :: st) S F D) : K pc lo (vL b :: vL a :: st) S F D := by
  obtain ⟨p, e, R, s, m, args, below, meth, c, Q, hx, hb, hml, hown, hts, hAm, hfr, hlo, hmc, hms, hin, hn0, rfl⟩ := hA
  intro H locs ls hP hS h1 h2 hl
  have k2 := k H locs ls hP hS h1 h2 hl
  simp only [List.map_cons, vv, Int64.ofInt_mul] at k2
  exact lv_lmul hx hb hd k2
theorem r_ineg (hA : Act g l cls cc nL d n0 s0 mc ms ini K) {a : Int} (hd : decode cc pc = .ok (.ineg, 1)) (k : K (pc + 1) lo (vI (-a) :: st) S F D) : K pc lo (vI a :: st) S F D := by
  obtain ⟨p, e, R, s, m, args, below, meth, c, Q, hx, hb, hml, hown, hts, hAm, hfr, hlo, hmc, hms, hin, hn0, rfl⟩ := hA
  intro H locs ls hP hS h1 h2 hl
  have k2 := k H locs ls hP hS h1 h2 hl
  simp only [List.map_cons, vv, Int32.ofInt_neg] at k2
  exact lv_ineg hx hb hd k2
theorem r_iand (hA : Act g l cls cc nL d n0 s0 mc ms ini K) {a b : Int} (hd : decode cc pc = .ok (.iand, 1)) (k : K (pc + 1) lo (vI (iAnd a b) :: st) S F D) : K pc lo (vI b :: vI a :: st) S F D := by
  obtain ⟨p, e, R, s, m, args, below, meth, c, Q, hx, hb, hml, hown, hts, hAm, hfr, hlo, hmc, hms, hin, hn0, rfl⟩ := hA
  intro H locs ls hP hS h1 h2 hl
  have k2 := k H locs ls hP hS h1 h2 hl
  simp only [List.map_cons, vv, iAnd, Int32.ofInt_toInt] at k2
  exact lv_iand hx hb hd k2
theorem r_ior (hA : Act g l cls cc nL d n0 s0 mc ms ini K) {a b : Int} (hd : decode cc pc = .ok (.ior, 1)) (k : K (pc + 1) lo (vI (iOr a b) :: st) S F D) : K pc lo (vI b :: vI a :: st) S F D := by
  obtain ⟨p, e, R, s, m, args, below, meth, c, Q, hx, hb, hml, hown, hts, hAm, hfr, hlo, hmc, hms, hin, hn0, rfl⟩ := hA
  intro H locs ls hP hS h1 h2 hl
  have k2 := k H locs ls hP hS h1 h2 hl
  simp only [List.map_cons, vv, iOr, Int32.ofInt_toInt] at k2
  exact lv_ior hx hb hd k2
theorem r_ixor (hA : Act g l cls cc nL d n0 s0 mc ms ini K) {a b : Int} (hd : decode cc pc = .ok (.ixor, 1)) (k : K (pc + 1) lo (vI (iXor a b) :: st) S F D) : K pc lo (vI b :: vI a :: st) S F D := by
  obtain ⟨p, e, R, s, m, args, below, meth, c, Q, hx, hb, hml, hown, hts, hAm, hfr, hlo, hmc, hms, hin, hn0, rfl⟩ := hA
  intro H locs ls hP hS h1 h2 hl
  have k2 := k H locs ls hP hS h1 h2 hl
  simp only [List.map_cons, vv, iXor, Int32.ofInt_toInt] at k2
  exact lv_ixor hx hb hd k2
theorem r_ishl (hA : Act g l cls cc nL d n0 s0 mc ms ini K) {a b : Int} (hd : decode cc pc = .ok (.ishl, 1)) (k : K (pc + 1) lo (vI (iShl a b) :: st) S F D) : K pc lo (vI b :: vI a :: st) S F D := by
  obtain ⟨p, e, R, s, m, args, below, meth, c, Q, hx, hb, hml, hown, hts, hAm, hfr, hlo, hmc, hms, hin, hn0, rfl⟩ := hA
  intro H locs ls hP hS h1 h2 hl
  have k2 := k H locs ls hP hS h1 h2 hl
  simp only [List.map_cons, vv, iShl, Int32.ofInt_toInt] at k2
  exact lv_ishl hx hb hd k2
theorem r_ishr (hA : Act g l cls cc nL d n0 s0 mc ms ini K) {a b : Int} (hd : decode cc pc = .ok (.ishr, 1)) (k : K (pc + 1) lo (vI (iShr a b) :: st) S F D) : K pc lo (vI b :: vI a :: st) S F D := by
  obtain ⟨p, e, R, s, m, args, below, meth, c, Q, hx, hb, hml, hown, hts, hAm, hfr, hlo, hmc, hms, hin, hn0, rfl⟩ := hA
  intro H locs ls hP hS h1 h2 hl
  have k2 := k H locs ls hP hS h1 h2 hl
  simp only [List.map_cons, vv, iShr, Int32.ofInt_toInt] at k2
  exact lv_ishr hx hb hd k2
theorem r_iushr (hA : Act g l cls cc nL d n0 s0 mc ms ini K) {a b : Int} (hd : decode cc pc = .ok (.iushr, 1)) (k : K (pc + 1) lo (vI (iUshr a b) :: st) S F D) : K pc lo (vI b :: vI a :: st) S F D := by
  obtain ⟨p, e, R, s, m, args, below, meth, c, Q, hx, hb, hml, hown, hts, hAm, hfr, hlo, hmc, hms, hin, hn0, rfl⟩ := hA
  intro H locs ls hP hS h1 h2 hl
  have k2 := k H locs ls hP hS h1 h2 hl
  simp only [List.map_cons, vv, iUshr, Int32.ofInt_toInt] at k2
  exact lv_iushr hx hb hd rfl k2
theorem r_land (hA : Act g l cls cc nL d n0 s0 mc ms ini K) {a b : Int} (hd : decode cc pc = .ok (.land, 1)) (k : K (pc + 1) lo (vL (lAnd a b) :: st) S F D) : K pc lo (vL b :: vL a :: st) S F D := by
  obtain ⟨p, e, R, s, m, args, below, meth, c, Q, hx, hb, hml, hown, hts, hAm, hfr, hlo, hmc, hms, hin, hn0, rfl⟩ := hA
  intro H locs ls hP hS h1 h2 hl
  have k2 := k H locs ls hP hS h1 h2 hl
  simp only [List.map_cons, vv, lAnd, Int64.ofInt_toInt] at k2
  exact lv_land hx hb hd k2
theorem r_lor (hA : Act g l cls cc nL d n0 s0 mc ms ini K) {a b : Int} (hd : decode cc pc = .ok (.lor, 1)) (k : K (pc + 1) lo (vL (lOr a b) :: st) S F D) : K pc lo (vL b :: vL a :: st) S F D := by
  obtain ⟨p, e, R, s, m, args, below, meth, c, Q, hx, hb, hml, hown, hts, hAm, hfr, hlo, hmc, hms, hin, hn0, rfl⟩ := hA
  intro H locs ls hP hS h1 h2 hl
  have k2 := k H locs ls hP hS h1 h2 hl
  simp only [List.map_cons, vv, lOr, Int64.ofInt_toInt] at k2
  exact lv_lor hx hb hd k2
theorem r_lshl (hA : Act g l cls cc nL d n0 s0 mc ms ini K) {a b : Int} (hd : decode cc pc = .ok (.lshl, 1)) (k : K (pc + 1) lo (vL (lShl a b) :: st) S F D) : K pc lo (vI b :: vL a :: st) S F D := by
  obtain ⟨p, e, R, s, m, args, below, meth, c, Q, hx, hb, hml, hown, hts, hAm, hfr, hlo, hmc, hms, hin, hn0, rfl⟩ := hA
  intro H locs ls hP hS h1 h2 hl
  have k2 := k H locs ls hP hS h1 h2 hl
  simp only [List.map_cons, vv, lShl, Int64.ofInt_toInt] at k2
  exact lv_lshl hx hb hd rfl k2
theorem r_lshr (hA : Act g l cls cc nL d n0 s0 mc ms ini K) {a b : Int} (hd : decode cc pc = .ok (.lshr, 1)) (k : K (pc + 1) lo (vL (lShr a b) :: st) S F D) : K pc lo (vI b :: vL a :: st) S F D := by
  obtain ⟨p, e, R, s, m, args, below, meth, c, Q, hx, hb, hml, hown, hts, hAm, hfr, hlo, hmc, hms, hin, hn0, rfl⟩ := hA
  intro H locs ls hP hS h1 h2 hl
  have k2 := k H locs ls hP hS h1 h2 hl
  simp only [List.map_cons, vv, lShr, Int64.ofInt_toInt] at k2
  exact lv_lshr hx hb hd rfl k2
theorem n32_div {a b : Int} (ha : 0 ≤ a ∧ a ≤ 2147483647) (hb0 : 0 < b ∧ b ≤ 2147483647) : Int32.ofInt (a / b) = Int32.ofInt a / Int32.ofInt b := by
  rw [← Int.tdiv_eq_ediv_of_nonneg ha.1]
  exact Int32.ofInt_tdiv (by show (-2147483648 : Int) ≤ a; omega) (by show a ≤ 2147483647; omega) (by show (-2147483648 : Int) ≤ b; omega) (by show b ≤ 2147483647; omega)
theorem n64_div {a b : Int} (ha : 0 ≤ a ∧ a ≤ 9223372036854775807) (hb0 : 0 < b ∧ b ≤ 9223372036854775807) : Int64.ofInt (a / b) = Int64.ofInt a / Int64.ofInt b := by
  rw [← Int.tdiv_eq_ediv_of_nonneg ha.1]
  exact Int64.ofInt_tdiv (by show (-9223372036854775808 : Int) ≤ a; omega) (by show a ≤ 9223372036854775807; omega) (by show (-9223372036854775808 : Int) ≤ b; omega) (by show b ≤ 9223372036854775807; omega)
theorem n32_rem {a b : Int} (ha : 0 ≤ a ∧ a ≤ 2147483647) (hb0 : 0 < b ∧ b ≤ 2147483647) : Int32.ofInt (a % b) = Int32.ofInt a - Int32.ofInt a / Int32.ofInt b * Int32.ofInt b := by
  rw [← n32_div ha hb0, ← Int32.ofInt_mul, ← Int32.ofInt_sub, Int.emod_def, Int.mul_comm]
theorem n64_rem {a b : Int} (ha : 0 ≤ a ∧ a ≤ 9223372036854775807) (hb0 : 0 < b ∧ b ≤ 9223372036854775807) : Int64.ofInt (a % b) = Int64.ofInt a - Int64.ofInt a / Int64.ofInt b * Int64.ofInt b := by
  rw [← n64_div ha hb0, ← Int64.ofInt_mul, ← Int64.ofInt_sub, Int.emod_def, Int.mul_comm]
theorem r_idiv (hA : Act g l cls cc nL d n0 s0 mc ms ini K) {a b : Int} (ha : 0 ≤ a ∧ a ≤ 2147483647) (hb0 : 0 < b ∧ b ≤ 2147483647) (hd : decode cc pc = .ok (.idiv, 1)) (k : K (pc + 1) lo (vI (a / b) :: st) S F D) : K pc lo (vI b :: vI a :: st) S F D := by
  obtain ⟨p, e, R, s, m, args, below, meth, c, Q, hx, hb, hml, hown, hts, hAm, hfr, hlo, hmc, hms, hin, hn0, rfl⟩ := hA
  intro H locs ls hP hS h1 h2 hl
  have k2 := k H locs ls hP hS h1 h2 hl
  simp only [List.map_cons, vv, n32_div ha hb0] at k2
  exact lv_idiv hx hb hd (fun h => by rw [n32_eq0 (by omega)] at h; omega) k2
theorem r_irem (hA : Act g l cls cc nL d n0 s0 mc ms ini K) {a b : Int} (ha : 0 ≤ a ∧ a ≤ 2147483647) (hb0 : 0 < b ∧ b ≤ 2147483647) (hd : decode cc pc = .ok (.irem, 1)) (k : K (pc + 1) lo (vI (a % b) :: st) S F D) : K pc lo (vI b :: vI a :: st) S F D := by
  obtain ⟨p, e, R, s, m, args, below, meth, c, Q, hx, hb, hml, hown, hts, hAm, hfr, hlo, hmc, hms, hin, hn0, rfl⟩ := hA
  intro H locs ls hP hS h1 h2 hl
  have k2 := k H locs ls hP hS h1 h2 hl
  simp only [List.map_cons, vv, n32_rem ha hb0] at k2
  exact lv_irem hx hb hd (fun h => by rw [n32_eq0 (by omega)] at h; omega) k2
theorem r_ldiv (hA : Act g l cls cc nL d n0 s0 mc ms ini K) {a b : Int} (ha : 0 ≤ a ∧ a ≤ 9223372036854775807) (hb0 : 0 < b ∧ b ≤ 9223372036854775807) (hd : decode cc pc = .ok (.ldiv, 1)) (k : K (pc + 1) lo (vL (a / b) :: st) S F D) : K pc lo (vL b :: vL a :: st) S F D := by
  obtain ⟨p, e, R, s, m, args, below, meth, c, Q, hx, hb, hml, hown, hts, hAm, hfr, hlo, hmc, hms, hin, hn0, rfl⟩ := hA
  intro H locs ls hP hS h1 h2 hl
  have k2 := k H locs ls hP hS h1 h2 hl
  simp only [List.map_cons, vv, n64_div ha hb0] at k2
  exact lv_ldiv hx hb hd (fun h => by rw [show (0 : Int64) = Int64.ofInt 0 from rfl, n64_eq (by omega) (by omega)] at h; omega) k2
theorem r_lrem (hA : Act g l cls cc nL d n0 s0 mc ms ini K) {a b : Int} (ha : 0 ≤ a ∧ a ≤ 9223372036854775807) (hb0 : 0 < b ∧ b ≤ 9223372036854775807) (hd : decode cc pc = .ok (.lrem, 1)) (k : K (pc + 1) lo (vL (a % b) :: st) S F D) : K pc lo (vL b :: vL a :: st) S F D := by
  obtain ⟨p, e, R, s, m, args, below, meth, c, Q, hx, hb, hml, hown, hts, hAm, hfr, hlo, hmc, hms, hin, hn0, rfl⟩ := hA
  intro H locs ls hP hS h1 h2 hl
  have k2 := k H locs ls hP hS h1 h2 hl
  simp only [List.map_cons, vv, n64_rem ha hb0] at k2
  exact lv_lrem hx hb hd (fun h => by rw [show (0 : Int64) = Int64.ofInt 0 from rfl, n64_eq (by omega) (by omega)] at h; omega) k2
theorem r_i2l (hA : Act g l cls cc nL d n0 s0 mc ms ini K) {a : Int} (ha : -2147483648 ≤ a ∧ a ≤ 2147483647) (hd : decode cc pc = .ok (.i2l, 1)) (k : K (pc + 1) lo (vL a :: st) S F D) : K pc lo (vI a :: st) S F D := by
  obtain ⟨p, e, R, s, m, args, below, meth, c, Q, hx, hb, hml, hown, hts, hAm, hfr, hlo, hmc, hms, hin, hn0, rfl⟩ := hA
  intro H locs ls hP hS h1 h2 hl
  have k2 := k H locs ls hP hS h1 h2 hl
  simp only [List.map_cons, vv] at k2
  exact lv_i2l hx hb hd (Int32.toInt64_ofInt (by show (-2147483648 : Int) ≤ a; omega) (by show a ≤ 2147483647; omega)) k2
theorem r_l2i (hA : Act g l cls cc nL d n0 s0 mc ms ini K) {a : Int} (hd : decode cc pc = .ok (.l2i, 1)) (k : K (pc + 1) lo (vI a :: st) S F D) : K pc lo (vL a :: st) S F D := by
  obtain ⟨p, e, R, s, m, args, below, meth, c, Q, hx, hb, hml, hown, hts, hAm, hfr, hlo, hmc, hms, hin, hn0, rfl⟩ := hA
  intro H locs ls hP hS h1 h2 hl
  have k2 := k H locs ls hP hS h1 h2 hl
  simp only [List.map_cons, vv] at k2
  exact lv_l2i hx hb hd Int64.toInt32_ofInt k2
theorem r_i2b (hA : Act g l cls cc nL d n0 s0 mc ms ini K) {a : Int} (hd : decode cc pc = .ok (.i2b, 1)) (k : K (pc + 1) lo (vI (toB a) :: st) S F D) : K pc lo (vI a :: st) S F D := by
  obtain ⟨p, e, R, s, m, args, below, meth, c, Q, hx, hb, hml, hown, hts, hAm, hfr, hlo, hmc, hms, hin, hn0, rfl⟩ := hA
  intro H locs ls hP hS h1 h2 hl
  have k2 := k H locs ls hP hS h1 h2 hl
  simp only [List.map_cons, vv, toB, Int32.ofInt_toInt] at k2
  exact lv_i2b hx hb hd rfl k2
theorem r_i2s (hA : Act g l cls cc nL d n0 s0 mc ms ini K) {a : Int} (hd : decode cc pc = .ok (.i2s, 1)) (k : K (pc + 1) lo (vI (toS a) :: st) S F D) : K pc lo (vI a :: st) S F D := by
  obtain ⟨p, e, R, s, m, args, below, meth, c, Q, hx, hb, hml, hown, hts, hAm, hfr, hlo, hmc, hms, hin, hn0, rfl⟩ := hA
  intro H locs ls hP hS h1 h2 hl
  have k2 := k H locs ls hP hS h1 h2 hl
  simp only [List.map_cons, vv, toS, Int32.ofInt_toInt] at k2
  exact lv_i2s hx hb hd rfl k2
theorem r_dupI (hA : Act g l cls cc nL d n0 s0 mc ms ini K) {a : Int} (hd : decode cc pc = .ok (.dup, 1)) (k : K (pc + 1) lo (vI a :: vI a :: st) S F D) : K pc lo (vI a :: st) S F D := by
  obtain ⟨p, e, R, s, m, args, below, meth, c, Q, hx, hb, hml, hown, hts, hAm, hfr, hlo, hmc, hms, hin, hn0, rfl⟩ := hA
  intro H locs ls hP hS h1 h2 hl
  have k2 := k H locs ls hP hS h1 h2 hl
  simp only [List.map_cons, vv] at k2
  exact lv_dup hx hb hd rfl k2
theorem r_dupR (hA : Act g l cls cc nL d n0 s0 mc ms ini K) {a : Nat} (hd : decode cc pc = .ok (.dup, 1)) (k : K (pc + 1) lo (vR a :: vR a :: st) S F D) : K pc lo (vR a :: st) S F D := by
  obtain ⟨p, e, R, s, m, args, below, meth, c, Q, hx, hb, hml, hown, hts, hAm, hfr, hlo, hmc, hms, hin, hn0, rfl⟩ := hA
  intro H locs ls hP hS h1 h2 hl
  have k2 := k H locs ls hP hS h1 h2 hl
  simp only [List.map_cons, vv] at k2
  exact lv_dup hx hb hd rfl k2
theorem r_dup2IR (hA : Act g l cls cc nL d n0 s0 mc ms ini K) {a : Int} {b : Nat} (hd : decode cc pc = .ok (.dup2, 1)) (k : K (pc + 1) lo (vI a :: vR b :: vI a :: vR b :: st) S F D) : K pc lo (vI a :: vR b :: st) S F D := by
  obtain ⟨p, e, R, s, m, args, below, meth, c, Q, hx, hb, hml, hown, hts, hAm, hfr, hlo, hmc, hms, hin, hn0, rfl⟩ := hA
  intro H locs ls hP hS h1 h2 hl
  have k2 := k H locs ls hP hS h1 h2 hl
  simp only [List.map_cons, vv] at k2
  exact lv_dup2_11 hx hb hd rfl rfl k2
theorem r_dup2L (hA : Act g l cls cc nL d n0 s0 mc ms ini K) {a : Int} (hd : decode cc pc = .ok (.dup2, 1)) (k : K (pc + 1) lo (vL a :: vL a :: st) S F D) : K pc lo (vL a :: st) S F D := by
  obtain ⟨p, e, R, s, m, args, below, meth, c, Q, hx, hb, hml, hown, hts, hAm, hfr, hlo, hmc, hms, hin, hn0, rfl⟩ := hA
  intro H locs ls hP hS h1 h2 hl
  have k2 := k H locs ls hP hS h1 h2 hl
  simp only [List.map_cons, vv] at k2
  exact lv_dup2_2 hx hb hd rfl k2
theorem r_pop2L (hA : Act g l cls cc nL d n0 s0 mc ms ini K) {a : Int} (hd : decode cc pc = .ok (.pop2, 1)) (k : K (pc + 1) lo st S F D) : K pc lo (vL a :: st) S F D := by
  obtain ⟨p, e, R, s, m, args, below, meth, c, Q, hx, hb, hml, hown, hts, hAm, hfr, hlo, hmc, hms, hin, hn0, rfl⟩ := hA
  intro H locs ls hP hS h1 h2 hl
  exact lv_pop2_2 (va := vv (gH g) (vL a)) hx hb hd rfl (k H locs ls hP hS h1 h2 hl)
theorem r_lcmp (hA : Act g l cls cc nL d n0 s0 mc ms ini K) {a b : Int} (ha : -9223372036854775808 ≤ a ∧ a ≤ 9223372036854775807) (hb0 : -9223372036854775808 ≤ b ∧ b ≤ 9223372036854775807) (hd : decode cc pc = .ok (.lcmp, 1)) (k : K (pc + 1) lo (vI (cmpL a b) :: st) S F D) : K pc lo (vL b :: vL a :: st) S F D := by
  obtain ⟨p, e, R, s, m, args, below, meth, c, Q, hx, hb, hml, hown, hts, hAm, hfr, hlo, hmc, hms, hin, hn0, rfl⟩ := hA
  intro H locs ls hP hS h1 h2 hl
  have k2 := k H locs ls hP hS h1 h2 hl
  simp only [List.map_cons, vv] at k2
  exact W.lcmp hx hb hd (by rw [show lg_cmp (Int64.ofInt a) (Int64.ofInt b) = Int32.ofInt (cmpL a b) by (unfold lg_cmp cmpL; simp only [gt_iff_lt, n64_lt hb0 ha, n64_eq ha hb0]; split <;> first | rfl | (split <;> rfl))]; exact k2)
theorem r_goto (hA : Act g l cls cc nL d n0 s0 mc ms ini K) {off : Int} {tgt : Nat} (hd : decode cc pc = .ok (.goto off, 3)) (ht : (pc : Int) + off = (tgt : Int)) (k : K tgt lo st S F D) : K pc lo st S F D := by
  obtain ⟨p, e, R, s, m, args, below, meth, c, Q, hx, hb, hml, hown, hts, hAm, hfr, hlo, hmc, hms, hin, hn0, rfl⟩ := hA
  intro H locs ls hP hS h1 h2 hl
  exact lv_goto hx hb hd ht (k H locs ls hP hS h1 h2 hl)
theorem r_if_eq (hA : Act g l cls cc nL d n0 s0 mc ms ini K) {a : Int} (ha : -2147483648 ≤ a ∧ a ≤ 2147483647) {off : Int} {tgt : Nat} (hd : decode cc pc = .ok (.ifCond .eq off, 3)) (ht : (pc : Int) + off = (tgt : Int)) (kt : a = 0 → K tgt lo st S F D) (kf : a ≠ 0 → K (pc + 3) lo st S F D) : K pc lo (vI a :: st) S F D := by
  obtain ⟨p, e, R, s, m, args, below, meth, c, Q, hx, hb, hml, hown, hts, hAm, hfr, hlo, hmc, hms, hin, hn0, rfl⟩ := hA
  intro H locs ls hP hS h1 h2 hl
  refine lv_if_eq (x := Int32.ofInt a) (rest := st.map (vv (gH g))) hx hb hd ht (fun h => kt ?_ H locs ls hP hS h1 h2 hl) (fun h => kf ?_ H locs ls hP hS h1 h2 hl)
  all_goals (have e0 := n32_eq0 ha; have e1 := n32_z; have e2 := n32_lt0 ha; have e3 := n32_le0 ha; have e4 := n32_le (show -2147483648 ≤ (0 : Int) ∧ (0 : Int) ≤ 2147483647 by omega) ha; have e5 := n32_lt (show -2147483648 ≤ (0 : Int) ∧ (0 : Int) ≤ 2147483647 by omega) ha; rw [← e1] at e4 e5; first | exact e0.mp h | exact fun q => h (e0.mpr q) | (exact Decidable.byContradiction fun q => h (fun z => q (e0.mp z))) | (have := e4.mp h; omega) | (have := e5.mp h; omega) | (have := mt e2.mpr h; omega) | (have := mt e3.mpr h; omega) | (have := mt e4.mpr h; omega) | (have := mt e5.mpr h; omega))
theorem r_if_ne (hA : Act g l cls cc nL d n0 s0 mc ms ini K) {a : Int} (ha : -2147483648 ≤ a ∧ a ≤ 2147483647) {off : Int} {tgt : Nat} (hd : decode cc pc = .ok (.ifCond .ne off, 3)) (ht : (pc : Int) + off = (tgt : Int)) (kt : a ≠ 0 → K tgt lo st S F D) (kf : a = 0 → K (pc + 3) lo st S F D) : K pc lo (vI a :: st) S F D := by
  obtain ⟨p, e, R, s, m, args, below, meth, c, Q, hx, hb, hml, hown, hts, hAm, hfr, hlo, hmc, hms, hin, hn0, rfl⟩ := hA
  intro H locs ls hP hS h1 h2 hl
  refine lv_if_ne (x := Int32.ofInt a) (rest := st.map (vv (gH g))) hx hb hd ht (fun h => kt ?_ H locs ls hP hS h1 h2 hl) (fun h => kf ?_ H locs ls hP hS h1 h2 hl)
  all_goals (have e0 := n32_eq0 ha; have e1 := n32_z; have e2 := n32_lt0 ha; have e3 := n32_le0 ha; have e4 := n32_le (show -2147483648 ≤ (0 : Int) ∧ (0 : Int) ≤ 2147483647 by omega) ha; have e5 := n32_lt (show -2147483648 ≤ (0 : Int) ∧ (0 : Int) ≤ 2147483647 by omega) ha; rw [← e1] at e4 e5; first | exact e0.mp h | exact fun q => h (e0.mpr q) | (exact Decidable.byContradiction fun q => h (fun z => q (e0.mp z))) | (have := e4.mp h; omega) | (have := e5.mp h; omega) | (have := mt e2.mpr h; omega) | (have := mt e3.mpr h; omega) | (have := mt e4.mpr h; omega) | (have := mt e5.mpr h; omega))
theorem r_if_lt (hA : Act g l cls cc nL d n0 s0 mc ms ini K) {a : Int} (ha : -2147483648 ≤ a ∧ a ≤ 2147483647) {off : Int} {tgt : Nat} (hd : decode cc pc = .ok (.ifCond .lt off, 3)) (ht : (pc : Int) + off = (tgt : Int)) (kt : a < 0 → K tgt lo st S F D) (kf : 0 ≤ a → K (pc + 3) lo st S F D) : K pc lo (vI a :: st) S F D := by
  obtain ⟨p, e, R, s, m, args, below, meth, c, Q, hx, hb, hml, hown, hts, hAm, hfr, hlo, hmc, hms, hin, hn0, rfl⟩ := hA
  intro H locs ls hP hS h1 h2 hl
  refine lv_if_lt (x := Int32.ofInt a) (rest := st.map (vv (gH g))) hx hb hd ht (fun h => kt ?_ H locs ls hP hS h1 h2 hl) (fun h => kf ?_ H locs ls hP hS h1 h2 hl)
  all_goals (have e0 := n32_lt0 ha; have e1 := n32_z; have e2 := n32_lt0 ha; have e3 := n32_le0 ha; have e4 := n32_le (show -2147483648 ≤ (0 : Int) ∧ (0 : Int) ≤ 2147483647 by omega) ha; have e5 := n32_lt (show -2147483648 ≤ (0 : Int) ∧ (0 : Int) ≤ 2147483647 by omega) ha; rw [← e1] at e4 e5; first | exact e0.mp h | exact fun q => h (e0.mpr q) | (exact Decidable.byContradiction fun q => h (fun z => q (e0.mp z))) | (have := e4.mp h; omega) | (have := e5.mp h; omega) | (have := mt e2.mpr h; omega) | (have := mt e3.mpr h; omega) | (have := mt e4.mpr h; omega) | (have := mt e5.mpr h; omega))
theorem r_if_ge (hA : Act g l cls cc nL d n0 s0 mc ms ini K) {a : Int} (ha : -2147483648 ≤ a ∧ a ≤ 2147483647) {off : Int} {tgt : Nat} (hd : decode cc pc = .ok (.ifCond .ge off, 3)) (ht : (pc : Int) + off = (tgt : Int)) (kt : 0 ≤ a → K tgt lo st S F D) (kf : a < 0 → K (pc + 3) lo st S F D) : K pc lo (vI a :: st) S F D := by
  obtain ⟨p, e, R, s, m, args, below, meth, c, Q, hx, hb, hml, hown, hts, hAm, hfr, hlo, hmc, hms, hin, hn0, rfl⟩ := hA
  intro H locs ls hP hS h1 h2 hl
  refine lv_if_ge (x := Int32.ofInt a) (rest := st.map (vv (gH g))) hx hb hd ht (fun h => kt ?_ H locs ls hP hS h1 h2 hl) (fun h => kf ?_ H locs ls hP hS h1 h2 hl)
  all_goals (have e0 := n32_lt0 ha; have e1 := n32_z; have e2 := n32_lt0 ha; have e3 := n32_le0 ha; have e4 := n32_le (show -2147483648 ≤ (0 : Int) ∧ (0 : Int) ≤ 2147483647 by omega) ha; have e5 := n32_lt (show -2147483648 ≤ (0 : Int) ∧ (0 : Int) ≤ 2147483647 by omega) ha; rw [← e1] at e4 e5; first | exact e0.mp h | exact fun q => h (e0.mpr q) | (exact Decidable.byContradiction fun q => h (fun z => q (e0.mp z))) | (have := e4.mp h; omega) | (have := e5.mp h; omega) | (have := mt e2.mpr h; omega) | (have := mt e3.mpr h; omega) | (have := mt e4.mpr h; omega) | (have := mt e5.mpr h; omega))
theorem r_if_gt (hA : Act g l cls cc nL d n0 s0 mc ms ini K) {a : Int} (ha : -2147483648 ≤ a ∧ a ≤ 2147483647) {off : Int} {tgt : Nat} (hd : decode cc pc = .ok (.ifCond .gt off, 3)) (ht : (pc : Int) + off = (tgt : Int)) (kt : 0 < a → K tgt lo st S F D) (kf : a ≤ 0 → K (pc + 3) lo st S F D) : K pc lo (vI a :: st) S F D := by
  obtain ⟨p, e, R, s, m, args, below, meth, c, Q, hx, hb, hml, hown, hts, hAm, hfr, hlo, hmc, hms, hin, hn0, rfl⟩ := hA
  intro H locs ls hP hS h1 h2 hl
  refine lv_if_gt (x := Int32.ofInt a) (rest := st.map (vv (gH g))) hx hb hd ht (fun h => kt ?_ H locs ls hP hS h1 h2 hl) (fun h => kf ?_ H locs ls hP hS h1 h2 hl)
  all_goals (have e0 := n32_le0 ha; have e1 := n32_z; have e2 := n32_lt0 ha; have e3 := n32_le0 ha; have e4 := n32_le (show -2147483648 ≤ (0 : Int) ∧ (0 : Int) ≤ 2147483647 by omega) ha; have e5 := n32_lt (show -2147483648 ≤ (0 : Int) ∧ (0 : Int) ≤ 2147483647 by omega) ha; rw [← e1] at e4 e5; first | exact e0.mp h | exact fun q => h (e0.mpr q) | (exact Decidable.byContradiction fun q => h (fun z => q (e0.mp z))) | (have := e4.mp h; omega) | (have := e5.mp h; omega) | (have := mt e2.mpr h; omega) | (have := mt e3.mpr h; omega) | (have := mt e4.mpr h; omega) | (have := mt e5.mpr h; omega))
theorem r_if_le (hA : Act g l cls cc nL d n0 s0 mc ms ini K) {a : Int} (ha : -2147483648 ≤ a ∧ a ≤ 2147483647) {off : Int} {tgt : Nat} (hd : decode cc pc = .ok (.ifCond .le off, 3)) (ht : (pc : Int) + off = (tgt : Int)) (kt : a ≤ 0 → K tgt lo st S F D) (kf : 0 < a → K (pc + 3) lo st S F D) : K pc lo (vI a :: st) S F D := by
  obtain ⟨p, e, R, s, m, args, below, meth, c, Q, hx, hb, hml, hown, hts, hAm, hfr, hlo, hmc, hms, hin, hn0, rfl⟩ := hA
  intro H locs ls hP hS h1 h2 hl
  refine lv_if_le (x := Int32.ofInt a) (rest := st.map (vv (gH g))) hx hb hd ht (fun h => kt ?_ H locs ls hP hS h1 h2 hl) (fun h => kf ?_ H locs ls hP hS h1 h2 hl)
  all_goals (have e0 := n32_le0 ha; have e1 := n32_z; have e2 := n32_lt0 ha; have e3 := n32_le0 ha; have e4 := n32_le (show -2147483648 ≤ (0 : Int) ∧ (0 : Int) ≤ 2147483647 by omega) ha; have e5 := n32_lt (show -2147483648 ≤ (0 : Int) ∧ (0 : Int) ≤ 2147483647 by omega) ha; rw [← e1] at e4 e5; first | exact e0.mp h | exact fun q => h (e0.mpr q) | (exact Decidable.byContradiction fun q => h (fun z => q (e0.mp z))) | (have := e4.mp h; omega) | (have := e5.mp h; omega) | (have := mt e2.mpr h; omega) | (have := mt e3.mpr h; omega) | (have := mt e4.mpr h; omega) | (have := mt e5.mpr h; omega))
theorem r_icmp_eq (hA : Act g l cls cc nL d n0 s0 mc ms ini K) {a b : Int} (ha : -2147483648 ≤ a ∧ a ≤ 2147483647) (hb0 : -2147483648 ≤ b ∧ b ≤ 2147483647) {off : Int} {tgt : Nat} (hd : decode cc pc = .ok (.if_icmp .eq off, 3)) (ht : (pc : Int) + off = (tgt : Int)) (kt : a = b → K tgt lo st S F D) (kf : a ≠ b → K (pc + 3) lo st S F D) : K pc lo (vI b :: vI a :: st) S F D := by
  obtain ⟨p, e, R, s, m, args, below, meth, c, Q, hx, hb, hml, hown, hts, hAm, hfr, hlo, hmc, hms, hin, hn0, rfl⟩ := hA
  intro H locs ls hP hS h1 h2 hl
  refine lv_icmp_eq (x := Int32.ofInt a) (y := Int32.ofInt b) (rest := st.map (vv (gH g))) hx hb hd ht (fun h => kt ?_ H locs ls hP hS h1 h2 hl) (fun h => kf ?_ H locs ls hP hS h1 h2 hl)
  all_goals (have e0 := n32_eq ha hb0; first | exact e0.mp h | exact fun q => h (e0.mpr q) | (exact Decidable.byContradiction fun q => h (fun z => q (e0.mp z))) | (have := mt e0.mpr h; omega))
theorem r_icmp_ne (hA : Act g l cls cc nL d n0 s0 mc ms ini K) {a b : Int} (ha : -2147483648 ≤ a ∧ a ≤ 2147483647) (hb0 : -2147483648 ≤ b ∧ b ≤ 2147483647) {off : Int} {tgt : Nat} (hd : decode cc pc = .ok (.if_icmp .ne off, 3)) (ht : (pc : Int) + off = (tgt : Int)) (kt : a ≠ b → K tgt lo st S F D) (kf : a = b → K (pc + 3) lo st S F D) : K pc lo (vI b :: vI a :: st) S F D := by
  obtain ⟨p, e, R, s, m, args, below, meth, c, Q, hx, hb, hml, hown, hts, hAm, hfr, hlo, hmc, hms, hin, hn0, rfl⟩ := hA
  intro H locs ls hP hS h1 h2 hl
  refine lv_icmp_ne (x := Int32.ofInt a) (y := Int32.ofInt b) (rest := st.map (vv (gH g))) hx hb hd ht (fun h => kt ?_ H locs ls hP hS h1 h2 hl) (fun h => kf ?_ H locs ls hP hS h1 h2 hl)
  all_goals (have e0 := n32_eq ha hb0; first | exact e0.mp h | exact fun q => h (e0.mpr q) | (exact Decidable.byContradiction fun q => h (fun z => q (e0.mp z))) | (have := mt e0.mpr h; omega))
theorem r_icmp_lt (hA : Act g l cls cc nL d n0 s0 mc ms ini K) {a b : Int} (ha : -2147483648 ≤ a ∧ a ≤ 2147483647) (hb0 : -2147483648 ≤ b ∧ b ≤ 2147483647) {off : Int} {tgt : Nat} (hd : decode cc pc = .ok (.if_icmp .lt off, 3)) (ht : (pc : Int) + off = (tgt : Int)) (kt : a < b → K tgt lo st S F D) (kf : b ≤ a → K (pc + 3) lo st S F D) : K pc lo (vI b :: vI a :: st) S F D := by
  obtain ⟨p, e, R, s, m, args, below, meth, c, Q, hx, hb, hml, hown, hts, hAm, hfr, hlo, hmc, hms, hin, hn0, rfl⟩ := hA
  intro H locs ls hP hS h1 h2 hl
  refine lv_icmp_lt (x := Int32.ofInt a) (y := Int32.ofInt b) (rest := st.map (vv (gH g))) hx hb hd ht (fun h => kt ?_ H locs ls hP hS h1 h2 hl) (fun h => kf ?_ H locs ls hP hS h1 h2 hl)
  all_goals (have e0 := n32_lt ha hb0; first | exact e0.mp h | exact fun q => h (e0.mpr q) | (exact Decidable.byContradiction fun q => h (fun z => q (e0.mp z))) | (have := mt e0.mpr h; omega))
theorem r_icmp_ge (hA : Act g l cls cc nL d n0 s0 mc ms ini K) {a b : Int} (ha : -2147483648 ≤ a ∧ a ≤ 2147483647) (hb0 : -2147483648 ≤ b ∧ b ≤ 2147483647) {off : Int} {tgt : Nat} (hd : decode cc pc = .ok (.if_icmp .ge off, 3)) (ht : (pc : Int) + off = (tgt : Int)) (kt : b ≤ a → K tgt lo st S F D) (kf : a < b → K (pc + 3) lo st S F D) : K pc lo (vI b :: vI a :: st) S F D := by
  obtain ⟨p, e, R, s, m, args, below, meth, c, Q, hx, hb, hml, hown, hts, hAm, hfr, hlo, hmc, hms, hin, hn0, rfl⟩ := hA
  intro H locs ls hP hS h1 h2 hl
  refine lv_icmp_ge (x := Int32.ofInt a) (y := Int32.ofInt b) (rest := st.map (vv (gH g))) hx hb hd ht (fun h => kt ?_ H locs ls hP hS h1 h2 hl) (fun h => kf ?_ H locs ls hP hS h1 h2 hl)
  all_goals (have e0 := n32_le hb0 ha; first | exact e0.mp h | exact fun q => h (e0.mpr q) | (exact Decidable.byContradiction fun q => h (fun z => q (e0.mp z))) | (have := mt e0.mpr h; omega))
theorem r_icmp_gt (hA : Act g l cls cc nL d n0 s0 mc ms ini K) {a b : Int} (ha : -2147483648 ≤ a ∧ a ≤ 2147483647) (hb0 : -2147483648 ≤ b ∧ b ≤ 2147483647) {off : Int} {tgt : Nat} (hd : decode cc pc = .ok (.if_icmp .gt off, 3)) (ht : (pc : Int) + off = (tgt : Int)) (kt : b < a → K tgt lo st S F D) (kf : a ≤ b → K (pc + 3) lo st S F D) : K pc lo (vI b :: vI a :: st) S F D := by
  obtain ⟨p, e, R, s, m, args, below, meth, c, Q, hx, hb, hml, hown, hts, hAm, hfr, hlo, hmc, hms, hin, hn0, rfl⟩ := hA
  intro H locs ls hP hS h1 h2 hl
  refine lv_icmp_gt (x := Int32.ofInt a) (y := Int32.ofInt b) (rest := st.map (vv (gH g))) hx hb hd ht (fun h => kt ?_ H locs ls hP hS h1 h2 hl) (fun h => kf ?_ H locs ls hP hS h1 h2 hl)
  all_goals (have e0 := n32_lt hb0 ha; first | exact e0.mp h | exact fun q => h (e0.mpr q) | (exact Decidable.byContradiction fun q => h (fun z => q (e0.mp z))) | (have := mt e0.mpr h; omega))
theorem r_icmp_le (hA : Act g l cls cc nL d n0 s0 mc ms ini K) {a b : Int} (ha : -2147483648 ≤ a ∧ a ≤ 2147483647) (hb0 : -2147483648 ≤ b ∧ b ≤ 2147483647) {off : Int} {tgt : Nat} (hd : decode cc pc = .ok (.if_icmp .le off, 3)) (ht : (pc : Int) + off = (tgt : Int)) (kt : a ≤ b → K tgt lo st S F D) (kf : b < a → K (pc + 3) lo st S F D) : K pc lo (vI b :: vI a :: st) S F D := by
  obtain ⟨p, e, R, s, m, args, below, meth, c, Q, hx, hb, hml, hown, hts, hAm, hfr, hlo, hmc, hms, hin, hn0, rfl⟩ := hA
  intro H locs ls hP hS h1 h2 hl
  refine lv_icmp_le (x := Int32.ofInt a) (y := Int32.ofInt b) (rest := st.map (vv (gH g))) hx hb hd ht (fun h => kt ?_ H locs ls hP hS h1 h2 hl) (fun h => kf ?_ H locs ls hP hS h1 h2 hl)
  all_goals (have e0 := n32_le ha hb0; first | exact e0.mp h | exact fun q => h (e0.mpr q) | (exact Decidable.byContradiction fun q => h (fun z => q (e0.mp z))) | (have := mt e0.mpr h; omega))
theorem r_icmp_eq_t (hA : Act g l cls cc nL d n0 s0 mc ms ini K) {a b : Int} (hab : a = b) {off : Int} {tgt : Nat} (hd : decode cc pc = .ok (.if_icmp .eq off, 3)) (ht : (pc : Int) + off = (tgt : Int)) (kt : K tgt lo st S F D) : K pc lo (vI b :: vI a :: st) S F D := by
  subst hab
  obtain ⟨p, e, R, s, m, args, below, meth, c, Q, hx, hb, hml, hown, hts, hAm, hfr, hlo, hmc, hms, hin, hn0, rfl⟩ := hA
  intro H locs ls hP hS h1 h2 hl
  exact lv_icmp_eq (x := Int32.ofInt a) (y := Int32.ofInt a) (rest := st.map (vv (gH g))) hx hb hd ht (fun h => kt H locs ls hP hS h1 h2 hl) (fun h => absurd rfl h)
theorem r_icmp_ne_f (hA : Act g l cls cc nL d n0 s0 mc ms ini K) {a b : Int} (hab : a = b) {off : Int} {tgt : Nat} (hd : decode cc pc = .ok (.if_icmp .ne off, 3)) (ht : (pc : Int) + off = (tgt : Int)) (kf : K (pc + 3) lo st S F D) : K pc lo (vI b :: vI a :: st) S F D := by
  subst hab
  obtain ⟨p, e, R, s, m, args, below, meth, c, Q, hx, hb, hml, hown, hts, hAm, hfr, hlo, hmc, hms, hin, hn0, rfl⟩ := hA
  intro H locs ls hP hS h1 h2 hl
  exact lv_icmp_ne (x := Int32.ofInt a) (y := Int32.ofInt a) (rest := st.map (vv (gH g))) hx hb hd ht (fun h => absurd rfl h) (fun h => kf H locs ls hP hS h1 h2 hl)
theorem lvh_pairs {h : Nat} {ls : Array Slot} {nL : Nat} {lo : List MV} (hl : lvh h ls nL lo) : lv_has ls nL ((lo.zipIdx.filter (fun q => decide (q.1 ≠ vN))).map (fun q => (q.2, vv h q.1))) := by
  refine ⟨hl.1, hl.2.1, fun q hq => ?_⟩
  obtain ⟨z, hz, rfl⟩ := List.mem_map.mp hq
  obtain ⟨h1, h2⟩ := List.mem_filter.mp hz
  have h3 := List.mem_zipIdx_iff_getElem?.mp h1
  exact hl.2.2 _ _ h3 (by simpa using h2)
/-- a store of a word that isn't long: a long that stood ahead of it must be given up first -/
def stOk (lo : List MV) (j : Nat) : Bool := match j with
  | 0 => true
  | i + 1 => match lo[i]? with
    | some (.inr (.inl _)) => false
    | _ => true
theorem vv_cat {h : Nat} {v : MV} (hc : (vv h v).category = 2) : ∃ x, v = vL x := by
  rcases v with x | x | x | x | x
  · cases hc
  · exact ⟨x, rfl⟩
  · cases hc
  · cases hc
  · cases hc
theorem lvh_of1 {h : Nat} {ls' : Array Slot} {nL j : Nat} {lo : List MV} {v : MV} (hok : stOk lo j = true) (e2 : lv_has ls' nL ((j, vv h v) :: ((lo.zipIdx.filter (fun q => decide (q.1 ≠ vN))).map (fun q => (q.2, vv h q.1))).filter (fun q => !(q.1 == j) && !(q.1 + 1 == j && q.2.category == 2)))) : lvh h ls' nL (lo.set j v) := by
  refine ⟨e2.1, e2.2.1, fun i w hw hn => ?_⟩
  by_cases hi : i = j
  · subst hi
    have hw2 : (lo.set i v)[i]? = some v := by
      rw [List.getElem?_set_self (by have := (List.getElem?_eq_some_iff.mp hw).1; simpa using this)]
    rw [hw2] at hw
    cases hw
    exact e2.2.2 (i, vv h v) List.mem_cons_self
  · rw [List.getElem?_set_ne (fun q => hi q.symm)] at hw
    refine e2.2.2 (i, vv h w) (List.mem_cons_of_mem _ (List.mem_filter.mpr ⟨List.mem_map.mpr ⟨(w, i), List.mem_filter.mpr ⟨List.mem_zipIdx_iff_getElem?.mpr hw, by simpa using hn⟩, rfl⟩, ?_⟩))
    simp only [Bool.and_eq_true, Bool.not_eq_true', beq_eq_false_iff_ne, ne_eq, Bool.and_eq_false_iff]
    refine ⟨hi, ?_⟩
    by_cases h3 : i + 1 = j
    · right
      intro h4
      obtain ⟨x, rfl⟩ := vv_cat h4
      subst h3
      simp [stOk, hw] at hok
    · left; exact h3
theorem lvh_of2 {h : Nat} {ls' : Array Slot} {nL j : Nat} {lo : List MV} {x : Int} (hok : stOk lo j = true) (e2 : lv_has ls' nL ((j, vv h (vL x)) :: ((lo.zipIdx.filter (fun q => decide (q.1 ≠ vN))).map (fun q => (q.2, vv h q.1))).filter (fun q => !(q.1 == j) && (!(q.1 == j + 1) && !(q.1 + 1 == j && q.2.category == 2))))) : lvh h ls' nL ((lo.set j (vL x)).set (j + 1) vN) := by
  refine ⟨e2.1, e2.2.1, fun i w hw hn => ?_⟩
  by_cases hi1 : i = j + 1
  · subst hi1
    rw [List.getElem?_set_self (by have := (List.getElem?_eq_some_iff.mp hw).1; simpa using this)] at hw
    cases hw
    exact absurd rfl hn
  rw [List.getElem?_set_ne (fun q => hi1 q.symm)] at hw
  by_cases hi : i = j
  · subst hi
    have hw2 : (lo.set i (vL x))[i]? = some (vL x) := by
      rw [List.getElem?_set_self (by have := (List.getElem?_eq_some_iff.mp hw).1; simpa using this)]
    rw [hw2] at hw
    cases hw
    exact e2.2.2 (i, vv h (vL x)) List.mem_cons_self
  · rw [List.getElem?_set_ne (fun q => hi q.symm)] at hw
    refine e2.2.2 (i, vv h w) (List.mem_cons_of_mem _ (List.mem_filter.mpr ⟨List.mem_map.mpr ⟨(w, i), List.mem_filter.mpr ⟨List.mem_zipIdx_iff_getElem?.mpr hw, by simpa using hn⟩, rfl⟩, ?_⟩))
    simp only [Bool.and_eq_true, Bool.not_eq_true', beq_eq_false_iff_ne, ne_eq, Bool.and_eq_false_iff]
    refine ⟨hi, hi1, ?_⟩
    by_cases h3 : i + 1 = j
    · right
      intro h4
      obtain ⟨x, rfl⟩ := vv_cat h4
      subst h3
      simp [stOk, hw] at hok
    · left; exact h3
theorem r_istore_n (hA : Act g l cls cc nL d n0 s0 mc ms ini K) {j : Fin 4} {x : Int} {lo2 : List MV} (hd : decode cc pc = .ok (.istore_n j, 1)) (hj : (j : Nat) < nL) (hok : stOk lo (j : Nat) = true) (hlo2 : lo.set (j : Nat) (vI x) = lo2) (k : K (pc + 1) lo2 st S F D) : K pc lo (vI x :: st) S F D := by
  obtain ⟨p, e, R, s, m, args, below, meth, c, Q, hx, hb, hml, hown, hts, hAm, hfr, hlo, hmc, hms, hin, hn0, rfl⟩ := hA
  intro H locs ls hP hS h1 h2 hl
  subst hlo2
  exact lv_istore_n hx hb hd rfl (lvh_pairs hl) hj rfl (fun ls2 e2 => k H locs ls2 hP hS h1 h2 (lvh_of1 hok e2))
theorem r_istore (hA : Act g l cls cc nL d n0 s0 mc ms ini K) {j : Nat} {x : Int} {lo2 : List MV} (hd : decode cc pc = .ok (.istore j, 2)) (hj : j < nL) (hok : stOk lo j = true) (hlo2 : lo.set j (vI x) = lo2) (k : K (pc + 2) lo2 st S F D) : K pc lo (vI x :: st) S F D := by
  obtain ⟨p, e, R, s, m, args, below, meth, c, Q, hx, hb, hml, hown, hts, hAm, hfr, hlo, hmc, hms, hin, hn0, rfl⟩ := hA
  intro H locs ls hP hS h1 h2 hl
  subst hlo2
  exact lv_istore hx hb hd  (lvh_pairs hl) hj rfl (fun ls2 e2 => k H locs ls2 hP hS h1 h2 (lvh_of1 hok e2))
theorem r_astore_n (hA : Act g l cls cc nL d n0 s0 mc ms ini K) {j : Fin 4} {x : Nat} {lo2 : List MV} (hd : decode cc pc = .ok (.astore_n j, 1)) (hj : (j : Nat) < nL) (hok : stOk lo (j : Nat) = true) (hlo2 : lo.set (j : Nat) (vR x) = lo2) (k : K (pc + 1) lo2 st S F D) : K pc lo (vR x :: st) S F D := by
  obtain ⟨p, e, R, s, m, args, below, meth, c, Q, hx, hb, hml, hown, hts, hAm, hfr, hlo, hmc, hms, hin, hn0, rfl⟩ := hA
  intro H locs ls hP hS h1 h2 hl
  subst hlo2
  exact lv_astore_n hx hb hd rfl (lvh_pairs hl) hj rfl (fun ls2 e2 => k H locs ls2 hP hS h1 h2 (lvh_of1 hok e2))
theorem r_astore (hA : Act g l cls cc nL d n0 s0 mc ms ini K) {j : Nat} {x : Nat} {lo2 : List MV} (hd : decode cc pc = .ok (.astore j, 2)) (hj : j < nL) (hok : stOk lo j = true) (hlo2 : lo.set j (vR x) = lo2) (k : K (pc + 2) lo2 st S F D) : K pc lo (vR x :: st) S F D := by
  obtain ⟨p, e, R, s, m, args, below, meth, c, Q, hx, hb, hml, hown, hts, hAm, hfr, hlo, hmc, hms, hin, hn0, rfl⟩ := hA
  intro H locs ls hP hS h1 h2 hl
  subst hlo2
  exact lv_astore hx hb hd  (lvh_pairs hl) hj rfl (fun ls2 e2 => k H locs ls2 hP hS h1 h2 (lvh_of1 hok e2))
theorem r_lstore_n (hA : Act g l cls cc nL d n0 s0 mc ms ini K) {j : Fin 4} {x : Int} {lo2 : List MV} (hd : decode cc pc = .ok (.lstore_n j, 1)) (hj : (j : Nat) + 1 < nL) (hok : stOk lo (j : Nat) = true) (hlo2 : (lo.set (j : Nat) (vL x)).set ((j : Nat) + 1) vN = lo2) (k : K (pc + 1) lo2 st S F D) : K pc lo (vL x :: st) S F D := by
  obtain ⟨p, e, R, s, m, args, below, meth, c, Q, hx, hb, hml, hown, hts, hAm, hfr, hlo, hmc, hms, hin, hn0, rfl⟩ := hA
  intro H locs ls hP hS h1 h2 hl
  subst hlo2
  exact lv_lstore_n hx hb hd rfl (lvh_pairs hl) hj rfl (fun ls2 e2 => k H locs ls2 hP hS h1 h2 (lvh_of2 hok e2))
theorem r_lstore (hA : Act g l cls cc nL d n0 s0 mc ms ini K) {j : Nat} {x : Int} {lo2 : List MV} (hd : decode cc pc = .ok (.lstore j, 2)) (hj : j + 1 < nL) (hok : stOk lo j = true) (hlo2 : (lo.set j (vL x)).set (j + 1) vN = lo2) (k : K (pc + 2) lo2 st S F D) : K pc lo (vL x :: st) S F D := by
  obtain ⟨p, e, R, s, m, args, below, meth, c, Q, hx, hb, hml, hown, hts, hAm, hfr, hlo, hmc, hms, hin, hn0, rfl⟩ := hA
  intro H locs ls hP hS h1 h2 hl
  subst hlo2
  exact lv_lstore hx hb hd  (lvh_pairs hl) hj rfl (fun ls2 e2 => k H locs ls2 hP hS h1 h2 (lvh_of2 hok e2))
theorem r_iinc (hA : Act g l cls cc nL d n0 s0 mc ms ini K) {j : Nat} {n x : Int} {lo2 : List MV} (hd : decode cc pc = .ok (.iinc j n, 3)) (hl2 : lo[j]? = some (vI x)) (hj : j < nL) (hok : stOk lo j = true) (hlo2 : lo.set j (vI (x + n)) = lo2) (k : K (pc + 3) lo2 st S F D) : K pc lo st S F D := by
  obtain ⟨p, e, R, s, m, args, below, meth, c, Q, hx, hb, hml, hown, hts, hAm, hfr, hlo, hmc, hms, hin, hn0, rfl⟩ := hA
  intro H locs ls hP hS h1 h2 hl
  subst hlo2
  have hm : (j, vv (gH g) (vI x)) ∈ (lo.zipIdx.filter (fun q => decide (q.1 ≠ vN))).map (fun q => (q.2, vv (gH g) q.1)) := List.mem_map.mpr ⟨(vI x, j), List.mem_filter.mpr ⟨List.mem_zipIdx_iff_getElem?.mpr hl2, by simp⟩, rfl⟩
  obtain ⟨i, hi⟩ := List.getElem?_of_mem hm
  exact lv_iinc hx hb hd (lvh_pairs hl) hi (Int32.ofInt_add x n).symm hj rfl (fun ls2 e2 => k H locs ls2 hP hS h1 h2 (lvh_of1 (v := vI (x + n)) hok e2))
theorem clE_obj {g : Gm} {ci n : Nat} (h : ci < 100) (Fj : Nat → Option Nat) (Dj : Int → Int) : clE g (ci, n) Fj Dj = .inr (ci, (List.range n).map (fun k => if isR ci k then rfv (gH g) (Fj k) else .int (Int32.ofInt (Dj k)))) := by
  unfold clE
  rw [if_neg (by show ¬ ci = 100; omega), if_neg (by show ¬ ci = 101; omega), if_neg (by show ¬ ci = 102; omega), if_neg (by show ¬ ci = 103; omega), if_neg (by show ¬ ci = 104; omega)]
/-- a class of ours as the rows of fields want it -/
def CK (C : String) (T : u_T) (N : Nat) : Prop := (∀ w ∈ u_ws C T N, w ∈ Wd) ∧ (∃ ty0 : Nat → FieldType, ∀ k, k < N → parseFieldDescriptor (T k).2.2.1 = some (ty0 k)) ∧ ∀ a, a < N → ∀ b, b < N → a ≠ b → (T a).2.1 ≠ (T b).2.1
/-- a field as a class' code names it -/
def Fl (cls : String) (idx ci k : Nat) (ty : FieldType) (fin : Bool) : Prop := ∃ (C : String) (T : u_T) (N : Nat), vwCl[ci]? = some (C, T, N) ∧ k < N ∧ CK C T N ∧ (parseFieldDescriptor (T k).2.2.1 = some ty ∧ (T k).2.2.2 = fin ∧ (fin = true → (T k).1 = cls)) ∧ (Cond.fieldLink cls idx (T k).1 (T k).2.1 (T k).2.2.1 ∈ Wd ∨ ∃ host : String, Cond.fieldLinkNest cls idx (T k).1 (T k).2.1 (T k).2.2.1 host ∈ Nst)
theorem fs_get {n k : Nat} {f : Nat → Value} (h : k < n) : ((List.range n).map f)[k]? = some (f k) := by
  rw [List.getElem?_map, List.getElem?_range h]; rfl
theorem r_getI (hA : Act g l cls cc nL d n0 s0 mc ms ini K) {idx ci k n a : Nat} {x : Int} {ty : FieldType} {fin : Bool} (hF : Fl cls idx ci k ty fin) (hd : decode cc pc = .ok (.getfield idx, 3)) (hs : S[a]? = some (ci, n)) (hci : ci < 100 ∧ k < n ∧ isR ci k = false) (hv : D a k = x) (kk : K (pc + 3) lo (vI x :: st) S F D) : K pc lo (vR a :: st) S F D := by
  obtain ⟨p, e, R, s, m, args, below, meth, c, Q, hx, hb, hml, hown, hts, hAm, hfr, hlo, hmc, hms, hin, hn0, rfl⟩ := hA
  intro H locs ls hP hS h1 h2 hl
  subst hv
  obtain ⟨C, T, N, hc, hk, ⟨hw, -, -⟩, -, hlk⟩ := hF
  have hg := wsO_get (g := g) (F := F) (D := D) hs
  rw [clE_obj hci.1] at hg
  rcases hlk with hlk | ⟨host, hlk⟩
  · exact va_get (v := .int (Int32.ofInt (D a k))) hx hb hts hw hown hAm.1 hP a hg hc k hk (hts _ hlk) (fun _ h => h) (by rw [fs_get hci.2.1]; simp [hci.2.2]) hd (kk H locs ls hP hS h1 h2 hl)
  · exact va_getN (v := .int (Int32.ofInt (D a k))) hx hb hts hw hown hAm.1 hP a hg hc k hk (va_Nw.use rfl (hAm.2.2.1 _ hlk)) (fun _ h => h) (by rw [fs_get hci.2.1]; simp [hci.2.2]) hd (kk H locs ls hP hS h1 h2 hl)
theorem r_getR (hA : Act g l cls cc nL d n0 s0 mc ms ini K) {idx ci k n a b : Nat} {ty : FieldType} {fin : Bool} (hF : Fl cls idx ci k ty fin) (hd : decode cc pc = .ok (.getfield idx, 3)) (hs : S[a]? = some (ci, n)) (hci : ci < 100 ∧ k < n ∧ isR ci k = true) (hv : F a k = some b) (kk : K (pc + 3) lo (vR b :: st) S F D) : K pc lo (vR a :: st) S F D := by
  obtain ⟨p, e, R, s, m, args, below, meth, c, Q, hx, hb, hml, hown, hts, hAm, hfr, hlo, hmc, hms, hin, hn0, rfl⟩ := hA
  intro H locs ls hP hS h1 h2 hl
  obtain ⟨C, T, N, hc, hk, ⟨hw, -, -⟩, -, hlk⟩ := hF
  have hg := wsO_get (g := g) (F := F) (D := D) hs
  rw [clE_obj hci.1] at hg
  rcases hlk with hlk | ⟨host, hlk⟩
  · exact va_get (v := .ref (gH g + b)) hx hb hts hw hown hAm.1 hP a hg hc k hk (hts _ hlk) (fun _ h => h) (by rw [fs_get hci.2.1]; simp [hci.2.2, hv, rfv]) hd (kk H locs ls hP hS h1 h2 hl)
  · exact va_getN (v := .ref (gH g + b)) hx hb hts hw hown hAm.1 hP a hg hc k hk (va_Nw.use rfl (hAm.2.2.1 _ hlk)) (fun _ h => h) (by rw [fs_get hci.2.1]; simp [hci.2.2, hv, rfv]) hd (kk H locs ls hP hS h1 h2 hl)
theorem clE_putI {g : Gm} {ci n k : Nat} {x : Int} {Fj : Nat → Option Nat} {D : Dat} {a : Nat} (hci : ci < 100 ∧ k < n ∧ isR ci k = false) : (Sum.inr (ci, ((List.range n).map (fun k => if isR ci k then rfv (gH g) (Fj k) else .int (Int32.ofInt (D a k)))).set k (.int (Int32.ofInt x))) : va_E) = clE g (ci, n) Fj (upD D a k x a) := by
  rw [clE_obj hci.1]
  congr 2
  apply List.ext_getElem?
  intro j
  by_cases hj : j = k
  · subst hj
    rw [List.getElem?_set_self (by simpa using hci.2.1), fs_get hci.2.1]
    simp [hci.2.2, upD]
  · rw [List.getElem?_set_ne (fun h => hj h.symm)]
    by_cases hn : j < n
    · rw [fs_get hn, fs_get hn]
      simp only [upD, if_true]
      rw [if_neg (show ¬ (j : Int) = (k : Int) by omega)]
    · rw [List.getElem?_eq_none (by simpa using hn), List.getElem?_eq_none (by simpa using hn)]
theorem clE_putR {g : Gm} {ci n k b : Nat} {F : Rfs} {Dj : Int → Int} {a : Nat} (hci : ci < 100 ∧ k < n ∧ isR ci k = true) : (Sum.inr (ci, ((List.range n).map (fun k => if isR ci k then rfv (gH g) (F a k) else .int (Int32.ofInt (Dj k)))).set k (.ref (gH g + b))) : va_E) = clE g (ci, n) (upF F a k (some b) a) Dj := by
  rw [clE_obj hci.1]
  congr 2
  apply List.ext_getElem?
  intro j
  by_cases hj : j = k
  · subst hj
    rw [List.getElem?_set_self (by simpa using hci.2.1), fs_get hci.2.1]
    simp [hci.2.2, upF, rfv]
  · rw [List.getElem?_set_ne (fun h => hj h.symm)]
    by_cases hn : j < n
    · rw [fs_get hn, fs_get hn]
      simp only [upF, if_true]
      rw [if_neg hj]
    · rw [List.getElem?_eq_none (by simpa using hn), List.getElem?_eq_none (by simpa using hn)]
theorem r_putI (hA : Act g l cls cc nL d n0 s0 mc ms ini K) {idx ci k n a : Nat} {x : Int} (hF : Fl cls idx ci k .int false) (hd : decode cc pc = .ok (.putfield idx, 3)) (hs : S[a]? = some (ci, n)) (hci : ci < 100 ∧ k < n ∧ isR ci k = false) (kk : K (pc + 3) lo st S F (upD D a k x)) : K pc lo (vI x :: vR a :: st) S F D := by
  obtain ⟨p, e, R, s, m, args, below, meth, c, Q, hx, hb, hml, hown, hts, hAm, hfr, hlo, hmc, hms, hin, hn0, rfl⟩ := hA
  intro H locs ls hP hS h1 h2 hl
  obtain ⟨C, T, N, hc, hk, ⟨hw, ⟨ty0, hty⟩, hnm⟩, ⟨hpd, hfin, -⟩, hlk⟩ := hF
  have hg := wsO_get (g := g) (F := F) (D := D) hs
  rw [clE_obj hci.1] at hg
  have kk2 : ∀ (H1 : Heap) (locs1 : List Loc), va_P (gD g) vwCl ((wsO g S F D).set a (gH g + a, .inr (ci, ((List.range n).map (fun k => if isR ci k then rfv (gH g) (F a k) else .int (Int32.ofInt (D a k)))).set k (.int (Int32.ofInt x))))) H1 → va_D (gFr g) ((wsO g S F D).set a (gH g + a, .inr (ci, ((List.range n).map (fun k => if isR ci k then rfv (gH g) (F a k) else .int (Int32.ofInt (D a k)))).set k (.int (Int32.ofInt x))))) → va_S (gFr g) s.heap H1 locs1 → W p l e R s m args below meth c H1 locs1 (S.length - n0) (szS S - s0) Q (F0 m (pc + 3) ls (st.map (vv (gH g)))) := by
    intro H1 locs1 hP1 _ hS1
    rw [wsO_ext (F' := F) (D' := upD D a k x) hs (clE_putI hci) (fun _ _ => rfl) (fun b hb => upD_other hb)] at hP1
    exact kk H1 locs1 ls hP1 hS1 h1 h2 hl
  rcases hlk with hlk | ⟨host, hlk⟩
  · exact va_put (v := .int (Int32.ofInt x)) hx hb hts hw ty0 hty hnm hown hAm.1 hP (wsO_D g S F D) hS a hg hc k hk (hts _ hlk) (fun _ h => h) hfin hpd rfl rfl (by simpa using hci.2.1) hd kk2
  · exact va_putN (v := .int (Int32.ofInt x)) hx hb hts hw ty0 hty hnm hown hAm.1 hP (wsO_D g S F D) hS a hg hc k hk (va_Nw.use rfl (hAm.2.2.1 _ hlk)) (fun _ h => h) hfin hpd rfl rfl (by simpa using hci.2.1) hd kk2
/-- a final field that is a reference, in a constructor -/
theorem r_putR (hA : Act g l cls cc nL d n0 s0 mc ms ini K) {idx ci k n a b : Nat} {ty : FieldType} (hini : ini) (hF : Fl cls idx ci k ty true) (hty2 : ∀ z : Nat, narrow ty (.ref z) = .ref z ∧ fits ty (.ref z) = true) (hown2 : ∀ (C : String) (T : u_T) (N : Nat), vwCl[ci]? = some (C, T, N) → Cond.fieldLink cls idx (T k).1 (T k).2.1 (T k).2.2.1 ∈ Wd) (hd : decode cc pc = .ok (.putfield idx, 3)) (hs : S[a]? = some (ci, n)) (hci : ci < 100 ∧ k < n ∧ isR ci k = true) (kk : K (pc + 3) lo st S (upF F a k (some b)) D) : K pc lo (vR b :: vR a :: st) S F D := by
  obtain ⟨p, e, R, s, m, args, below, meth, c, Q, hx, hb, hml, hown, hts, hAm, hfr, hlo, hmc, hms, hin, hn0, rfl⟩ := hA
  intro H locs ls hP hS h1 h2 hl
  obtain ⟨C, T, N, hc, hk, ⟨hw, ⟨ty0, hty⟩, hnm⟩, ⟨hpd, hfin, hdl⟩, -⟩ := hF
  have hg := wsO_get (g := g) (F := F) (D := D) hs
  rw [clE_obj hci.1] at hg
  refine va_putF (v := .ref (gH g + b)) hx hb hts hw ty0 hty hnm hown hAm.1 hP (wsO_D g S F D) hS a hg hc k hk (hts _ (hown2 C T N hc)) (fun _ h => h) hfin (hin hini) (hdl rfl) hpd (hty2 _).1 (hty2 _).2 (by simpa using hci.2.1) hd (fun H1 locs1 hP1 _ hS1 => ?_)
  rw [wsO_ext (F' := upF F a k (some b)) (D' := D) hs (clE_putR hci) (fun b hb => upF_other hb) (fun _ _ => rfl)] at hP1
  exact kk H1 locs1 ls hP1 hS1 h1 h2 hl
/-- a whole number as a place of a row -/
theorem vin {i : Int} {n : Nat} (h : 0 ≤ i ∧ i < n) (hn : n < 2147483648) : vp_in (Int32.ofInt i) n ∧ (Int32.ofInt i).toNatClampNeg = i.toNat := by
  have e := n32_in (a := i) (by omega)
  have e2 : (Int32.ofInt i).toNatClampNeg = i.toNat := by
    rw [Int32.toNatClampNeg, e]
  exact ⟨vp_in_iff.mpr (by rw [e]; omega), e2⟩
theorem clE_i {g : Gm} {n : Nat} (Fj : Nat → Option Nat) (Dj : Int → Int) : clE g (100, n) Fj Dj = .inl (gC g 0, n, .inl (fun i => Int32.ofInt (Dj i))) := rfl
theorem clE_l {g : Gm} {n : Nat} (Fj : Nat → Option Nat) (Dj : Int → Int) : clE g (101, n) Fj Dj = .inl (gC g 1, n, .inr (.inl (fun i => Int64.ofInt (Dj i)))) := rfl
theorem clE_z {g : Gm} {n : Nat} (Fj : Nat → Option Nat) (Dj : Int → Int) : clE g (102, n) Fj Dj = .inl (gC g 2, n, .inl (fun i => Int32.ofInt (Dj i))) := rfl
theorem upD_i {D : Dat} {a : Nat} {i x : Int} (hi : 0 ≤ i) : (fun j : Nat => Int32.ofInt (upD D a i x a j)) = upd (fun j : Nat => Int32.ofInt (D a j)) i.toNat (Int32.ofInt x) := by
  funext j
  unfold upD upd
  by_cases h : j = i.toNat
  · rw [if_pos rfl, if_pos (by omega), if_pos h]
  · rw [if_pos rfl, if_neg (by omega), if_neg h]
theorem upD_l {D : Dat} {a : Nat} {i x : Int} (hi : 0 ≤ i) : (fun j : Nat => Int64.ofInt (upD D a i x a j)) = vp_updL (fun j : Nat => Int64.ofInt (D a j)) i.toNat (Int64.ofInt x) := by
  funext j
  unfold upD vp_updL
  by_cases h : j = i.toNat
  · rw [if_pos rfl, if_pos (by omega), if_pos h]
  · rw [if_pos rfl, if_neg (by omega), if_neg h]
theorem r_iald (hA : Act g l cls cc nL d n0 s0 mc ms ini K) {n a : Nat} {i x : Int} (hd : decode cc pc = .ok (.iaload, 1)) (hs : S[a]? = some (100, n)) (hi : 0 ≤ i ∧ i < n) (hn : n < 2147483648) (hv : D a i = x) (kk : K (pc + 1) lo (vI x :: st) S F D) : K pc lo (vI i :: vR a :: st) S F D := by
  obtain ⟨p, e, R, s, m, args, below, meth, c, Q, hx, hb, hml, hown, hts, hAm, hfr, hlo, hmc, hms, hin, hn0, rfl⟩ := hA
  intro H locs ls hP hS h1 h2 hl
  subst hv
  have hg := wsO_get (g := g) (F := F) (D := D) hs
  rw [clE_i] at hg
  have hj := vin hi hn
  refine va_iald hx hb hAm.1 hP a 0 hg rfl hj.1 hd ?_
  rw [hj.2, Int.toNat_of_nonneg hi.1]
  exact kk H locs ls hP hS h1 h2 hl
theorem r_lald (hA : Act g l cls cc nL d n0 s0 mc ms ini K) {n a : Nat} {i x : Int} (hd : decode cc pc = .ok (.laload, 1)) (hs : S[a]? = some (101, n)) (hi : 0 ≤ i ∧ i < n) (hn : n < 2147483648) (hv : D a i = x) (kk : K (pc + 1) lo (vL x :: st) S F D) : K pc lo (vI i :: vR a :: st) S F D := by
  obtain ⟨p, e, R, s, m, args, below, meth, c, Q, hx, hb, hml, hown, hts, hAm, hfr, hlo, hmc, hms, hin, hn0, rfl⟩ := hA
  intro H locs ls hP hS h1 h2 hl
  subst hv
  have hg := wsO_get (g := g) (F := F) (D := D) hs
  rw [clE_l] at hg
  have hj := vin hi hn
  refine va_lald hx hb hAm.1 hP a 1 hg rfl hj.1 hd ?_
  rw [hj.2, Int.toNat_of_nonneg hi.1]
  exact kk H locs ls hP hS h1 h2 hl
theorem r_zald (hA : Act g l cls cc nL d n0 s0 mc ms ini K) {n a : Nat} {i x : Int} (hd : decode cc pc = .ok (.baload, 1)) (hs : S[a]? = some (102, n)) (hi : 0 ≤ i ∧ i < n) (hn : n < 2147483648) (hv : D a i = x) (kk : K (pc + 1) lo (vI x :: st) S F D) : K pc lo (vI i :: vR a :: st) S F D := by
  obtain ⟨p, e, R, s, m, args, below, meth, c, Q, hx, hb, hml, hown, hts, hAm, hfr, hlo, hmc, hms, hin, hn0, rfl⟩ := hA
  intro H locs ls hP hS h1 h2 hl
  subst hv
  have hg := wsO_get (g := g) (F := F) (D := D) hs
  rw [clE_z] at hg
  have hj := vin hi hn
  refine va_zald hx hb hAm.1 hP a 2 hg rfl hj.1 hd ?_
  rw [hj.2, Int.toNat_of_nonneg hi.1]
  exact kk H locs ls hP hS h1 h2 hl
theorem r_iast (hA : Act g l cls cc nL d n0 s0 mc ms ini K) {n a : Nat} {i x : Int} (hd : decode cc pc = .ok (.iastore, 1)) (hs : S[a]? = some (100, n)) (hi : 0 ≤ i ∧ i < n) (hn : n < 2147483648) (kk : K (pc + 1) lo st S F (upD D a i x)) : K pc lo (vI x :: vI i :: vR a :: st) S F D := by
  obtain ⟨p, e, R, s, m, args, below, meth, c, Q, hx, hb, hml, hown, hts, hAm, hfr, hlo, hmc, hms, hin, hn0, rfl⟩ := hA
  intro H locs ls hP hS h1 h2 hl
  have hg := wsO_get (g := g) (F := F) (D := D) hs
  rw [clE_i] at hg
  have hj := vin hi hn
  refine va_iast hx hb hAm.1 hP (wsO_D g S F D) hS a 0 hg rfl hj.1 hd (fun H1 locs1 hP1 _ hS1 => ?_)
  rw [wsO_ext (F' := F) (D' := upD D a i x) hs (by rw [clE_i, upD_i hi.1, hj.2]) (fun _ _ => rfl) (fun b hb => upD_other hb)] at hP1
  exact kk H1 locs1 ls hP1 hS1 h1 h2 hl
theorem r_last (hA : Act g l cls cc nL d n0 s0 mc ms ini K) {n a : Nat} {i x : Int} (hd : decode cc pc = .ok (.lastore, 1)) (hs : S[a]? = some (101, n)) (hi : 0 ≤ i ∧ i < n) (hn : n < 2147483648) (kk : K (pc + 1) lo st S F (upD D a i x)) : K pc lo (vL x :: vI i :: vR a :: st) S F D := by
  obtain ⟨p, e, R, s, m, args, below, meth, c, Q, hx, hb, hml, hown, hts, hAm, hfr, hlo, hmc, hms, hin, hn0, rfl⟩ := hA
  intro H locs ls hP hS h1 h2 hl
  have hg := wsO_get (g := g) (F := F) (D := D) hs
  rw [clE_l] at hg
  have hj := vin hi hn
  refine va_last hx hb hAm.1 hP (wsO_D g S F D) hS a 1 hg rfl hj.1 hd (fun H1 locs1 hP1 _ hS1 => ?_)
  rw [wsO_ext (F' := F) (D' := upD D a i x) hs (by rw [clE_l, upD_l hi.1, hj.2]) (fun _ _ => rfl) (fun b hb => upD_other hb)] at hP1
  exact kk H1 locs1 ls hP1 hS1 h1 h2 hl
theorem r_zast (hA : Act g l cls cc nL d n0 s0 mc ms ini K) {n a : Nat} {i x : Int} (hd : decode cc pc = .ok (.bastore, 1)) (hs : S[a]? = some (102, n)) (hi : 0 ≤ i ∧ i < n) (hn : n < 2147483648) (h01 : x = 0 ∨ x = 1) (kk : K (pc + 1) lo st S F (upD D a i x)) : K pc lo (vI x :: vI i :: vR a :: st) S F D := by
  obtain ⟨p, e, R, s, m, args, below, meth, c, Q, hx, hb, hml, hown, hts, hAm, hfr, hlo, hmc, hms, hin, hn0, rfl⟩ := hA
  intro H locs ls hP hS h1 h2 hl
  have hg := wsO_get (g := g) (F := F) (D := D) hs
  rw [clE_z] at hg
  have hj := vin hi hn
  have hna : vp_nar .boolean (Int32.ofInt x) = Int32.ofInt x := by rcases h01 with rfl | rfl <;> decide +kernel
  refine va_zast hx hb hAm.1 hP (wsO_D g S F D) hS a 2 hg rfl hj.1 hd (fun H1 locs1 hP1 _ hS1 => ?_)
  rw [wsO_ext (F' := F) (D' := upD D a i x) hs (by rw [clE_z, upD_i hi.1, hj.2, hna]) (fun _ _ => rfl) (fun b hb => upD_other hb)] at hP1
  exact kk H1 locs1 ls hP1 hS1 h1 h2 hl
theorem r_aald (hA : Act g l cls cc nL d n0 s0 mc ms ini K) {n a b : Nat} {i : Int} {kd : Nat} (hkd : kd = 103 ∨ kd = 104) (hd : decode cc pc = .ok (.aaload, 1)) (hs : S[a]? = some (kd, n)) (hi : 0 ≤ i ∧ i < n) (hn : n < 2147483648) (hv : F a i.toNat = some b) (kk : K (pc + 1) lo (vR b :: st) S F D) : K pc lo (vI i :: vR a :: st) S F D := by
  obtain ⟨p, e, R, s, m, args, below, meth, c, Q, hx, hb, hml, hown, hts, hAm, hfr, hlo, hmc, hms, hin, hn0, rfl⟩ := hA
  intro H locs ls hP hS h1 h2 hl
  have hg := wsO_get (g := g) (F := F) (D := D) hs
  have hj := vin hi hn
  rcases hkd with rfl | rfl
  · refine va_aldq hx hb hAm.1 hP a 3 hg rfl hj.1 hd ?_
    rw [hj.2, hv]
    exact kk H locs ls hP hS h1 h2 hl
  · refine va_aldq hx hb hAm.1 hP a 4 hg rfl hj.1 hd ?_
    rw [hj.2, hv]
    exact kk H locs ls hP hS h1 h2 hl
theorem r_alen (hA : Act g l cls cc nL d n0 s0 mc ms ini K) {n a kd : Nat} (hkd : kd = 100 ∨ kd = 101 ∨ kd = 103) (hd : decode cc pc = .ok (.arraylength, 1)) (hs : S[a]? = some (kd, n)) (kk : K (pc + 1) lo (vI n :: st) S F D) : K pc lo (vR a :: st) S F D := by
  obtain ⟨p, e, R, s, m, args, below, meth, c, Q, hx, hb, hml, hown, hts, hAm, hfr, hlo, hmc, hms, hin, hn0, rfl⟩ := hA
  intro H locs ls hP hS h1 h2 hl
  have hg := wsO_get (g := g) (F := F) (D := D) hs
  have k2 := kk H locs ls hP hS h1 h2 hl
  rcases hkd with rfl | rfl | rfl
  · exact va_alen hx hb hAm.1 hP a 0 hg rfl Int32.ofInt_eq_ofNat.symm hd k2
  · exact va_alen hx hb hAm.1 hP a 1 hg rfl Int32.ofInt_eq_ofNat.symm hd k2
  · exact va_alen hx hb hAm.1 hP a 3 hg rfl Int32.ofInt_eq_ofNat.symm hd k2
/-- the read-only rows: three static ones, the script -/
theorem r_gets (hA : Act g l cls cc nL d n0 s0 mc ms ini K) {idx k a : Nat} (hk : k < 3) (hl0 : Cond.fieldLink cls idx RX3 (stN k) "[I" ∈ Wd) (ha : gA g k = a) (hd : decode cc pc = .ok (.getstatic idx, 3)) (kk : K (pc + 3) lo (vZ a :: st) S F D) : K pc lo st S F D := by
  obtain ⟨p, e, R, s, m, args, below, meth, c, Q, hx, hb, hml, hown, hts, hAm, hfr, hlo, hmc, hms, hin, hn0, rfl⟩ := hA
  intro H locs ls hP hS h1 h2 hl
  subst ha
  exact va_gets hx hb (hAm.2.2.2.1 k hk).1 hS hown (hts _ hl0) (fun _ h => h) hd (kk H locs ls hP hS h1 h2 hl)
theorem r_ialdS (hA : Act g l cls cc nL d n0 s0 mc ms ini K) {k a : Nat} {i x : Int} (hk : k < 3) (ha : gA g k = a) (hd : decode cc pc = .ok (.iaload, 1)) (hi : 0 ≤ i ∧ i < 6) (hv : stV k i.toNat = x) (kk : K (pc + 1) lo (vI x :: st) S F D) : K pc lo (vI i :: vZ a :: st) S F D := by
  obtain ⟨p, e, R, s, m, args, below, meth, c, Q, hx, hb, hml, hown, hts, hAm, hfr, hlo, hmc, hms, hin, hn0, rfl⟩ := hA
  intro H locs ls hP hS h1 h2 hl
  subst ha; subst hv
  have hj := vin (i := i) (n := 6) (by omega) (by omega)
  exact va_ti (v := .int (Int32.ofInt (stV k i.toNat))) hx hb (hAm.2.2.2.1 k hk).2 hS hj.1 (by show Value.int _ = _; rw [hj.2]) hd (kk H locs ls hP hS h1 h2 hl)
theorem r_alenS (hA : Act g l cls cc nL d n0 s0 mc ms ini K) {k a : Nat} (hk : k < 3) (ha : gA g k = a) (hd : decode cc pc = .ok (.arraylength, 1)) (kk : K (pc + 1) lo (vI 6 :: st) S F D) : K pc lo (vZ a :: st) S F D := by
  obtain ⟨p, e, R, s, m, args, below, meth, c, Q, hx, hb, hml, hown, hts, hAm, hfr, hlo, hmc, hms, hin, hn0, rfl⟩ := hA
  intro H locs ls hP hS h1 h2 hl
  subst ha
  exact va_tlen hx hb (hAm.2.2.2.1 k hk).2 hS rfl hd (kk H locs ls hP hS h1 h2 hl)
theorem r_ialdX (hA : Act g l cls cc nL d n0 s0 mc ms ini K) {a : Nat} {i x : Int} (ha : (gX g).1 = a) (hd : decode cc pc = .ok (.iaload, 1)) (hi : 0 ≤ i ∧ i < ((gX g).2.1 : Nat)) (hn : (gX g).2.1 < 2147483648) (hv : (gX g).2.2 i.toNat = x) (kk : K (pc + 1) lo (vI x :: st) S F D) : K pc lo (vI i :: vZ a :: st) S F D := by
  obtain ⟨p, e, R, s, m, args, below, meth, c, Q, hx, hb, hml, hown, hts, hAm, hfr, hlo, hmc, hms, hin, hn0, rfl⟩ := hA
  intro H locs ls hP hS h1 h2 hl
  subst ha; subst hv
  have hj := vin hi hn
  exact va_ti (v := .int (Int32.ofInt ((gX g).2.2 i.toNat))) hx hb hAm.2.2.2.2.1 hS hj.1 (by show Value.int _ = _; rw [hj.2]) hd (kk H locs ls hP hS h1 h2 hl)
theorem r_alenX (hA : Act g l cls cc nL d n0 s0 mc ms ini K) {a : Nat} (ha : (gX g).1 = a) (hd : decode cc pc = .ok (.arraylength, 1)) (kk : K (pc + 1) lo (vI ((gX g).2.1 : Nat) :: st) S F D) : K pc lo (vZ a :: st) S F D := by
  obtain ⟨p, e, R, s, m, args, below, meth, c, Q, hx, hb, hml, hown, hts, hAm, hfr, hlo, hmc, hms, hin, hn0, rfl⟩ := hA
  intro H locs ls hP hS h1 h2 hl
  subst ha
  exact va_tlen hx hb hAm.2.2.2.2.1 hS Int32.ofInt_eq_ofNat.symm hd (kk H locs ls hP hS h1 h2 hl)
theorem r_ldc (hA : Act g l cls cc nL d n0 s0 mc ms ini K) {idx : Nat} {v : Int} (hc : Cond.constant cls idx (Int32.ofInt v) ∈ Wd) (hd : decode cc pc = .ok (.ldc idx, 2)) (kk : K (pc + 2) lo (vI v :: st) S F D) : K pc lo st S F D := by
  obtain ⟨p, e, R, s, m, args, below, meth, c, Q, hx, hb, hml, hown, hts, hAm, hfr, hlo, hmc, hms, hin, hn0, rfl⟩ := hA
  intro H locs ls hP hS h1 h2 hl
  exact lv_ldc hx hb hown (hts _ hc) hd (kk H locs ls hP hS h1 h2 hl)
theorem r_ldcw (hA : Act g l cls cc nL d n0 s0 mc ms ini K) {idx : Nat} {v : Int} (hc : Cond.constant cls idx (Int32.ofInt v) ∈ Wd) (hd : decode cc pc = .ok (.ldc_w idx, 3)) (kk : K (pc + 3) lo (vI v :: st) S F D) : K pc lo st S F D := by
  obtain ⟨p, e, R, s, m, args, below, meth, c, Q, hx, hb, hml, hown, hts, hAm, hfr, hlo, hmc, hms, hin, hn0, rfl⟩ := hA
  intro H locs ls hP hS h1 h2 hl
  exact lv_ldcw hx hb hown (hts _ hc) hd (kk H locs ls hP hS h1 h2 hl)
theorem r_ldc2 (hA : Act g l cls cc nL d n0 s0 mc ms ini K) {idx : Nat} {v : Int} (hc : Cond.constantLong cls idx (Int64.ofInt v) ∈ Wd) (hd : decode cc pc = .ok (.ldc2_w idx, 3)) (kk : K (pc + 3) lo (vL v :: st) S F D) : K pc lo st S F D := by
  obtain ⟨p, e, R, s, m, args, below, meth, c, Q, hx, hb, hml, hown, hts, hAm, hfr, hlo, hmc, hms, hin, hn0, rfl⟩ := hA
  intro H locs ls hP hS h1 h2 hl
  exact lv_ldc2 hx hb hown (hts _ hc) hd (kk H locs ls hP hS h1 h2 hl)
theorem r_tblIn (hA : Act g l cls cc nL d n0 s0 mc ms ini K) {dflt lw hi : Int} {offs : Array Int} {len tgt : Nat} {off x : Int} (hx0 : -2147483648 ≤ x ∧ x ≤ 2147483647) (hd : decode cc pc = .ok (.tableswitch dflt lw hi offs, len)) (h : lw ≤ x ∧ x ≤ hi) (ho : offs[(x - lw).toNat]? = some off) (ht : (pc : Int) + off = (tgt : Int)) (kk : K tgt lo st S F D) : K pc lo (vI x :: st) S F D := by
  obtain ⟨p, e, R, s, m, args, below, meth, c, Q, hx, hb, hml, hown, hts, hAm, hfr, hlo, hmc, hms, hin, hn0, rfl⟩ := hA
  intro H locs ls hP hS h1 h2 hl
  exact lv_tableIn (x := Int32.ofInt x) hx hb hd (by rw [n32_in hx0]; omega) (by rw [n32_in hx0]; omega) (by rw [n32_in hx0]; exact ho) ht (kk H locs ls hP hS h1 h2 hl)
theorem r_tblOut (hA : Act g l cls cc nL d n0 s0 mc ms ini K) {dflt lw hi : Int} {offs : Array Int} {len tgt : Nat} {x : Int} (hx0 : -2147483648 ≤ x ∧ x ≤ 2147483647) (hd : decode cc pc = .ok (.tableswitch dflt lw hi offs, len)) (h : x < lw ∨ hi < x) (ht : (pc : Int) + dflt = (tgt : Int)) (kk : K tgt lo st S F D) : K pc lo (vI x :: st) S F D := by
  obtain ⟨p, e, R, s, m, args, below, meth, c, Q, hx, hb, hml, hown, hts, hAm, hfr, hlo, hmc, hms, hin, hn0, rfl⟩ := hA
  intro H locs ls hP hS h1 h2 hl
  exact lv_tableOut (x := Int32.ofInt x) hx hb hd (by rw [n32_in hx0]; omega) ht (kk H locs ls hP hS h1 h2 hl)
theorem r_look (hA : Act g l cls cc nL d n0 s0 mc ms ini K) {dflt off x : Int} {ps : Array (Int × Int)} {len tgt : Nat} (hx0 : -2147483648 ≤ x ∧ x ≤ 2147483647) (hd : decode cc pc = .ok (.lookupswitch dflt ps, len)) (hp : (ps.toList.zip (ps.toList.drop 1)).all (fun (a, next) => a.1 < next.1) = true) (ho : Op.lookupswitch.offset ps.toList dflt x = off) (ht : (pc : Int) + off = (tgt : Int)) (kk : K tgt lo st S F D) : K pc lo (vI x :: st) S F D := by
  obtain ⟨p, e, R, s, m, args, below, meth, c, Q, hx, hb, hml, hown, hts, hAm, hfr, hlo, hmc, hms, hin, hn0, rfl⟩ := hA
  intro H locs ls hP hS h1 h2 hl
  exact lv_lookup (x := Int32.ofInt x) hx hb hd hp (by rw [n32_in hx0]; exact ho) ht (kk H locs ls hP hS h1 h2 hl)

end MRows
end
section
/-! contracts over the one memory, calls, new cells -/
theorem wdGood : ∀ w ∈ Wd, (w.onTables && w.keeps) = true ∨ ∃ ty, w = .arrayClass ty := fun w h => good_of_word (List.mem_filter.mp h).2
theorem nst_warm {w : Cond} (hw : w ∈ Nst) {s U : State} (hW : s.WarmedH U.vm) (h : va_Nw w s) : va_Nw w U := by
  have h1 := (List.mem_filter.mp hw).2
  cases w <;> first | exact va_Nw.warmF hW h | exact va_Nw.warmM hW h | exact absurd h1 (by simp [isNw])
theorem nst_tab {w : Cond} (hw : w ∈ Nst) : w.onTables = true := by
  have h1 := (List.mem_filter.mp hw).2
  cases w <;> first | rfl | exact absurd h1 (by simp [isNw])
theorem Amb.warm {g : Gm} {s U : State} {H : Heap} {locs : List Loc} (h : Amb g s) (hW : s.WarmedH U.vm) (hS : va_S (gFr g) s.heap H locs) (hU : U.heap = H) : Amb g U := by
  obtain ⟨a1, a2, a3, a4, a5, a6, a7⟩ := h
  have hk : ∀ a : Nat, a < s.heap.size → ¬ gFr g a → U.heap[a]? = s.heap[a]? := fun a h1 h2 => by rw [hU]; exact hS.2.1 a h1 h2
  refine ⟨va_K.moved hW.alike a1, by rw [hU]; exact Nat.le_trans a2 hS.1, fun w hw => nst_warm hw hW (a3 w hw), fun k hk3 => ⟨((a4 k hk3).1.kept hk).moved hW.alike, ((a4 k hk3).2.kept hk).moved hW.alike⟩, (a5.kept hk).moved hW.alike, a6.moved hW.alike, a7.moved hW.alike⟩
theorem Amb.calling {g : Gm} {U : State} {fr : JFrame} {mk : MethodId} {a : Array Value} (h : Amb g U) : Amb g (U.calling fr mk a) := by
  obtain ⟨a1, a2, a3, a4, a5, a6, a7⟩ := h
  exact ⟨va_K.moved (u := U) (U := U.calling fr mk a) (Vm.Alike.refl U.vm) a1, a2, fun w hw => va_Nw.same (u := U) (U := U.calling fr mk a) (nst_tab hw) rfl (a3 w hw), fun k hk3 => ⟨va_Z.moved (u := U) (U := U.calling fr mk a) (Vm.Alike.refl U.vm) (a4 k hk3).1, va_T.moved (u := U) (U := U.calling fr mk a) (Vm.Alike.refl U.vm) (a4 k hk3).2⟩, va_T.moved (u := U) (U := U.calling fr mk a) (Vm.Alike.refl U.vm) a5, va_AO.moved (u := U) (U := U.calling fr mk a) (Vm.Alike.refl U.vm) a6, va_AO.moved (u := U) (U := U.calling fr mk a) (Vm.Alike.refl U.vm) a7⟩
def rmO (d mc ms : Nat) : Room := { frames := d, cells := mc, slots := ms, locals := 64 * d }
abbrev QT : Type := Option MV → Shp → Rfs → Dat → Prop
def Pcn (g : Gm) (As : List MV) (S : Shp) (F : Rfs) (D : Dat) : Array Value → State → Prop := fun v U => v = (As.map (vv (gH g))).toArray ∧ Amb g U ∧ va_P (gD g) vwCl (wsO g S F D) U.heap ∧ U.heap.size = gH g + S.length
def Qcn (g : Gm) (S : Shp) (mc ms : Nat) (Q : QT) : Array Value → State → Outcome → State → Prop := fun _ st o t =>
  (∃ (r : Option MV) (S1 : Shp) (F1 : Rfs) (D1 : Dat), o = .returned (r.map (vv (gH g))) ∧ Q r S1 F1 D1 ∧ va_P (gD g) vwCl (wsO g S1 F1 D1) t.heap ∧ S1.length = S.length + mc ∧ szS S1 = szS S + ms) ∧ va_F (gFr g) st t
abbrev Mth : Type := MethodName × ByteArray × Nat × Option FieldType
/-- the contract of a method, called with these arguments over this memory: it returns, and Q holds of the answer and of the memory then -/
def Cn (g : Gm) (l : Launch) (d mc ms : Nat) (M : Mth) (As : List MV) (S : Shp) (F : Rfs) (D : Dat) (Q : QT) : Prop :=
  Met l M.1 (.code M.1 M.2.1 M.2.2.1 M.2.2.2 :: Wd) (rmO d mc ms) (Pcn g As S F D) (Qcn g S mc ms Q) mc ms (gFr g)
theorem Pcn.blind {g : Gm} {As : List MV} {S : Shp} {F : Rfs} {D : Dat} : FrameBlind (Pcn g As S F D) := fun a U fr mk ⟨h1, h2, h3, h4⟩ => ⟨h1, h2.calling, h3, h4⟩
/-- what a call of a method wants of the tables -/
def Mok (M : Mth) (n : Nat) : Prop := Cond.code M.1 M.2.1 M.2.2.1 M.2.2.2 ∈ Wd ∧ Cond.initialized M.1.cls ∈ Wd ∧ (M.1.cls ≠ "java/lang/invoke/MethodHandle" ∧ M.1.cls ≠ "java/lang/invoke/VarHandle" ∧ (parseMethodDescriptor M.1.desc).map (fun d => d.parameters.length) = some n) ∧ M.2.2.1 ≤ 40
def MokV (M : Mth) (C : String) (n : Nat) : Prop := Mok M n ∧ Cond.instanceMethod M.1 ∈ Wd ∧ Cond.selects C M.1 M.1 ∈ Wd
def MokS (M : Mth) (n : Nat) : Prop := Mok M n ∧ Cond.static M.1 ∈ Wd
def MokI (M : Mth) (n : Nat) : Prop := Mok M n ∧ Cond.instanceMethod M.1 ∈ Wd ∧ M.1.name = "<init>" ∧ M.2.2.2 = none
/-- a method as a class' code names it -/
def Lk (cls : String) (idx : Nat) (M : Mth) : Prop := Cond.methodLink cls idx M.1 ∈ Wd ∨ ∃ host : String, Cond.methodLinkNest cls idx M.1 host ∈ Nst
theorem wdIn (M : Mth) (h : Cond.code M.1 M.2.1 M.2.2.1 M.2.2.2 ∈ Wd) : GoodIn Wd (.code M.1 M.2.1 M.2.2.1 M.2.2.2 :: Wd) := by
  intro w hw
  rcases List.mem_cons.mp hw with rfl | hw
  · exact ⟨h, wdGood _ h⟩
  · exact ⟨hw, wdGood _ hw⟩
section MCalls
variable {p : Program} {l : Launch} {e : Env} {R : Room} {s : State} {m : MethodId} {args : Array Value} {below : List Frame} {meth : Method} {c : Code} {H : Heap} {locs : List Loc}
theorem k_size {g : Gm} {S : Shp} {F : Rfs} {D : Dat} {T : State} {n0 sl : Nat} (hP : va_P (gD g) vwCl (wsO g S F D) H) (hS : va_S (gFr g) s.heap H locs) (h1 : n0 ≤ S.length) (hn0 : s.heap.size = gH g + n0) (hT : T.heap = H) (X : Stand p l e R s m args below meth c T locs (S.length - n0) sl) : H.size = gH g + S.length := by
  have e1 : T.heap.size ≤ s.heap.size + (S.length - n0) := X.same.2.2.1
  have e2 : s.heap.size ≤ H.size := hS.1
  rw [hT] at e1
  by_cases hz : S.length = 0
  · omega
  · have hl : S.length - 1 < S.length := by omega
    have hg := wsO_get (g := g) (F := F) (D := D) (List.getElem?_eq_getElem hl)
    have := (hP _ _ hg).lt
    dsimp at this
    omega
/-- behind a call of any kind -/
theorem k_call {g : Gm} {n0 s0 nL : Nat} {Q : State → Prop} {S : Shp} {F : Rfs} {D : Dat} {mc ms pc : Nat} {st0 st : List MV} {lo : List MV} {ls : Array Slot} {A9 : Array Value} {Qc : QT}
    (hr : va_Run p l e R s m args below meth c H locs (S.length - n0) (szS S - s0) mc ms (F0 m pc ls (st0.map (vv (gH g)))) (st.map (vv (gH g))) (Qcn g S mc ms Qc A9) (gFr g)) (hS : va_S (gFr g) s.heap H locs) (h1 : n0 ≤ S.length) (h2 : s0 ≤ szS S) (hl : lvh (gH g) ls nL lo)
    (k : ∀ (r : Option MV) (S1 : Shp) (F1 : Rfs) (D1 : Dat), Qc r S1 F1 D1 → KW g n0 s0 nL p l e R s m args below meth c Q (pc + 3) lo (r.toList ++ st) S1 F1 D1) : W p l e R s m args below meth c H locs (S.length - n0) (szS S - s0) Q (F0 m pc ls (st0.map (vv (gH g)))) := by
  intro T hT X
  obtain ⟨v, st₀, t, T', L, h0, X', hL, e1, e2, ⟨⟨r, S1, F1, D1, hv, hq, hP1, hl1, hs1⟩, hz, hk⟩, stp⟩ := hr T hT X
  cases hv
  rw [h0] at hz hk
  have hS1 : va_S (gFr g) s.heap T'.heap (locs ++ L) := by
    refine ⟨Nat.le_trans hS.1 (by rw [e1]; exact hz), fun q h1 h2 => ?_, fun q hq => ?_⟩
    · rw [e1, hk q (Nat.lt_of_lt_of_le h1 hS.1) h2]; exact hS.2.1 q h1 h2
    · rcases List.mem_append.mp hq with h | h
      · exact hS.2.2 q h
      · exact hL q h
  have X2 : Stand p l e R s m args below meth c T' (locs ++ L) (S1.length - n0) (szS S1 - s0) := by
    have c1 : S.length - n0 + mc = S1.length - n0 := by omega
    have c2 : szS S - s0 + ms = szS S1 - s0 := by omega
    rw [← c1, ← c2]; exact X'
  obtain ⟨t2, a1, b1⟩ := k r S1 F1 D1 hq T'.heap (locs ++ L) ls (by rw [e1]; exact hP1) hS1 (by omega) (by omega) hl T' rfl X2
  refine ⟨t2, stp t2 ?_, b1⟩
  have : (r.map (vv (gH g))).toList ++ st.map (vv (gH g)) = (r.toList ++ st).map (vv (gH g)) := by
    cases r <;> rfl
  rw [this]
  exact a1
end MCalls
section MRows2
variable {g : Gm} {l : Launch} {cls : String} {cc : ByteArray} {nL d n0 s0 mc ms : Nat} {ini : Prop} {K : KT} {pc : Nat} {lo st : List MV} {S : Shp} {F : Rfs} {D : Dat}
/-- the words that stay on the stack under a call -/
def catS (st : List MV) : Nat := (st.map (fun v => match v with | .inr (.inl _) => 2 | _ => 1)).sum
theorem catS_vv (h : Nat) : ∀ st : List MV, ((st.map (vv h)).map fun v => v.category).sum = catS st
  | [] => rfl
  | v :: st => by
    have ih := catS_vv h st
    simp only [List.map_cons, List.sum_cons, catS] at ih ⊢
    rw [ih]
    rcases v with x | x | x | x | x <;> rfl
theorem r_callV (hA : Act g l cls cc nL d n0 s0 mc ms ini K) {idx d2 mc2 ms2 n ci b k : Nat} {M : Mth} {As st0 : List MV} {C : String} {T : u_T} {N : Nat} {Qc : QT} (hL : Lk cls idx M) (hM : MokV M C n) (hC : Cn g l d2 mc2 ms2 M (vR b :: As) S F D Qc) (hd : decode cc pc = .ok (.invokevirtual idx, 3)) (hst : As.reverse ++ vR b :: st = st0) (hn : As.length = n) (hs : S[b]? = some (ci, k)) (hci : ci < 100) (hcl : vwCl[ci]? = some (C, T, N)) (hcat : catS st ≤ 8) (hdd : d2 + 1 ≤ d) (hroom : S.length - n0 + mc2 ≤ mc ∧ szS S - s0 + ms2 ≤ ms) (kk : ∀ (r : Option MV) (S1 : Shp) (F1 : Rfs) (D1 : Dat), Qc r S1 F1 D1 → K (pc + 3) lo (r.toList ++ st) S1 F1 D1) : K pc lo st0 S F D := by
  obtain ⟨p, e, R, s, m, args, below, meth, c, Q, hx, hb, hml, hown, hts, hAm, hfr, hlo, hmc, hms, hin, hn0, rfl⟩ := hA
  intro H locs ls hP hS h1 h2 hl T0 hT X0
  have hsz := k_size hP hS h1 hn0 hT X0
  revert T0
  intro T0 hT X0
  subst hst
  obtain ⟨⟨hcd, hini, hnm, hmx⟩, hinst, hsel⟩ := hM
  have hg := wsO_get (g := g) (F := F) (D := D) hs
  rw [clE_obj hci] at hg
  have hp : PreV s H C (gH g + b) (Pcn g (vR b :: As) S F D) (As.map (vv (gH g))) := ⟨Pcn.blind, va_recv hAm.1 hP hcl hg, fun U hU hW => ⟨rfl, hAm.warm hW hS hU, by rw [hU]; exact hP, by rw [hU]; exact hsz⟩⟩
  have hR : (rmO d2 mc2 ms2).frames + 1 ≤ R.frames ∧ 8 + (M.2.2.1 + 11) + (rmO d2 mc2 ms2).locals ≤ R.locals := ⟨by show d2 + 1 ≤ R.frames; omega, by show 8 + (M.2.2.1 + 11) + 64 * d2 ≤ R.locals; omega⟩
  have hstk : (As.reverse ++ vR b :: st).map (vv (gH g)) = (As.map (vv (gH g))).reverse ++ .ref (gH g + b) :: st.map (vv (gH g)) := by simp [vv]
  have hf : S.length - n0 + mc2 ≤ R.cells ∧ szS S - s0 + ms2 ≤ R.slots := ⟨by omega, by omega⟩
  have hcat' : ((st.map (vv (gH g))).map fun v => v.category).sum ≤ 8 := by rw [catS_vv]; exact hcat
  refine k_call (S := S) (D := D) (F := F) (n0 := n0) (s0 := s0) (nL := nL) (mc := mc2) (ms := ms2) (st := st) (lo := lo) (Qc := Qc) (A9 := (Value.ref (gH g + b) :: As.map (vv (gH g))).toArray) ?_ hS h1 h2 hl kk T0 hT X0
  rcases hL with hL | ⟨host, hL⟩
  · exact va_runV (Ts := Wd) ⟨hx, hb, hml, hown, hts⟩ hC ⟨callB_of n hts (wdIn M hcd) rfl rfl rfl (hts _ hini) (hts _ hL) hnm hR, hts _ hinst, hts _ hsel⟩ hp rfl (by simpa using hn) hl.1 hstk (lv_room hcat') hd hf
  · exact va_runVN (Ts := Wd) ⟨hx, hb, hml, hown, hts⟩ hC ⟨va_cnB n hts (wdIn M hcd) rfl rfl rfl (hAm.2.2.1 _ hL) (hts _ hini) hnm hR, hts _ hinst, hts _ hsel⟩ hp rfl (by simpa using hn) hl.1 hstk (lv_room hcat') hd hf
theorem r_callS (hA : Act g l cls cc nL d n0 s0 mc ms ini K) {idx d2 mc2 ms2 n : Nat} {M : Mth} {As st0 : List MV} {Qc : QT} (hL : Lk cls idx M) (hM : MokS M n) (hC : Cn g l d2 mc2 ms2 M As S F D Qc) (hd : decode cc pc = .ok (.invokestatic idx, 3)) (hst : As.reverse ++ st = st0) (hn : As.length = n) (hcat : catS st ≤ 8) (hdd : d2 + 1 ≤ d) (hroom : S.length - n0 + mc2 ≤ mc ∧ szS S - s0 + ms2 ≤ ms) (kk : ∀ (r : Option MV) (S1 : Shp) (F1 : Rfs) (D1 : Dat), Qc r S1 F1 D1 → K (pc + 3) lo (r.toList ++ st) S1 F1 D1) : K pc lo st0 S F D := by
  obtain ⟨p, e, R, s, m, args, below, meth, c, Q, hx, hb, hml, hown, hts, hAm, hfr, hlo, hmc, hms, hin, hn0, rfl⟩ := hA
  intro H locs ls hP hS h1 h2 hl T0 hT X0
  have hsz := k_size hP hS h1 hn0 hT X0
  subst hst
  obtain ⟨⟨hcd, hini, hnm, hmx⟩, hstat⟩ := hM
  have hp : PreS s H (Pcn g As S F D) (As.map (vv (gH g))) := ⟨Pcn.blind, fun U hU hW => ⟨rfl, hAm.warm hW hS hU, by rw [hU]; exact hP, by rw [hU]; exact hsz⟩⟩
  have hR : (rmO d2 mc2 ms2).frames + 1 ≤ R.frames ∧ 8 + (M.2.2.1 + 11) + (rmO d2 mc2 ms2).locals ≤ R.locals := ⟨by show d2 + 1 ≤ R.frames; omega, by show 8 + (M.2.2.1 + 11) + 64 * d2 ≤ R.locals; omega⟩
  have hstk : (As.reverse ++ st).map (vv (gH g)) = (As.map (vv (gH g))).reverse ++ st.map (vv (gH g)) := by simp
  have hf : S.length - n0 + mc2 ≤ R.cells ∧ szS S - s0 + ms2 ≤ R.slots := ⟨by omega, by omega⟩
  have hcat' : ((st.map (vv (gH g))).map fun v => v.category).sum ≤ 8 := by rw [catS_vv]; exact hcat
  refine k_call (S := S) (D := D) (F := F) (n0 := n0) (s0 := s0) (nL := nL) (mc := mc2) (ms := ms2) (st := st) (lo := lo) (Qc := Qc) (A9 := (As.map (vv (gH g))).toArray) ?_ hS h1 h2 hl kk T0 hT X0
  rcases hL with hL | ⟨host, hL⟩
  · exact va_runS (Ts := Wd) ⟨hx, hb, hml, hown, hts⟩ hC ⟨callB_of n hts (wdIn M hcd) rfl rfl rfl (hts _ hini) (hts _ hL) hnm hR, hts _ hstat⟩ hp rfl (by simpa using hn) hl.1 hstk (lv_room hcat') hd hf
  · exact va_runSN (Ts := Wd) ⟨hx, hb, hml, hown, hts⟩ hC ⟨va_cnB n hts (wdIn M hcd) rfl rfl rfl (hAm.2.2.1 _ hL) (hts _ hini) hnm hR, hts _ hstat, trivial⟩ hp rfl (by simpa using hn) hl.1 hstk (lv_room hcat') hd hf
theorem r_callI (hA : Act g l cls cc nL d n0 s0 mc ms ini K) {idx d2 mc2 ms2 n b : Nat} {M : Mth} {As st0 : List MV} {Qc : QT} (hL : Lk cls idx M) (hM : MokI M n) (hC : Cn g l d2 mc2 ms2 M (vR b :: As) S F D Qc) (hd : decode cc pc = .ok (.invokespecial idx, 3)) (hst : As.reverse ++ vR b :: st = st0) (hn : As.length = n) (hcat : catS st ≤ 8) (hdd : d2 + 1 ≤ d) (hroom : S.length - n0 + mc2 ≤ mc ∧ szS S - s0 + ms2 ≤ ms) (kk : ∀ (r : Option MV) (S1 : Shp) (F1 : Rfs) (D1 : Dat), Qc r S1 F1 D1 → K (pc + 3) lo (r.toList ++ st) S1 F1 D1) : K pc lo st0 S F D := by
  obtain ⟨p, e, R, s, m, args, below, meth, c, Q, hx, hb, hml, hown, hts, hAm, hfr, hlo, hmc, hms, hin, hn0, rfl⟩ := hA
  intro H locs ls hP hS h1 h2 hl T0 hT X0
  have hsz := k_size hP hS h1 hn0 hT X0
  subst hst
  obtain ⟨⟨hcd, hini, hnm, hmx⟩, hinst, hnin, hrn⟩ := hM
  obtain ⟨y, bytes, maxL, ret⟩ := M
  dsimp only at hrn hcd hini hnm hmx hinst hnin
  subst hrn
  have hp : PreS s H (Pcn g (vR b :: As) S F D) (.ref (gH g + b) :: As.map (vv (gH g))) := ⟨Pcn.blind, fun U hU hW => ⟨rfl, hAm.warm hW hS hU, by rw [hU]; exact hP, by rw [hU]; exact hsz⟩⟩
  have hR : (rmO d2 mc2 ms2).frames + 1 ≤ R.frames ∧ 8 + (maxL + 11) + (rmO d2 mc2 ms2).locals ≤ R.locals := ⟨by show d2 + 1 ≤ R.frames; omega, by show 8 + (maxL + 11) + 64 * d2 ≤ R.locals; omega⟩
  have hstk : (As.reverse ++ vR b :: st).map (vv (gH g)) = (As.map (vv (gH g))).reverse ++ .ref (gH g + b) :: st.map (vv (gH g)) := by simp [vv]
  have hf : S.length - n0 + mc2 ≤ R.cells ∧ szS S - s0 + ms2 ≤ R.slots := ⟨by omega, by omega⟩
  have hcat' : ((st.map (vv (gH g))).map fun v => v.category).sum ≤ 8 := by rw [catS_vv]; exact hcat
  refine k_call (S := S) (D := D) (F := F) (n0 := n0) (s0 := s0) (nL := nL) (mc := mc2) (ms := ms2) (st := st) (lo := lo) (Qc := Qc) (A9 := (Value.ref (gH g + b) :: As.map (vv (gH g))).toArray) ?_ hS h1 h2 hl kk T0 hT X0
  rcases hL with hL | ⟨host, hL⟩
  · exact va_runI (Ts := Wd) ⟨hx, hb, hml, hown, hts⟩ hC ⟨callB_of n hts (wdIn (y, bytes, maxL, none) hcd) rfl rfl rfl (hts _ hini) (hts _ hL) hnm hR, hnin, hts _ hinst⟩ hp rfl (by simpa using hn) hl.1 hstk (lv_room hcat') hd hf
  · exact va_runIN (Ts := Wd) ⟨hx, hb, hml, hown, hts⟩ hC ⟨va_cnB n hts (wdIn (y, bytes, maxL, none) hcd) rfl rfl rfl (hAm.2.2.1 _ hL) (hts _ hini) hnm hR, hnin, hts _ hinst⟩ hp rfl (by simpa using hn) hl.1 hstk (lv_room hcat') hd hf
end MRows2
end
section
/-! new cells, library calls, returns -/
theorem wsO_app (g : Gm) (S : Shp) (x : Nat × Nat) (F : Rfs) (D : Dat) : wsO g (S ++ [x]) F D = wsO g S F D ++ [(gH g + S.length, clE g x (F S.length) (D S.length))] := by
  have : ∀ (S : Shp) (n : Nat), wsF g (S ++ [x]) n F D = wsF g S n F D ++ [(gH g + (n + S.length), clE g x (F (n + S.length)) (D (n + S.length)))] := by
    intro S
    induction S with
    | nil => intro n; simp [wsF]
    | cons a S ih =>
      intro n
      simp only [List.cons_append, wsF, ih, List.length_cons]
      rw [show n + 1 + S.length = n + (S.length + 1) by omega]
  rw [wsO, this, wsO]
  simp
theorem szS_app (S : Shp) (x : Nat × Nat) : szS (S ++ [x]) = szS S + x.2 := by simp [szS]
section MNew
variable {g : Gm} {l : Launch} {cls : String} {cc : ByteArray} {nL d n0 s0 mc ms : Nat} {ini : Prop} {K : KT} {pc : Nat} {lo st : List MV} {S : Shp} {F : Rfs} {D : Dat}
/-- the address of a cell that is new -/
theorem k_new {p : Program} {e : Env} {R : Room} {s : State} {m : MethodId} {args : Array Value} {below : List Frame} {meth : Method} {c : Code} {H1 : Heap} {locs : List Loc} {T : State} {q n0 sl : Nat} {el : va_E} (hP : va_P (gD g) vwCl (wsO g S F D ++ [(q, el)]) H1) (hD : va_D (gFr g) (wsO g S F D ++ [(q, el)])) (h1 : n0 ≤ S.length) (hn0 : s.heap.size = gH g + n0) (hT : T.heap = H1) (X : Stand p l e R s m args below meth c T locs (S.length - n0 + 1) sl) : q = gH g + S.length := by
  have e1 : T.heap.size ≤ s.heap.size + (S.length - n0 + 1) := X.same.2.2.1
  rw [hT] at e1
  have hq : (wsO g S F D ++ [(q, el)])[S.length]? = some (q, el) := by
    rw [List.getElem?_append_right (by rw [wsO_len]; omega), wsO_len, Nat.sub_self]; rfl
  have l1 := (hP _ _ hq).lt
  have l2 : gH g ≤ q := hD.2 _ _ hq
  dsimp at l1
  rcases Nat.lt_or_ge (q - gH g) S.length with h | h
  · have h3 := wsO_get (g := g) (F := F) (D := D) (List.getElem?_eq_getElem h)
    have h4 : (wsO g S F D ++ [(q, el)])[q - gH g]? = some (gH g + (q - gH g), clE g S[q - gH g] (F (q - gH g)) (D (q - gH g))) := by
      rw [List.getElem?_append_left (by rw [wsO_len]; exact h)]; exact h3
    have := hD.1 _ _ _ _ h4 hq (by dsimp; omega)
    omega
  · omega
def freshAt (F : Rfs) (D : Dat) (n : Nat) : Prop := (∀ k, F n k = none) ∧ ∀ i, D n i = 0
theorem r_new (hA : Act g l cls cc nL d n0 s0 mc ms ini K) {idx ci N : Nat} {C : String} {T : u_T} {ty : Nat → FieldType} (hcl : vwCl[ci]? = some (C, T, N)) (hci : ci < 100) (hw : (∀ w ∈ u_ws C T N, w ∈ Wd) ∧ Cond.classLink cls idx C ∈ Wd ∧ Cond.instantiable C N ∈ Wd ∧ Cond.initialized C ∈ Wd) (hty : ∀ k, k < N → parseFieldDescriptor (T k).2.2.1 = some (ty k)) (hdef : ∀ k, k < N → defaultValue (ty k) = if isR ci k then .null else .int 0) (hfr : freshAt F D S.length) (hroom : S.length - n0 + 1 ≤ mc ∧ szS S - s0 + N ≤ ms) (hd : decode cc pc = .ok (.new idx, 3)) (kk : K (pc + 3) lo (vR S.length :: st) (S ++ [(ci, N)]) F D) : K pc lo st S F D := by
  have hfr0 := hfr
  obtain ⟨p, e, R, s, m, args, below, meth, c, Q, hx, hb, hml, hown, hts, hAm, hfr, hlo, hmc, hms, hin, hn0, rfl⟩ := hA
  intro H locs ls hP hS h1 h2 hl
  refine va_new (fs := (List.range N).map (fun k => if isR ci k then .null else .int 0)) hx hb hts hw.1 ty hty hown (hts _ hw.2.1) (hts _ hw.2.2.1) (hts _ hw.2.2.2) hAm.1 hP (wsO_D g S F D) hS (fun q hq => by show gH g ≤ q; omega) hcl (fun j hj => by rw [hdef j hj]; unfold vp_V; rw [List.getD_eq_getElem?_getD, fs_get hj]; rfl) (by omega) (by omega) hd (fun q H1 hP1 hD1 hS1 => ?_)
  intro T0 hT0 X0
  have hq := k_new hP1 hD1 h1 hn0 hT0 X0
  subst hq
  have k2 := kk H1 locs ls (by
    rw [wsO_app, clE_obj hci]
    have : (fun k => if isR ci k then rfv (gH g) (F S.length k) else Value.int (Int32.ofInt (D S.length k))) = (fun k => if isR ci k then .null else .int 0) := by
      funext k; rw [hfr0.1, hfr0.2]; rfl
    rw [this]; exact hP1) hS1 (by simp; omega) (by rw [szS_app]; omega) hl
  have c1 : (S ++ [(ci, N)]).length - n0 = S.length - n0 + 1 := by simp; omega
  have c2 : szS (S ++ [(ci, N)]) - s0 = szS S - s0 + N := by rw [szS_app]; omega
  rw [c1, c2] at k2
  exact k2 T0 hT0 X0
theorem r_objInit (hA : Act g l cls cc nL d n0 s0 mc ms ini K) {idx a : Nat} (hw : Cond.methodLink cls idx Lib.objectInit ∈ Wd ∧ Cond.instanceMethod Lib.objectInit ∈ Wd ∧ Cond.code Lib.objectInit ⟨#[0xb1]⟩ 1 none ∈ Wd) (hcat : catS st ≤ 8) (hdd : 1 ≤ d) (hd : decode cc pc = .ok (.invokespecial idx, 3)) (kk : K (pc + 3) lo st S F D) : K pc lo (vR a :: st) S F D := by
  obtain ⟨p, e, R, s, m, args, below, meth, c, Q, hx, hb, hml, hown, hts, hAm, hfr, hlo, hmc, hms, hin, hn0, rfl⟩ := hA
  intro H locs ls hP hS h1 h2 hl
  have hcat' : ((st.map (vv (gH g))).map fun v => v.category).sum ≤ 8 := by rw [catS_vv]; exact hcat
  have hrm := lv_room (m := m) (pc := pc) (ls := ls) (rest := (vR a :: st).map (vv (gH g))) hcat'
  exact W.objInit (a := gH g + a) (rest := st.map (vv (gH g))) hx hb hown (hts _ hw.1) (hts _ hw.2.1) (hts _ hw.2.2) rfl (hl.1.trans hml.symm) rfl hd (by omega) (by omega) (kk H locs ls hP hS h1 h2 hl)
theorem r_newaI (hA : Act g l cls cc nL d n0 s0 mc ms ini K) {n : Nat} (hn : n < 20000) (hw : Cond.arrayClass (newarray.typeOf .int) ∈ Wd) (hfr : freshAt F D S.length) (hroom : S.length - n0 + 1 ≤ mc ∧ szS S - s0 + n ≤ ms) (hd : decode cc pc = .ok (.newarray .int, 2)) (kk : K (pc + 2) lo (vR S.length :: st) (S ++ [(100, n)]) F D) : K pc lo (vI n :: st) S F D := by
  have hfr0 := hfr
  obtain ⟨p, e, R, s, m, args, below, meth, c, Q, hx, hb, hml, hown, hts, hAm, hfr, hlo, hmc, hms, hin, hn0, rfl⟩ := hA
  intro H locs ls hP hS h1 h2 hl
  have hn32 := n32_in (a := (n : Int)) (by omega)
  refine va_newa (n := Int32.ofInt n) (N' := n) (a0 := (n, .inl (fun _ => 0))) (ty := .int) hx hb (hts _ hw) rfl hAm.1 hP (wsO_D g S F D) hS (fun q hq => by show gH g ≤ q; omega) (fun cA => rfl) (by rw [n32_lt0 (by omega)]; omega) (by rw [Int32.toNatClampNeg, hn32]; rfl) (by show n * _ ≤ _; simp [componentBytes]; omega) (by omega) (by omega) hd (fun q cA H1 hK1 hP1 hD1 hS1 => ?_)
  intro T0 hT0 X0
  have hq := k_new hP1 hD1 h1 hn0 hT0 X0
  subst hq
  have hcA : cA = gC g 0 := by
    have z1 := (hK1.2 5 (cA, .int) rfl).2
    have z2 := (hK1.2 0 (gC g 0, .int) rfl).2
    exact Option.some.inj (Eq.trans (Eq.symm z1) z2)
  subst hcA
  have k2 := kk H1 locs ls (by
    rw [wsO_app]
    have : clE g (100, n) (F S.length) (D S.length) = .inl (gC g 0, n, .inl (fun _ => 0)) := by
      have e : D S.length = fun _ => 0 := by funext i; exact hfr0.2 i
      rw [e]; rfl
    rw [this]; exact hP1) hS1 (by simp; omega) (by rw [szS_app]; omega) hl
  have c1 : (S ++ [(100, n)]).length - n0 = S.length - n0 + 1 := by simp; omega
  have c2 : szS (S ++ [(100, n)]) - s0 = szS S - s0 + n := by rw [szS_app]; omega
  rw [c1, c2] at k2
  exact k2 T0 hT0 X0
theorem r_newaL (hA : Act g l cls cc nL d n0 s0 mc ms ini K) {n : Nat} (hn : n < 20000) (hw : Cond.arrayClass (newarray.typeOf .long) ∈ Wd) (hfr : freshAt F D S.length) (hroom : S.length - n0 + 1 ≤ mc ∧ szS S - s0 + n ≤ ms) (hd : decode cc pc = .ok (.newarray .long, 2)) (kk : K (pc + 2) lo (vR S.length :: st) (S ++ [(101, n)]) F D) : K pc lo (vI n :: st) S F D := by
  have hfr0 := hfr
  obtain ⟨p, e, R, s, m, args, below, meth, c, Q, hx, hb, hml, hown, hts, hAm, hfr, hlo, hmc, hms, hin, hn0, rfl⟩ := hA
  intro H locs ls hP hS h1 h2 hl
  have hn32 := n32_in (a := (n : Int)) (by omega)
  refine va_newa (n := Int32.ofInt n) (N' := n) (a0 := (n, .inr (.inl (fun _ => 0)))) (ty := .long) hx hb (hts _ hw) rfl hAm.1 hP (wsO_D g S F D) hS (fun q hq => by show gH g ≤ q; omega) (fun cA => rfl) (by rw [n32_lt0 (by omega)]; omega) (by rw [Int32.toNatClampNeg, hn32]; rfl) (by show n * _ ≤ _; simp [componentBytes]; omega) (by omega) (by omega) hd (fun q cA H1 hK1 hP1 hD1 hS1 => ?_)
  intro T0 hT0 X0
  have hq := k_new hP1 hD1 h1 hn0 hT0 X0
  subst hq
  have hcA : cA = gC g 1 := by
    have z1 := (hK1.2 5 (cA, .long) rfl).2
    have z2 := (hK1.2 1 (gC g 1, .long) rfl).2
    exact Option.some.inj (Eq.trans (Eq.symm z1) z2)
  subst hcA
  have k2 := kk H1 locs ls (by
    rw [wsO_app]
    have : clE g (101, n) (F S.length) (D S.length) = .inl (gC g 1, n, .inr (.inl (fun _ => 0))) := by
      have e : D S.length = fun _ => 0 := by funext i; exact hfr0.2 i
      rw [e]; rfl
    rw [this]; exact hP1) hS1 (by simp; omega) (by rw [szS_app]; omega) hl
  have c1 : (S ++ [(101, n)]).length - n0 = S.length - n0 + 1 := by simp; omega
  have c2 : szS (S ++ [(101, n)]) - s0 = szS S - s0 + n := by rw [szS_app]; omega
  rw [c1, c2] at k2
  exact k2 T0 hT0 X0
theorem r_newaZ (hA : Act g l cls cc nL d n0 s0 mc ms ini K) {n : Nat} (hn : n < 20000) (hw : Cond.arrayClass (newarray.typeOf .boolean) ∈ Wd) (hfr : freshAt F D S.length) (hroom : S.length - n0 + 1 ≤ mc ∧ szS S - s0 + n ≤ ms) (hd : decode cc pc = .ok (.newarray .boolean, 2)) (kk : K (pc + 2) lo (vR S.length :: st) (S ++ [(102, n)]) F D) : K pc lo (vI n :: st) S F D := by
  have hfr0 := hfr
  obtain ⟨p, e, R, s, m, args, below, meth, c, Q, hx, hb, hml, hown, hts, hAm, hfr, hlo, hmc, hms, hin, hn0, rfl⟩ := hA
  intro H locs ls hP hS h1 h2 hl
  have hn32 := n32_in (a := (n : Int)) (by omega)
  refine va_newa (n := Int32.ofInt n) (N' := n) (a0 := (n, .inl (fun _ => 0))) (ty := .boolean) hx hb (hts _ hw) rfl hAm.1 hP (wsO_D g S F D) hS (fun q hq => by show gH g ≤ q; omega) (fun cA => rfl) (by rw [n32_lt0 (by omega)]; omega) (by rw [Int32.toNatClampNeg, hn32]; rfl) (by show n * _ ≤ _; simp [componentBytes]; omega) (by omega) (by omega) hd (fun q cA H1 hK1 hP1 hD1 hS1 => ?_)
  intro T0 hT0 X0
  have hq := k_new hP1 hD1 h1 hn0 hT0 X0
  subst hq
  have hcA : cA = gC g 2 := by
    have z1 := (hK1.2 5 (cA, .boolean) rfl).2
    have z2 := (hK1.2 2 (gC g 2, .boolean) rfl).2
    exact Option.some.inj (Eq.trans (Eq.symm z1) z2)
  subst hcA
  have k2 := kk H1 locs ls (by
    rw [wsO_app]
    have : clE g (102, n) (F S.length) (D S.length) = .inl (gC g 2, n, .inl (fun _ => 0)) := by
      have e : D S.length = fun _ => 0 := by funext i; exact hfr0.2 i
      rw [e]; rfl
    rw [this]; exact hP1) hS1 (by simp; omega) (by rw [szS_app]; omega) hl
  have c1 : (S ++ [(102, n)]).length - n0 = S.length - n0 + 1 := by simp; omega
  have c2 : szS (S ++ [(102, n)]) - s0 = szS S - s0 + n := by rw [szS_app]; omega
  rw [c1, c2] at k2
  exact k2 T0 hT0 X0
theorem r_anewS (hA : Act g l cls cc nL d n0 s0 mc ms ini K) {idx n : Nat} (hn : n < 20000) (hw : Cond.classLink cls idx RX7 ∈ Wd) (hfr : freshAt F D S.length) (hroom : S.length - n0 + 1 ≤ mc ∧ szS S - s0 + n ≤ ms) (hd : decode cc pc = .ok (.anewarray idx, 3)) (kk : K (pc + 3) lo (vR S.length :: st) (S ++ [(103, n)]) F D) : K pc lo (vI n :: st) S F D := by
  have hfr0 := hfr
  obtain ⟨p, e, R, s, m, args, below, meth, c, Q, hx, hb, hml, hown, hts, hAm, hfr, hlo, hmc, hms, hin, hn0, rfl⟩ := hA
  intro H locs ls hP hS h1 h2 hl
  have hn32 := n32_in (a := (n : Int)) (by omega)
  refine va_newq (n := Int32.ofInt n) (N' := n) hx hb hown (hts _ hw) hAm.2.2.2.2.2.1 hAm.1 hP (wsO_D g S F D) hS (fun q hq => by show gH g ≤ q; omega) (by rw [n32_lt0 (by omega)]; omega) (by rw [Int32.toNatClampNeg, hn32]; rfl) (by omega) (by omega) (by omega) hd (fun q cA H1 hK1 hP1 hD1 hS1 => ?_)
  intro T0 hT0 X0
  have hq := k_new hP1 hD1 h1 hn0 hT0 X0
  subst hq
  have hcA : cA = gC g 3 := by
    have z1 := (hK1.2 5 (cA, .object RX7) rfl).2
    have z2 := (hK1.2 3 (gC g 3, .object RX7) rfl).2
    obtain ⟨_, _, -, -, -, z3⟩ := z1
    obtain ⟨_, _, -, -, -, z4⟩ := z2
    exact Option.some.inj (Eq.trans (Eq.symm z3) z4)
  subst hcA
  have k2 := kk H1 locs ls (by
    rw [wsO_app]
    have : clE g (103, n) (F S.length) (D S.length) = .inl (gC g 3, n, .inr (.inr (.inr (.inr (fun _ => none))))) := by
      have e : F S.length = fun _ => none := by funext i; exact hfr0.1 i
      rw [e]; rfl
    rw [this]; exact hP1) hS1 (by simp; omega) (by rw [szS_app]; omega) hl
  have c1 : (S ++ [(103, n)]).length - n0 = S.length - n0 + 1 := by simp; omega
  have c2 : szS (S ++ [(103, n)]) - s0 = szS S - s0 + n := by rw [szS_app]; omega
  rw [c1, c2] at k2
  exact k2 T0 hT0 X0
theorem r_aastS (hA : Act g l cls cc nL d n0 s0 mc ms ini K) {n a b k : Nat} {i : Nat} (hd : decode cc pc = .ok (.aastore, 1)) (hs : S[a]? = some (103, n)) (hb2 : S[b]? = some (6, k)) (hi : i < n) (hn : n < 20000) (kk : K (pc + 1) lo st S (upF F a i (some b)) D) : K pc lo (vR b :: vI (i : Int) :: vR a :: st) S F D := by
  obtain ⟨p, e, R, s, m, args, below, meth, c, Q, hx, hb, hml, hown, hts, hAm, hfr, hlo, hmc, hms, hin, hn0, rfl⟩ := hA
  intro H locs ls hP hS h1 h2 hl
  have hg := wsO_get (g := g) (F := F) (D := D) hs
  have hgb := wsO_get (g := g) (F := F) (D := D) hb2
  rw [clE_obj (by omega)] at hgb
  have hj := vin (i := (i : Int)) (n := n) (by omega) (by omega)
  refine va_astq hx hb hAm.1 hP (wsO_D g S F D) hS a 3 b 6 hg rfl hgb rfl hj.1 hd (fun H1 locs1 hP1 _ hS1 => ?_)
  rw [wsO_ext (F' := upF F a i (some b)) (D' := D) hs (by
    rw [hj.2]
    show Sum.inl _ = Sum.inl _
    congr 7
    funext z
    unfold va_up upF
    by_cases h : z = i
    · simp [h]
    · simp [h]) (fun b hb => upF_other hb) (fun _ _ => rfl)] at hP1
  exact kk H1 locs1 ls hP1 hS1 h1 h2 hl
theorem r_anewH (hA : Act g l cls cc nL d n0 s0 mc ms ini K) {idx n : Nat} (hn : n < 20000) (hw : Cond.classLink cls idx RX6 ∈ Wd) (hfr : freshAt F D S.length) (hroom : S.length - n0 + 1 ≤ mc ∧ szS S - s0 + n ≤ ms) (hd : decode cc pc = .ok (.anewarray idx, 3)) (kk : K (pc + 3) lo (vR S.length :: st) (S ++ [(104, n)]) F D) : K pc lo (vI n :: st) S F D := by
  have hfr0 := hfr
  obtain ⟨p, e, R, s, m, args, below, meth, c, Q, hx, hb, hml, hown, hts, hAm, hfr, hlo, hmc, hms, hin, hn0, rfl⟩ := hA
  intro H locs ls hP hS h1 h2 hl
  have hn32 := n32_in (a := (n : Int)) (by omega)
  refine va_newq (n := Int32.ofInt n) (N' := n) hx hb hown (hts _ hw) hAm.2.2.2.2.2.2 hAm.1 hP (wsO_D g S F D) hS (fun q hq => by show gH g ≤ q; omega) (by rw [n32_lt0 (by omega)]; omega) (by rw [Int32.toNatClampNeg, hn32]; rfl) (by omega) (by omega) (by omega) hd (fun q cA H1 hK1 hP1 hD1 hS1 => ?_)
  intro T0 hT0 X0
  have hq := k_new hP1 hD1 h1 hn0 hT0 X0
  subst hq
  have hcA : cA = gC g 4 := by
    have z1 := (hK1.2 5 (cA, .object RX6) rfl).2
    have z2 := (hK1.2 4 (gC g 4, .object RX6) rfl).2
    obtain ⟨_, _, -, -, -, z3⟩ := z1
    obtain ⟨_, _, -, -, -, z4⟩ := z2
    exact Option.some.inj (Eq.trans (Eq.symm z3) z4)
  subst hcA
  have k2 := kk H1 locs ls (by
    rw [wsO_app]
    have : clE g (104, n) (F S.length) (D S.length) = .inl (gC g 4, n, .inr (.inr (.inr (.inr (fun _ => none))))) := by
      have e : F S.length = fun _ => none := by funext i; exact hfr0.1 i
      rw [e]; rfl
    rw [this]; exact hP1) hS1 (by simp; omega) (by rw [szS_app]; omega) hl
  have c1 : (S ++ [(104, n)]).length - n0 = S.length - n0 + 1 := by simp; omega
  have c2 : szS (S ++ [(104, n)]) - s0 = szS S - s0 + n := by rw [szS_app]; omega
  rw [c1, c2] at k2
  exact k2 T0 hT0 X0
theorem r_aastH (hA : Act g l cls cc nL d n0 s0 mc ms ini K) {n a b k : Nat} {i : Nat} (hd : decode cc pc = .ok (.aastore, 1)) (hs : S[a]? = some (104, n)) (hb2 : S[b]? = some (5, k)) (hi : i < n) (hn : n < 20000) (kk : K (pc + 1) lo st S (upF F a i (some b)) D) : K pc lo (vR b :: vI (i : Int) :: vR a :: st) S F D := by
  obtain ⟨p, e, R, s, m, args, below, meth, c, Q, hx, hb, hml, hown, hts, hAm, hfr, hlo, hmc, hms, hin, hn0, rfl⟩ := hA
  intro H locs ls hP hS h1 h2 hl
  have hg := wsO_get (g := g) (F := F) (D := D) hs
  have hgb := wsO_get (g := g) (F := F) (D := D) hb2
  rw [clE_obj (by omega)] at hgb
  have hj := vin (i := (i : Int)) (n := n) (by omega) (by omega)
  refine va_astq hx hb hAm.1 hP (wsO_D g S F D) hS a 4 b 5 hg rfl hgb rfl hj.1 hd (fun H1 locs1 hP1 _ hS1 => ?_)
  rw [wsO_ext (F' := upF F a i (some b)) (D' := D) hs (by
    rw [hj.2]
    show Sum.inl _ = Sum.inl _
    congr 7
    funext z
    unfold va_up upF
    by_cases h : z = i
    · simp [h]
    · simp [h]) (fun b hb => upF_other hb) (fun _ _ => rfl)] at hP1
  exact kk H1 locs1 ls hP1 hS1 h1 h2 hl
end MNew
end
section
/-! Math, arraycopy, a method's start and end -/
section MLib
variable {g : Gm} {l : Launch} {cls : String} {cc : ByteArray} {nL d n0 s0 mc ms : Nat} {ini : Prop} {K : KT} {pc : Nat} {lo st : List MV} {S : Shp} {F : Rfs} {D : Dat}
def MthW (cls : String) (idx : Nat) (y : MethodName) (b : ByteArray) (n : Nat) : Prop := Cond.methodLink cls idx y ∈ Wd ∧ Cond.static y ∈ Wd ∧ Cond.initialized "java/lang/Math" ∈ Wd ∧ Cond.code y b n (some .int) ∈ Wd
theorem r_max (hA : Act g l cls cc nL d n0 s0 mc ms ini K) {idx : Nat} {a b : Int} (hw : MthW cls idx Lib.Math.max.name Lib.Math.max.code 2) (ha : -2147483648 ≤ a ∧ a ≤ 2147483647) (hb0 : -2147483648 ≤ b ∧ b ≤ 2147483647) (hcat : catS st ≤ 8) (hdd : 1 ≤ d) (hroom : S.length - n0 ≤ mc ∧ szS S - s0 ≤ ms) (hd : decode cc pc = .ok (.invokestatic idx, 3)) (kk : K (pc + 3) lo (vI (if a < b then b else a) :: st) S F D) : K pc lo (vI b :: vI a :: st) S F D := by
  obtain ⟨p, e, R, s, m, args, below, meth, c, Q, hx, hb, hml, hown, hts, hAm, hfr, hlo, hmc, hms, hin, hn0, rfl⟩ := hA
  intro H locs ls hP hS h1 h2 hl
  have hcat' : ((st.map (vv (gH g))).map fun v => v.category).sum ≤ 8 := by rw [catS_vv]; exact hcat
  have k2 := kk H locs ls hP hS h1 h2 hl
  refine va_mmax (x := Int32.ofInt a) (y := Int32.ofInt b) (rest := st.map (vv (gH g))) hx hb (hml.trans hl.1.symm) hown (hts _ hw.1) (hts _ hw.2.1) (hts _ hw.2.2.1) (hts _ hw.2.2.2) (by omega) (by omega) (by omega) (by omega) hd ?_
  have e0 : vv (gH g) (vI (if a < b then b else a)) = Value.int (if Int32.ofInt a < Int32.ofInt b then Int32.ofInt b else Int32.ofInt a) := by
    simp only [(n32_lt ha hb0), vv]
    split <;> rfl
  rw [← e0]
  exact k2
theorem r_min (hA : Act g l cls cc nL d n0 s0 mc ms ini K) {idx : Nat} {a b : Int} (hw : MthW cls idx Lib.Math.min.name Lib.Math.min.code 2) (ha : -2147483648 ≤ a ∧ a ≤ 2147483647) (hb0 : -2147483648 ≤ b ∧ b ≤ 2147483647) (hcat : catS st ≤ 8) (hdd : 1 ≤ d) (hroom : S.length - n0 ≤ mc ∧ szS S - s0 ≤ ms) (hd : decode cc pc = .ok (.invokestatic idx, 3)) (kk : K (pc + 3) lo (vI (if b < a then b else a) :: st) S F D) : K pc lo (vI b :: vI a :: st) S F D := by
  obtain ⟨p, e, R, s, m, args, below, meth, c, Q, hx, hb, hml, hown, hts, hAm, hfr, hlo, hmc, hms, hin, hn0, rfl⟩ := hA
  intro H locs ls hP hS h1 h2 hl
  have hcat' : ((st.map (vv (gH g))).map fun v => v.category).sum ≤ 8 := by rw [catS_vv]; exact hcat
  have k2 := kk H locs ls hP hS h1 h2 hl
  refine va_mmin (x := Int32.ofInt a) (y := Int32.ofInt b) (rest := st.map (vv (gH g))) hx hb (hml.trans hl.1.symm) hown (hts _ hw.1) (hts _ hw.2.1) (hts _ hw.2.2.1) (hts _ hw.2.2.2) (by omega) (by omega) (by omega) (by omega) hd ?_
  have e0 : vv (gH g) (vI (if b < a then b else a)) = Value.int (if Int32.ofInt b < Int32.ofInt a then Int32.ofInt b else Int32.ofInt a) := by
    simp only [(n32_lt hb0 ha), vv]
    split <;> rfl
  rw [← e0]
  exact k2
theorem r_abs (hA : Act g l cls cc nL d n0 s0 mc ms ini K) {idx : Nat} {a : Int} (hw : MthW cls idx Lib.Math.abs.name Lib.Math.abs.code 1) (ha : -2147483648 ≤ a ∧ a ≤ 2147483647) (hcat : catS st ≤ 8) (hdd : 1 ≤ d) (hroom : S.length - n0 ≤ mc ∧ szS S - s0 ≤ ms) (hd : decode cc pc = .ok (.invokestatic idx, 3)) (kk : K (pc + 3) lo (vI (if 0 ≤ a then a else 0 - a) :: st) S F D) : K pc lo (vI a :: st) S F D := by
  obtain ⟨p, e, R, s, m, args, below, meth, c, Q, hx, hb, hml, hown, hts, hAm, hfr, hlo, hmc, hms, hin, hn0, rfl⟩ := hA
  intro H locs ls hP hS h1 h2 hl
  have hcat' : ((st.map (vv (gH g))).map fun v => v.category).sum ≤ 8 := by rw [catS_vv]; exact hcat
  have k2 := kk H locs ls hP hS h1 h2 hl
  refine va_mabs (x := Int32.ofInt a) (rest := st.map (vv (gH g))) hx hb (hml.trans hl.1.symm) hown (hts _ hw.1) (hts _ hw.2.1) (hts _ hw.2.2.1) (hts _ hw.2.2.2) (by omega) (by omega) (by omega) (by omega) hd ?_
  have e0 : vv (gH g) (vI (if 0 ≤ a then a else 0 - a)) = Value.int (if 0 ≤ Int32.ofInt a then Int32.ofInt a else 0 - Int32.ofInt a) := by
    have e1 := n32_le (a := 0) (by omega) ha
    rw [← n32_z] at e1
    simp only [e1, vv]
    split
    · rfl
    · rw [Int32.ofInt_sub]; rfl
  rw [← e0]
  exact k2
def cpD (D : Dat) (a0 : Nat) (sp : Int) (a : Nat) (dp n : Int) : Dat := fun b j => if b = a then (if dp ≤ j ∧ j < dp + n then D a0 (sp + (j - dp)) else D b j) else D b j
def CpW (cls : String) (idx : Nat) : Prop := Cond.methodLink cls idx arraycopyName ∈ Wd ∧ Cond.native arraycopyName ∈ Wd ∧ Cond.static arraycopyName ∈ Wd ∧ Cond.initialized "java/lang/System" ∈ Wd
theorem natW : nativeFrameWords "java/lang/System" "arraycopy" 5 ≤ 40 := by decide +kernel
theorem r_copyi (hA : Act g l cls cc nL d n0 s0 mc ms ini K) {idx a0 a k0 k1 : Nat} {sp dp n : Int} (hw : CpW cls idx) (hs0 : S[a0]? = some (100, k0)) (hs : S[a]? = some (100, k1)) (h0 : 0 ≤ sp ∧ 0 ≤ dp ∧ 0 ≤ n) (h3 : sp + n ≤ k0 ∧ dp + n ≤ k1) (hk : k0 < 20000 ∧ k1 < 20000) (hcat : catS st ≤ 8) (hdd : 1 ≤ d) (hd : decode cc pc = .ok (.invokestatic idx, 3)) (kk : K (pc + 3) lo st S F (cpD D a0 sp a dp n)) : K pc lo (vI n :: vI dp :: vR a :: vI sp :: vR a0 :: st) S F D := by
  obtain ⟨p, e, R, s, m, args, below, meth, c, Q, hx, hb, hml, hown, hts, hAm, hfr, hlo, hmc, hms, hin, hn0, rfl⟩ := hA
  intro H locs ls hP hS h1 h2 hl
  have hcat' : ((st.map (vv (gH g))).map fun v => v.category).sum ≤ 8 := by rw [catS_vv]; exact hcat
  have hg0 := wsO_get (g := g) (F := F) (D := D) hs0
  have hg := wsO_get (g := g) (F := F) (D := D) hs
  rw [clE_i] at hg0 hg
  have cl : ∀ x : Int, 0 ≤ x → x < 20001 → (Int32.ofInt x).toNatClampNeg = x.toNat ∧ ¬ Int32.ofInt x < 0 := fun x h1 h2 => ⟨by rw [Int32.toNatClampNeg, n32_in (by omega)], by rw [n32_lt0 (by omega)]; omega⟩
  have c1 := cl sp (by omega) (by omega)
  have c2 := cl dp (by omega) (by omega)
  have c3 := cl n (by omega) (by omega)
  have hnw := natW
  refine va_copyi (rest := st.map (vv (gH g))) (ty := .int) hx hb (hml.trans hl.1.symm) hown (hts _ hw.1) (hts _ hw.2.1) (hts _ hw.2.2.1) (hts _ hw.2.2.2) hAm.1 hP (wsO_D g S F D) hS a0 a 0 0 hg0 hg rfl rfl rfl c1.2 c2.2 c3.2 (by rw [c1.1, c3.1]; omega) (by rw [c2.1, c3.1]; omega) (fun _ _ => rfl) (by omega) (by omega) hd (fun H1 locs1 hP1 _ hS1 => ?_)
  rw [wsO_ext (F' := F) (D' := cpD D a0 sp a dp n) hs (by
    rw [clE_i, c1.1, c2.1, c3.1]
    congr 4
    funext j
    unfold va_cpy cpD
    by_cases h : dp.toNat ≤ j ∧ j < dp.toNat + n.toNat
    · rw [if_pos h, if_pos rfl, if_pos (by omega)]
      rw [show ((sp.toNat + (j - dp.toNat) : Nat) : Int) = sp + ((j : Int) - dp) by omega]
    · rw [if_neg h, if_pos rfl, if_neg (by omega)]) (fun _ _ => rfl) (fun b hb => by funext j; simp [cpD, hb])] at hP1
  exact kk H1 locs1 ls hP1 hS1 h1 h2 hl
theorem r_copyl (hA : Act g l cls cc nL d n0 s0 mc ms ini K) {idx a0 a k0 k1 : Nat} {sp dp n : Int} (hw : CpW cls idx) (hs0 : S[a0]? = some (101, k0)) (hs : S[a]? = some (101, k1)) (h0 : 0 ≤ sp ∧ 0 ≤ dp ∧ 0 ≤ n) (h3 : sp + n ≤ k0 ∧ dp + n ≤ k1) (hk : k0 < 20000 ∧ k1 < 20000) (hcat : catS st ≤ 8) (hdd : 1 ≤ d) (hd : decode cc pc = .ok (.invokestatic idx, 3)) (kk : K (pc + 3) lo st S F (cpD D a0 sp a dp n)) : K pc lo (vI n :: vI dp :: vR a :: vI sp :: vR a0 :: st) S F D := by
  obtain ⟨p, e, R, s, m, args, below, meth, c, Q, hx, hb, hml, hown, hts, hAm, hfr, hlo, hmc, hms, hin, hn0, rfl⟩ := hA
  intro H locs ls hP hS h1 h2 hl
  have hcat' : ((st.map (vv (gH g))).map fun v => v.category).sum ≤ 8 := by rw [catS_vv]; exact hcat
  have hg0 := wsO_get (g := g) (F := F) (D := D) hs0
  have hg := wsO_get (g := g) (F := F) (D := D) hs
  rw [clE_l] at hg0 hg
  have cl : ∀ x : Int, 0 ≤ x → x < 20001 → (Int32.ofInt x).toNatClampNeg = x.toNat ∧ ¬ Int32.ofInt x < 0 := fun x h1 h2 => ⟨by rw [Int32.toNatClampNeg, n32_in (by omega)], by rw [n32_lt0 (by omega)]; omega⟩
  have c1 := cl sp (by omega) (by omega)
  have c2 := cl dp (by omega) (by omega)
  have c3 := cl n (by omega) (by omega)
  have hnw := natW
  refine va_copyl (rest := st.map (vv (gH g))) (ty := .long) hx hb (hml.trans hl.1.symm) hown (hts _ hw.1) (hts _ hw.2.1) (hts _ hw.2.2.1) (hts _ hw.2.2.2) hAm.1 hP (wsO_D g S F D) hS a0 a 1 1 hg0 hg rfl rfl rfl c1.2 c2.2 c3.2 (by rw [c1.1, c3.1]; omega) (by rw [c2.1, c3.1]; omega) (fun _ _ => rfl) (by omega) (by omega) hd (fun H1 locs1 hP1 _ hS1 => ?_)
  rw [wsO_ext (F' := F) (D' := cpD D a0 sp a dp n) hs (by
    rw [clE_l, c1.1, c2.1, c3.1]
    congr 5
    funext j
    unfold va_cpy cpD
    by_cases h : dp.toNat ≤ j ∧ j < dp.toNat + n.toNat
    · rw [if_pos h, if_pos rfl, if_pos (by omega)]
      rw [show ((sp.toNat + (j - dp.toNat) : Nat) : Int) = sp + ((j : Int) - dp) by omega]
    · rw [if_neg h, if_pos rfl, if_neg (by omega)]) (fun _ _ => rfl) (fun b hb => by funext j; simp [cpD, hb])] at hP1
  exact kk H1 locs1 ls hP1 hS1 h1 h2 hl
end MLib
/-- the locals at a method's start -/
def entA : List MV → List MV
  | [] => []
  | .inr (.inl x) :: As => .inr (.inl x) :: vN :: entA As
  | v :: As => v :: entA As
def entL (As : List MV) (nL : Nat) : List MV := entA As ++ List.replicate (nL - (entA As).length) vN
theorem entA_cons (v : MV) (As : List MV) : (∃ x, v = vL x ∧ entA (v :: As) = v :: vN :: entA As) ∨ ((∀ x, v ≠ vL x) ∧ entA (v :: As) = v :: entA As) := by
  rcases v with x | x | x | x | x
  · exact Or.inr ⟨fun _ h => (by cases h), rfl⟩
  · exact Or.inl ⟨x, rfl, rfl⟩
  · exact Or.inr ⟨fun _ h => (by cases h), rfl⟩
  · exact Or.inr ⟨fun _ h => (by cases h), rfl⟩
  · exact Or.inr ⟨fun _ h => (by cases h), rfl⟩
theorem entA_len (h : Nat) : ∀ As : List MV, (lg_sl (As.map (vv h))).length = (entA As).length
  | [] => rfl
  | v :: As => by
    have ih := entA_len h As
    unfold lg_sl at ih ⊢
    rw [List.map_cons, List.flatMap_cons, List.length_append, ih]
    rcases entA_cons v As with ⟨x, rfl, e⟩ | ⟨hn, e⟩
    · rw [e]; simp [vv, Value.category]; omega
    · rw [e, if_neg (fun hc => by obtain ⟨x, hx⟩ := vv_cat hc; exact hn x hx)]; simp; omega
theorem entA_args (h : Nat) : ∀ (As : List MV) (i j : Nat) (v : MV), (entA As)[j]? = some v → v ≠ vN → (i + j, vv h v) ∈ lv_args i (As.map (vv h))
  | [], i, j, v, hv, _ => by simp [entA] at hv
  | a :: As, i, j, v, hv, hn => by
    rw [List.map_cons, lv_args]
    rcases entA_cons a As with ⟨x, rfl, e⟩ | ⟨hna, e⟩
    · rw [e] at hv
      match j with
      | 0 =>
        rw [List.getElem?_cons_zero] at hv
        cases hv
        exact List.mem_cons_self
      | 1 =>
        rw [List.getElem?_cons_succ, List.getElem?_cons_zero] at hv
        cases hv
        exact absurd rfl hn
      | j + 2 =>
        rw [List.getElem?_cons_succ, List.getElem?_cons_succ] at hv
        refine List.mem_cons_of_mem _ ?_
        rw [if_pos (show (vv h (vL x)).category = 2 from rfl)]
        have := entA_args h As (i + 2) j v hv hn
        rwa [show i + 2 + j = i + (j + 2) by omega] at this
    · rw [e] at hv
      match j with
      | 0 =>
        rw [List.getElem?_cons_zero] at hv
        cases hv
        exact List.mem_cons_self
      | j + 1 =>
        rw [List.getElem?_cons_succ] at hv
        refine List.mem_cons_of_mem _ ?_
        rw [if_neg (fun hc => by obtain ⟨x, hx⟩ := vv_cat hc; exact hna x hx)]
        have := entA_args h As (i + 1) j v hv hn
        rwa [show i + 1 + j = i + (j + 1) by omega] at this
/-- the ends of a method: an int, a truth, a long, a reference, nothing -/
def RtI (cc : ByteArray) (S : Shp) (mc ms : Nat) (Q : QT) (K : KT) : Prop := ∀ (pc : Nat) (lo : List MV) (v : Int) (S1 : Shp) (F1 : Rfs) (D1 : Dat), decode cc pc = .ok (.ireturn, 1) → Q (some (vI v)) S1 F1 D1 → S1.length = S.length + mc → szS S1 = szS S + ms → K pc lo [vI v] S1 F1 D1
def RtZ (cc : ByteArray) (S : Shp) (mc ms : Nat) (Q : QT) (K : KT) : Prop := ∀ (pc : Nat) (lo : List MV) (v : Int) (S1 : Shp) (F1 : Rfs) (D1 : Dat), decode cc pc = .ok (.ireturn, 1) → (v = 0 ∨ v = 1) → Q (some (vI v)) S1 F1 D1 → S1.length = S.length + mc → szS S1 = szS S + ms → K pc lo [vI v] S1 F1 D1
def RtL (cc : ByteArray) (S : Shp) (mc ms : Nat) (Q : QT) (K : KT) : Prop := ∀ (pc : Nat) (lo : List MV) (v : Int) (S1 : Shp) (F1 : Rfs) (D1 : Dat), decode cc pc = .ok (.lreturn, 1) → Q (some (vL v)) S1 F1 D1 → S1.length = S.length + mc → szS S1 = szS S + ms → K pc lo [vL v] S1 F1 D1
def RtA (cc : ByteArray) (S : Shp) (mc ms : Nat) (Q : QT) (K : KT) : Prop := ∀ (pc : Nat) (lo : List MV) (v : Nat) (S1 : Shp) (F1 : Rfs) (D1 : Dat), decode cc pc = .ok (.areturn, 1) → Q (some (vR v)) S1 F1 D1 → S1.length = S.length + mc → szS S1 = szS S + ms → K pc lo [vR v] S1 F1 D1
def RtV (cc : ByteArray) (S : Shp) (mc ms : Nat) (Q : QT) (K : KT) : Prop := ∀ (pc : Nat) (lo : List MV) (S1 : Shp) (F1 : Rfs) (D1 : Dat), decode cc pc = .ok (.return_, 1) → Q none S1 F1 D1 → S1.length = S.length + mc → szS S1 = szS S + ms → K pc lo [] S1 F1 D1
theorem Cn.ofI {g : Gm} {l : Launch} {d mc ms nL : Nat} {y : MethodName} {cc : ByteArray} {As : List MV} {S : Shp} {F : Rfs} {D : Dat} {Q : QT} (hpl : plainName y.cls = true) (hen : (entA As).length ≤ nL)
    (h : ∀ K : KT, Act g l y.cls cc nL d S.length (szS S) mc ms (y.name = "<init>") K → RtI cc S mc ms Q K → K 0 (entL As nL) [] S F D) : Cn g l d mc ms (y, cc, nL, some .int) As S F D Q := by
  refine Met.ofW (cc := cc) (maxL := nL) (ret := some .int) hpl rfl ?_
  intro p e s m args below meth c s₁ B hml hv
  obtain ⟨rfl, hAm, hP, hsz⟩ := hv
  have hx := B.exec
  have hb := B.bytes
  have hr := B.returns
  have hts := atoms_spec (ws := Cond.code y cc nL (some .int) :: Wd) B.pre
  have hown : s.vm.findClass y.cls = some m.cls := findClass_of_methodNamed B.named
  have hlocks := B.notSynchronized
  have hin : y.name = "<init>" → meth.name = "<init>" := fun hy => (name_of_methodNamed B.named B.method).1.trans hy
  have k := h (KW g S.length (szS S) nL p l e (rmO d mc ms) s m ((As.map (vv (gH g))).toArray) below meth c (MQ below (Qcn g S mc ms Q) ((As.map (vv (gH g))).toArray) s mc ms (gFr g))) ⟨p, e, rmO d mc ms, s, m, _, below, meth, c, _, hx, hb, hml, hown, fun w hw => hts w (List.mem_cons_of_mem _ hw), hAm, Nat.le_refl _, Nat.le_refl _, Nat.le_refl _, Nat.le_refl _, hin, hsz, rfl⟩ (by
    intro pc lo v S1 F1 D1 hd hq hl1 hs1 H locs ls hP1 hS h1 h2 hl
    have c1 : S1.length - S.length = mc := by omega
    have c2 : szS S1 - szS S = ms := by omega
    rw [c1, c2]
    exact W.iret (v := Int32.ofInt v) hx hb hr (fun t ht hW => ⟨⟨(some (vI v)), S1, F1, D1, rfl, hq, by rw [ht]; exact hP1, hl1, hs1⟩, hS.F ht⟩) hS.2.2 hd)
  have hl := lv_entry (As.map (vv (gH g))) (n := nL) (by rw [entA_len]; exact hen)
  have hlv : lvh (gH g) ((lg_sl (As.map (vv (gH g))) ++ List.replicate (nL - (lg_sl (As.map (vv (gH g)))).length) Slot.unset).toArray) nL (entL As nL) := by
    refine ⟨hl.1, hl.2.1, fun i v hv hn => ?_⟩
    unfold entL at hv
    by_cases hi : i < (entA As).length
    · rw [List.getElem?_append_left hi] at hv
      have := entA_args (gH g) As 0 i v hv hn
      rw [Nat.zero_add] at this
      exact hl.2.2 _ this
    · rw [List.getElem?_append_right (by omega), List.getElem?_replicate] at hv
      split at hv
      · cases hv; exact absurd rfl hn
      · cases hv
  rw [lg_entry_eq]
  have k2 := k s.heap [] _ hP va_S.rf (Nat.le_refl _) (Nat.le_refl _) hlv
  rw [Nat.sub_self, Nat.sub_self] at k2
  exact k2
theorem Cn.ofZ {g : Gm} {l : Launch} {d mc ms nL : Nat} {y : MethodName} {cc : ByteArray} {As : List MV} {S : Shp} {F : Rfs} {D : Dat} {Q : QT} (hpl : plainName y.cls = true) (hen : (entA As).length ≤ nL)
    (h : ∀ K : KT, Act g l y.cls cc nL d S.length (szS S) mc ms (y.name = "<init>") K → RtZ cc S mc ms Q K → K 0 (entL As nL) [] S F D) : Cn g l d mc ms (y, cc, nL, some .boolean) As S F D Q := by
  refine Met.ofW (cc := cc) (maxL := nL) (ret := some .boolean) hpl rfl ?_
  intro p e s m args below meth c s₁ B hml hv
  obtain ⟨rfl, hAm, hP, hsz⟩ := hv
  have hx := B.exec
  have hb := B.bytes
  have hr := B.returns
  have hts := atoms_spec (ws := Cond.code y cc nL (some .boolean) :: Wd) B.pre
  have hown : s.vm.findClass y.cls = some m.cls := findClass_of_methodNamed B.named
  have hlocks := B.notSynchronized
  have hin : y.name = "<init>" → meth.name = "<init>" := fun hy => (name_of_methodNamed B.named B.method).1.trans hy
  have k := h (KW g S.length (szS S) nL p l e (rmO d mc ms) s m ((As.map (vv (gH g))).toArray) below meth c (MQ below (Qcn g S mc ms Q) ((As.map (vv (gH g))).toArray) s mc ms (gFr g))) ⟨p, e, rmO d mc ms, s, m, _, below, meth, c, _, hx, hb, hml, hown, fun w hw => hts w (List.mem_cons_of_mem _ hw), hAm, Nat.le_refl _, Nat.le_refl _, Nat.le_refl _, Nat.le_refl _, hin, hsz, rfl⟩ (by
    intro pc lo v S1 F1 D1 hd h01 hq hl1 hs1 H locs ls hP1 hS h1 h2 hl
    have c1 : S1.length - S.length = mc := by omega
    have c2 : szS S1 - szS S = ms := by omega
    rw [c1, c2]
    exact W.zret (v := Int32.ofInt v) hx hb hr (by rcases h01 with rfl | rfl <;> decide +kernel) (fun t ht hW => ⟨⟨(some (vI v)), S1, F1, D1, rfl, hq, by rw [ht]; exact hP1, hl1, hs1⟩, hS.F ht⟩) hS.2.2 hd)
  have hl := lv_entry (As.map (vv (gH g))) (n := nL) (by rw [entA_len]; exact hen)
  have hlv : lvh (gH g) ((lg_sl (As.map (vv (gH g))) ++ List.replicate (nL - (lg_sl (As.map (vv (gH g)))).length) Slot.unset).toArray) nL (entL As nL) := by
    refine ⟨hl.1, hl.2.1, fun i v hv hn => ?_⟩
    unfold entL at hv
    by_cases hi : i < (entA As).length
    · rw [List.getElem?_append_left hi] at hv
      have := entA_args (gH g) As 0 i v hv hn
      rw [Nat.zero_add] at this
      exact hl.2.2 _ this
    · rw [List.getElem?_append_right (by omega), List.getElem?_replicate] at hv
      split at hv
      · cases hv; exact absurd rfl hn
      · cases hv
  rw [lg_entry_eq]
  have k2 := k s.heap [] _ hP va_S.rf (Nat.le_refl _) (Nat.le_refl _) hlv
  rw [Nat.sub_self, Nat.sub_self] at k2
  exact k2
theorem Cn.ofL {g : Gm} {l : Launch} {d mc ms nL : Nat} {y : MethodName} {cc : ByteArray} {As : List MV} {S : Shp} {F : Rfs} {D : Dat} {Q : QT} (hpl : plainName y.cls = true) (hen : (entA As).length ≤ nL)
    (h : ∀ K : KT, Act g l y.cls cc nL d S.length (szS S) mc ms (y.name = "<init>") K → RtL cc S mc ms Q K → K 0 (entL As nL) [] S F D) : Cn g l d mc ms (y, cc, nL, some .long) As S F D Q := by
  refine Met.ofW (cc := cc) (maxL := nL) (ret := some .long) hpl rfl ?_
  intro p e s m args below meth c s₁ B hml hv
  obtain ⟨rfl, hAm, hP, hsz⟩ := hv
  have hx := B.exec
  have hb := B.bytes
  have hr := B.returns
  have hts := atoms_spec (ws := Cond.code y cc nL (some .long) :: Wd) B.pre
  have hown : s.vm.findClass y.cls = some m.cls := findClass_of_methodNamed B.named
  have hlocks := B.notSynchronized
  have hin : y.name = "<init>" → meth.name = "<init>" := fun hy => (name_of_methodNamed B.named B.method).1.trans hy
  have k := h (KW g S.length (szS S) nL p l e (rmO d mc ms) s m ((As.map (vv (gH g))).toArray) below meth c (MQ below (Qcn g S mc ms Q) ((As.map (vv (gH g))).toArray) s mc ms (gFr g))) ⟨p, e, rmO d mc ms, s, m, _, below, meth, c, _, hx, hb, hml, hown, fun w hw => hts w (List.mem_cons_of_mem _ hw), hAm, Nat.le_refl _, Nat.le_refl _, Nat.le_refl _, Nat.le_refl _, hin, hsz, rfl⟩ (by
    intro pc lo v S1 F1 D1 hd hq hl1 hs1 H locs ls hP1 hS h1 h2 hl
    have c1 : S1.length - S.length = mc := by omega
    have c2 : szS S1 - szS S = ms := by omega
    rw [c1, c2]
    exact W.lret (v := Int64.ofInt v) hx hb hr (fun t ht hW => ⟨⟨(some (vL v)), S1, F1, D1, rfl, hq, by rw [ht]; exact hP1, hl1, hs1⟩, hS.F ht⟩) hS.2.2 hd)
  have hl := lv_entry (As.map (vv (gH g))) (n := nL) (by rw [entA_len]; exact hen)
  have hlv : lvh (gH g) ((lg_sl (As.map (vv (gH g))) ++ List.replicate (nL - (lg_sl (As.map (vv (gH g)))).length) Slot.unset).toArray) nL (entL As nL) := by
    refine ⟨hl.1, hl.2.1, fun i v hv hn => ?_⟩
    unfold entL at hv
    by_cases hi : i < (entA As).length
    · rw [List.getElem?_append_left hi] at hv
      have := entA_args (gH g) As 0 i v hv hn
      rw [Nat.zero_add] at this
      exact hl.2.2 _ this
    · rw [List.getElem?_append_right (by omega), List.getElem?_replicate] at hv
      split at hv
      · cases hv; exact absurd rfl hn
      · cases hv
  rw [lg_entry_eq]
  have k2 := k s.heap [] _ hP va_S.rf (Nat.le_refl _) (Nat.le_refl _) hlv
  rw [Nat.sub_self, Nat.sub_self] at k2
  exact k2
theorem Cn.ofV {g : Gm} {l : Launch} {d mc ms nL : Nat} {y : MethodName} {cc : ByteArray} {As : List MV} {S : Shp} {F : Rfs} {D : Dat} {Q : QT} (hpl : plainName y.cls = true) (hen : (entA As).length ≤ nL)
    (h : ∀ K : KT, Act g l y.cls cc nL d S.length (szS S) mc ms (y.name = "<init>") K → RtV cc S mc ms Q K → K 0 (entL As nL) [] S F D) : Cn g l d mc ms (y, cc, nL, none) As S F D Q := by
  refine Met.ofW (cc := cc) (maxL := nL) (ret := none) hpl rfl ?_
  intro p e s m args below meth c s₁ B hml hv
  obtain ⟨rfl, hAm, hP, hsz⟩ := hv
  have hx := B.exec
  have hb := B.bytes
  have hr := B.returns
  have hts := atoms_spec (ws := Cond.code y cc nL (none) :: Wd) B.pre
  have hown : s.vm.findClass y.cls = some m.cls := findClass_of_methodNamed B.named
  have hlocks := B.notSynchronized
  have hin : y.name = "<init>" → meth.name = "<init>" := fun hy => (name_of_methodNamed B.named B.method).1.trans hy
  have k := h (KW g S.length (szS S) nL p l e (rmO d mc ms) s m ((As.map (vv (gH g))).toArray) below meth c (MQ below (Qcn g S mc ms Q) ((As.map (vv (gH g))).toArray) s mc ms (gFr g))) ⟨p, e, rmO d mc ms, s, m, _, below, meth, c, _, hx, hb, hml, hown, fun w hw => hts w (List.mem_cons_of_mem _ hw), hAm, Nat.le_refl _, Nat.le_refl _, Nat.le_refl _, Nat.le_refl _, hin, hsz, rfl⟩ (by
    intro pc lo S1 F1 D1 hd hq hl1 hs1 H locs ls hP1 hS h1 h2 hl
    have c1 : S1.length - S.length = mc := by omega
    have c2 : szS S1 - szS S = ms := by omega
    rw [c1, c2]
    exact W.vret hx hb hr (fun t ht hW => ⟨⟨none, S1, F1, D1, rfl, hq, by rw [ht]; exact hP1, hl1, hs1⟩, hS.F ht⟩) hS.2.2 hd)
  have hl := lv_entry (As.map (vv (gH g))) (n := nL) (by rw [entA_len]; exact hen)
  have hlv : lvh (gH g) ((lg_sl (As.map (vv (gH g))) ++ List.replicate (nL - (lg_sl (As.map (vv (gH g)))).length) Slot.unset).toArray) nL (entL As nL) := by
    refine ⟨hl.1, hl.2.1, fun i v hv hn => ?_⟩
    unfold entL at hv
    by_cases hi : i < (entA As).length
    · rw [List.getElem?_append_left hi] at hv
      have := entA_args (gH g) As 0 i v hv hn
      rw [Nat.zero_add] at this
      exact hl.2.2 _ this
    · rw [List.getElem?_append_right (by omega), List.getElem?_replicate] at hv
      split at hv
      · cases hv; exact absurd rfl hn
      · cases hv
  rw [lg_entry_eq]
  have k2 := k s.heap [] _ hP va_S.rf (Nat.le_refl _) (Nat.le_refl _) hlv
  rw [Nat.sub_self, Nat.sub_self] at k2
  exact k2
theorem Cn.ofA {g : Gm} {l : Launch} {d mc ms nL : Nat} {y : MethodName} {cc : ByteArray} {rt : FieldType} (hrt : (∃ n, rt = .object n) ∨ ∃ t, rt = .array t) {As : List MV} {S : Shp} {F : Rfs} {D : Dat} {Q : QT} (hpl : plainName y.cls = true) (hen : (entA As).length ≤ nL)
    (h : ∀ K : KT, Act g l y.cls cc nL d S.length (szS S) mc ms (y.name = "<init>") K → RtA cc S mc ms Q K → K 0 (entL As nL) [] S F D) : Cn g l d mc ms (y, cc, nL, some rt) As S F D Q := by
  refine Met.ofW (cc := cc) (maxL := nL) (ret := some rt) hpl rfl ?_
  intro p e s m args below meth c s₁ B hml hv
  obtain ⟨rfl, hAm, hP, hsz⟩ := hv
  have hx := B.exec
  have hb := B.bytes
  have hr := B.returns
  have hts := atoms_spec (ws := Cond.code y cc nL (some rt) :: Wd) B.pre
  have hown : s.vm.findClass y.cls = some m.cls := findClass_of_methodNamed B.named
  have hlocks := B.notSynchronized
  have hin : y.name = "<init>" → meth.name = "<init>" := fun hy => (name_of_methodNamed B.named B.method).1.trans hy
  have k := h (KW g S.length (szS S) nL p l e (rmO d mc ms) s m ((As.map (vv (gH g))).toArray) below meth c (MQ below (Qcn g S mc ms Q) ((As.map (vv (gH g))).toArray) s mc ms (gFr g))) ⟨p, e, rmO d mc ms, s, m, _, below, meth, c, _, hx, hb, hml, hown, fun w hw => hts w (List.mem_cons_of_mem _ hw), hAm, Nat.le_refl _, Nat.le_refl _, Nat.le_refl _, Nat.le_refl _, hin, hsz, rfl⟩ (by
    intro pc lo v S1 F1 D1 hd hq hl1 hs1 H locs ls hP1 hS h1 h2 hl
    have c1 : S1.length - S.length = mc := by omega
    have c2 : szS S1 - szS S = ms := by omega
    rw [c1, c2]
    exact W.aret (v := .ref (gH g + v)) hx hb hr hrt (Or.inr ⟨_, rfl⟩) (fun t ht hW => ⟨⟨(some (vR v)), S1, F1, D1, rfl, hq, by rw [ht]; exact hP1, hl1, hs1⟩, hS.F ht⟩) hS.2.2 hd)
  have hl := lv_entry (As.map (vv (gH g))) (n := nL) (by rw [entA_len]; exact hen)
  have hlv : lvh (gH g) ((lg_sl (As.map (vv (gH g))) ++ List.replicate (nL - (lg_sl (As.map (vv (gH g)))).length) Slot.unset).toArray) nL (entL As nL) := by
    refine ⟨hl.1, hl.2.1, fun i v hv hn => ?_⟩
    unfold entL at hv
    by_cases hi : i < (entA As).length
    · rw [List.getElem?_append_left hi] at hv
      have := entA_args (gH g) As 0 i v hv hn
      rw [Nat.zero_add] at this
      exact hl.2.2 _ this
    · rw [List.getElem?_append_right (by omega), List.getElem?_replicate] at hv
      split at hv
      · cases hv; exact absurd rfl hn
      · cases hv
  rw [lg_entry_eq]
  have k2 := k s.heap [] _ hP va_S.rf (Nat.le_refl _) (Nat.le_refl _) hlv
  rw [Nat.sub_self, Nat.sub_self] at k2
  exact k2
end
