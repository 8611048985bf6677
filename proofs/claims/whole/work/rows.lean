section
-- ===== PART A: goes FIRST, ahead of the names: the tables' words, and 'selects' of the private methods out of them =====
/-- a private method of a class that the tables say can be made, by its rows of tables_1 -/
def lw_okq (q : MethodName × Nat) : Prop := (q.1.cls ≠ "java/lang/invoke/MethodHandle" ∧ q.1.cls ≠ "java/lang/invoke/VarHandle") ∧ Cond.instantiable q.1.cls q.2 ∈ tables_1 ∧ Cond.privateMethod q.1 ∈ tables_1 ∧ Cond.instanceMethod q.1 ∈ tables_1
theorem lw_p0 : lw_okq (⟨"GrownSnapshots", "isTask", "(I)Z"⟩, 9) := ⟨⟨by decide +kernel, by decide +kernel⟩, List.mem_of_getElem? (i := 10) (by decide +kernel), List.mem_of_getElem? (i := 174) (by decide +kernel), List.mem_of_getElem? (i := 175) (by decide +kernel)⟩
theorem lw_p1 : lw_okq (⟨"GrownSnapshots$State", "endsChunk", "(II)Z"⟩, 3) := ⟨⟨by decide +kernel, by decide +kernel⟩, List.mem_of_getElem? (i := 79) (by decide +kernel), List.mem_of_getElem? (i := 209) (by decide +kernel), List.mem_of_getElem? (i := 210) (by decide +kernel)⟩
theorem lw_p2 : lw_okq (⟨"GrownSnapshots", "totalStateBytes", "()I"⟩, 9) := ⟨⟨by decide +kernel, by decide +kernel⟩, List.mem_of_getElem? (i := 10) (by decide +kernel), List.mem_of_getElem? (i := 225) (by decide +kernel), List.mem_of_getElem? (i := 226) (by decide +kernel)⟩
theorem lw_p3 : lw_okq (⟨"GrownSnapshots", "joinStates", "()V"⟩, 9) := ⟨⟨by decide +kernel, by decide +kernel⟩, List.mem_of_getElem? (i := 10) (by decide +kernel), List.mem_of_getElem? (i := 232) (by decide +kernel), List.mem_of_getElem? (i := 233) (by decide +kernel)⟩
theorem lw_p4 : lw_okq (⟨"GrownSnapshots", "becomeTasks", "(I)V"⟩, 9) := ⟨⟨by decide +kernel, by decide +kernel⟩, List.mem_of_getElem? (i := 10) (by decide +kernel), List.mem_of_getElem? (i := 237) (by decide +kernel), List.mem_of_getElem? (i := 238) (by decide +kernel)⟩
theorem lw_p5 : lw_okq (⟨"GrownSnapshots", "storeStates", "(LGrownSnapshots$Mark;)Z"⟩, 9) := ⟨⟨by decide +kernel, by decide +kernel⟩, List.mem_of_getElem? (i := 10) (by decide +kernel), List.mem_of_getElem? (i := 257) (by decide +kernel), List.mem_of_getElem? (i := 258) (by decide +kernel)⟩
theorem lw_p6 : lw_okq (⟨"GrownSnapshots", "storeState", "(LGrownSnapshots$Mark;I)Z"⟩, 9) := ⟨⟨by decide +kernel, by decide +kernel⟩, List.mem_of_getElem? (i := 10) (by decide +kernel), List.mem_of_getElem? (i := 265) (by decide +kernel), List.mem_of_getElem? (i := 266) (by decide +kernel)⟩
theorem lw_p7 : lw_okq (⟨"GrownSnapshots$Store", "findPart", "([IIII)I"⟩, 8) := ⟨⟨by decide +kernel, by decide +kernel⟩, List.mem_of_getElem? (i := 22) (by decide +kernel), List.mem_of_getElem? (i := 277) (by decide +kernel), List.mem_of_getElem? (i := 278) (by decide +kernel)⟩
theorem lw_p8 : lw_okq (⟨"GrownSnapshots$Store", "makePart", "([IIII)I"⟩, 8) := ⟨⟨by decide +kernel, by decide +kernel⟩, List.mem_of_getElem? (i := 22) (by decide +kernel), List.mem_of_getElem? (i := 285) (by decide +kernel), List.mem_of_getElem? (i := 286) (by decide +kernel)⟩
theorem lw_p9 : lw_okq (⟨"GrownSnapshots$Store", "leastUnused", "()I"⟩, 8) := ⟨⟨by decide +kernel, by decide +kernel⟩, List.mem_of_getElem? (i := 22) (by decide +kernel), List.mem_of_getElem? (i := 289) (by decide +kernel), List.mem_of_getElem? (i := 290) (by decide +kernel)⟩
theorem lw_p10 : lw_okq (⟨"GrownSnapshots", "latestKept", "()LGrownSnapshots$Mark;"⟩, 9) := ⟨⟨by decide +kernel, by decide +kernel⟩, List.mem_of_getElem? (i := 10) (by decide +kernel), List.mem_of_getElem? (i := 306) (by decide +kernel), List.mem_of_getElem? (i := 307) (by decide +kernel)⟩
theorem lw_p11 : lw_okq (⟨"GrownSnapshots$Mark", "sharedParts", "(LGrownSnapshots$Mark;I)I"⟩, 9) := ⟨⟨by decide +kernel, by decide +kernel⟩, List.mem_of_getElem? (i := 97) (by decide +kernel), List.mem_of_getElem? (i := 318) (by decide +kernel), List.mem_of_getElem? (i := 319) (by decide +kernel)⟩
theorem lw_p12 : lw_okq (⟨"GrownSnapshots", "copyStates", "(LGrownSnapshots$Mark;)V"⟩, 9) := ⟨⟨by decide +kernel, by decide +kernel⟩, List.mem_of_getElem? (i := 10) (by decide +kernel), List.mem_of_getElem? (i := 325) (by decide +kernel), List.mem_of_getElem? (i := 326) (by decide +kernel)⟩
theorem lw_p13 : lw_okq (⟨"GrownSnapshots", "keptMark", "(I)LGrownSnapshots$Mark;"⟩, 9) := ⟨⟨by decide +kernel, by decide +kernel⟩, List.mem_of_getElem? (i := 10) (by decide +kernel), List.mem_of_getElem? (i := 334) (by decide +kernel), List.mem_of_getElem? (i := 335) (by decide +kernel)⟩
theorem lw_p14 : lw_okq (⟨"GrownSnapshots", "heldMark", "(I)LGrownSnapshots$Mark;"⟩, 9) := ⟨⟨by decide +kernel, by decide +kernel⟩, List.mem_of_getElem? (i := 10) (by decide +kernel), List.mem_of_getElem? (i := 338) (by decide +kernel), List.mem_of_getElem? (i := 339) (by decide +kernel)⟩
theorem lw_p15 : lw_okq (⟨"GrownSnapshots", "letGoUnheld", "()V"⟩, 9) := ⟨⟨by decide +kernel, by decide +kernel⟩, List.mem_of_getElem? (i := 10) (by decide +kernel), List.mem_of_getElem? (i := 342) (by decide +kernel), List.mem_of_getElem? (i := 343) (by decide +kernel)⟩
def lw_privs_1 : List (MethodName × Nat) := [(⟨"GrownSnapshots", "isTask", "(I)Z"⟩, 9), (⟨"GrownSnapshots$State", "endsChunk", "(II)Z"⟩, 3), (⟨"GrownSnapshots", "totalStateBytes", "()I"⟩, 9), (⟨"GrownSnapshots", "joinStates", "()V"⟩, 9), (⟨"GrownSnapshots", "becomeTasks", "(I)V"⟩, 9), (⟨"GrownSnapshots", "storeStates", "(LGrownSnapshots$Mark;)Z"⟩, 9), (⟨"GrownSnapshots", "storeState", "(LGrownSnapshots$Mark;I)Z"⟩, 9), (⟨"GrownSnapshots$Store", "findPart", "([IIII)I"⟩, 8), (⟨"GrownSnapshots$Store", "makePart", "([IIII)I"⟩, 8), (⟨"GrownSnapshots$Store", "leastUnused", "()I"⟩, 8), (⟨"GrownSnapshots", "latestKept", "()LGrownSnapshots$Mark;"⟩, 9), (⟨"GrownSnapshots$Mark", "sharedParts", "(LGrownSnapshots$Mark;I)I"⟩, 9), (⟨"GrownSnapshots", "copyStates", "(LGrownSnapshots$Mark;)V"⟩, 9), (⟨"GrownSnapshots", "keptMark", "(I)LGrownSnapshots$Mark;"⟩, 9), (⟨"GrownSnapshots", "heldMark", "(I)LGrownSnapshots$Mark;"⟩, 9), (⟨"GrownSnapshots", "letGoUnheld", "()V"⟩, 9)]
theorem lw_r1 : ∀ q ∈ lw_privs_1, lw_okq q := List.forall_mem_cons.mpr ⟨lw_p0, List.forall_mem_cons.mpr ⟨lw_p1, List.forall_mem_cons.mpr ⟨lw_p2, List.forall_mem_cons.mpr ⟨lw_p3, List.forall_mem_cons.mpr ⟨lw_p4, List.forall_mem_cons.mpr ⟨lw_p5, List.forall_mem_cons.mpr ⟨lw_p6, List.forall_mem_cons.mpr ⟨lw_p7, List.forall_mem_cons.mpr ⟨lw_p8, List.forall_mem_cons.mpr ⟨lw_p9, List.forall_mem_cons.mpr ⟨lw_p10, List.forall_mem_cons.mpr ⟨lw_p11, List.forall_mem_cons.mpr ⟨lw_p12, List.forall_mem_cons.mpr ⟨lw_p13, List.forall_mem_cons.mpr ⟨lw_p14, List.forall_mem_cons.mpr ⟨lw_p15, fun _ h => absurd h List.not_mem_nil⟩⟩⟩⟩⟩⟩⟩⟩⟩⟩⟩⟩⟩⟩⟩⟩
theorem lw_p16 : lw_okq (⟨"GrownSnapshots", "isBase", "(I)Z"⟩, 9) := ⟨⟨by decide +kernel, by decide +kernel⟩, List.mem_of_getElem? (i := 10) (by decide +kernel), List.mem_of_getElem? (i := 346) (by decide +kernel), List.mem_of_getElem? (i := 347) (by decide +kernel)⟩
theorem lw_p17 : lw_okq (⟨"GrownSnapshots", "letGo", "(I)V"⟩, 9) := ⟨⟨by decide +kernel, by decide +kernel⟩, List.mem_of_getElem? (i := 10) (by decide +kernel), List.mem_of_getElem? (i := 350) (by decide +kernel), List.mem_of_getElem? (i := 351) (by decide +kernel)⟩
theorem lw_p18 : lw_okq (⟨"GrownSnapshots", "freeUnnamed", "()I"⟩, 9) := ⟨⟨by decide +kernel, by decide +kernel⟩, List.mem_of_getElem? (i := 10) (by decide +kernel), List.mem_of_getElem? (i := 354) (by decide +kernel), List.mem_of_getElem? (i := 355) (by decide +kernel)⟩
theorem lw_p19 : lw_okq (⟨"GrownSnapshots", "nameKeptParts", "()V"⟩, 9) := ⟨⟨by decide +kernel, by decide +kernel⟩, List.mem_of_getElem? (i := 10) (by decide +kernel), List.mem_of_getElem? (i := 358) (by decide +kernel), List.mem_of_getElem? (i := 359) (by decide +kernel)⟩
theorem lw_p20 : lw_okq (⟨"GrownSnapshots", "freePart", "(I)V"⟩, 9) := ⟨⟨by decide +kernel, by decide +kernel⟩, List.mem_of_getElem? (i := 10) (by decide +kernel), List.mem_of_getElem? (i := 370) (by decide +kernel), List.mem_of_getElem? (i := 371) (by decide +kernel)⟩
theorem lw_p21 : lw_okq (⟨"GrownSnapshots", "latestUsable", "(I)LGrownSnapshots$Mark;"⟩, 9) := ⟨⟨by decide +kernel, by decide +kernel⟩, List.mem_of_getElem? (i := 10) (by decide +kernel), List.mem_of_getElem? (i := 379) (by decide +kernel), List.mem_of_getElem? (i := 380) (by decide +kernel)⟩
theorem lw_p22 : lw_okq (⟨"GrownSnapshots", "isUsable", "(LGrownSnapshots$Mark;)Z"⟩, 9) := ⟨⟨by decide +kernel, by decide +kernel⟩, List.mem_of_getElem? (i := 10) (by decide +kernel), List.mem_of_getElem? (i := 383) (by decide +kernel), List.mem_of_getElem? (i := 384) (by decide +kernel)⟩
theorem lw_p23 : lw_okq (⟨"GrownSnapshots", "isReadable", "(II)Z"⟩, 9) := ⟨⟨by decide +kernel, by decide +kernel⟩, List.mem_of_getElem? (i := 10) (by decide +kernel), List.mem_of_getElem? (i := 387) (by decide +kernel), List.mem_of_getElem? (i := 388) (by decide +kernel)⟩
theorem lw_p24 : lw_okq (⟨"GrownSnapshots", "readState", "(LGrownSnapshots$Mark;I)V"⟩, 9) := ⟨⟨by decide +kernel, by decide +kernel⟩, List.mem_of_getElem? (i := 10) (by decide +kernel), List.mem_of_getElem? (i := 395) (by decide +kernel), List.mem_of_getElem? (i := 396) (by decide +kernel)⟩
theorem lw_p25 : lw_okq (⟨"GrownSnapshots", "readPart", "(II)V"⟩, 9) := ⟨⟨by decide +kernel, by decide +kernel⟩, List.mem_of_getElem? (i := 10) (by decide +kernel), List.mem_of_getElem? (i := 399) (by decide +kernel), List.mem_of_getElem? (i := 400) (by decide +kernel)⟩
theorem lw_p26 : lw_okq (⟨"GrownSnapshots$Mark", "hasAlikeList", "(LGrownSnapshots$Mark;I)Z"⟩, 9) := ⟨⟨by decide +kernel, by decide +kernel⟩, List.mem_of_getElem? (i := 97) (by decide +kernel), List.mem_of_getElem? (i := 424) (by decide +kernel), List.mem_of_getElem? (i := 425) (by decide +kernel)⟩
theorem lw_p27 : lw_okq (⟨"GrownSnapshots", "keptNaming", "(I)I"⟩, 9) := ⟨⟨by decide +kernel, by decide +kernel⟩, List.mem_of_getElem? (i := 10) (by decide +kernel), List.mem_of_getElem? (i := 432) (by decide +kernel), List.mem_of_getElem? (i := 433) (by decide +kernel)⟩
theorem lw_p28 : lw_okq (⟨"GrownSnapshots", "copyCount", "(I)I"⟩, 9) := ⟨⟨by decide +kernel, by decide +kernel⟩, List.mem_of_getElem? (i := 10) (by decide +kernel), List.mem_of_getElem? (i := 440) (by decide +kernel), List.mem_of_getElem? (i := 441) (by decide +kernel)⟩
theorem lw_p29 : lw_okq (⟨"GrownSnapshots", "shelfOf", "(I)LGrownSnapshots$Shelf;"⟩, 9) := ⟨⟨by decide +kernel, by decide +kernel⟩, List.mem_of_getElem? (i := 10) (by decide +kernel), List.mem_of_getElem? (i := 448) (by decide +kernel), List.mem_of_getElem? (i := 449) (by decide +kernel)⟩
theorem lw_p30 : lw_okq (⟨"GrownSnapshots", "keptCount", "()I"⟩, 9) := ⟨⟨by decide +kernel, by decide +kernel⟩, List.mem_of_getElem? (i := 10) (by decide +kernel), List.mem_of_getElem? (i := 469) (by decide +kernel), List.mem_of_getElem? (i := 470) (by decide +kernel)⟩
theorem lw_p31 : lw_okq (⟨"GrownSnapshots", "allCopies", "()I"⟩, 9) := ⟨⟨by decide +kernel, by decide +kernel⟩, List.mem_of_getElem? (i := 10) (by decide +kernel), List.mem_of_getElem? (i := 478) (by decide +kernel), List.mem_of_getElem? (i := 479) (by decide +kernel)⟩
def lw_privs_2 : List (MethodName × Nat) := [(⟨"GrownSnapshots", "isBase", "(I)Z"⟩, 9), (⟨"GrownSnapshots", "letGo", "(I)V"⟩, 9), (⟨"GrownSnapshots", "freeUnnamed", "()I"⟩, 9), (⟨"GrownSnapshots", "nameKeptParts", "()V"⟩, 9), (⟨"GrownSnapshots", "freePart", "(I)V"⟩, 9), (⟨"GrownSnapshots", "latestUsable", "(I)LGrownSnapshots$Mark;"⟩, 9), (⟨"GrownSnapshots", "isUsable", "(LGrownSnapshots$Mark;)Z"⟩, 9), (⟨"GrownSnapshots", "isReadable", "(II)Z"⟩, 9), (⟨"GrownSnapshots", "readState", "(LGrownSnapshots$Mark;I)V"⟩, 9), (⟨"GrownSnapshots", "readPart", "(II)V"⟩, 9), (⟨"GrownSnapshots$Mark", "hasAlikeList", "(LGrownSnapshots$Mark;I)Z"⟩, 9), (⟨"GrownSnapshots", "keptNaming", "(I)I"⟩, 9), (⟨"GrownSnapshots", "copyCount", "(I)I"⟩, 9), (⟨"GrownSnapshots", "shelfOf", "(I)LGrownSnapshots$Shelf;"⟩, 9), (⟨"GrownSnapshots", "keptCount", "()I"⟩, 9), (⟨"GrownSnapshots", "allCopies", "()I"⟩, 9)]
theorem lw_r2 : ∀ q ∈ lw_privs_2, lw_okq q := List.forall_mem_cons.mpr ⟨lw_p16, List.forall_mem_cons.mpr ⟨lw_p17, List.forall_mem_cons.mpr ⟨lw_p18, List.forall_mem_cons.mpr ⟨lw_p19, List.forall_mem_cons.mpr ⟨lw_p20, List.forall_mem_cons.mpr ⟨lw_p21, List.forall_mem_cons.mpr ⟨lw_p22, List.forall_mem_cons.mpr ⟨lw_p23, List.forall_mem_cons.mpr ⟨lw_p24, List.forall_mem_cons.mpr ⟨lw_p25, List.forall_mem_cons.mpr ⟨lw_p26, List.forall_mem_cons.mpr ⟨lw_p27, List.forall_mem_cons.mpr ⟨lw_p28, List.forall_mem_cons.mpr ⟨lw_p29, List.forall_mem_cons.mpr ⟨lw_p30, List.forall_mem_cons.mpr ⟨lw_p31, fun _ h => absurd h List.not_mem_nil⟩⟩⟩⟩⟩⟩⟩⟩⟩⟩⟩⟩⟩⟩⟩⟩
theorem lw_p32 : lw_okq (⟨"GrownSnapshotsModel", "isTask", "(I)Z"⟩, 21) := ⟨⟨by decide +kernel, by decide +kernel⟩, List.mem_of_getElem? (i := 482) (by decide +kernel), List.mem_of_getElem? (i := 556) (by decide +kernel), List.mem_of_getElem? (i := 557) (by decide +kernel)⟩
theorem lw_p33 : lw_okq (⟨"GrownSnapshotsModel", "chunkFrom", "(II)I"⟩, 21) := ⟨⟨by decide +kernel, by decide +kernel⟩, List.mem_of_getElem? (i := 482) (by decide +kernel), List.mem_of_getElem? (i := 580) (by decide +kernel), List.mem_of_getElem? (i := 581) (by decide +kernel)⟩
theorem lw_p34 : lw_okq (⟨"GrownSnapshotsModel", "become", "(I)V"⟩, 21) := ⟨⟨by decide +kernel, by decide +kernel⟩, List.mem_of_getElem? (i := 482) (by decide +kernel), List.mem_of_getElem? (i := 588) (by decide +kernel), List.mem_of_getElem? (i := 589) (by decide +kernel)⟩
theorem lw_p35 : lw_okq (⟨"GrownSnapshotsModel", "isPart", "(I)Z"⟩, 21) := ⟨⟨by decide +kernel, by decide +kernel⟩, List.mem_of_getElem? (i := 482) (by decide +kernel), List.mem_of_getElem? (i := 596) (by decide +kernel), List.mem_of_getElem? (i := 597) (by decide +kernel)⟩
theorem lw_p36 : lw_okq (⟨"GrownSnapshotsModel", "hasPart", "(II)Z"⟩, 21) := ⟨⟨by decide +kernel, by decide +kernel⟩, List.mem_of_getElem? (i := 482) (by decide +kernel), List.mem_of_getElem? (i := 600) (by decide +kernel), List.mem_of_getElem? (i := 601) (by decide +kernel)⟩
theorem lw_p37 : lw_okq (⟨"GrownSnapshotsModel", "isBroken", "(I)Z"⟩, 21) := ⟨⟨by decide +kernel, by decide +kernel⟩, List.mem_of_getElem? (i := 482) (by decide +kernel), List.mem_of_getElem? (i := 604) (by decide +kernel), List.mem_of_getElem? (i := 605) (by decide +kernel)⟩
theorem lw_p38 : lw_okq (⟨"GrownSnapshotsModel", "isByte", "(III)Z"⟩, 21) := ⟨⟨by decide +kernel, by decide +kernel⟩, List.mem_of_getElem? (i := 482) (by decide +kernel), List.mem_of_getElem? (i := 612) (by decide +kernel), List.mem_of_getElem? (i := 613) (by decide +kernel)⟩
theorem lw_p39 : lw_okq (⟨"GrownSnapshotsModel", "held", "()I"⟩, 21) := ⟨⟨by decide +kernel, by decide +kernel⟩, List.mem_of_getElem? (i := 482) (by decide +kernel), List.mem_of_getElem? (i := 629) (by decide +kernel), List.mem_of_getElem? (i := 630) (by decide +kernel)⟩
theorem lw_p40 : lw_okq (⟨"GrownSnapshotsModel", "partFor", "(III)I"⟩, 21) := ⟨⟨by decide +kernel, by decide +kernel⟩, List.mem_of_getElem? (i := 482) (by decide +kernel), List.mem_of_getElem? (i := 633) (by decide +kernel), List.mem_of_getElem? (i := 634) (by decide +kernel)⟩
theorem lw_p41 : lw_okq (⟨"GrownSnapshotsModel", "isChunk", "(IIII)Z"⟩, 21) := ⟨⟨by decide +kernel, by decide +kernel⟩, List.mem_of_getElem? (i := 482) (by decide +kernel), List.mem_of_getElem? (i := 637) (by decide +kernel), List.mem_of_getElem? (i := 638) (by decide +kernel)⟩
theorem lw_p42 : lw_okq (⟨"GrownSnapshotsModel", "allBytes", "()I"⟩, 21) := ⟨⟨by decide +kernel, by decide +kernel⟩, List.mem_of_getElem? (i := 482) (by decide +kernel), List.mem_of_getElem? (i := 641) (by decide +kernel), List.mem_of_getElem? (i := 642) (by decide +kernel)⟩
theorem lw_p43 : lw_okq (⟨"GrownSnapshotsModel", "latest", "(I)I"⟩, 21) := ⟨⟨by decide +kernel, by decide +kernel⟩, List.mem_of_getElem? (i := 482) (by decide +kernel), List.mem_of_getElem? (i := 645) (by decide +kernel), List.mem_of_getElem? (i := 646) (by decide +kernel)⟩
theorem lw_p44 : lw_okq (⟨"GrownSnapshotsModel", "tells", "(II)I"⟩, 21) := ⟨⟨by decide +kernel, by decide +kernel⟩, List.mem_of_getElem? (i := 482) (by decide +kernel), List.mem_of_getElem? (i := 649) (by decide +kernel), List.mem_of_getElem? (i := 650) (by decide +kernel)⟩
theorem lw_p45 : lw_okq (⟨"GrownSnapshotsModel", "keptSlot", "(I)I"⟩, 21) := ⟨⟨by decide +kernel, by decide +kernel⟩, List.mem_of_getElem? (i := 482) (by decide +kernel), List.mem_of_getElem? (i := 657) (by decide +kernel), List.mem_of_getElem? (i := 658) (by decide +kernel)⟩
theorem lw_p46 : lw_okq (⟨"GrownSnapshotsModel", "slotOf", "(I)I"⟩, 21) := ⟨⟨by decide +kernel, by decide +kernel⟩, List.mem_of_getElem? (i := 482) (by decide +kernel), List.mem_of_getElem? (i := 661) (by decide +kernel), List.mem_of_getElem? (i := 662) (by decide +kernel)⟩
theorem lw_p47 : lw_okq (⟨"GrownSnapshotsModel", "isUsable", "(I)Z"⟩, 21) := ⟨⟨by decide +kernel, by decide +kernel⟩, List.mem_of_getElem? (i := 482) (by decide +kernel), List.mem_of_getElem? (i := 669) (by decide +kernel), List.mem_of_getElem? (i := 670) (by decide +kernel)⟩
def lw_privs_3 : List (MethodName × Nat) := [(⟨"GrownSnapshotsModel", "isTask", "(I)Z"⟩, 21), (⟨"GrownSnapshotsModel", "chunkFrom", "(II)I"⟩, 21), (⟨"GrownSnapshotsModel", "become", "(I)V"⟩, 21), (⟨"GrownSnapshotsModel", "isPart", "(I)Z"⟩, 21), (⟨"GrownSnapshotsModel", "hasPart", "(II)Z"⟩, 21), (⟨"GrownSnapshotsModel", "isBroken", "(I)Z"⟩, 21), (⟨"GrownSnapshotsModel", "isByte", "(III)Z"⟩, 21), (⟨"GrownSnapshotsModel", "held", "()I"⟩, 21), (⟨"GrownSnapshotsModel", "partFor", "(III)I"⟩, 21), (⟨"GrownSnapshotsModel", "isChunk", "(IIII)Z"⟩, 21), (⟨"GrownSnapshotsModel", "allBytes", "()I"⟩, 21), (⟨"GrownSnapshotsModel", "latest", "(I)I"⟩, 21), (⟨"GrownSnapshotsModel", "tells", "(II)I"⟩, 21), (⟨"GrownSnapshotsModel", "keptSlot", "(I)I"⟩, 21), (⟨"GrownSnapshotsModel", "slotOf", "(I)I"⟩, 21), (⟨"GrownSnapshotsModel", "isUsable", "(I)Z"⟩, 21)]
theorem lw_r3 : ∀ q ∈ lw_privs_3, lw_okq q := List.forall_mem_cons.mpr ⟨lw_p32, List.forall_mem_cons.mpr ⟨lw_p33, List.forall_mem_cons.mpr ⟨lw_p34, List.forall_mem_cons.mpr ⟨lw_p35, List.forall_mem_cons.mpr ⟨lw_p36, List.forall_mem_cons.mpr ⟨lw_p37, List.forall_mem_cons.mpr ⟨lw_p38, List.forall_mem_cons.mpr ⟨lw_p39, List.forall_mem_cons.mpr ⟨lw_p40, List.forall_mem_cons.mpr ⟨lw_p41, List.forall_mem_cons.mpr ⟨lw_p42, List.forall_mem_cons.mpr ⟨lw_p43, List.forall_mem_cons.mpr ⟨lw_p44, List.forall_mem_cons.mpr ⟨lw_p45, List.forall_mem_cons.mpr ⟨lw_p46, List.forall_mem_cons.mpr ⟨lw_p47, fun _ h => absurd h List.not_mem_nil⟩⟩⟩⟩⟩⟩⟩⟩⟩⟩⟩⟩⟩⟩⟩⟩
theorem lw_p48 : lw_okq (⟨"GrownSnapshotsModel", "isReadable", "(II)Z"⟩, 21) := ⟨⟨by decide +kernel, by decide +kernel⟩, List.mem_of_getElem? (i := 482) (by decide +kernel), List.mem_of_getElem? (i := 673) (by decide +kernel), List.mem_of_getElem? (i := 674) (by decide +kernel)⟩
theorem lw_p49 : lw_okq (⟨"GrownSnapshotsModel", "isGoodCopy", "(II)Z"⟩, 21) := ⟨⟨by decide +kernel, by decide +kernel⟩, List.mem_of_getElem? (i := 482) (by decide +kernel), List.mem_of_getElem? (i := 677) (by decide +kernel), List.mem_of_getElem? (i := 678) (by decide +kernel)⟩
theorem lw_p50 : lw_okq (⟨"GrownSnapshotsModel", "read", "(II)V"⟩, 21) := ⟨⟨by decide +kernel, by decide +kernel⟩, List.mem_of_getElem? (i := 482) (by decide +kernel), List.mem_of_getElem? (i := 685) (by decide +kernel), List.mem_of_getElem? (i := 686) (by decide +kernel)⟩
def lw_privs_4 : List (MethodName × Nat) := [(⟨"GrownSnapshotsModel", "isReadable", "(II)Z"⟩, 21), (⟨"GrownSnapshotsModel", "isGoodCopy", "(II)Z"⟩, 21), (⟨"GrownSnapshotsModel", "read", "(II)V"⟩, 21)]
theorem lw_r4 : ∀ q ∈ lw_privs_4, lw_okq q := List.forall_mem_cons.mpr ⟨lw_p48, List.forall_mem_cons.mpr ⟨lw_p49, List.forall_mem_cons.mpr ⟨lw_p50, fun _ h => absurd h List.not_mem_nil⟩⟩⟩
def lw_privs : List (MethodName × Nat) := lw_privs_1 ++ (lw_privs_2 ++ (lw_privs_3 ++ (lw_privs_4)))
def lw_tbl : List Cond := k2_sels lw_privs ++ tables_1
theorem lw_privs_ok : ∀ q ∈ lw_privs, lw_okq q := by
  show ∀ q ∈ lw_privs_1 ++ (lw_privs_2 ++ (lw_privs_3 ++ (lw_privs_4))), lw_okq q
  exact List.forall_mem_append.mpr ⟨lw_r1, List.forall_mem_append.mpr ⟨lw_r2, List.forall_mem_append.mpr ⟨lw_r3, lw_r4⟩⟩⟩
end
section
/-! ===== BEGIN words of one list among another's, by their places ===== -/
theorem goodIn_r {big : List Cond} (ws : List Cond) (ps : List Nat) (hp : ws = ps.filterMap (fun i => big[i]?)) (h : ws.all goodWord = true) : GoodIn big ws := by
  intro w hw
  have h1 := List.all_eq_true.mp h w hw
  rw [hp] at hw
  obtain ⟨i, -, hi⟩ := List.mem_filterMap.mp hw
  have hm : w ∈ big := by first | exact List.mem_of_getElem? hi | exact List.getElem?_mem hi
  exact ⟨hm, good_of_word h1⟩
theorem goodIn_app {big a b : List Cond} (ha : GoodIn big a) (hb : GoodIn big b) : GoodIn big (a ++ b) := fun w h => (List.mem_append.mp h).elim (ha w) (hb w)
theorem goodIn_ca {big a b : List Cond} {c : Cond} (ha : GoodIn big (c :: a)) (hb : GoodIn big b) : GoodIn big (c :: (a ++ b)) := fun w h => (List.mem_cons.mp h).elim (fun e => ha w (List.mem_cons.mpr (Or.inl e))) (fun h => (List.mem_append.mp h).elim (fun h => ha w (List.mem_cons.mpr (Or.inr h))) (hb w))
theorem goodIn_sub {big ws : List Cond} (hm : ∀ w ∈ ws, w ∈ big) (h : ws.all goodWord = true) : GoodIn big ws := fun w hw => ⟨hm w hw, good_of_word (List.all_eq_true.mp h w hw)⟩
/-! ===== END ===== -/
def RX0 : String := "GrownSnapshots$Mark"
def TX0 : u_T := fun k => match k with
  | 0 => ("GrownSnapshots$Mark", "lists", "[[I", true)
  | 1 => ("GrownSnapshots$Mark", "sizes", "[I", true)
  | 2 => ("GrownSnapshots$Mark", "number", "I", false)
  | 3 => ("GrownSnapshots$Mark", "kept", "Z", false)
  | 4 => ("GrownSnapshots$Mark", "base", "I", false)
  | 5 => ("GrownSnapshots$Mark", "tasks", "I", false)
  | 6 => ("GrownSnapshots$Mark", "ownParts", "I", false)
  | 7 => ("GrownSnapshots$Mark", "listBytes", "I", false)
  | _ => ("GrownSnapshots$Mark", "newBytes", "I", false)
def tyX0 : Nat → FieldType := fun k => match k with
  | 0 => .array (.array .int)
  | 1 => .array .int
  | 2 => .int
  | 3 => .boolean
  | 4 => .int
  | 5 => .int
  | 6 => .int
  | 7 => .int
  | _ => .int
abbrev wsX00 : List Cond := u_ws RX0 TX0 9
theorem nmX0 : ∀ a, a < 9 → ∀ b, b < 9 → a ≠ b → (TX0 a).2.1 ≠ (TX0 b).2.1 := by decide +kernel
theorem tyX0_ok : ∀ k, k < 9 → parseFieldDescriptor (TX0 k).2.2.1 = some (tyX0 k) := by decide +kernel
abbrev cX0_init : ByteArray := prog_2_method_1_code
def yX0_init : MethodName := ⟨RX0, "<init>", "()V"⟩
abbrev cX0_begin : ByteArray := prog_2_method_2_code
def yX0_begin : MethodName := ⟨RX0, "begin", "(II)V"⟩
abbrev cX0_partCount : ByteArray := prog_2_method_3_code
def yX0_partCount : MethodName := ⟨RX0, "partCount", "()I"⟩
abbrev cX0_growUpon : ByteArray := prog_2_method_4_code
def yX0_growUpon : MethodName := ⟨RX0, "growUpon", "(LGrownSnapshots$Mark;)V"⟩
abbrev cX0_sharedParts : ByteArray := prog_2_method_5_code
def yX0_sharedParts : MethodName := ⟨RX0, "sharedParts", "(LGrownSnapshots$Mark;I)I"⟩
abbrev cX0_isAlike : ByteArray := prog_2_method_6_code
def yX0_isAlike : MethodName := ⟨RX0, "isAlike", "(LGrownSnapshots$Mark;)Z"⟩
abbrev cX0_hasAlikeList : ByteArray := prog_2_method_7_code
def yX0_hasAlikeList : MethodName := ⟨RX0, "hasAlikeList", "(LGrownSnapshots$Mark;I)Z"⟩
abbrev cX0_names : ByteArray := prog_2_method_8_code
def yX0_names : MethodName := ⟨RX0, "names", "(I)Z"⟩
abbrev cX0_addNames : ByteArray := prog_2_method_9_code
def yX0_addNames : MethodName := ⟨RX0, "addNames", "([Z)V"⟩
def RX1 : String := "GrownSnapshots$Shelf"
def TX1 : u_T := fun k => match k with
  | 0 => ("GrownSnapshots$Shelf", "has", "[Z", true)
  | _ => ("GrownSnapshots$Shelf", "bytes", "[I", true)
def tyX1 : Nat → FieldType := fun k => match k with
  | 0 => .array .boolean
  | _ => .array .int
abbrev wsX10 : List Cond := u_ws RX1 TX1 2
theorem nmX1 : ∀ a, a < 2 → ∀ b, b < 2 → a ≠ b → (TX1 a).2.1 ≠ (TX1 b).2.1 := by decide +kernel
theorem tyX1_ok : ∀ k, k < 2 → parseFieldDescriptor (TX1 k).2.2.1 = some (tyX1 k) := by decide +kernel
abbrev cX1_init : ByteArray := prog_3_method_1_code
def yX1_init : MethodName := ⟨RX1, "<init>", "()V"⟩
abbrev cX1_put : ByteArray := prog_3_method_2_code
def yX1_put : MethodName := ⟨RX1, "put", "(I[III)V"⟩
abbrev cX1_holds : ByteArray := prog_3_method_3_code
def yX1_holds : MethodName := ⟨RX1, "holds", "(I[III)Z"⟩
abbrev cX1_clear : ByteArray := prog_3_method_4_code
def yX1_clear : MethodName := ⟨RX1, "clear", "()V"⟩
def RX2 : String := "GrownSnapshots$State"
def TX2 : u_T := fun k => match k with
  | 0 => ("GrownSnapshots$State", "bytes", "[I", true)
  | 1 => ("GrownSnapshots$State", "ends", "[I", true)
  | _ => ("GrownSnapshots$State", "size", "I", false)
def tyX2 : Nat → FieldType := fun k => match k with
  | 0 => .array .int
  | 1 => .array .int
  | _ => .int
abbrev wsX20 : List Cond := u_ws RX2 TX2 3
theorem nmX2 : ∀ a, a < 3 → ∀ b, b < 3 → a ≠ b → (TX2 a).2.1 ≠ (TX2 b).2.1 := by decide +kernel
theorem tyX2_ok : ∀ k, k < 3 → parseFieldDescriptor (TX2 k).2.2.1 = some (tyX2 k) := by decide +kernel
abbrev cX2_init : ByteArray := prog_4_method_1_code
def yX2_init : MethodName := ⟨RX2, "<init>", "()V"⟩
abbrev cX2_open : ByteArray := prog_4_method_2_code
def yX2_open : MethodName := ⟨RX2, "open", "(II)V"⟩
abbrev cX2_close : ByteArray := prog_4_method_3_code
def yX2_close : MethodName := ⟨RX2, "close", "(II)V"⟩
abbrev cX2_append : ByteArray := prog_4_method_4_code
def yX2_append : MethodName := ⟨RX2, "append", "([III)V"⟩
abbrev cX2_cut : ByteArray := prog_4_method_5_code
def yX2_cut : MethodName := ⟨RX2, "cut", "()I"⟩
abbrev cX2_endsChunk : ByteArray := prog_4_method_6_code
def yX2_endsChunk : MethodName := ⟨RX2, "endsChunk", "(II)Z"⟩
abbrev cX2_chunkStart : ByteArray := prog_4_method_7_code
def yX2_chunkStart : MethodName := ⟨RX2, "chunkStart", "(I)I"⟩
abbrev cX2_chunkSize : ByteArray := prog_4_method_8_code
def yX2_chunkSize : MethodName := ⟨RX2, "chunkSize", "(I)I"⟩
def RX3 : String := "GrownSnapshots$Store"
def TX3 : u_T := fun k => match k with
  | 0 => ("GrownSnapshots$Store", "shelf", "LGrownSnapshots$Shelf;", true)
  | 1 => ("GrownSnapshots$Store", "sizes", "[I", true)
  | 2 => ("GrownSnapshots$Store", "digests", "[I", true)
  | 3 => ("GrownSnapshots$Store", "fresh", "[I", true)
  | 4 => ("GrownSnapshots$Store", "freshCount", "I", false)
  | 5 => ("GrownSnapshots$Store", "freshBytes", "I", false)
  | 6 => ("GrownSnapshots$Store", "count", "I", false)
  | _ => ("GrownSnapshots$Store", "totalBytes", "I", false)
def tyX3 : Nat → FieldType := fun k => match k with
  | 0 => .object "GrownSnapshots$Shelf"
  | 1 => .array .int
  | 2 => .array .int
  | 3 => .array .int
  | 4 => .int
  | 5 => .int
  | 6 => .int
  | _ => .int
abbrev wsX30 : List Cond := u_ws RX3 TX3 8
theorem nmX3 : ∀ a, a < 8 → ∀ b, b < 8 → a ≠ b → (TX3 a).2.1 ≠ (TX3 b).2.1 := by decide +kernel
theorem tyX3_ok : ∀ k, k < 8 → parseFieldDescriptor (TX3 k).2.2.1 = some (tyX3 k) := by decide +kernel
abbrev cX3_init : ByteArray := prog_5_method_1_code
def yX3_init : MethodName := ⟨RX3, "<init>", "()V"⟩
abbrev cX3_isThere : ByteArray := prog_5_method_2_code
def yX3_isThere : MethodName := ⟨RX3, "isThere", "(I)Z"⟩
abbrev cX3_isSound : ByteArray := prog_5_method_3_code
def yX3_isSound : MethodName := ⟨RX3, "isSound", "(ILGrownSnapshots$Shelf;)Z"⟩
abbrev cX3_hasByte : ByteArray := prog_5_method_4_code
def yX3_hasByte : MethodName := ⟨RX3, "hasByte", "(ILGrownSnapshots$Shelf;I)Z"⟩
abbrev cX3_brokenCount : ByteArray := prog_5_method_5_code
def yX3_brokenCount : MethodName := ⟨RX3, "brokenCount", "()I"⟩
abbrev cX3_beginMarking : ByteArray := prog_5_method_6_code
def yX3_beginMarking : MethodName := ⟨RX3, "beginMarking", "()V"⟩
abbrev cX3_undoMarking : ByteArray := prog_5_method_7_code
def yX3_undoMarking : MethodName := ⟨RX3, "undoMarking", "()V"⟩
abbrev cX3_partOf : ByteArray := prog_5_method_8_code
def yX3_partOf : MethodName := ⟨RX3, "partOf", "([III)I"⟩
abbrev cX3_findPart : ByteArray := prog_5_method_9_code
def yX3_findPart : MethodName := ⟨RX3, "findPart", "([IIII)I"⟩
abbrev cX3_makePart : ByteArray := prog_5_method_10_code
def yX3_makePart : MethodName := ⟨RX3, "makePart", "([IIII)I"⟩
abbrev cX3_leastUnused : ByteArray := prog_5_method_11_code
def yX3_leastUnused : MethodName := ⟨RX3, "leastUnused", "()I"⟩
abbrev cX3_takeAway : ByteArray := prog_5_method_12_code
def yX3_takeAway : MethodName := ⟨RX3, "takeAway", "(I)V"⟩
def RX4 : String := "GrownSnapshots"
def TX4 : u_T := fun k => match k with
  | 0 => ("GrownSnapshots", "states", "[LGrownSnapshots$State;", true)
  | 1 => ("GrownSnapshots", "copies", "[LGrownSnapshots$Shelf;", true)
  | 2 => ("GrownSnapshots", "store", "LGrownSnapshots$Store;", true)
  | 3 => ("GrownSnapshots", "held", "[LGrownSnapshots$Mark;", true)
  | 4 => ("GrownSnapshots", "joined", "[I", true)
  | 5 => ("GrownSnapshots", "named", "[Z", true)
  | 6 => ("GrownSnapshots", "taskCount", "I", false)
  | 7 => ("GrownSnapshots", "heldCount", "I", false)
  | _ => ("GrownSnapshots", "nextMark", "I", false)
def tyX4 : Nat → FieldType := fun k => match k with
  | 0 => .array (.object "GrownSnapshots$State")
  | 1 => .array (.object "GrownSnapshots$Shelf")
  | 2 => .object "GrownSnapshots$Store"
  | 3 => .array (.object "GrownSnapshots$Mark")
  | 4 => .array .int
  | 5 => .array .boolean
  | 6 => .int
  | 7 => .int
  | _ => .int
abbrev wsX40 : List Cond := u_ws RX4 TX4 9
theorem nmX4 : ∀ a, a < 9 → ∀ b, b < 9 → a ≠ b → (TX4 a).2.1 ≠ (TX4 b).2.1 := by decide +kernel
theorem tyX4_ok : ∀ k, k < 9 → parseFieldDescriptor (TX4 k).2.2.1 = some (tyX4 k) := by decide +kernel
abbrev cX4_init : ByteArray := prog_1_method_1_code
def yX4_init : MethodName := ⟨RX4, "<init>", "()V"⟩
abbrev cX4_insert : ByteArray := prog_1_method_2_code
def yX4_insert : MethodName := ⟨RX4, "insert", "(IIIJ)I"⟩
abbrev cX4_remove : ByteArray := prog_1_method_3_code
def yX4_remove : MethodName := ⟨RX4, "remove", "(III)I"⟩
abbrev cX4_extend : ByteArray := prog_1_method_4_code
def yX4_extend : MethodName := ⟨RX4, "extend", "(IIII)I"⟩
abbrev cX4_state : ByteArray := prog_1_method_5_code
def yX4_state : MethodName := ⟨RX4, "state", "(II)I"⟩
abbrev cX4_chunk : ByteArray := prog_1_method_6_code
def yX4_chunk : MethodName := ⟨RX4, "chunk", "(II)I"⟩
abbrev cX4_rescale : ByteArray := prog_1_method_7_code
def yX4_rescale : MethodName := ⟨RX4, "rescale", "(I)I"⟩
abbrev cX4_mark : ByteArray := prog_1_method_8_code
def yX4_mark : MethodName := ⟨RX4, "mark", "(I)I"⟩
abbrev cX4_drop : ByteArray := prog_1_method_9_code
def yX4_drop : MethodName := ⟨RX4, "drop", "(I)I"⟩
abbrev cX4_back : ByteArray := prog_1_method_10_code
def yX4_back : MethodName := ⟨RX4, "back", "(I)I"⟩
abbrev cX4_usable : ByteArray := prog_1_method_11_code
def yX4_usable : MethodName := ⟨RX4, "usable", "(I)I"⟩
abbrev cX4_markTold : ByteArray := prog_1_method_12_code
def yX4_markTold : MethodName := ⟨RX4, "markTold", "(II)I"⟩
abbrev cX4_list : ByteArray := prog_1_method_13_code
def yX4_list : MethodName := ⟨RX4, "list", "(III)I"⟩
abbrev cX4_same : ByteArray := prog_1_method_14_code
def yX4_same : MethodName := ⟨RX4, "same", "(II)Z"⟩
abbrev cX4_partTold : ByteArray := prog_1_method_15_code
def yX4_partTold : MethodName := ⟨RX4, "partTold", "(II)I"⟩
abbrev cX4_partByte : ByteArray := prog_1_method_16_code
def yX4_partByte : MethodName := ⟨RX4, "partByte", "(III)I"⟩
abbrev cX4_alter : ByteArray := prog_1_method_17_code
def yX4_alter : MethodName := ⟨RX4, "alter", "(IIII)I"⟩
abbrev cX4_lose : ByteArray := prog_1_method_18_code
def yX4_lose : MethodName := ⟨RX4, "lose", "(II)I"⟩
abbrev cX4_told : ByteArray := prog_1_method_19_code
def yX4_told : MethodName := ⟨RX4, "told", "(I)I"⟩
abbrev cX4_isTask : ByteArray := prog_1_method_20_code
def yX4_isTask : MethodName := ⟨RX4, "isTask", "(I)Z"⟩
abbrev cX4_totalStateBytes : ByteArray := prog_1_method_21_code
def yX4_totalStateBytes : MethodName := ⟨RX4, "totalStateBytes", "()I"⟩
abbrev cX4_joinStates : ByteArray := prog_1_method_22_code
def yX4_joinStates : MethodName := ⟨RX4, "joinStates", "()V"⟩
abbrev cX4_becomeTasks : ByteArray := prog_1_method_23_code
def yX4_becomeTasks : MethodName := ⟨RX4, "becomeTasks", "(I)V"⟩
abbrev cX4_shareStart : ByteArray := prog_1_method_24_code
def yX4_shareStart : MethodName := ⟨RX4, "shareStart", "(III)I"⟩
abbrev cX4_storeStates : ByteArray := prog_1_method_25_code
def yX4_storeStates : MethodName := ⟨RX4, "storeStates", "(LGrownSnapshots$Mark;)Z"⟩
abbrev cX4_storeState : ByteArray := prog_1_method_26_code
def yX4_storeState : MethodName := ⟨RX4, "storeState", "(LGrownSnapshots$Mark;I)Z"⟩
abbrev cX4_copyStates : ByteArray := prog_1_method_27_code
def yX4_copyStates : MethodName := ⟨RX4, "copyStates", "(LGrownSnapshots$Mark;)V"⟩
abbrev cX4_letGoUnheld : ByteArray := prog_1_method_28_code
def yX4_letGoUnheld : MethodName := ⟨RX4, "letGoUnheld", "()V"⟩
abbrev cX4_isBase : ByteArray := prog_1_method_29_code
def yX4_isBase : MethodName := ⟨RX4, "isBase", "(I)Z"⟩
abbrev cX4_letGo : ByteArray := prog_1_method_30_code
def yX4_letGo : MethodName := ⟨RX4, "letGo", "(I)V"⟩
abbrev cX4_freeUnnamed : ByteArray := prog_1_method_31_code
def yX4_freeUnnamed : MethodName := ⟨RX4, "freeUnnamed", "()I"⟩
abbrev cX4_nameKeptParts : ByteArray := prog_1_method_32_code
def yX4_nameKeptParts : MethodName := ⟨RX4, "nameKeptParts", "()V"⟩
abbrev cX4_freePart : ByteArray := prog_1_method_33_code
def yX4_freePart : MethodName := ⟨RX4, "freePart", "(I)V"⟩
abbrev cX4_heldMark : ByteArray := prog_1_method_34_code
def yX4_heldMark : MethodName := ⟨RX4, "heldMark", "(I)LGrownSnapshots$Mark;"⟩
abbrev cX4_keptMark : ByteArray := prog_1_method_35_code
def yX4_keptMark : MethodName := ⟨RX4, "keptMark", "(I)LGrownSnapshots$Mark;"⟩
abbrev cX4_latestKept : ByteArray := prog_1_method_36_code
def yX4_latestKept : MethodName := ⟨RX4, "latestKept", "()LGrownSnapshots$Mark;"⟩
abbrev cX4_latestUsable : ByteArray := prog_1_method_37_code
def yX4_latestUsable : MethodName := ⟨RX4, "latestUsable", "(I)LGrownSnapshots$Mark;"⟩
abbrev cX4_keptCount : ByteArray := prog_1_method_38_code
def yX4_keptCount : MethodName := ⟨RX4, "keptCount", "()I"⟩
abbrev cX4_keptNaming : ByteArray := prog_1_method_39_code
def yX4_keptNaming : MethodName := ⟨RX4, "keptNaming", "(I)I"⟩
abbrev cX4_isUsable : ByteArray := prog_1_method_40_code
def yX4_isUsable : MethodName := ⟨RX4, "isUsable", "(LGrownSnapshots$Mark;)Z"⟩
abbrev cX4_isReadable : ByteArray := prog_1_method_41_code
def yX4_isReadable : MethodName := ⟨RX4, "isReadable", "(II)Z"⟩
abbrev cX4_readState : ByteArray := prog_1_method_42_code
def yX4_readState : MethodName := ⟨RX4, "readState", "(LGrownSnapshots$Mark;I)V"⟩
abbrev cX4_readPart : ByteArray := prog_1_method_43_code
def yX4_readPart : MethodName := ⟨RX4, "readPart", "(II)V"⟩
abbrev cX4_shelfOf : ByteArray := prog_1_method_44_code
def yX4_shelfOf : MethodName := ⟨RX4, "shelfOf", "(I)LGrownSnapshots$Shelf;"⟩
abbrev cX4_copyCount : ByteArray := prog_1_method_45_code
def yX4_copyCount : MethodName := ⟨RX4, "copyCount", "(I)I"⟩
abbrev cX4_allCopies : ByteArray := prog_1_method_46_code
def yX4_allCopies : MethodName := ⟨RX4, "allCopies", "()I"⟩
abbrev cX4_digestOf : ByteArray := prog_1_method_47_code
def yX4_digestOf : MethodName := ⟨RX4, "digestOf", "([III)I"⟩
def RX5 : String := "GrownSnapshotsModel"
def TX5 : u_T := fun k => match k with
  | 0 => ("GrownSnapshotsModel", "tasks", "I", false)
  | 1 => ("GrownSnapshotsModel", "size", "[I", true)
  | 2 => ("GrownSnapshotsModel", "state", "[I", true)
  | 3 => ("GrownSnapshotsModel", "moved", "[I", true)
  | 4 => ("GrownSnapshotsModel", "partSize", "[I", true)
  | 5 => ("GrownSnapshotsModel", "digest", "[I", true)
  | 6 => ("GrownSnapshotsModel", "lost", "[Z", true)
  | 7 => ("GrownSnapshotsModel", "bytes", "[I", true)
  | 8 => ("GrownSnapshotsModel", "copied", "[Z", true)
  | 9 => ("GrownSnapshotsModel", "copy", "[I", true)
  | 10 => ("GrownSnapshotsModel", "next", "I", false)
  | 11 => ("GrownSnapshotsModel", "number", "[I", true)
  | 12 => ("GrownSnapshotsModel", "kept", "[Z", true)
  | 13 => ("GrownSnapshotsModel", "base", "[I", true)
  | 14 => ("GrownSnapshotsModel", "markTasks", "[I", true)
  | 15 => ("GrownSnapshotsModel", "length", "[I", true)
  | 16 => ("GrownSnapshotsModel", "lists", "[I", true)
  | 17 => ("GrownSnapshotsModel", "own", "[I", true)
  | 18 => ("GrownSnapshotsModel", "marked", "[I", true)
  | 19 => ("GrownSnapshotsModel", "fresh", "[I", true)
  | _ => ("GrownSnapshotsModel", "isNew", "[Z", true)
def tyX5 : Nat → FieldType := fun k => match k with
  | 0 => .int
  | 1 => .array .int
  | 2 => .array .int
  | 3 => .array .int
  | 4 => .array .int
  | 5 => .array .int
  | 6 => .array .boolean
  | 7 => .array .int
  | 8 => .array .boolean
  | 9 => .array .int
  | 10 => .int
  | 11 => .array .int
  | 12 => .array .boolean
  | 13 => .array .int
  | 14 => .array .int
  | 15 => .array .int
  | 16 => .array .int
  | 17 => .array .int
  | 18 => .array .int
  | 19 => .array .int
  | _ => .array .boolean
abbrev wsX50 : List Cond := u_ws RX5 TX5 21
theorem nmX5 : ∀ a, a < 21 → ∀ b, b < 21 → a ≠ b → (TX5 a).2.1 ≠ (TX5 b).2.1 := by decide +kernel
theorem tyX5_ok : ∀ k, k < 21 → parseFieldDescriptor (TX5 k).2.2.1 = some (tyX5 k) := by decide +kernel
abbrev cX5_init : ByteArray := prog_7_method_1_code
def yX5_init : MethodName := ⟨RX5, "<init>", "()V"⟩
abbrev cX5_in : ByteArray := prog_7_method_2_code
def yX5_in : MethodName := ⟨RX5, "in", "(III)Z"⟩
abbrev cX5_isTask : ByteArray := prog_7_method_3_code
def yX5_isTask : MethodName := ⟨RX5, "isTask", "(I)Z"⟩
abbrev cX5_insert : ByteArray := prog_7_method_4_code
def yX5_insert : MethodName := ⟨RX5, "insert", "(IIIJ)I"⟩
abbrev cX5_remove : ByteArray := prog_7_method_5_code
def yX5_remove : MethodName := ⟨RX5, "remove", "(III)I"⟩
abbrev cX5_extend : ByteArray := prog_7_method_6_code
def yX5_extend : MethodName := ⟨RX5, "extend", "(IIII)I"⟩
abbrev cX5_state : ByteArray := prog_7_method_7_code
def yX5_state : MethodName := ⟨RX5, "state", "(II)I"⟩
abbrev cX5_chunkFrom : ByteArray := prog_7_method_8_code
def yX5_chunkFrom : MethodName := ⟨RX5, "chunkFrom", "(II)I"⟩
abbrev cX5_chunk : ByteArray := prog_7_method_9_code
def yX5_chunk : MethodName := ⟨RX5, "chunk", "(II)I"⟩
abbrev cX5_rescale : ByteArray := prog_7_method_10_code
def yX5_rescale : MethodName := ⟨RX5, "rescale", "(I)I"⟩
abbrev cX5_become : ByteArray := prog_7_method_11_code
def yX5_become : MethodName := ⟨RX5, "become", "(I)V"⟩
abbrev cX5_isPart : ByteArray := prog_7_method_12_code
def yX5_isPart : MethodName := ⟨RX5, "isPart", "(I)Z"⟩
abbrev cX5_isBroken : ByteArray := prog_7_method_13_code
def yX5_isBroken : MethodName := ⟨RX5, "isBroken", "(I)Z"⟩
abbrev cX5_isGoodCopy : ByteArray := prog_7_method_14_code
def yX5_isGoodCopy : MethodName := ⟨RX5, "isGoodCopy", "(II)Z"⟩
abbrev cX5_isReadable : ByteArray := prog_7_method_15_code
def yX5_isReadable : MethodName := ⟨RX5, "isReadable", "(II)Z"⟩
abbrev cX5_hasPart : ByteArray := prog_7_method_16_code
def yX5_hasPart : MethodName := ⟨RX5, "hasPart", "(II)Z"⟩
abbrev cX5_partTold : ByteArray := prog_7_method_17_code
def yX5_partTold : MethodName := ⟨RX5, "partTold", "(II)I"⟩
abbrev cX5_isByte : ByteArray := prog_7_method_18_code
def yX5_isByte : MethodName := ⟨RX5, "isByte", "(III)Z"⟩
abbrev cX5_partByte : ByteArray := prog_7_method_19_code
def yX5_partByte : MethodName := ⟨RX5, "partByte", "(III)I"⟩
abbrev cX5_alter : ByteArray := prog_7_method_20_code
def yX5_alter : MethodName := ⟨RX5, "alter", "(IIII)I"⟩
abbrev cX5_lose : ByteArray := prog_7_method_21_code
def yX5_lose : MethodName := ⟨RX5, "lose", "(II)I"⟩
abbrev cX5_slotOf : ByteArray := prog_7_method_22_code
def yX5_slotOf : MethodName := ⟨RX5, "slotOf", "(I)I"⟩
abbrev cX5_keptSlot : ByteArray := prog_7_method_23_code
def yX5_keptSlot : MethodName := ⟨RX5, "keptSlot", "(I)I"⟩
abbrev cX5_isChunk : ByteArray := prog_7_method_24_code
def yX5_isChunk : MethodName := ⟨RX5, "isChunk", "(IIII)Z"⟩
abbrev cX5_partFor : ByteArray := prog_7_method_25_code
def yX5_partFor : MethodName := ⟨RX5, "partFor", "(III)I"⟩
abbrev cX5_allBytes : ByteArray := prog_7_method_26_code
def yX5_allBytes : MethodName := ⟨RX5, "allBytes", "()I"⟩
abbrev cX5_held : ByteArray := prog_7_method_27_code
def yX5_held : MethodName := ⟨RX5, "held", "()I"⟩
abbrev cX5_latest : ByteArray := prog_7_method_28_code
def yX5_latest : MethodName := ⟨RX5, "latest", "(I)I"⟩
abbrev cX5_mark : ByteArray := prog_7_method_29_code
def yX5_mark : MethodName := ⟨RX5, "mark", "(I)I"⟩
abbrev cX5_tells : ByteArray := prog_7_method_30_code
def yX5_tells : MethodName := ⟨RX5, "tells", "(II)I"⟩
abbrev cX5_drop : ByteArray := prog_7_method_31_code
def yX5_drop : MethodName := ⟨RX5, "drop", "(I)I"⟩
abbrev cX5_isUsable : ByteArray := prog_7_method_32_code
def yX5_isUsable : MethodName := ⟨RX5, "isUsable", "(I)Z"⟩
abbrev cX5_usable : ByteArray := prog_7_method_33_code
def yX5_usable : MethodName := ⟨RX5, "usable", "(I)I"⟩
abbrev cX5_back : ByteArray := prog_7_method_34_code
def yX5_back : MethodName := ⟨RX5, "back", "(I)I"⟩
abbrev cX5_read : ByteArray := prog_7_method_35_code
def yX5_read : MethodName := ⟨RX5, "read", "(II)V"⟩
abbrev cX5_markTold : ByteArray := prog_7_method_36_code
def yX5_markTold : MethodName := ⟨RX5, "markTold", "(II)I"⟩
abbrev cX5_list : ByteArray := prog_7_method_37_code
def yX5_list : MethodName := ⟨RX5, "list", "(III)I"⟩
abbrev cX5_same : ByteArray := prog_7_method_38_code
def yX5_same : MethodName := ⟨RX5, "same", "(II)Z"⟩
abbrev cX5_told : ByteArray := prog_7_method_39_code
def yX5_told : MethodName := ⟨RX5, "told", "(I)I"⟩
def RJ9 : String := "java/lang/Math"
def TJ9 : u_T := fun k => match k with
  | _ => ("", "", "", false)
def tyJ9 : Nat → FieldType := fun k => match k with
  | _ => .int
abbrev wsJ90 : List Cond := u_ws RJ9 TJ9 0
theorem nmJ9 : ∀ a, a < 0 → ∀ b, b < 0 → a ≠ b → (TJ9 a).2.1 ≠ (TJ9 b).2.1 := by decide +kernel
theorem tyJ9_ok : ∀ k, k < 0 → parseFieldDescriptor (TJ9 k).2.2.1 = some (tyJ9 k) := by decide +kernel
abbrev cJ9_min_7cf53 : ByteArray := prog_8_method_69_code
def yJ9_min_7cf53 : MethodName := ⟨RJ9, "min", "(II)I"⟩
def RJ10 : String := "java/lang/System"
def TJ10 : u_T := fun k => match k with
  | _ => ("", "", "", false)
def tyJ10 : Nat → FieldType := fun k => match k with
  | _ => .int
abbrev wsJ100 : List Cond := u_ws RJ10 TJ10 0
theorem nmJ10 : ∀ a, a < 0 → ∀ b, b < 0 → a ≠ b → (TJ10 a).2.1 ≠ (TJ10 b).2.1 := by decide +kernel
theorem tyJ10_ok : ∀ k, k < 0 → parseFieldDescriptor (TJ10 k).2.2.1 = some (tyJ10 k) := by decide +kernel
def RL : String := "GrownSnapshotsLaw"
abbrev cL_law : ByteArray := code
def yL_law : MethodName := ⟨RL, "law", "([I)Z"⟩
end
section
/-! words of the tables that every method may use -/
def gz_ts : List Cond := lw_tbl.filter goodWord
theorem gz_ts_good : GoodIn lw_tbl gz_ts := fun w h => ⟨(List.mem_filter.mp h).1, good_of_word (List.mem_filter.mp h).2⟩
theorem gz_ts_self : GoodIn gz_ts gz_ts := fun w h => ⟨h, good_of_word (List.mem_filter.mp h).2⟩
theorem gz_tb {w : Cond} (h : w ∈ tables_1) : w ∈ lw_tbl := List.mem_append_right _ h
theorem gz_ps {q : MethodName × Nat} (h : q ∈ lw_privs) : Cond.selects q.1.cls q.1 q.1 ∈ lw_tbl := List.mem_append_left _ (List.mem_map.mpr ⟨q, h, rfl⟩)
theorem gz_go {w : Cond} (h : w ∈ lw_tbl) (g : goodWord w = true) : w ∈ gz_ts := List.mem_filter.mpr ⟨h, g⟩
theorem wn_L : Cond.initialized RL ∈ gz_ts := gz_go (gz_tb (List.mem_append_left _ (List.mem_of_getElem? (i := 0) rfl))) rfl
theorem wn_X4 : Cond.initialized RX4 ∈ gz_ts := gz_go (gz_tb (List.mem_append_left _ (List.mem_of_getElem? (i := 1) rfl))) rfl
theorem wn_X3 : Cond.initialized RX3 ∈ gz_ts := gz_go (gz_tb (List.mem_append_left _ (List.mem_of_getElem? (i := 2) rfl))) rfl
theorem wn_X1 : Cond.initialized RX1 ∈ gz_ts := gz_go (gz_tb (List.mem_append_left _ (List.mem_of_getElem? (i := 3) rfl))) rfl
theorem wn_X2 : Cond.initialized RX2 ∈ gz_ts := gz_go (gz_tb (List.mem_append_left _ (List.mem_of_getElem? (i := 4) rfl))) rfl
theorem wn_X0 : Cond.initialized RX0 ∈ gz_ts := gz_go (gz_tb (List.mem_append_left _ (List.mem_of_getElem? (i := 5) rfl))) rfl
theorem wn_X5 : Cond.initialized RX5 ∈ gz_ts := gz_go (gz_tb (List.mem_append_left _ (List.mem_of_getElem? (i := 6) rfl))) rfl
theorem wn_J10 : Cond.initialized RJ10 ∈ gz_ts := gz_go (gz_tb (List.mem_append_left _ (List.mem_of_getElem? (i := 7) rfl))) rfl
theorem wn_J9 : Cond.initialized RJ9 ∈ gz_ts := gz_go (gz_tb (List.mem_append_left _ (List.mem_of_getElem? (i := 8) rfl))) rfl
theorem wm_L_9 : Cond.methodLink RL 9 yX4_init ∈ gz_ts := gz_go (gz_tb (List.mem_append_left _ (List.mem_of_getElem? (i := 11) rfl))) rfl
theorem wi_X4_init : Cond.instanceMethod yX4_init ∈ gz_ts := gz_go (gz_tb (List.mem_append_left _ (List.mem_of_getElem? (i := 12) rfl))) rfl
theorem wm_X4_3 : Cond.methodLink RX4 3 objectInit ∈ gz_ts := gz_go (gz_tb (List.mem_append_left _ (List.mem_of_getElem? (i := 14) rfl))) rfl
theorem wi_objectInit : Cond.instanceMethod objectInit ∈ gz_ts := gz_go (gz_tb (List.mem_append_left _ (List.mem_of_getElem? (i := 15) rfl))) rfl
theorem wc_objectInit : Cond.code objectInit ⟨#[0xb1]⟩ 1 none ∈ gz_ts := gz_go (gz_tb (List.mem_append_left _ (List.mem_of_getElem? (i := 16) rfl))) rfl
theorem wi_X3_init : Cond.instanceMethod yX3_init ∈ gz_ts := gz_go (gz_tb (List.mem_append_left _ (List.mem_of_getElem? (i := 24) rfl))) rfl
theorem wm_X3_3 : Cond.methodLink RX3 3 objectInit ∈ gz_ts := gz_go (gz_tb (List.mem_append_left _ (List.mem_of_getElem? (i := 26) rfl))) rfl
theorem wi_X1_init : Cond.instanceMethod yX1_init ∈ gz_ts := gz_go (gz_tb (List.mem_append_left _ (List.mem_of_getElem? (i := 30) rfl))) rfl
theorem wm_X1_3 : Cond.methodLink RX1 3 objectInit ∈ gz_ts := gz_go (gz_tb (List.mem_append_left _ (List.mem_of_getElem? (i := 32) rfl))) rfl
theorem wf_X1_9 : Cond.fieldLink RX1 9 "GrownSnapshots$Shelf" "has" "[Z" ∈ gz_ts := gz_go (gz_tb (List.mem_append_left _ (List.mem_of_getElem? (i := 33) rfl))) rfl
theorem wf_X3_41 : Cond.fieldLink RX3 41 "GrownSnapshots$Shelf" "has" "[Z" ∈ gz_ts := gz_go (gz_tb (List.mem_append_left _ (List.mem_of_getElem? (i := 34) rfl))) rfl
theorem wf_X4_207 : Cond.fieldLink RX4 207 "GrownSnapshots$Shelf" "has" "[Z" ∈ gz_ts := gz_go (gz_tb (List.mem_append_left _ (List.mem_of_getElem? (i := 35) rfl))) rfl
theorem wf_X1_15 : Cond.fieldLink RX1 15 "GrownSnapshots$Shelf" "bytes" "[I" ∈ gz_ts := gz_go (gz_tb (List.mem_append_left _ (List.mem_of_getElem? (i := 36) rfl))) rfl
theorem wf_X3_45 : Cond.fieldLink RX3 45 "GrownSnapshots$Shelf" "bytes" "[I" ∈ gz_ts := gz_go (gz_tb (List.mem_append_left _ (List.mem_of_getElem? (i := 37) rfl))) rfl
theorem wf_X4_206 : Cond.fieldLink RX4 206 "GrownSnapshots$Shelf" "bytes" "[I" ∈ gz_ts := gz_go (gz_tb (List.mem_append_left _ (List.mem_of_getElem? (i := 38) rfl))) rfl
theorem wf_X3_12 : Cond.fieldLink RX3 12 "GrownSnapshots$Store" "shelf" "LGrownSnapshots$Shelf;" ∈ gz_ts := gz_go (gz_tb (List.mem_append_left _ (List.mem_of_getElem? (i := 46) rfl))) rfl
theorem wf_X4_187 : Cond.fieldLink RX4 187 "GrownSnapshots$Store" "shelf" "LGrownSnapshots$Shelf;" ∈ gz_ts := gz_go (gz_tb (List.mem_append_left _ (List.mem_of_getElem? (i := 47) rfl))) rfl
theorem wf_X3_18 : Cond.fieldLink RX3 18 "GrownSnapshots$Store" "sizes" "[I" ∈ gz_ts := gz_go (gz_tb (List.mem_append_left _ (List.mem_of_getElem? (i := 48) rfl))) rfl
theorem wf_X4_180 : Cond.fieldLink RX4 180 "GrownSnapshots$Store" "sizes" "[I" ∈ gz_ts := gz_go (gz_tb (List.mem_append_left _ (List.mem_of_getElem? (i := 49) rfl))) rfl
theorem wf_X3_22 : Cond.fieldLink RX3 22 "GrownSnapshots$Store" "digests" "[I" ∈ gz_ts := gz_go (gz_tb (List.mem_append_left _ (List.mem_of_getElem? (i := 50) rfl))) rfl
theorem wf_X4_181 : Cond.fieldLink RX4 181 "GrownSnapshots$Store" "digests" "[I" ∈ gz_ts := gz_go (gz_tb (List.mem_append_left _ (List.mem_of_getElem? (i := 51) rfl))) rfl
theorem wf_X3_25 : Cond.fieldLink RX3 25 "GrownSnapshots$Store" "fresh" "[I" ∈ gz_ts := gz_go (gz_tb (List.mem_append_left _ (List.mem_of_getElem? (i := 52) rfl))) rfl
theorem wf_X3_28 : Cond.fieldLink RX3 28 "GrownSnapshots$Store" "freshCount" "I" ∈ gz_ts := gz_go (gz_tb (List.mem_append_left _ (List.mem_of_getElem? (i := 53) rfl))) rfl
theorem wf_X3_32 : Cond.fieldLink RX3 32 "GrownSnapshots$Store" "freshBytes" "I" ∈ gz_ts := gz_go (gz_tb (List.mem_append_left _ (List.mem_of_getElem? (i := 54) rfl))) rfl
theorem wf_X4_105 : Cond.fieldLink RX4 105 "GrownSnapshots$Store" "freshBytes" "I" ∈ gz_ts := gz_go (gz_tb (List.mem_append_left _ (List.mem_of_getElem? (i := 55) rfl))) rfl
theorem wf_X3_35 : Cond.fieldLink RX3 35 "GrownSnapshots$Store" "count" "I" ∈ gz_ts := gz_go (gz_tb (List.mem_append_left _ (List.mem_of_getElem? (i := 56) rfl))) rfl
theorem wf_X4_213 : Cond.fieldLink RX4 213 "GrownSnapshots$Store" "count" "I" ∈ gz_ts := gz_go (gz_tb (List.mem_append_left _ (List.mem_of_getElem? (i := 57) rfl))) rfl
theorem wf_X3_38 : Cond.fieldLink RX3 38 "GrownSnapshots$Store" "totalBytes" "I" ∈ gz_ts := gz_go (gz_tb (List.mem_append_left _ (List.mem_of_getElem? (i := 58) rfl))) rfl
theorem wf_X4_216 : Cond.fieldLink RX4 216 "GrownSnapshots$Store" "totalBytes" "I" ∈ gz_ts := gz_go (gz_tb (List.mem_append_left _ (List.mem_of_getElem? (i := 59) rfl))) rfl
theorem wi_X2_init : Cond.instanceMethod yX2_init ∈ gz_ts := gz_go (gz_tb (List.mem_append_left _ (List.mem_of_getElem? (i := 81) rfl))) rfl
theorem wm_X2_3 : Cond.methodLink RX2 3 objectInit ∈ gz_ts := gz_go (gz_tb (List.mem_append_left _ (List.mem_of_getElem? (i := 83) rfl))) rfl
theorem wf_X2_9 : Cond.fieldLink RX2 9 "GrownSnapshots$State" "bytes" "[I" ∈ gz_ts := gz_go (gz_tb (List.mem_append_left _ (List.mem_of_getElem? (i := 84) rfl))) rfl
theorem wf_X4_66 : Cond.fieldLink RX4 66 "GrownSnapshots$State" "bytes" "[I" ∈ gz_ts := gz_go (gz_tb (List.mem_append_left _ (List.mem_of_getElem? (i := 85) rfl))) rfl
theorem wf_X2_15 : Cond.fieldLink RX2 15 "GrownSnapshots$State" "ends" "[I" ∈ gz_ts := gz_go (gz_tb (List.mem_append_left _ (List.mem_of_getElem? (i := 86) rfl))) rfl
theorem wf_X2_18 : Cond.fieldLink RX2 18 "GrownSnapshots$State" "size" "I" ∈ gz_ts := gz_go (gz_tb (List.mem_append_left _ (List.mem_of_getElem? (i := 87) rfl))) rfl
theorem wf_X4_59 : Cond.fieldLink RX4 59 "GrownSnapshots$State" "size" "I" ∈ gz_ts := gz_go (gz_tb (List.mem_append_left _ (List.mem_of_getElem? (i := 88) rfl))) rfl
theorem wi_X0_init : Cond.instanceMethod yX0_init ∈ gz_ts := gz_go (gz_tb (List.mem_append_left _ (List.mem_of_getElem? (i := 99) rfl))) rfl
theorem wm_X0_3 : Cond.methodLink RX0 3 objectInit ∈ gz_ts := gz_go (gz_tb (List.mem_append_left _ (List.mem_of_getElem? (i := 101) rfl))) rfl
theorem wf_X0_11 : Cond.fieldLink RX0 11 "GrownSnapshots$Mark" "lists" "[[I" ∈ gz_ts := gz_go (gz_tb (List.mem_append_left _ (List.mem_of_getElem? (i := 104) rfl))) rfl
theorem wf_X4_170 : Cond.fieldLink RX4 170 "GrownSnapshots$Mark" "lists" "[[I" ∈ gz_ts := gz_go (gz_tb (List.mem_append_left _ (List.mem_of_getElem? (i := 105) rfl))) rfl
theorem wf_X0_16 : Cond.fieldLink RX0 16 "GrownSnapshots$Mark" "sizes" "[I" ∈ gz_ts := gz_go (gz_tb (List.mem_append_left _ (List.mem_of_getElem? (i := 106) rfl))) rfl
theorem wf_X4_167 : Cond.fieldLink RX4 167 "GrownSnapshots$Mark" "sizes" "[I" ∈ gz_ts := gz_go (gz_tb (List.mem_append_left _ (List.mem_of_getElem? (i := 107) rfl))) rfl
theorem wf_X0_20 : Cond.fieldLink RX0 20 "GrownSnapshots$Mark" "number" "I" ∈ gz_ts := gz_go (gz_tb (List.mem_append_left _ (List.mem_of_getElem? (i := 108) rfl))) rfl
theorem wf_X4_122 : Cond.fieldLink RX4 122 "GrownSnapshots$Mark" "number" "I" ∈ gz_ts := gz_go (gz_tb (List.mem_append_left _ (List.mem_of_getElem? (i := 109) rfl))) rfl
theorem wf_X0_24 : Cond.fieldLink RX0 24 "GrownSnapshots$Mark" "kept" "Z" ∈ gz_ts := gz_go (gz_tb (List.mem_append_left _ (List.mem_of_getElem? (i := 110) rfl))) rfl
theorem wf_X4_129 : Cond.fieldLink RX4 129 "GrownSnapshots$Mark" "kept" "Z" ∈ gz_ts := gz_go (gz_tb (List.mem_append_left _ (List.mem_of_getElem? (i := 111) rfl))) rfl
theorem wf_X0_28 : Cond.fieldLink RX0 28 "GrownSnapshots$Mark" "base" "I" ∈ gz_ts := gz_go (gz_tb (List.mem_append_left _ (List.mem_of_getElem? (i := 112) rfl))) rfl
theorem wf_X4_155 : Cond.fieldLink RX4 155 "GrownSnapshots$Mark" "base" "I" ∈ gz_ts := gz_go (gz_tb (List.mem_append_left _ (List.mem_of_getElem? (i := 113) rfl))) rfl
theorem wf_X0_31 : Cond.fieldLink RX0 31 "GrownSnapshots$Mark" "tasks" "I" ∈ gz_ts := gz_go (gz_tb (List.mem_append_left _ (List.mem_of_getElem? (i := 114) rfl))) rfl
theorem wf_X4_142 : Cond.fieldLink RX4 142 "GrownSnapshots$Mark" "tasks" "I" ∈ gz_ts := gz_go (gz_tb (List.mem_append_left _ (List.mem_of_getElem? (i := 115) rfl))) rfl
theorem wf_X0_34 : Cond.fieldLink RX0 34 "GrownSnapshots$Mark" "ownParts" "I" ∈ gz_ts := gz_go (gz_tb (List.mem_append_left _ (List.mem_of_getElem? (i := 116) rfl))) rfl
theorem wf_X4_161 : Cond.fieldLink RX4 161 "GrownSnapshots$Mark" "ownParts" "I" ∈ gz_ts := gz_go (gz_tb (List.mem_append_left _ (List.mem_of_getElem? (i := 117) rfl))) rfl
theorem wf_X0_37 : Cond.fieldLink RX0 37 "GrownSnapshots$Mark" "listBytes" "I" ∈ gz_ts := gz_go (gz_tb (List.mem_append_left _ (List.mem_of_getElem? (i := 118) rfl))) rfl
theorem wf_X4_164 : Cond.fieldLink RX4 164 "GrownSnapshots$Mark" "listBytes" "I" ∈ gz_ts := gz_go (gz_tb (List.mem_append_left _ (List.mem_of_getElem? (i := 119) rfl))) rfl
theorem wf_X0_40 : Cond.fieldLink RX0 40 "GrownSnapshots$Mark" "newBytes" "I" ∈ gz_ts := gz_go (gz_tb (List.mem_append_left _ (List.mem_of_getElem? (i := 120) rfl))) rfl
theorem wf_X4_108 : Cond.fieldLink RX4 108 "GrownSnapshots$Mark" "newBytes" "I" ∈ gz_ts := gz_go (gz_tb (List.mem_append_left _ (List.mem_of_getElem? (i := 121) rfl))) rfl
theorem wf_X4_11 : Cond.fieldLink RX4 11 "GrownSnapshots" "states" "[LGrownSnapshots$State;" ∈ gz_ts := gz_go (gz_tb (List.mem_append_left _ (List.mem_of_getElem? (i := 141) rfl))) rfl
theorem wf_X4_17 : Cond.fieldLink RX4 17 "GrownSnapshots" "copies" "[LGrownSnapshots$Shelf;" ∈ gz_ts := gz_go (gz_tb (List.mem_append_left _ (List.mem_of_getElem? (i := 142) rfl))) rfl
theorem wf_X4_24 : Cond.fieldLink RX4 24 "GrownSnapshots" "store" "LGrownSnapshots$Store;" ∈ gz_ts := gz_go (gz_tb (List.mem_append_left _ (List.mem_of_getElem? (i := 143) rfl))) rfl
theorem wf_X4_30 : Cond.fieldLink RX4 30 "GrownSnapshots" "held" "[LGrownSnapshots$Mark;" ∈ gz_ts := gz_go (gz_tb (List.mem_append_left _ (List.mem_of_getElem? (i := 144) rfl))) rfl
theorem wf_X4_34 : Cond.fieldLink RX4 34 "GrownSnapshots" "joined" "[I" ∈ gz_ts := gz_go (gz_tb (List.mem_append_left _ (List.mem_of_getElem? (i := 145) rfl))) rfl
theorem wf_X4_38 : Cond.fieldLink RX4 38 "GrownSnapshots" "named" "[Z" ∈ gz_ts := gz_go (gz_tb (List.mem_append_left _ (List.mem_of_getElem? (i := 146) rfl))) rfl
theorem wf_X4_42 : Cond.fieldLink RX4 42 "GrownSnapshots" "taskCount" "I" ∈ gz_ts := gz_go (gz_tb (List.mem_append_left _ (List.mem_of_getElem? (i := 147) rfl))) rfl
theorem wf_X4_46 : Cond.fieldLink RX4 46 "GrownSnapshots" "heldCount" "I" ∈ gz_ts := gz_go (gz_tb (List.mem_append_left _ (List.mem_of_getElem? (i := 148) rfl))) rfl
theorem wf_X4_49 : Cond.fieldLink RX4 49 "GrownSnapshots" "nextMark" "I" ∈ gz_ts := gz_go (gz_tb (List.mem_append_left _ (List.mem_of_getElem? (i := 149) rfl))) rfl
theorem wm_L_15 : Cond.methodLink RL 15 yX4_insert ∈ gz_ts := gz_go (gz_tb (List.mem_append_left _ (List.mem_of_getElem? (i := 169) rfl))) rfl
theorem wi_X4_insert : Cond.instanceMethod yX4_insert ∈ gz_ts := gz_go (gz_tb (List.mem_append_left _ (List.mem_of_getElem? (i := 170) rfl))) rfl
theorem we_X4_insert : Cond.selects RX4 yX4_insert yX4_insert ∈ gz_ts := gz_go (gz_tb (List.mem_append_left _ (List.mem_of_getElem? (i := 171) rfl))) rfl
theorem wm_X4_55 : Cond.methodLink RX4 55 yX4_isTask ∈ gz_ts := gz_go (gz_tb (List.mem_append_left _ (List.mem_of_getElem? (i := 173) rfl))) rfl
theorem wi_X4_isTask : Cond.instanceMethod yX4_isTask ∈ gz_ts := gz_go (gz_tb (List.mem_append_left _ (List.mem_of_getElem? (i := 175) rfl))) rfl
theorem wm_X4_62 : Cond.methodLink RX4 62 yX2_open ∈ gz_ts := gz_go (gz_tb (List.mem_append_left _ (List.mem_of_getElem? (i := 177) rfl))) rfl
theorem wi_X2_open : Cond.instanceMethod yX2_open ∈ gz_ts := gz_go (gz_tb (List.mem_append_left _ (List.mem_of_getElem? (i := 178) rfl))) rfl
theorem we_X2_open : Cond.selects RX2 yX2_open yX2_open ∈ gz_ts := gz_go (gz_tb (List.mem_append_left _ (List.mem_of_getElem? (i := 179) rfl))) rfl
theorem wm_X2_22 : Cond.methodLink RX2 22 arraycopyName ∈ gz_ts := gz_go (gz_tb (List.mem_append_left _ (List.mem_of_getElem? (i := 181) rfl))) rfl
theorem ws_arraycopyName : Cond.static arraycopyName ∈ gz_ts := gz_go (gz_tb (List.mem_append_left _ (List.mem_of_getElem? (i := 182) rfl))) rfl
theorem wv_arraycopy : Cond.native arraycopyName ∈ gz_ts := gz_go (gz_tb (List.mem_append_left _ (List.mem_of_getElem? (i := 183) rfl))) rfl
theorem wm_L_20 : Cond.methodLink RL 20 yX4_remove ∈ gz_ts := gz_go (gz_tb (List.mem_append_left _ (List.mem_of_getElem? (i := 184) rfl))) rfl
theorem wi_X4_remove : Cond.instanceMethod yX4_remove ∈ gz_ts := gz_go (gz_tb (List.mem_append_left _ (List.mem_of_getElem? (i := 185) rfl))) rfl
theorem we_X4_remove : Cond.selects RX4 yX4_remove yX4_remove ∈ gz_ts := gz_go (gz_tb (List.mem_append_left _ (List.mem_of_getElem? (i := 186) rfl))) rfl
theorem wm_X4_69 : Cond.methodLink RX4 69 yX2_close ∈ gz_ts := gz_go (gz_tb (List.mem_append_left _ (List.mem_of_getElem? (i := 188) rfl))) rfl
theorem wi_X2_close : Cond.instanceMethod yX2_close ∈ gz_ts := gz_go (gz_tb (List.mem_append_left _ (List.mem_of_getElem? (i := 189) rfl))) rfl
theorem we_X2_close : Cond.selects RX2 yX2_close yX2_close ∈ gz_ts := gz_go (gz_tb (List.mem_append_left _ (List.mem_of_getElem? (i := 190) rfl))) rfl
theorem wm_L_25 : Cond.methodLink RL 25 yX4_extend ∈ gz_ts := gz_go (gz_tb (List.mem_append_left _ (List.mem_of_getElem? (i := 192) rfl))) rfl
theorem wi_X4_extend : Cond.instanceMethod yX4_extend ∈ gz_ts := gz_go (gz_tb (List.mem_append_left _ (List.mem_of_getElem? (i := 193) rfl))) rfl
theorem we_X4_extend : Cond.selects RX4 yX4_extend yX4_extend ∈ gz_ts := gz_go (gz_tb (List.mem_append_left _ (List.mem_of_getElem? (i := 194) rfl))) rfl
theorem wm_L_30 : Cond.methodLink RL 30 yX4_state ∈ gz_ts := gz_go (gz_tb (List.mem_append_left _ (List.mem_of_getElem? (i := 196) rfl))) rfl
theorem wi_X4_state : Cond.instanceMethod yX4_state ∈ gz_ts := gz_go (gz_tb (List.mem_append_left _ (List.mem_of_getElem? (i := 197) rfl))) rfl
theorem we_X4_state : Cond.selects RX4 yX4_state yX4_state ∈ gz_ts := gz_go (gz_tb (List.mem_append_left _ (List.mem_of_getElem? (i := 198) rfl))) rfl
theorem wm_L_35 : Cond.methodLink RL 35 yX4_chunk ∈ gz_ts := gz_go (gz_tb (List.mem_append_left _ (List.mem_of_getElem? (i := 200) rfl))) rfl
theorem wi_X4_chunk : Cond.instanceMethod yX4_chunk ∈ gz_ts := gz_go (gz_tb (List.mem_append_left _ (List.mem_of_getElem? (i := 201) rfl))) rfl
theorem we_X4_chunk : Cond.selects RX4 yX4_chunk yX4_chunk ∈ gz_ts := gz_go (gz_tb (List.mem_append_left _ (List.mem_of_getElem? (i := 202) rfl))) rfl
theorem wm_X4_72 : Cond.methodLink RX4 72 yX2_cut ∈ gz_ts := gz_go (gz_tb (List.mem_append_left _ (List.mem_of_getElem? (i := 204) rfl))) rfl
theorem wi_X2_cut : Cond.instanceMethod yX2_cut ∈ gz_ts := gz_go (gz_tb (List.mem_append_left _ (List.mem_of_getElem? (i := 205) rfl))) rfl
theorem we_X2_cut : Cond.selects RX2 yX2_cut yX2_cut ∈ gz_ts := gz_go (gz_tb (List.mem_append_left _ (List.mem_of_getElem? (i := 206) rfl))) rfl
theorem wm_X2_28 : Cond.methodLink RX2 28 yX2_endsChunk ∈ gz_ts := gz_go (gz_tb (List.mem_append_left _ (List.mem_of_getElem? (i := 208) rfl))) rfl
theorem wi_X2_endsChunk : Cond.instanceMethod yX2_endsChunk ∈ gz_ts := gz_go (gz_tb (List.mem_append_left _ (List.mem_of_getElem? (i := 210) rfl))) rfl
theorem wm_X4_76 : Cond.methodLink RX4 76 yX2_chunkSize ∈ gz_ts := gz_go (gz_tb (List.mem_append_left _ (List.mem_of_getElem? (i := 212) rfl))) rfl
theorem wi_X2_chunkSize : Cond.instanceMethod yX2_chunkSize ∈ gz_ts := gz_go (gz_tb (List.mem_append_left _ (List.mem_of_getElem? (i := 213) rfl))) rfl
theorem we_X2_chunkSize : Cond.selects RX2 yX2_chunkSize yX2_chunkSize ∈ gz_ts := gz_go (gz_tb (List.mem_append_left _ (List.mem_of_getElem? (i := 214) rfl))) rfl
theorem wm_X2_32 : Cond.methodLink RX2 32 yX2_chunkStart ∈ gz_ts := gz_go (gz_tb (List.mem_append_left _ (List.mem_of_getElem? (i := 216) rfl))) rfl
theorem wi_X2_chunkStart : Cond.instanceMethod yX2_chunkStart ∈ gz_ts := gz_go (gz_tb (List.mem_append_left _ (List.mem_of_getElem? (i := 217) rfl))) rfl
theorem we_X2_chunkStart : Cond.selects RX2 yX2_chunkStart yX2_chunkStart ∈ gz_ts := gz_go (gz_tb (List.mem_append_left _ (List.mem_of_getElem? (i := 218) rfl))) rfl
theorem wm_L_39 : Cond.methodLink RL 39 yX4_rescale ∈ gz_ts := gz_go (gz_tb (List.mem_append_left _ (List.mem_of_getElem? (i := 220) rfl))) rfl
theorem wi_X4_rescale : Cond.instanceMethod yX4_rescale ∈ gz_ts := gz_go (gz_tb (List.mem_append_left _ (List.mem_of_getElem? (i := 221) rfl))) rfl
theorem we_X4_rescale : Cond.selects RX4 yX4_rescale yX4_rescale ∈ gz_ts := gz_go (gz_tb (List.mem_append_left _ (List.mem_of_getElem? (i := 222) rfl))) rfl
theorem wm_X4_80 : Cond.methodLink RX4 80 yX4_totalStateBytes ∈ gz_ts := gz_go (gz_tb (List.mem_append_left _ (List.mem_of_getElem? (i := 224) rfl))) rfl
theorem wi_X4_totalStateBytes : Cond.instanceMethod yX4_totalStateBytes ∈ gz_ts := gz_go (gz_tb (List.mem_append_left _ (List.mem_of_getElem? (i := 226) rfl))) rfl
theorem wm_X4_83 : Cond.methodLink RX4 83 yX4_shareStart ∈ gz_ts := gz_go (gz_tb (List.mem_append_left _ (List.mem_of_getElem? (i := 228) rfl))) rfl
theorem ws_X4_shareStart : Cond.static yX4_shareStart ∈ gz_ts := gz_go (gz_tb (List.mem_append_left _ (List.mem_of_getElem? (i := 229) rfl))) rfl
theorem wm_X4_87 : Cond.methodLink RX4 87 yX4_joinStates ∈ gz_ts := gz_go (gz_tb (List.mem_append_left _ (List.mem_of_getElem? (i := 231) rfl))) rfl
theorem wi_X4_joinStates : Cond.instanceMethod yX4_joinStates ∈ gz_ts := gz_go (gz_tb (List.mem_append_left _ (List.mem_of_getElem? (i := 233) rfl))) rfl
theorem wm_X4_225 : Cond.methodLink RX4 225 arraycopyName ∈ gz_ts := gz_go (gz_tb (List.mem_append_left _ (List.mem_of_getElem? (i := 235) rfl))) rfl
theorem wm_X4_90 : Cond.methodLink RX4 90 yX4_becomeTasks ∈ gz_ts := gz_go (gz_tb (List.mem_append_left _ (List.mem_of_getElem? (i := 236) rfl))) rfl
theorem wi_X4_becomeTasks : Cond.instanceMethod yX4_becomeTasks ∈ gz_ts := gz_go (gz_tb (List.mem_append_left _ (List.mem_of_getElem? (i := 238) rfl))) rfl
theorem wm_X4_231 : Cond.methodLink RX4 231 yX1_clear ∈ gz_ts := gz_go (gz_tb (List.mem_append_right _ (List.mem_append_left _ (List.mem_of_getElem? (i := 0) rfl)))) rfl
theorem wi_X1_clear : Cond.instanceMethod yX1_clear ∈ gz_ts := gz_go (gz_tb (List.mem_append_right _ (List.mem_append_left _ (List.mem_of_getElem? (i := 1) rfl)))) rfl
theorem we_X1_clear : Cond.selects RX1 yX1_clear yX1_clear ∈ gz_ts := gz_go (gz_tb (List.mem_append_right _ (List.mem_append_left _ (List.mem_of_getElem? (i := 2) rfl)))) rfl
theorem wm_X4_94 : Cond.methodLink RX4 94 yX2_append ∈ gz_ts := gz_go (gz_tb (List.mem_append_right _ (List.mem_append_left _ (List.mem_of_getElem? (i := 4) rfl)))) rfl
theorem wi_X2_append : Cond.instanceMethod yX2_append ∈ gz_ts := gz_go (gz_tb (List.mem_append_right _ (List.mem_append_left _ (List.mem_of_getElem? (i := 5) rfl)))) rfl
theorem we_X2_append : Cond.selects RX2 yX2_append yX2_append ∈ gz_ts := gz_go (gz_tb (List.mem_append_right _ (List.mem_append_left _ (List.mem_of_getElem? (i := 6) rfl)))) rfl
theorem wm_L_44 : Cond.methodLink RL 44 yX4_mark ∈ gz_ts := gz_go (gz_tb (List.mem_append_right _ (List.mem_append_left _ (List.mem_of_getElem? (i := 8) rfl)))) rfl
theorem wi_X4_mark : Cond.instanceMethod yX4_mark ∈ gz_ts := gz_go (gz_tb (List.mem_append_right _ (List.mem_append_left _ (List.mem_of_getElem? (i := 9) rfl)))) rfl
theorem we_X4_mark : Cond.selects RX4 yX4_mark yX4_mark ∈ gz_ts := gz_go (gz_tb (List.mem_append_right _ (List.mem_append_left _ (List.mem_of_getElem? (i := 10) rfl)))) rfl
theorem wm_X4_98 : Cond.methodLink RX4 98 yX0_begin ∈ gz_ts := gz_go (gz_tb (List.mem_append_right _ (List.mem_append_left _ (List.mem_of_getElem? (i := 12) rfl)))) rfl
theorem wi_X0_begin : Cond.instanceMethod yX0_begin ∈ gz_ts := gz_go (gz_tb (List.mem_append_right _ (List.mem_append_left _ (List.mem_of_getElem? (i := 13) rfl)))) rfl
theorem we_X0_begin : Cond.selects RX0 yX0_begin yX0_begin ∈ gz_ts := gz_go (gz_tb (List.mem_append_right _ (List.mem_append_left _ (List.mem_of_getElem? (i := 14) rfl)))) rfl
theorem wm_X4_101 : Cond.methodLink RX4 101 yX4_storeStates ∈ gz_ts := gz_go (gz_tb (List.mem_append_right _ (List.mem_append_left _ (List.mem_of_getElem? (i := 16) rfl)))) rfl
theorem wi_X4_storeStates : Cond.instanceMethod yX4_storeStates ∈ gz_ts := gz_go (gz_tb (List.mem_append_right _ (List.mem_append_left _ (List.mem_of_getElem? (i := 18) rfl)))) rfl
theorem wm_X4_234 : Cond.methodLink RX4 234 yX3_beginMarking ∈ gz_ts := gz_go (gz_tb (List.mem_append_right _ (List.mem_append_left _ (List.mem_of_getElem? (i := 20) rfl)))) rfl
theorem wi_X3_beginMarking : Cond.instanceMethod yX3_beginMarking ∈ gz_ts := gz_go (gz_tb (List.mem_append_right _ (List.mem_append_left _ (List.mem_of_getElem? (i := 21) rfl)))) rfl
theorem we_X3_beginMarking : Cond.selects RX3 yX3_beginMarking yX3_beginMarking ∈ gz_ts := gz_go (gz_tb (List.mem_append_right _ (List.mem_append_left _ (List.mem_of_getElem? (i := 22) rfl)))) rfl
theorem wm_X4_237 : Cond.methodLink RX4 237 yX4_storeState ∈ gz_ts := gz_go (gz_tb (List.mem_append_right _ (List.mem_append_left _ (List.mem_of_getElem? (i := 24) rfl)))) rfl
theorem wi_X4_storeState : Cond.instanceMethod yX4_storeState ∈ gz_ts := gz_go (gz_tb (List.mem_append_right _ (List.mem_append_left _ (List.mem_of_getElem? (i := 26) rfl)))) rfl
theorem wm_X4_244 : Cond.methodLink RX4 244 yX2_chunkStart ∈ gz_ts := gz_go (gz_tb (List.mem_append_right _ (List.mem_append_left _ (List.mem_of_getElem? (i := 28) rfl)))) rfl
theorem wm_X4_247 : Cond.methodLink RX4 247 yX3_partOf ∈ gz_ts := gz_go (gz_tb (List.mem_append_right _ (List.mem_append_left _ (List.mem_of_getElem? (i := 29) rfl)))) rfl
theorem wi_X3_partOf : Cond.instanceMethod yX3_partOf ∈ gz_ts := gz_go (gz_tb (List.mem_append_right _ (List.mem_append_left _ (List.mem_of_getElem? (i := 30) rfl)))) rfl
theorem we_X3_partOf : Cond.selects RX3 yX3_partOf yX3_partOf ∈ gz_ts := gz_go (gz_tb (List.mem_append_right _ (List.mem_append_left _ (List.mem_of_getElem? (i := 31) rfl)))) rfl
theorem ws_X4_digestOf : Cond.static yX4_digestOf ∈ gz_ts := gz_go (gz_tb (List.mem_append_right _ (List.mem_append_left _ (List.mem_of_getElem? (i := 34) rfl)))) rfl
theorem wm_X3_64 : Cond.methodLink RX3 64 yX3_findPart ∈ gz_ts := gz_go (gz_tb (List.mem_append_right _ (List.mem_append_left _ (List.mem_of_getElem? (i := 36) rfl)))) rfl
theorem wi_X3_findPart : Cond.instanceMethod yX3_findPart ∈ gz_ts := gz_go (gz_tb (List.mem_append_right _ (List.mem_append_left _ (List.mem_of_getElem? (i := 38) rfl)))) rfl
theorem wm_X3_71 : Cond.methodLink RX3 71 yX1_holds ∈ gz_ts := gz_go (gz_tb (List.mem_append_right _ (List.mem_append_left _ (List.mem_of_getElem? (i := 40) rfl)))) rfl
theorem wi_X1_holds : Cond.instanceMethod yX1_holds ∈ gz_ts := gz_go (gz_tb (List.mem_append_right _ (List.mem_append_left _ (List.mem_of_getElem? (i := 41) rfl)))) rfl
theorem we_X1_holds : Cond.selects RX1 yX1_holds yX1_holds ∈ gz_ts := gz_go (gz_tb (List.mem_append_right _ (List.mem_append_left _ (List.mem_of_getElem? (i := 42) rfl)))) rfl
theorem wm_X3_68 : Cond.methodLink RX3 68 yX3_makePart ∈ gz_ts := gz_go (gz_tb (List.mem_append_right _ (List.mem_append_left _ (List.mem_of_getElem? (i := 44) rfl)))) rfl
theorem wi_X3_makePart : Cond.instanceMethod yX3_makePart ∈ gz_ts := gz_go (gz_tb (List.mem_append_right _ (List.mem_append_left _ (List.mem_of_getElem? (i := 46) rfl)))) rfl
theorem wm_X3_75 : Cond.methodLink RX3 75 yX3_leastUnused ∈ gz_ts := gz_go (gz_tb (List.mem_append_right _ (List.mem_append_left _ (List.mem_of_getElem? (i := 48) rfl)))) rfl
theorem wi_X3_leastUnused : Cond.instanceMethod yX3_leastUnused ∈ gz_ts := gz_go (gz_tb (List.mem_append_right _ (List.mem_append_left _ (List.mem_of_getElem? (i := 50) rfl)))) rfl
theorem wm_X3_79 : Cond.methodLink RX3 79 yX1_put ∈ gz_ts := gz_go (gz_tb (List.mem_append_right _ (List.mem_append_left _ (List.mem_of_getElem? (i := 52) rfl)))) rfl
theorem wi_X1_put : Cond.instanceMethod yX1_put ∈ gz_ts := gz_go (gz_tb (List.mem_append_right _ (List.mem_append_left _ (List.mem_of_getElem? (i := 53) rfl)))) rfl
theorem we_X1_put : Cond.selects RX1 yX1_put yX1_put ∈ gz_ts := gz_go (gz_tb (List.mem_append_right _ (List.mem_append_left _ (List.mem_of_getElem? (i := 54) rfl)))) rfl
theorem wm_X1_19 : Cond.methodLink RX1 19 arraycopyName ∈ gz_ts := gz_go (gz_tb (List.mem_append_right _ (List.mem_append_left _ (List.mem_of_getElem? (i := 56) rfl)))) rfl
theorem wm_X4_241 : Cond.methodLink RX4 241 yX3_undoMarking ∈ gz_ts := gz_go (gz_tb (List.mem_append_right _ (List.mem_append_left _ (List.mem_of_getElem? (i := 57) rfl)))) rfl
theorem wi_X3_undoMarking : Cond.instanceMethod yX3_undoMarking ∈ gz_ts := gz_go (gz_tb (List.mem_append_right _ (List.mem_append_left _ (List.mem_of_getElem? (i := 58) rfl)))) rfl
theorem we_X3_undoMarking : Cond.selects RX3 yX3_undoMarking yX3_undoMarking ∈ gz_ts := gz_go (gz_tb (List.mem_append_right _ (List.mem_append_left _ (List.mem_of_getElem? (i := 59) rfl)))) rfl
theorem wm_X3_60 : Cond.methodLink RX3 60 yX3_takeAway ∈ gz_ts := gz_go (gz_tb (List.mem_append_right _ (List.mem_append_left _ (List.mem_of_getElem? (i := 61) rfl)))) rfl
theorem wi_X3_takeAway : Cond.instanceMethod yX3_takeAway ∈ gz_ts := gz_go (gz_tb (List.mem_append_right _ (List.mem_append_left _ (List.mem_of_getElem? (i := 62) rfl)))) rfl
theorem we_X3_takeAway : Cond.selects RX3 yX3_takeAway yX3_takeAway ∈ gz_ts := gz_go (gz_tb (List.mem_append_right _ (List.mem_append_left _ (List.mem_of_getElem? (i := 63) rfl)))) rfl
theorem wm_X4_111 : Cond.methodLink RX4 111 yX4_latestKept ∈ gz_ts := gz_go (gz_tb (List.mem_append_right _ (List.mem_append_left _ (List.mem_of_getElem? (i := 65) rfl)))) rfl
theorem wi_X4_latestKept : Cond.instanceMethod yX4_latestKept ∈ gz_ts := gz_go (gz_tb (List.mem_append_right _ (List.mem_append_left _ (List.mem_of_getElem? (i := 67) rfl)))) rfl
theorem wm_X4_115 : Cond.methodLink RX4 115 yX0_growUpon ∈ gz_ts := gz_go (gz_tb (List.mem_append_right _ (List.mem_append_left _ (List.mem_of_getElem? (i := 69) rfl)))) rfl
theorem wi_X0_growUpon : Cond.instanceMethod yX0_growUpon ∈ gz_ts := gz_go (gz_tb (List.mem_append_right _ (List.mem_append_left _ (List.mem_of_getElem? (i := 70) rfl)))) rfl
theorem we_X0_growUpon : Cond.selects RX0 yX0_growUpon yX0_growUpon ∈ gz_ts := gz_go (gz_tb (List.mem_append_right _ (List.mem_append_left _ (List.mem_of_getElem? (i := 71) rfl)))) rfl
theorem wm_X0_43 : Cond.methodLink RX0 43 yX0_partCount ∈ gz_ts := gz_go (gz_tb (List.mem_append_right _ (List.mem_append_left _ (List.mem_of_getElem? (i := 73) rfl)))) rfl
theorem wi_X0_partCount : Cond.instanceMethod yX0_partCount ∈ gz_ts := gz_go (gz_tb (List.mem_append_right _ (List.mem_append_left _ (List.mem_of_getElem? (i := 74) rfl)))) rfl
theorem we_X0_partCount : Cond.selects RX0 yX0_partCount yX0_partCount ∈ gz_ts := gz_go (gz_tb (List.mem_append_right _ (List.mem_append_left _ (List.mem_of_getElem? (i := 75) rfl)))) rfl
theorem wm_X0_47 : Cond.methodLink RX0 47 yX0_sharedParts ∈ gz_ts := gz_go (gz_tb (List.mem_append_right _ (List.mem_append_left _ (List.mem_of_getElem? (i := 77) rfl)))) rfl
theorem wi_X0_sharedParts : Cond.instanceMethod yX0_sharedParts ∈ gz_ts := gz_go (gz_tb (List.mem_append_right _ (List.mem_append_left _ (List.mem_of_getElem? (i := 79) rfl)))) rfl
theorem wm_X0_51 : Cond.methodLink RX0 51 yJ9_min_7cf53 ∈ gz_ts := gz_go (gz_tb (List.mem_append_right _ (List.mem_append_left _ (List.mem_of_getElem? (i := 81) rfl)))) rfl
theorem ws_J9_min_7cf53 : Cond.static yJ9_min_7cf53 ∈ gz_ts := gz_go (gz_tb (List.mem_append_right _ (List.mem_append_left _ (List.mem_of_getElem? (i := 82) rfl)))) rfl
theorem wm_X4_119 : Cond.methodLink RX4 119 yX4_copyStates ∈ gz_ts := gz_go (gz_tb (List.mem_append_right _ (List.mem_append_left _ (List.mem_of_getElem? (i := 84) rfl)))) rfl
theorem wi_X4_copyStates : Cond.instanceMethod yX4_copyStates ∈ gz_ts := gz_go (gz_tb (List.mem_append_right _ (List.mem_append_left _ (List.mem_of_getElem? (i := 86) rfl)))) rfl
theorem wm_X4_251 : Cond.methodLink RX4 251 yX1_put ∈ gz_ts := gz_go (gz_tb (List.mem_append_right _ (List.mem_append_left _ (List.mem_of_getElem? (i := 88) rfl)))) rfl
theorem wm_L_48 : Cond.methodLink RL 48 yX4_drop ∈ gz_ts := gz_go (gz_tb (List.mem_append_right _ (List.mem_append_left _ (List.mem_of_getElem? (i := 89) rfl)))) rfl
theorem wi_X4_drop : Cond.instanceMethod yX4_drop ∈ gz_ts := gz_go (gz_tb (List.mem_append_right _ (List.mem_append_left _ (List.mem_of_getElem? (i := 90) rfl)))) rfl
theorem we_X4_drop : Cond.selects RX4 yX4_drop yX4_drop ∈ gz_ts := gz_go (gz_tb (List.mem_append_right _ (List.mem_append_left _ (List.mem_of_getElem? (i := 91) rfl)))) rfl
theorem wm_X4_125 : Cond.methodLink RX4 125 yX4_keptMark ∈ gz_ts := gz_go (gz_tb (List.mem_append_right _ (List.mem_append_left _ (List.mem_of_getElem? (i := 93) rfl)))) rfl
theorem wi_X4_keptMark : Cond.instanceMethod yX4_keptMark ∈ gz_ts := gz_go (gz_tb (List.mem_append_right _ (List.mem_append_left _ (List.mem_of_getElem? (i := 95) rfl)))) rfl
theorem wm_X4_152 : Cond.methodLink RX4 152 yX4_heldMark ∈ gz_ts := gz_go (gz_tb (List.mem_append_right _ (List.mem_append_left _ (List.mem_of_getElem? (i := 97) rfl)))) rfl
theorem wi_X4_heldMark : Cond.instanceMethod yX4_heldMark ∈ gz_ts := gz_go (gz_tb (List.mem_append_right _ (List.mem_append_left _ (List.mem_of_getElem? (i := 99) rfl)))) rfl
theorem wm_X4_133 : Cond.methodLink RX4 133 yX4_letGoUnheld ∈ gz_ts := gz_go (gz_tb (List.mem_append_right _ (List.mem_append_left _ (List.mem_of_getElem? (i := 101) rfl)))) rfl
theorem wi_X4_letGoUnheld : Cond.instanceMethod yX4_letGoUnheld ∈ gz_ts := gz_go (gz_tb (List.mem_append_right _ (List.mem_append_left _ (List.mem_of_getElem? (i := 103) rfl)))) rfl
theorem wm_X4_255 : Cond.methodLink RX4 255 yX4_isBase ∈ gz_ts := gz_go (gz_tb (List.mem_append_right _ (List.mem_append_left _ (List.mem_of_getElem? (i := 105) rfl)))) rfl
theorem wi_X4_isBase : Cond.instanceMethod yX4_isBase ∈ gz_ts := gz_go (gz_tb (List.mem_append_right _ (List.mem_append_left _ (List.mem_of_getElem? (i := 107) rfl)))) rfl
theorem wm_X4_258 : Cond.methodLink RX4 258 yX4_letGo ∈ gz_ts := gz_go (gz_tb (List.mem_append_right _ (List.mem_append_left _ (List.mem_of_getElem? (i := 109) rfl)))) rfl
theorem wi_X4_letGo : Cond.instanceMethod yX4_letGo ∈ gz_ts := gz_go (gz_tb (List.mem_append_right _ (List.mem_append_left _ (List.mem_of_getElem? (i := 111) rfl)))) rfl
theorem wm_X4_136 : Cond.methodLink RX4 136 yX4_freeUnnamed ∈ gz_ts := gz_go (gz_tb (List.mem_append_right _ (List.mem_append_left _ (List.mem_of_getElem? (i := 113) rfl)))) rfl
theorem wi_X4_freeUnnamed : Cond.instanceMethod yX4_freeUnnamed ∈ gz_ts := gz_go (gz_tb (List.mem_append_right _ (List.mem_append_left _ (List.mem_of_getElem? (i := 115) rfl)))) rfl
theorem wm_X4_261 : Cond.methodLink RX4 261 yX4_nameKeptParts ∈ gz_ts := gz_go (gz_tb (List.mem_append_right _ (List.mem_append_left _ (List.mem_of_getElem? (i := 117) rfl)))) rfl
theorem wi_X4_nameKeptParts : Cond.instanceMethod yX4_nameKeptParts ∈ gz_ts := gz_go (gz_tb (List.mem_append_right _ (List.mem_append_left _ (List.mem_of_getElem? (i := 119) rfl)))) rfl
theorem wm_X4_267 : Cond.methodLink RX4 267 yX0_addNames ∈ gz_ts := gz_go (gz_tb (List.mem_append_right _ (List.mem_append_left _ (List.mem_of_getElem? (i := 121) rfl)))) rfl
theorem wi_X0_addNames : Cond.instanceMethod yX0_addNames ∈ gz_ts := gz_go (gz_tb (List.mem_append_right _ (List.mem_append_left _ (List.mem_of_getElem? (i := 122) rfl)))) rfl
theorem we_X0_addNames : Cond.selects RX0 yX0_addNames yX0_addNames ∈ gz_ts := gz_go (gz_tb (List.mem_append_right _ (List.mem_append_left _ (List.mem_of_getElem? (i := 123) rfl)))) rfl
theorem wm_X4_177 : Cond.methodLink RX4 177 yX3_isThere ∈ gz_ts := gz_go (gz_tb (List.mem_append_right _ (List.mem_append_left _ (List.mem_of_getElem? (i := 125) rfl)))) rfl
theorem wi_X3_isThere : Cond.instanceMethod yX3_isThere ∈ gz_ts := gz_go (gz_tb (List.mem_append_right _ (List.mem_append_left _ (List.mem_of_getElem? (i := 126) rfl)))) rfl
theorem we_X3_isThere : Cond.selects RX3 yX3_isThere yX3_isThere ∈ gz_ts := gz_go (gz_tb (List.mem_append_right _ (List.mem_append_left _ (List.mem_of_getElem? (i := 127) rfl)))) rfl
theorem wm_X4_264 : Cond.methodLink RX4 264 yX4_freePart ∈ gz_ts := gz_go (gz_tb (List.mem_append_right _ (List.mem_append_left _ (List.mem_of_getElem? (i := 129) rfl)))) rfl
theorem wi_X4_freePart : Cond.instanceMethod yX4_freePart ∈ gz_ts := gz_go (gz_tb (List.mem_append_right _ (List.mem_append_left _ (List.mem_of_getElem? (i := 131) rfl)))) rfl
theorem wm_X4_271 : Cond.methodLink RX4 271 yX3_takeAway ∈ gz_ts := gz_go (gz_tb (List.mem_append_right _ (List.mem_append_left _ (List.mem_of_getElem? (i := 133) rfl)))) rfl
theorem wm_L_52 : Cond.methodLink RL 52 yX4_back ∈ gz_ts := gz_go (gz_tb (List.mem_append_right _ (List.mem_append_left _ (List.mem_of_getElem? (i := 134) rfl)))) rfl
theorem wi_X4_back : Cond.instanceMethod yX4_back ∈ gz_ts := gz_go (gz_tb (List.mem_append_right _ (List.mem_append_left _ (List.mem_of_getElem? (i := 135) rfl)))) rfl
theorem we_X4_back : Cond.selects RX4 yX4_back yX4_back ∈ gz_ts := gz_go (gz_tb (List.mem_append_right _ (List.mem_append_left _ (List.mem_of_getElem? (i := 136) rfl)))) rfl
theorem wm_X4_139 : Cond.methodLink RX4 139 yX4_latestUsable ∈ gz_ts := gz_go (gz_tb (List.mem_append_right _ (List.mem_append_left _ (List.mem_of_getElem? (i := 138) rfl)))) rfl
theorem wi_X4_latestUsable : Cond.instanceMethod yX4_latestUsable ∈ gz_ts := gz_go (gz_tb (List.mem_append_right _ (List.mem_append_left _ (List.mem_of_getElem? (i := 140) rfl)))) rfl
theorem wm_X4_149 : Cond.methodLink RX4 149 yX4_isUsable ∈ gz_ts := gz_go (gz_tb (List.mem_append_right _ (List.mem_append_left _ (List.mem_of_getElem? (i := 142) rfl)))) rfl
theorem wi_X4_isUsable : Cond.instanceMethod yX4_isUsable ∈ gz_ts := gz_go (gz_tb (List.mem_append_right _ (List.mem_append_left _ (List.mem_of_getElem? (i := 144) rfl)))) rfl
theorem wm_X4_277 : Cond.methodLink RX4 277 yX4_isReadable ∈ gz_ts := gz_go (gz_tb (List.mem_append_right _ (List.mem_append_left _ (List.mem_of_getElem? (i := 146) rfl)))) rfl
theorem wi_X4_isReadable : Cond.instanceMethod yX4_isReadable ∈ gz_ts := gz_go (gz_tb (List.mem_append_right _ (List.mem_append_left _ (List.mem_of_getElem? (i := 148) rfl)))) rfl
theorem wm_X4_191 : Cond.methodLink RX4 191 yX3_isSound ∈ gz_ts := gz_go (gz_tb (List.mem_append_right _ (List.mem_append_left _ (List.mem_of_getElem? (i := 150) rfl)))) rfl
theorem wi_X3_isSound : Cond.instanceMethod yX3_isSound ∈ gz_ts := gz_go (gz_tb (List.mem_append_right _ (List.mem_append_left _ (List.mem_of_getElem? (i := 151) rfl)))) rfl
theorem we_X3_isSound : Cond.selects RX3 yX3_isSound yX3_isSound ∈ gz_ts := gz_go (gz_tb (List.mem_append_right _ (List.mem_append_left _ (List.mem_of_getElem? (i := 152) rfl)))) rfl
theorem wm_X4_145 : Cond.methodLink RX4 145 yX4_readState ∈ gz_ts := gz_go (gz_tb (List.mem_append_right _ (List.mem_append_left _ (List.mem_of_getElem? (i := 154) rfl)))) rfl
theorem wi_X4_readState : Cond.instanceMethod yX4_readState ∈ gz_ts := gz_go (gz_tb (List.mem_append_right _ (List.mem_append_left _ (List.mem_of_getElem? (i := 156) rfl)))) rfl
theorem wm_X4_281 : Cond.methodLink RX4 281 yX4_readPart ∈ gz_ts := gz_go (gz_tb (List.mem_append_right _ (List.mem_append_left _ (List.mem_of_getElem? (i := 158) rfl)))) rfl
theorem wi_X4_readPart : Cond.instanceMethod yX4_readPart ∈ gz_ts := gz_go (gz_tb (List.mem_append_right _ (List.mem_append_left _ (List.mem_of_getElem? (i := 160) rfl)))) rfl
theorem wm_L_56 : Cond.methodLink RL 56 yX4_usable ∈ gz_ts := gz_go (gz_tb (List.mem_append_right _ (List.mem_append_left _ (List.mem_of_getElem? (i := 162) rfl)))) rfl
theorem wi_X4_usable : Cond.instanceMethod yX4_usable ∈ gz_ts := gz_go (gz_tb (List.mem_append_right _ (List.mem_append_left _ (List.mem_of_getElem? (i := 163) rfl)))) rfl
theorem we_X4_usable : Cond.selects RX4 yX4_usable yX4_usable ∈ gz_ts := gz_go (gz_tb (List.mem_append_right _ (List.mem_append_left _ (List.mem_of_getElem? (i := 164) rfl)))) rfl
theorem wm_L_60 : Cond.methodLink RL 60 yX4_markTold ∈ gz_ts := gz_go (gz_tb (List.mem_append_right _ (List.mem_append_left _ (List.mem_of_getElem? (i := 166) rfl)))) rfl
theorem wi_X4_markTold : Cond.instanceMethod yX4_markTold ∈ gz_ts := gz_go (gz_tb (List.mem_append_right _ (List.mem_append_left _ (List.mem_of_getElem? (i := 167) rfl)))) rfl
theorem we_X4_markTold : Cond.selects RX4 yX4_markTold yX4_markTold ∈ gz_ts := gz_go (gz_tb (List.mem_append_right _ (List.mem_append_left _ (List.mem_of_getElem? (i := 168) rfl)))) rfl
theorem wm_X4_158 : Cond.methodLink RX4 158 yX0_partCount ∈ gz_ts := gz_go (gz_tb (List.mem_append_right _ (List.mem_append_left _ (List.mem_of_getElem? (i := 170) rfl)))) rfl
theorem wm_L_64 : Cond.methodLink RL 64 yX4_list ∈ gz_ts := gz_go (gz_tb (List.mem_append_right _ (List.mem_append_left _ (List.mem_of_getElem? (i := 171) rfl)))) rfl
theorem wi_X4_list : Cond.instanceMethod yX4_list ∈ gz_ts := gz_go (gz_tb (List.mem_append_right _ (List.mem_append_left _ (List.mem_of_getElem? (i := 172) rfl)))) rfl
theorem we_X4_list : Cond.selects RX4 yX4_list yX4_list ∈ gz_ts := gz_go (gz_tb (List.mem_append_right _ (List.mem_append_left _ (List.mem_of_getElem? (i := 173) rfl)))) rfl
theorem wm_L_68 : Cond.methodLink RL 68 yX4_same ∈ gz_ts := gz_go (gz_tb (List.mem_append_right _ (List.mem_append_left _ (List.mem_of_getElem? (i := 175) rfl)))) rfl
theorem wi_X4_same : Cond.instanceMethod yX4_same ∈ gz_ts := gz_go (gz_tb (List.mem_append_right _ (List.mem_append_left _ (List.mem_of_getElem? (i := 176) rfl)))) rfl
theorem we_X4_same : Cond.selects RX4 yX4_same yX4_same ∈ gz_ts := gz_go (gz_tb (List.mem_append_right _ (List.mem_append_left _ (List.mem_of_getElem? (i := 177) rfl)))) rfl
theorem wm_X4_174 : Cond.methodLink RX4 174 yX0_isAlike ∈ gz_ts := gz_go (gz_tb (List.mem_append_right _ (List.mem_append_left _ (List.mem_of_getElem? (i := 179) rfl)))) rfl
theorem wi_X0_isAlike : Cond.instanceMethod yX0_isAlike ∈ gz_ts := gz_go (gz_tb (List.mem_append_right _ (List.mem_append_left _ (List.mem_of_getElem? (i := 180) rfl)))) rfl
theorem we_X0_isAlike : Cond.selects RX0 yX0_isAlike yX0_isAlike ∈ gz_ts := gz_go (gz_tb (List.mem_append_right _ (List.mem_append_left _ (List.mem_of_getElem? (i := 181) rfl)))) rfl
theorem wm_X0_57 : Cond.methodLink RX0 57 yX0_hasAlikeList ∈ gz_ts := gz_go (gz_tb (List.mem_append_right _ (List.mem_append_left _ (List.mem_of_getElem? (i := 183) rfl)))) rfl
theorem wi_X0_hasAlikeList : Cond.instanceMethod yX0_hasAlikeList ∈ gz_ts := gz_go (gz_tb (List.mem_append_right _ (List.mem_append_left _ (List.mem_of_getElem? (i := 185) rfl)))) rfl
theorem wm_L_73 : Cond.methodLink RL 73 yX4_partTold ∈ gz_ts := gz_go (gz_tb (List.mem_append_right _ (List.mem_append_left _ (List.mem_of_getElem? (i := 187) rfl)))) rfl
theorem wi_X4_partTold : Cond.instanceMethod yX4_partTold ∈ gz_ts := gz_go (gz_tb (List.mem_append_right _ (List.mem_append_left _ (List.mem_of_getElem? (i := 188) rfl)))) rfl
theorem we_X4_partTold : Cond.selects RX4 yX4_partTold yX4_partTold ∈ gz_ts := gz_go (gz_tb (List.mem_append_right _ (List.mem_append_left _ (List.mem_of_getElem? (i := 189) rfl)))) rfl
theorem wm_X4_184 : Cond.methodLink RX4 184 yX4_keptNaming ∈ gz_ts := gz_go (gz_tb (List.mem_append_right _ (List.mem_append_left _ (List.mem_of_getElem? (i := 191) rfl)))) rfl
theorem wi_X4_keptNaming : Cond.instanceMethod yX4_keptNaming ∈ gz_ts := gz_go (gz_tb (List.mem_append_right _ (List.mem_append_left _ (List.mem_of_getElem? (i := 193) rfl)))) rfl
theorem wm_X4_274 : Cond.methodLink RX4 274 yX0_names ∈ gz_ts := gz_go (gz_tb (List.mem_append_right _ (List.mem_append_left _ (List.mem_of_getElem? (i := 195) rfl)))) rfl
theorem wi_X0_names : Cond.instanceMethod yX0_names ∈ gz_ts := gz_go (gz_tb (List.mem_append_right _ (List.mem_append_left _ (List.mem_of_getElem? (i := 196) rfl)))) rfl
theorem we_X0_names : Cond.selects RX0 yX0_names yX0_names ∈ gz_ts := gz_go (gz_tb (List.mem_append_right _ (List.mem_append_left _ (List.mem_of_getElem? (i := 197) rfl)))) rfl
theorem wm_X4_195 : Cond.methodLink RX4 195 yX4_copyCount ∈ gz_ts := gz_go (gz_tb (List.mem_append_right _ (List.mem_append_left _ (List.mem_of_getElem? (i := 199) rfl)))) rfl
theorem wi_X4_copyCount : Cond.instanceMethod yX4_copyCount ∈ gz_ts := gz_go (gz_tb (List.mem_append_right _ (List.mem_append_left _ (List.mem_of_getElem? (i := 201) rfl)))) rfl
theorem wm_L_77 : Cond.methodLink RL 77 yX4_partByte ∈ gz_ts := gz_go (gz_tb (List.mem_append_right _ (List.mem_append_left _ (List.mem_of_getElem? (i := 203) rfl)))) rfl
theorem wi_X4_partByte : Cond.instanceMethod yX4_partByte ∈ gz_ts := gz_go (gz_tb (List.mem_append_right _ (List.mem_append_left _ (List.mem_of_getElem? (i := 204) rfl)))) rfl
theorem we_X4_partByte : Cond.selects RX4 yX4_partByte yX4_partByte ∈ gz_ts := gz_go (gz_tb (List.mem_append_right _ (List.mem_append_left _ (List.mem_of_getElem? (i := 205) rfl)))) rfl
theorem wm_X4_198 : Cond.methodLink RX4 198 yX4_shelfOf ∈ gz_ts := gz_go (gz_tb (List.mem_append_right _ (List.mem_append_left _ (List.mem_of_getElem? (i := 207) rfl)))) rfl
theorem wi_X4_shelfOf : Cond.instanceMethod yX4_shelfOf ∈ gz_ts := gz_go (gz_tb (List.mem_append_right _ (List.mem_append_left _ (List.mem_of_getElem? (i := 209) rfl)))) rfl
theorem wm_X4_202 : Cond.methodLink RX4 202 yX3_hasByte ∈ gz_ts := gz_go (gz_tb (List.mem_append_right _ (List.mem_append_left _ (List.mem_of_getElem? (i := 211) rfl)))) rfl
theorem wi_X3_hasByte : Cond.instanceMethod yX3_hasByte ∈ gz_ts := gz_go (gz_tb (List.mem_append_right _ (List.mem_append_left _ (List.mem_of_getElem? (i := 212) rfl)))) rfl
theorem we_X3_hasByte : Cond.selects RX3 yX3_hasByte yX3_hasByte ∈ gz_ts := gz_go (gz_tb (List.mem_append_right _ (List.mem_append_left _ (List.mem_of_getElem? (i := 213) rfl)))) rfl
theorem wm_X3_52 : Cond.methodLink RX3 52 yX3_isThere ∈ gz_ts := gz_go (gz_tb (List.mem_append_right _ (List.mem_append_left _ (List.mem_of_getElem? (i := 215) rfl)))) rfl
theorem wm_L_81 : Cond.methodLink RL 81 yX4_alter ∈ gz_ts := gz_go (gz_tb (List.mem_append_right _ (List.mem_append_left _ (List.mem_of_getElem? (i := 216) rfl)))) rfl
theorem wi_X4_alter : Cond.instanceMethod yX4_alter ∈ gz_ts := gz_go (gz_tb (List.mem_append_right _ (List.mem_append_left _ (List.mem_of_getElem? (i := 217) rfl)))) rfl
theorem we_X4_alter : Cond.selects RX4 yX4_alter yX4_alter ∈ gz_ts := gz_go (gz_tb (List.mem_append_right _ (List.mem_append_left _ (List.mem_of_getElem? (i := 218) rfl)))) rfl
theorem wm_L_85 : Cond.methodLink RL 85 yX4_lose ∈ gz_ts := gz_go (gz_tb (List.mem_append_right _ (List.mem_append_left _ (List.mem_of_getElem? (i := 220) rfl)))) rfl
theorem wi_X4_lose : Cond.instanceMethod yX4_lose ∈ gz_ts := gz_go (gz_tb (List.mem_append_right _ (List.mem_append_left _ (List.mem_of_getElem? (i := 221) rfl)))) rfl
theorem we_X4_lose : Cond.selects RX4 yX4_lose yX4_lose ∈ gz_ts := gz_go (gz_tb (List.mem_append_right _ (List.mem_append_left _ (List.mem_of_getElem? (i := 222) rfl)))) rfl
theorem wm_L_89 : Cond.methodLink RL 89 yX4_told ∈ gz_ts := gz_go (gz_tb (List.mem_append_right _ (List.mem_append_left _ (List.mem_of_getElem? (i := 224) rfl)))) rfl
theorem wi_X4_told : Cond.instanceMethod yX4_told ∈ gz_ts := gz_go (gz_tb (List.mem_append_right _ (List.mem_append_left _ (List.mem_of_getElem? (i := 225) rfl)))) rfl
theorem we_X4_told : Cond.selects RX4 yX4_told yX4_told ∈ gz_ts := gz_go (gz_tb (List.mem_append_right _ (List.mem_append_left _ (List.mem_of_getElem? (i := 226) rfl)))) rfl
theorem wm_X4_210 : Cond.methodLink RX4 210 yX4_keptCount ∈ gz_ts := gz_go (gz_tb (List.mem_append_right _ (List.mem_append_left _ (List.mem_of_getElem? (i := 228) rfl)))) rfl
theorem wi_X4_keptCount : Cond.instanceMethod yX4_keptCount ∈ gz_ts := gz_go (gz_tb (List.mem_append_right _ (List.mem_append_left _ (List.mem_of_getElem? (i := 230) rfl)))) rfl
theorem wm_X4_219 : Cond.methodLink RX4 219 yX3_brokenCount ∈ gz_ts := gz_go (gz_tb (List.mem_append_right _ (List.mem_append_left _ (List.mem_of_getElem? (i := 232) rfl)))) rfl
theorem wi_X3_brokenCount : Cond.instanceMethod yX3_brokenCount ∈ gz_ts := gz_go (gz_tb (List.mem_append_right _ (List.mem_append_left _ (List.mem_of_getElem? (i := 233) rfl)))) rfl
theorem we_X3_brokenCount : Cond.selects RX3 yX3_brokenCount yX3_brokenCount ∈ gz_ts := gz_go (gz_tb (List.mem_append_right _ (List.mem_append_left _ (List.mem_of_getElem? (i := 234) rfl)))) rfl
theorem wm_X3_56 : Cond.methodLink RX3 56 yX3_isSound ∈ gz_ts := gz_go (gz_tb (List.mem_append_right _ (List.mem_append_left _ (List.mem_of_getElem? (i := 236) rfl)))) rfl
theorem wm_X4_222 : Cond.methodLink RX4 222 yX4_allCopies ∈ gz_ts := gz_go (gz_tb (List.mem_append_right _ (List.mem_append_left _ (List.mem_of_getElem? (i := 237) rfl)))) rfl
theorem wi_X4_allCopies : Cond.instanceMethod yX4_allCopies ∈ gz_ts := gz_go (gz_tb (List.mem_append_right _ (List.mem_append_left _ (List.mem_of_getElem? (i := 239) rfl)))) rfl
theorem wm_L_12 : Cond.methodLink RL 12 yX5_init ∈ gz_ts := gz_go (gz_tb (List.mem_append_right _ (List.mem_append_right _ (List.mem_of_getElem? (i := 3) rfl)))) rfl
theorem wi_X5_init : Cond.instanceMethod yX5_init ∈ gz_ts := gz_go (gz_tb (List.mem_append_right _ (List.mem_append_right _ (List.mem_of_getElem? (i := 4) rfl)))) rfl
theorem wm_X5_1 : Cond.methodLink RX5 1 objectInit ∈ gz_ts := gz_go (gz_tb (List.mem_append_right _ (List.mem_append_right _ (List.mem_of_getElem? (i := 6) rfl)))) rfl
theorem wf_X5_7 : Cond.fieldLink RX5 7 "GrownSnapshotsModel" "tasks" "I" ∈ gz_ts := gz_go (gz_tb (List.mem_append_right _ (List.mem_append_right _ (List.mem_of_getElem? (i := 7) rfl)))) rfl
theorem wf_X5_13 : Cond.fieldLink RX5 13 "GrownSnapshotsModel" "size" "[I" ∈ gz_ts := gz_go (gz_tb (List.mem_append_right _ (List.mem_append_right _ (List.mem_of_getElem? (i := 8) rfl)))) rfl
theorem wf_X5_17 : Cond.fieldLink RX5 17 "GrownSnapshotsModel" "state" "[I" ∈ gz_ts := gz_go (gz_tb (List.mem_append_right _ (List.mem_append_right _ (List.mem_of_getElem? (i := 9) rfl)))) rfl
theorem wf_X5_20 : Cond.fieldLink RX5 20 "GrownSnapshotsModel" "moved" "[I" ∈ gz_ts := gz_go (gz_tb (List.mem_append_right _ (List.mem_append_right _ (List.mem_of_getElem? (i := 10) rfl)))) rfl
theorem wf_X5_23 : Cond.fieldLink RX5 23 "GrownSnapshotsModel" "partSize" "[I" ∈ gz_ts := gz_go (gz_tb (List.mem_append_right _ (List.mem_append_right _ (List.mem_of_getElem? (i := 11) rfl)))) rfl
theorem wf_X5_26 : Cond.fieldLink RX5 26 "GrownSnapshotsModel" "digest" "[I" ∈ gz_ts := gz_go (gz_tb (List.mem_append_right _ (List.mem_append_right _ (List.mem_of_getElem? (i := 12) rfl)))) rfl
theorem wf_X5_29 : Cond.fieldLink RX5 29 "GrownSnapshotsModel" "lost" "[Z" ∈ gz_ts := gz_go (gz_tb (List.mem_append_right _ (List.mem_append_right _ (List.mem_of_getElem? (i := 13) rfl)))) rfl
theorem wf_X5_33 : Cond.fieldLink RX5 33 "GrownSnapshotsModel" "bytes" "[I" ∈ gz_ts := gz_go (gz_tb (List.mem_append_right _ (List.mem_append_right _ (List.mem_of_getElem? (i := 14) rfl)))) rfl
theorem wf_X5_36 : Cond.fieldLink RX5 36 "GrownSnapshotsModel" "copied" "[Z" ∈ gz_ts := gz_go (gz_tb (List.mem_append_right _ (List.mem_append_right _ (List.mem_of_getElem? (i := 15) rfl)))) rfl
theorem wf_X5_39 : Cond.fieldLink RX5 39 "GrownSnapshotsModel" "copy" "[I" ∈ gz_ts := gz_go (gz_tb (List.mem_append_right _ (List.mem_append_right _ (List.mem_of_getElem? (i := 16) rfl)))) rfl
theorem wf_X5_128 : Cond.fieldLink RX5 128 "GrownSnapshotsModel" "next" "I" ∈ gz_ts := gz_go (gz_tb (List.mem_append_right _ (List.mem_append_right _ (List.mem_of_getElem? (i := 17) rfl)))) rfl
theorem wf_X5_42 : Cond.fieldLink RX5 42 "GrownSnapshotsModel" "number" "[I" ∈ gz_ts := gz_go (gz_tb (List.mem_append_right _ (List.mem_append_right _ (List.mem_of_getElem? (i := 18) rfl)))) rfl
theorem wf_X5_45 : Cond.fieldLink RX5 45 "GrownSnapshotsModel" "kept" "[Z" ∈ gz_ts := gz_go (gz_tb (List.mem_append_right _ (List.mem_append_right _ (List.mem_of_getElem? (i := 19) rfl)))) rfl
theorem wf_X5_48 : Cond.fieldLink RX5 48 "GrownSnapshotsModel" "base" "[I" ∈ gz_ts := gz_go (gz_tb (List.mem_append_right _ (List.mem_append_right _ (List.mem_of_getElem? (i := 20) rfl)))) rfl
theorem wf_X5_51 : Cond.fieldLink RX5 51 "GrownSnapshotsModel" "markTasks" "[I" ∈ gz_ts := gz_go (gz_tb (List.mem_append_right _ (List.mem_append_right _ (List.mem_of_getElem? (i := 21) rfl)))) rfl
theorem wf_X5_54 : Cond.fieldLink RX5 54 "GrownSnapshotsModel" "length" "[I" ∈ gz_ts := gz_go (gz_tb (List.mem_append_right _ (List.mem_append_right _ (List.mem_of_getElem? (i := 22) rfl)))) rfl
theorem wf_X5_57 : Cond.fieldLink RX5 57 "GrownSnapshotsModel" "lists" "[I" ∈ gz_ts := gz_go (gz_tb (List.mem_append_right _ (List.mem_append_right _ (List.mem_of_getElem? (i := 23) rfl)))) rfl
theorem wf_X5_60 : Cond.fieldLink RX5 60 "GrownSnapshotsModel" "own" "[I" ∈ gz_ts := gz_go (gz_tb (List.mem_append_right _ (List.mem_append_right _ (List.mem_of_getElem? (i := 24) rfl)))) rfl
theorem wf_X5_63 : Cond.fieldLink RX5 63 "GrownSnapshotsModel" "marked" "[I" ∈ gz_ts := gz_go (gz_tb (List.mem_append_right _ (List.mem_append_right _ (List.mem_of_getElem? (i := 25) rfl)))) rfl
theorem wf_X5_66 : Cond.fieldLink RX5 66 "GrownSnapshotsModel" "fresh" "[I" ∈ gz_ts := gz_go (gz_tb (List.mem_append_right _ (List.mem_append_right _ (List.mem_of_getElem? (i := 26) rfl)))) rfl
theorem wf_X5_69 : Cond.fieldLink RX5 69 "GrownSnapshotsModel" "isNew" "[Z" ∈ gz_ts := gz_go (gz_tb (List.mem_append_right _ (List.mem_append_right _ (List.mem_of_getElem? (i := 27) rfl)))) rfl
theorem wm_L_19 : Cond.methodLink RL 19 yX5_insert ∈ gz_ts := gz_go (gz_tb (List.mem_append_right _ (List.mem_append_right _ (List.mem_of_getElem? (i := 71) rfl)))) rfl
theorem wi_X5_insert : Cond.instanceMethod yX5_insert ∈ gz_ts := gz_go (gz_tb (List.mem_append_right _ (List.mem_append_right _ (List.mem_of_getElem? (i := 72) rfl)))) rfl
theorem we_X5_insert : Cond.selects RX5 yX5_insert yX5_insert ∈ gz_ts := gz_go (gz_tb (List.mem_append_right _ (List.mem_append_right _ (List.mem_of_getElem? (i := 73) rfl)))) rfl
theorem wm_X5_76 : Cond.methodLink RX5 76 yX5_isTask ∈ gz_ts := gz_go (gz_tb (List.mem_append_right _ (List.mem_append_right _ (List.mem_of_getElem? (i := 75) rfl)))) rfl
theorem wi_X5_isTask : Cond.instanceMethod yX5_isTask ∈ gz_ts := gz_go (gz_tb (List.mem_append_right _ (List.mem_append_right _ (List.mem_of_getElem? (i := 77) rfl)))) rfl
theorem wm_X5_72 : Cond.methodLink RX5 72 yX5_in ∈ gz_ts := gz_go (gz_tb (List.mem_append_right _ (List.mem_append_right _ (List.mem_of_getElem? (i := 79) rfl)))) rfl
theorem ws_X5_in : Cond.static yX5_in ∈ gz_ts := gz_go (gz_tb (List.mem_append_right _ (List.mem_append_right _ (List.mem_of_getElem? (i := 80) rfl)))) rfl
theorem wl_X5_80 : Cond.constantLong RX5 80 (255 : Int64) ∈ gz_ts := gz_go (gz_tb (List.mem_append_right _ (List.mem_append_right _ (List.mem_of_getElem? (i := 82) rfl)))) rfl
theorem wm_L_24 : Cond.methodLink RL 24 yX5_remove ∈ gz_ts := gz_go (gz_tb (List.mem_append_right _ (List.mem_append_right _ (List.mem_of_getElem? (i := 83) rfl)))) rfl
theorem wi_X5_remove : Cond.instanceMethod yX5_remove ∈ gz_ts := gz_go (gz_tb (List.mem_append_right _ (List.mem_append_right _ (List.mem_of_getElem? (i := 84) rfl)))) rfl
theorem we_X5_remove : Cond.selects RX5 yX5_remove yX5_remove ∈ gz_ts := gz_go (gz_tb (List.mem_append_right _ (List.mem_append_right _ (List.mem_of_getElem? (i := 85) rfl)))) rfl
theorem wm_L_29 : Cond.methodLink RL 29 yX5_extend ∈ gz_ts := gz_go (gz_tb (List.mem_append_right _ (List.mem_append_right _ (List.mem_of_getElem? (i := 87) rfl)))) rfl
theorem wi_X5_extend : Cond.instanceMethod yX5_extend ∈ gz_ts := gz_go (gz_tb (List.mem_append_right _ (List.mem_append_right _ (List.mem_of_getElem? (i := 88) rfl)))) rfl
theorem we_X5_extend : Cond.selects RX5 yX5_extend yX5_extend ∈ gz_ts := gz_go (gz_tb (List.mem_append_right _ (List.mem_append_right _ (List.mem_of_getElem? (i := 89) rfl)))) rfl
theorem wm_L_34 : Cond.methodLink RL 34 yX5_state ∈ gz_ts := gz_go (gz_tb (List.mem_append_right _ (List.mem_append_right _ (List.mem_of_getElem? (i := 91) rfl)))) rfl
theorem wi_X5_state : Cond.instanceMethod yX5_state ∈ gz_ts := gz_go (gz_tb (List.mem_append_right _ (List.mem_append_right _ (List.mem_of_getElem? (i := 92) rfl)))) rfl
theorem we_X5_state : Cond.selects RX5 yX5_state yX5_state ∈ gz_ts := gz_go (gz_tb (List.mem_append_right _ (List.mem_append_right _ (List.mem_of_getElem? (i := 93) rfl)))) rfl
theorem wm_L_38 : Cond.methodLink RL 38 yX5_chunk ∈ gz_ts := gz_go (gz_tb (List.mem_append_right _ (List.mem_append_right _ (List.mem_of_getElem? (i := 95) rfl)))) rfl
theorem wi_X5_chunk : Cond.instanceMethod yX5_chunk ∈ gz_ts := gz_go (gz_tb (List.mem_append_right _ (List.mem_append_right _ (List.mem_of_getElem? (i := 96) rfl)))) rfl
theorem we_X5_chunk : Cond.selects RX5 yX5_chunk yX5_chunk ∈ gz_ts := gz_go (gz_tb (List.mem_append_right _ (List.mem_append_right _ (List.mem_of_getElem? (i := 97) rfl)))) rfl
theorem wm_X5_82 : Cond.methodLink RX5 82 yX5_chunkFrom ∈ gz_ts := gz_go (gz_tb (List.mem_append_right _ (List.mem_append_right _ (List.mem_of_getElem? (i := 99) rfl)))) rfl
theorem wi_X5_chunkFrom : Cond.instanceMethod yX5_chunkFrom ∈ gz_ts := gz_go (gz_tb (List.mem_append_right _ (List.mem_append_right _ (List.mem_of_getElem? (i := 101) rfl)))) rfl
theorem wm_L_43 : Cond.methodLink RL 43 yX5_rescale ∈ gz_ts := gz_go (gz_tb (List.mem_append_right _ (List.mem_append_right _ (List.mem_of_getElem? (i := 103) rfl)))) rfl
theorem wi_X5_rescale : Cond.instanceMethod yX5_rescale ∈ gz_ts := gz_go (gz_tb (List.mem_append_right _ (List.mem_append_right _ (List.mem_of_getElem? (i := 104) rfl)))) rfl
theorem we_X5_rescale : Cond.selects RX5 yX5_rescale yX5_rescale ∈ gz_ts := gz_go (gz_tb (List.mem_append_right _ (List.mem_append_right _ (List.mem_of_getElem? (i := 105) rfl)))) rfl
theorem wm_X5_86 : Cond.methodLink RX5 86 yX5_become ∈ gz_ts := gz_go (gz_tb (List.mem_append_right _ (List.mem_append_right _ (List.mem_of_getElem? (i := 107) rfl)))) rfl
theorem wi_X5_become : Cond.instanceMethod yX5_become ∈ gz_ts := gz_go (gz_tb (List.mem_append_right _ (List.mem_append_right _ (List.mem_of_getElem? (i := 109) rfl)))) rfl
theorem wm_L_76 : Cond.methodLink RL 76 yX5_partTold ∈ gz_ts := gz_go (gz_tb (List.mem_append_right _ (List.mem_append_right _ (List.mem_of_getElem? (i := 111) rfl)))) rfl
theorem wi_X5_partTold : Cond.instanceMethod yX5_partTold ∈ gz_ts := gz_go (gz_tb (List.mem_append_right _ (List.mem_append_right _ (List.mem_of_getElem? (i := 112) rfl)))) rfl
theorem we_X5_partTold : Cond.selects RX5 yX5_partTold yX5_partTold ∈ gz_ts := gz_go (gz_tb (List.mem_append_right _ (List.mem_append_right _ (List.mem_of_getElem? (i := 113) rfl)))) rfl
theorem wm_X5_90 : Cond.methodLink RX5 90 yX5_isPart ∈ gz_ts := gz_go (gz_tb (List.mem_append_right _ (List.mem_append_right _ (List.mem_of_getElem? (i := 115) rfl)))) rfl
theorem wi_X5_isPart : Cond.instanceMethod yX5_isPart ∈ gz_ts := gz_go (gz_tb (List.mem_append_right _ (List.mem_append_right _ (List.mem_of_getElem? (i := 117) rfl)))) rfl
theorem wm_X5_100 : Cond.methodLink RX5 100 yX5_hasPart ∈ gz_ts := gz_go (gz_tb (List.mem_append_right _ (List.mem_append_right _ (List.mem_of_getElem? (i := 119) rfl)))) rfl
theorem wi_X5_hasPart : Cond.instanceMethod yX5_hasPart ∈ gz_ts := gz_go (gz_tb (List.mem_append_right _ (List.mem_append_right _ (List.mem_of_getElem? (i := 121) rfl)))) rfl
theorem wm_X5_97 : Cond.methodLink RX5 97 yX5_isBroken ∈ gz_ts := gz_go (gz_tb (List.mem_append_right _ (List.mem_append_right _ (List.mem_of_getElem? (i := 123) rfl)))) rfl
theorem wi_X5_isBroken : Cond.instanceMethod yX5_isBroken ∈ gz_ts := gz_go (gz_tb (List.mem_append_right _ (List.mem_append_right _ (List.mem_of_getElem? (i := 125) rfl)))) rfl
theorem wm_L_80 : Cond.methodLink RL 80 yX5_partByte ∈ gz_ts := gz_go (gz_tb (List.mem_append_right _ (List.mem_append_right _ (List.mem_of_getElem? (i := 127) rfl)))) rfl
theorem wi_X5_partByte : Cond.instanceMethod yX5_partByte ∈ gz_ts := gz_go (gz_tb (List.mem_append_right _ (List.mem_append_right _ (List.mem_of_getElem? (i := 128) rfl)))) rfl
theorem we_X5_partByte : Cond.selects RX5 yX5_partByte yX5_partByte ∈ gz_ts := gz_go (gz_tb (List.mem_append_right _ (List.mem_append_right _ (List.mem_of_getElem? (i := 129) rfl)))) rfl
theorem wm_X5_103 : Cond.methodLink RX5 103 yX5_isByte ∈ gz_ts := gz_go (gz_tb (List.mem_append_right _ (List.mem_append_right _ (List.mem_of_getElem? (i := 131) rfl)))) rfl
theorem wi_X5_isByte : Cond.instanceMethod yX5_isByte ∈ gz_ts := gz_go (gz_tb (List.mem_append_right _ (List.mem_append_right _ (List.mem_of_getElem? (i := 133) rfl)))) rfl
theorem wm_L_84 : Cond.methodLink RL 84 yX5_alter ∈ gz_ts := gz_go (gz_tb (List.mem_append_right _ (List.mem_append_right _ (List.mem_of_getElem? (i := 135) rfl)))) rfl
theorem wi_X5_alter : Cond.instanceMethod yX5_alter ∈ gz_ts := gz_go (gz_tb (List.mem_append_right _ (List.mem_append_right _ (List.mem_of_getElem? (i := 136) rfl)))) rfl
theorem we_X5_alter : Cond.selects RX5 yX5_alter yX5_alter ∈ gz_ts := gz_go (gz_tb (List.mem_append_right _ (List.mem_append_right _ (List.mem_of_getElem? (i := 137) rfl)))) rfl
theorem wm_X5_106 : Cond.methodLink RX5 106 yX5_partByte ∈ gz_ts := gz_go (gz_tb (List.mem_append_right _ (List.mem_append_right _ (List.mem_of_getElem? (i := 139) rfl)))) rfl
theorem wm_L_88 : Cond.methodLink RL 88 yX5_lose ∈ gz_ts := gz_go (gz_tb (List.mem_append_right _ (List.mem_append_right _ (List.mem_of_getElem? (i := 140) rfl)))) rfl
theorem wi_X5_lose : Cond.instanceMethod yX5_lose ∈ gz_ts := gz_go (gz_tb (List.mem_append_right _ (List.mem_append_right _ (List.mem_of_getElem? (i := 141) rfl)))) rfl
theorem we_X5_lose : Cond.selects RX5 yX5_lose yX5_lose ∈ gz_ts := gz_go (gz_tb (List.mem_append_right _ (List.mem_append_right _ (List.mem_of_getElem? (i := 142) rfl)))) rfl
theorem wm_L_47 : Cond.methodLink RL 47 yX5_mark ∈ gz_ts := gz_go (gz_tb (List.mem_append_right _ (List.mem_append_right _ (List.mem_of_getElem? (i := 144) rfl)))) rfl
theorem wi_X5_mark : Cond.instanceMethod yX5_mark ∈ gz_ts := gz_go (gz_tb (List.mem_append_right _ (List.mem_append_right _ (List.mem_of_getElem? (i := 145) rfl)))) rfl
theorem we_X5_mark : Cond.selects RX5 yX5_mark yX5_mark ∈ gz_ts := gz_go (gz_tb (List.mem_append_right _ (List.mem_append_right _ (List.mem_of_getElem? (i := 146) rfl)))) rfl
theorem wm_X5_118 : Cond.methodLink RX5 118 yX5_held ∈ gz_ts := gz_go (gz_tb (List.mem_append_right _ (List.mem_append_right _ (List.mem_of_getElem? (i := 148) rfl)))) rfl
theorem wi_X5_held : Cond.instanceMethod yX5_held ∈ gz_ts := gz_go (gz_tb (List.mem_append_right _ (List.mem_append_right _ (List.mem_of_getElem? (i := 150) rfl)))) rfl
theorem wm_X5_122 : Cond.methodLink RX5 122 yX5_partFor ∈ gz_ts := gz_go (gz_tb (List.mem_append_right _ (List.mem_append_right _ (List.mem_of_getElem? (i := 152) rfl)))) rfl
theorem wi_X5_partFor : Cond.instanceMethod yX5_partFor ∈ gz_ts := gz_go (gz_tb (List.mem_append_right _ (List.mem_append_right _ (List.mem_of_getElem? (i := 154) rfl)))) rfl
theorem wm_X5_114 : Cond.methodLink RX5 114 yX5_isChunk ∈ gz_ts := gz_go (gz_tb (List.mem_append_right _ (List.mem_append_right _ (List.mem_of_getElem? (i := 156) rfl)))) rfl
theorem wi_X5_isChunk : Cond.instanceMethod yX5_isChunk ∈ gz_ts := gz_go (gz_tb (List.mem_append_right _ (List.mem_append_right _ (List.mem_of_getElem? (i := 158) rfl)))) rfl
theorem wm_X5_125 : Cond.methodLink RX5 125 yX5_allBytes ∈ gz_ts := gz_go (gz_tb (List.mem_append_right _ (List.mem_append_right _ (List.mem_of_getElem? (i := 160) rfl)))) rfl
theorem wi_X5_allBytes : Cond.instanceMethod yX5_allBytes ∈ gz_ts := gz_go (gz_tb (List.mem_append_right _ (List.mem_append_right _ (List.mem_of_getElem? (i := 162) rfl)))) rfl
theorem wm_X5_131 : Cond.methodLink RX5 131 yX5_latest ∈ gz_ts := gz_go (gz_tb (List.mem_append_right _ (List.mem_append_right _ (List.mem_of_getElem? (i := 164) rfl)))) rfl
theorem wi_X5_latest : Cond.instanceMethod yX5_latest ∈ gz_ts := gz_go (gz_tb (List.mem_append_right _ (List.mem_append_right _ (List.mem_of_getElem? (i := 166) rfl)))) rfl
theorem wm_X5_134 : Cond.methodLink RX5 134 yX5_tells ∈ gz_ts := gz_go (gz_tb (List.mem_append_right _ (List.mem_append_right _ (List.mem_of_getElem? (i := 168) rfl)))) rfl
theorem wi_X5_tells : Cond.instanceMethod yX5_tells ∈ gz_ts := gz_go (gz_tb (List.mem_append_right _ (List.mem_append_right _ (List.mem_of_getElem? (i := 170) rfl)))) rfl
theorem wm_L_51 : Cond.methodLink RL 51 yX5_drop ∈ gz_ts := gz_go (gz_tb (List.mem_append_right _ (List.mem_append_right _ (List.mem_of_getElem? (i := 172) rfl)))) rfl
theorem wi_X5_drop : Cond.instanceMethod yX5_drop ∈ gz_ts := gz_go (gz_tb (List.mem_append_right _ (List.mem_append_right _ (List.mem_of_getElem? (i := 173) rfl)))) rfl
theorem we_X5_drop : Cond.selects RX5 yX5_drop yX5_drop ∈ gz_ts := gz_go (gz_tb (List.mem_append_right _ (List.mem_append_right _ (List.mem_of_getElem? (i := 174) rfl)))) rfl
theorem wm_X5_137 : Cond.methodLink RX5 137 yX5_keptSlot ∈ gz_ts := gz_go (gz_tb (List.mem_append_right _ (List.mem_append_right _ (List.mem_of_getElem? (i := 176) rfl)))) rfl
theorem wi_X5_keptSlot : Cond.instanceMethod yX5_keptSlot ∈ gz_ts := gz_go (gz_tb (List.mem_append_right _ (List.mem_append_right _ (List.mem_of_getElem? (i := 178) rfl)))) rfl
theorem wm_X5_110 : Cond.methodLink RX5 110 yX5_slotOf ∈ gz_ts := gz_go (gz_tb (List.mem_append_right _ (List.mem_append_right _ (List.mem_of_getElem? (i := 180) rfl)))) rfl
theorem wi_X5_slotOf : Cond.instanceMethod yX5_slotOf ∈ gz_ts := gz_go (gz_tb (List.mem_append_right _ (List.mem_append_right _ (List.mem_of_getElem? (i := 182) rfl)))) rfl
theorem wm_L_59 : Cond.methodLink RL 59 yX5_usable ∈ gz_ts := gz_go (gz_tb (List.mem_append_right _ (List.mem_append_right _ (List.mem_of_getElem? (i := 184) rfl)))) rfl
theorem wi_X5_usable : Cond.instanceMethod yX5_usable ∈ gz_ts := gz_go (gz_tb (List.mem_append_right _ (List.mem_append_right _ (List.mem_of_getElem? (i := 185) rfl)))) rfl
theorem we_X5_usable : Cond.selects RX5 yX5_usable yX5_usable ∈ gz_ts := gz_go (gz_tb (List.mem_append_right _ (List.mem_append_right _ (List.mem_of_getElem? (i := 186) rfl)))) rfl
theorem wm_X5_143 : Cond.methodLink RX5 143 yX5_isUsable ∈ gz_ts := gz_go (gz_tb (List.mem_append_right _ (List.mem_append_right _ (List.mem_of_getElem? (i := 188) rfl)))) rfl
theorem wi_X5_isUsable : Cond.instanceMethod yX5_isUsable ∈ gz_ts := gz_go (gz_tb (List.mem_append_right _ (List.mem_append_right _ (List.mem_of_getElem? (i := 190) rfl)))) rfl
theorem wm_X5_140 : Cond.methodLink RX5 140 yX5_isReadable ∈ gz_ts := gz_go (gz_tb (List.mem_append_right _ (List.mem_append_right _ (List.mem_of_getElem? (i := 192) rfl)))) rfl
theorem wi_X5_isReadable : Cond.instanceMethod yX5_isReadable ∈ gz_ts := gz_go (gz_tb (List.mem_append_right _ (List.mem_append_right _ (List.mem_of_getElem? (i := 194) rfl)))) rfl
theorem wm_X5_93 : Cond.methodLink RX5 93 yX5_isGoodCopy ∈ gz_ts := gz_go (gz_tb (List.mem_append_right _ (List.mem_append_right _ (List.mem_of_getElem? (i := 196) rfl)))) rfl
theorem wi_X5_isGoodCopy : Cond.instanceMethod yX5_isGoodCopy ∈ gz_ts := gz_go (gz_tb (List.mem_append_right _ (List.mem_append_right _ (List.mem_of_getElem? (i := 198) rfl)))) rfl
theorem wm_L_55 : Cond.methodLink RL 55 yX5_back ∈ gz_ts := gz_go (gz_tb (List.mem_append_right _ (List.mem_append_right _ (List.mem_of_getElem? (i := 200) rfl)))) rfl
theorem wi_X5_back : Cond.instanceMethod yX5_back ∈ gz_ts := gz_go (gz_tb (List.mem_append_right _ (List.mem_append_right _ (List.mem_of_getElem? (i := 201) rfl)))) rfl
theorem we_X5_back : Cond.selects RX5 yX5_back yX5_back ∈ gz_ts := gz_go (gz_tb (List.mem_append_right _ (List.mem_append_right _ (List.mem_of_getElem? (i := 202) rfl)))) rfl
theorem wm_X5_146 : Cond.methodLink RX5 146 yX5_read ∈ gz_ts := gz_go (gz_tb (List.mem_append_right _ (List.mem_append_right _ (List.mem_of_getElem? (i := 204) rfl)))) rfl
theorem wi_X5_read : Cond.instanceMethod yX5_read ∈ gz_ts := gz_go (gz_tb (List.mem_append_right _ (List.mem_append_right _ (List.mem_of_getElem? (i := 206) rfl)))) rfl
theorem wm_L_63 : Cond.methodLink RL 63 yX5_markTold ∈ gz_ts := gz_go (gz_tb (List.mem_append_right _ (List.mem_append_right _ (List.mem_of_getElem? (i := 208) rfl)))) rfl
theorem wi_X5_markTold : Cond.instanceMethod yX5_markTold ∈ gz_ts := gz_go (gz_tb (List.mem_append_right _ (List.mem_append_right _ (List.mem_of_getElem? (i := 209) rfl)))) rfl
theorem we_X5_markTold : Cond.selects RX5 yX5_markTold yX5_markTold ∈ gz_ts := gz_go (gz_tb (List.mem_append_right _ (List.mem_append_right _ (List.mem_of_getElem? (i := 210) rfl)))) rfl
theorem wm_L_67 : Cond.methodLink RL 67 yX5_list ∈ gz_ts := gz_go (gz_tb (List.mem_append_right _ (List.mem_append_right _ (List.mem_of_getElem? (i := 212) rfl)))) rfl
theorem wi_X5_list : Cond.instanceMethod yX5_list ∈ gz_ts := gz_go (gz_tb (List.mem_append_right _ (List.mem_append_right _ (List.mem_of_getElem? (i := 213) rfl)))) rfl
theorem we_X5_list : Cond.selects RX5 yX5_list yX5_list ∈ gz_ts := gz_go (gz_tb (List.mem_append_right _ (List.mem_append_right _ (List.mem_of_getElem? (i := 214) rfl)))) rfl
theorem wm_L_72 : Cond.methodLink RL 72 yX5_same ∈ gz_ts := gz_go (gz_tb (List.mem_append_right _ (List.mem_append_right _ (List.mem_of_getElem? (i := 216) rfl)))) rfl
theorem wi_X5_same : Cond.instanceMethod yX5_same ∈ gz_ts := gz_go (gz_tb (List.mem_append_right _ (List.mem_append_right _ (List.mem_of_getElem? (i := 217) rfl)))) rfl
theorem we_X5_same : Cond.selects RX5 yX5_same yX5_same ∈ gz_ts := gz_go (gz_tb (List.mem_append_right _ (List.mem_append_right _ (List.mem_of_getElem? (i := 218) rfl)))) rfl
theorem wm_L_92 : Cond.methodLink RL 92 yX5_told ∈ gz_ts := gz_go (gz_tb (List.mem_append_right _ (List.mem_append_right _ (List.mem_of_getElem? (i := 220) rfl)))) rfl
theorem wi_X5_told : Cond.instanceMethod yX5_told ∈ gz_ts := gz_go (gz_tb (List.mem_append_right _ (List.mem_append_right _ (List.mem_of_getElem? (i := 221) rfl)))) rfl
theorem we_X5_told : Cond.selects RX5 yX5_told yX5_told ∈ gz_ts := gz_go (gz_tb (List.mem_append_right _ (List.mem_append_right _ (List.mem_of_getElem? (i := 222) rfl)))) rfl
theorem wl_L_13 : Cond.constantLong RL 13 (4294967295 : Int64) ∈ gz_ts := gz_go (gz_tb (List.mem_append_right _ (List.mem_append_right _ (List.mem_of_getElem? (i := 224) rfl)))) rfl
theorem we_X4_isTask : Cond.selects RX4 yX4_isTask yX4_isTask ∈ gz_ts := gz_go (gz_ps (q := (yX4_isTask, 9)) (List.mem_append_left _ (List.mem_of_getElem? (i := 0) rfl))) rfl
theorem we_X2_endsChunk : Cond.selects RX2 yX2_endsChunk yX2_endsChunk ∈ gz_ts := gz_go (gz_ps (q := (yX2_endsChunk, 3)) (List.mem_append_left _ (List.mem_of_getElem? (i := 1) rfl))) rfl
theorem we_X4_totalStateBytes : Cond.selects RX4 yX4_totalStateBytes yX4_totalStateBytes ∈ gz_ts := gz_go (gz_ps (q := (yX4_totalStateBytes, 9)) (List.mem_append_left _ (List.mem_of_getElem? (i := 2) rfl))) rfl
theorem we_X4_joinStates : Cond.selects RX4 yX4_joinStates yX4_joinStates ∈ gz_ts := gz_go (gz_ps (q := (yX4_joinStates, 9)) (List.mem_append_left _ (List.mem_of_getElem? (i := 3) rfl))) rfl
theorem we_X4_becomeTasks : Cond.selects RX4 yX4_becomeTasks yX4_becomeTasks ∈ gz_ts := gz_go (gz_ps (q := (yX4_becomeTasks, 9)) (List.mem_append_left _ (List.mem_of_getElem? (i := 4) rfl))) rfl
theorem we_X4_storeStates : Cond.selects RX4 yX4_storeStates yX4_storeStates ∈ gz_ts := gz_go (gz_ps (q := (yX4_storeStates, 9)) (List.mem_append_left _ (List.mem_of_getElem? (i := 5) rfl))) rfl
theorem we_X4_storeState : Cond.selects RX4 yX4_storeState yX4_storeState ∈ gz_ts := gz_go (gz_ps (q := (yX4_storeState, 9)) (List.mem_append_left _ (List.mem_of_getElem? (i := 6) rfl))) rfl
theorem we_X3_findPart : Cond.selects RX3 yX3_findPart yX3_findPart ∈ gz_ts := gz_go (gz_ps (q := (yX3_findPart, 8)) (List.mem_append_left _ (List.mem_of_getElem? (i := 7) rfl))) rfl
theorem we_X3_makePart : Cond.selects RX3 yX3_makePart yX3_makePart ∈ gz_ts := gz_go (gz_ps (q := (yX3_makePart, 8)) (List.mem_append_left _ (List.mem_of_getElem? (i := 8) rfl))) rfl
theorem we_X3_leastUnused : Cond.selects RX3 yX3_leastUnused yX3_leastUnused ∈ gz_ts := gz_go (gz_ps (q := (yX3_leastUnused, 8)) (List.mem_append_left _ (List.mem_of_getElem? (i := 9) rfl))) rfl
theorem we_X4_latestKept : Cond.selects RX4 yX4_latestKept yX4_latestKept ∈ gz_ts := gz_go (gz_ps (q := (yX4_latestKept, 9)) (List.mem_append_left _ (List.mem_of_getElem? (i := 10) rfl))) rfl
theorem we_X0_sharedParts : Cond.selects RX0 yX0_sharedParts yX0_sharedParts ∈ gz_ts := gz_go (gz_ps (q := (yX0_sharedParts, 9)) (List.mem_append_left _ (List.mem_of_getElem? (i := 11) rfl))) rfl
theorem we_X4_copyStates : Cond.selects RX4 yX4_copyStates yX4_copyStates ∈ gz_ts := gz_go (gz_ps (q := (yX4_copyStates, 9)) (List.mem_append_left _ (List.mem_of_getElem? (i := 12) rfl))) rfl
theorem we_X4_keptMark : Cond.selects RX4 yX4_keptMark yX4_keptMark ∈ gz_ts := gz_go (gz_ps (q := (yX4_keptMark, 9)) (List.mem_append_left _ (List.mem_of_getElem? (i := 13) rfl))) rfl
theorem we_X4_heldMark : Cond.selects RX4 yX4_heldMark yX4_heldMark ∈ gz_ts := gz_go (gz_ps (q := (yX4_heldMark, 9)) (List.mem_append_left _ (List.mem_of_getElem? (i := 14) rfl))) rfl
theorem we_X4_letGoUnheld : Cond.selects RX4 yX4_letGoUnheld yX4_letGoUnheld ∈ gz_ts := gz_go (gz_ps (q := (yX4_letGoUnheld, 9)) (List.mem_append_left _ (List.mem_of_getElem? (i := 15) rfl))) rfl
theorem we_X4_isBase : Cond.selects RX4 yX4_isBase yX4_isBase ∈ gz_ts := gz_go (gz_ps (q := (yX4_isBase, 9)) (List.mem_append_right _ (List.mem_append_left _ (List.mem_of_getElem? (i := 0) rfl)))) rfl
theorem we_X4_letGo : Cond.selects RX4 yX4_letGo yX4_letGo ∈ gz_ts := gz_go (gz_ps (q := (yX4_letGo, 9)) (List.mem_append_right _ (List.mem_append_left _ (List.mem_of_getElem? (i := 1) rfl)))) rfl
theorem we_X4_freeUnnamed : Cond.selects RX4 yX4_freeUnnamed yX4_freeUnnamed ∈ gz_ts := gz_go (gz_ps (q := (yX4_freeUnnamed, 9)) (List.mem_append_right _ (List.mem_append_left _ (List.mem_of_getElem? (i := 2) rfl)))) rfl
theorem we_X4_nameKeptParts : Cond.selects RX4 yX4_nameKeptParts yX4_nameKeptParts ∈ gz_ts := gz_go (gz_ps (q := (yX4_nameKeptParts, 9)) (List.mem_append_right _ (List.mem_append_left _ (List.mem_of_getElem? (i := 3) rfl)))) rfl
theorem we_X4_freePart : Cond.selects RX4 yX4_freePart yX4_freePart ∈ gz_ts := gz_go (gz_ps (q := (yX4_freePart, 9)) (List.mem_append_right _ (List.mem_append_left _ (List.mem_of_getElem? (i := 4) rfl)))) rfl
theorem we_X4_latestUsable : Cond.selects RX4 yX4_latestUsable yX4_latestUsable ∈ gz_ts := gz_go (gz_ps (q := (yX4_latestUsable, 9)) (List.mem_append_right _ (List.mem_append_left _ (List.mem_of_getElem? (i := 5) rfl)))) rfl
theorem we_X4_isUsable : Cond.selects RX4 yX4_isUsable yX4_isUsable ∈ gz_ts := gz_go (gz_ps (q := (yX4_isUsable, 9)) (List.mem_append_right _ (List.mem_append_left _ (List.mem_of_getElem? (i := 6) rfl)))) rfl
theorem we_X4_isReadable : Cond.selects RX4 yX4_isReadable yX4_isReadable ∈ gz_ts := gz_go (gz_ps (q := (yX4_isReadable, 9)) (List.mem_append_right _ (List.mem_append_left _ (List.mem_of_getElem? (i := 7) rfl)))) rfl
theorem we_X4_readState : Cond.selects RX4 yX4_readState yX4_readState ∈ gz_ts := gz_go (gz_ps (q := (yX4_readState, 9)) (List.mem_append_right _ (List.mem_append_left _ (List.mem_of_getElem? (i := 8) rfl)))) rfl
theorem we_X4_readPart : Cond.selects RX4 yX4_readPart yX4_readPart ∈ gz_ts := gz_go (gz_ps (q := (yX4_readPart, 9)) (List.mem_append_right _ (List.mem_append_left _ (List.mem_of_getElem? (i := 9) rfl)))) rfl
theorem we_X0_hasAlikeList : Cond.selects RX0 yX0_hasAlikeList yX0_hasAlikeList ∈ gz_ts := gz_go (gz_ps (q := (yX0_hasAlikeList, 9)) (List.mem_append_right _ (List.mem_append_left _ (List.mem_of_getElem? (i := 10) rfl)))) rfl
theorem we_X4_keptNaming : Cond.selects RX4 yX4_keptNaming yX4_keptNaming ∈ gz_ts := gz_go (gz_ps (q := (yX4_keptNaming, 9)) (List.mem_append_right _ (List.mem_append_left _ (List.mem_of_getElem? (i := 11) rfl)))) rfl
theorem we_X4_copyCount : Cond.selects RX4 yX4_copyCount yX4_copyCount ∈ gz_ts := gz_go (gz_ps (q := (yX4_copyCount, 9)) (List.mem_append_right _ (List.mem_append_left _ (List.mem_of_getElem? (i := 12) rfl)))) rfl
theorem we_X4_shelfOf : Cond.selects RX4 yX4_shelfOf yX4_shelfOf ∈ gz_ts := gz_go (gz_ps (q := (yX4_shelfOf, 9)) (List.mem_append_right _ (List.mem_append_left _ (List.mem_of_getElem? (i := 13) rfl)))) rfl
theorem we_X4_keptCount : Cond.selects RX4 yX4_keptCount yX4_keptCount ∈ gz_ts := gz_go (gz_ps (q := (yX4_keptCount, 9)) (List.mem_append_right _ (List.mem_append_left _ (List.mem_of_getElem? (i := 14) rfl)))) rfl
theorem we_X4_allCopies : Cond.selects RX4 yX4_allCopies yX4_allCopies ∈ gz_ts := gz_go (gz_ps (q := (yX4_allCopies, 9)) (List.mem_append_right _ (List.mem_append_left _ (List.mem_of_getElem? (i := 15) rfl)))) rfl
theorem we_X5_isTask : Cond.selects RX5 yX5_isTask yX5_isTask ∈ gz_ts := gz_go (gz_ps (q := (yX5_isTask, 21)) (List.mem_append_right _ (List.mem_append_right _ (List.mem_append_left _ (List.mem_of_getElem? (i := 0) rfl))))) rfl
theorem we_X5_chunkFrom : Cond.selects RX5 yX5_chunkFrom yX5_chunkFrom ∈ gz_ts := gz_go (gz_ps (q := (yX5_chunkFrom, 21)) (List.mem_append_right _ (List.mem_append_right _ (List.mem_append_left _ (List.mem_of_getElem? (i := 1) rfl))))) rfl
theorem we_X5_become : Cond.selects RX5 yX5_become yX5_become ∈ gz_ts := gz_go (gz_ps (q := (yX5_become, 21)) (List.mem_append_right _ (List.mem_append_right _ (List.mem_append_left _ (List.mem_of_getElem? (i := 2) rfl))))) rfl
theorem we_X5_isPart : Cond.selects RX5 yX5_isPart yX5_isPart ∈ gz_ts := gz_go (gz_ps (q := (yX5_isPart, 21)) (List.mem_append_right _ (List.mem_append_right _ (List.mem_append_left _ (List.mem_of_getElem? (i := 3) rfl))))) rfl
theorem we_X5_hasPart : Cond.selects RX5 yX5_hasPart yX5_hasPart ∈ gz_ts := gz_go (gz_ps (q := (yX5_hasPart, 21)) (List.mem_append_right _ (List.mem_append_right _ (List.mem_append_left _ (List.mem_of_getElem? (i := 4) rfl))))) rfl
theorem we_X5_isBroken : Cond.selects RX5 yX5_isBroken yX5_isBroken ∈ gz_ts := gz_go (gz_ps (q := (yX5_isBroken, 21)) (List.mem_append_right _ (List.mem_append_right _ (List.mem_append_left _ (List.mem_of_getElem? (i := 5) rfl))))) rfl
theorem we_X5_isByte : Cond.selects RX5 yX5_isByte yX5_isByte ∈ gz_ts := gz_go (gz_ps (q := (yX5_isByte, 21)) (List.mem_append_right _ (List.mem_append_right _ (List.mem_append_left _ (List.mem_of_getElem? (i := 6) rfl))))) rfl
theorem we_X5_held : Cond.selects RX5 yX5_held yX5_held ∈ gz_ts := gz_go (gz_ps (q := (yX5_held, 21)) (List.mem_append_right _ (List.mem_append_right _ (List.mem_append_left _ (List.mem_of_getElem? (i := 7) rfl))))) rfl
theorem we_X5_partFor : Cond.selects RX5 yX5_partFor yX5_partFor ∈ gz_ts := gz_go (gz_ps (q := (yX5_partFor, 21)) (List.mem_append_right _ (List.mem_append_right _ (List.mem_append_left _ (List.mem_of_getElem? (i := 8) rfl))))) rfl
theorem we_X5_isChunk : Cond.selects RX5 yX5_isChunk yX5_isChunk ∈ gz_ts := gz_go (gz_ps (q := (yX5_isChunk, 21)) (List.mem_append_right _ (List.mem_append_right _ (List.mem_append_left _ (List.mem_of_getElem? (i := 9) rfl))))) rfl
theorem we_X5_allBytes : Cond.selects RX5 yX5_allBytes yX5_allBytes ∈ gz_ts := gz_go (gz_ps (q := (yX5_allBytes, 21)) (List.mem_append_right _ (List.mem_append_right _ (List.mem_append_left _ (List.mem_of_getElem? (i := 10) rfl))))) rfl
theorem we_X5_latest : Cond.selects RX5 yX5_latest yX5_latest ∈ gz_ts := gz_go (gz_ps (q := (yX5_latest, 21)) (List.mem_append_right _ (List.mem_append_right _ (List.mem_append_left _ (List.mem_of_getElem? (i := 11) rfl))))) rfl
theorem we_X5_tells : Cond.selects RX5 yX5_tells yX5_tells ∈ gz_ts := gz_go (gz_ps (q := (yX5_tells, 21)) (List.mem_append_right _ (List.mem_append_right _ (List.mem_append_left _ (List.mem_of_getElem? (i := 12) rfl))))) rfl
theorem we_X5_keptSlot : Cond.selects RX5 yX5_keptSlot yX5_keptSlot ∈ gz_ts := gz_go (gz_ps (q := (yX5_keptSlot, 21)) (List.mem_append_right _ (List.mem_append_right _ (List.mem_append_left _ (List.mem_of_getElem? (i := 13) rfl))))) rfl
theorem we_X5_slotOf : Cond.selects RX5 yX5_slotOf yX5_slotOf ∈ gz_ts := gz_go (gz_ps (q := (yX5_slotOf, 21)) (List.mem_append_right _ (List.mem_append_right _ (List.mem_append_left _ (List.mem_of_getElem? (i := 14) rfl))))) rfl
theorem we_X5_isUsable : Cond.selects RX5 yX5_isUsable yX5_isUsable ∈ gz_ts := gz_go (gz_ps (q := (yX5_isUsable, 21)) (List.mem_append_right _ (List.mem_append_right _ (List.mem_append_left _ (List.mem_of_getElem? (i := 15) rfl))))) rfl
theorem we_X5_isReadable : Cond.selects RX5 yX5_isReadable yX5_isReadable ∈ gz_ts := gz_go (gz_ps (q := (yX5_isReadable, 21)) (List.mem_append_right _ (List.mem_append_right _ (List.mem_append_right _ (List.mem_of_getElem? (i := 0) rfl))))) rfl
theorem we_X5_isGoodCopy : Cond.selects RX5 yX5_isGoodCopy yX5_isGoodCopy ∈ gz_ts := gz_go (gz_ps (q := (yX5_isGoodCopy, 21)) (List.mem_append_right _ (List.mem_append_right _ (List.mem_append_right _ (List.mem_of_getElem? (i := 1) rfl))))) rfl
theorem we_X5_read : Cond.selects RX5 yX5_read yX5_read ∈ gz_ts := gz_go (gz_ps (q := (yX5_read, 21)) (List.mem_append_right _ (List.mem_append_right _ (List.mem_append_right _ (List.mem_of_getElem? (i := 2) rfl))))) rfl
theorem wc_X4_init : Cond.code yX4_init cX4_init 2 none ∈ gz_ts := gz_go (gz_tb (List.mem_append_left _ (List.mem_of_getElem? (i := 13) rfl))) rfl
theorem wc_X3_init : Cond.code yX3_init cX3_init 1 none ∈ gz_ts := gz_go (gz_tb (List.mem_append_left _ (List.mem_of_getElem? (i := 25) rfl))) rfl
theorem wc_X1_init : Cond.code yX1_init cX1_init 1 none ∈ gz_ts := gz_go (gz_tb (List.mem_append_left _ (List.mem_of_getElem? (i := 31) rfl))) rfl
theorem wc_X2_init : Cond.code yX2_init cX2_init 1 none ∈ gz_ts := gz_go (gz_tb (List.mem_append_left _ (List.mem_of_getElem? (i := 82) rfl))) rfl
theorem wc_X0_init : Cond.code yX0_init cX0_init 1 none ∈ gz_ts := gz_go (gz_tb (List.mem_append_left _ (List.mem_of_getElem? (i := 100) rfl))) rfl
theorem wc_X4_insert : Cond.code yX4_insert cX4_insert 8 (some .int) ∈ gz_ts := gz_go (gz_tb (List.mem_append_left _ (List.mem_of_getElem? (i := 172) rfl))) rfl
theorem wc_X4_isTask : Cond.code yX4_isTask cX4_isTask 2 (some .boolean) ∈ gz_ts := gz_go (gz_tb (List.mem_append_left _ (List.mem_of_getElem? (i := 176) rfl))) rfl
theorem wc_X2_open : Cond.code yX2_open cX2_open 3 none ∈ gz_ts := gz_go (gz_tb (List.mem_append_left _ (List.mem_of_getElem? (i := 180) rfl))) rfl
theorem wc_X4_remove : Cond.code yX4_remove cX4_remove 5 (some .int) ∈ gz_ts := gz_go (gz_tb (List.mem_append_left _ (List.mem_of_getElem? (i := 187) rfl))) rfl
theorem wc_X2_close : Cond.code yX2_close cX2_close 3 none ∈ gz_ts := gz_go (gz_tb (List.mem_append_left _ (List.mem_of_getElem? (i := 191) rfl))) rfl
theorem wc_X4_extend : Cond.code yX4_extend cX4_extend 8 (some .int) ∈ gz_ts := gz_go (gz_tb (List.mem_append_left _ (List.mem_of_getElem? (i := 195) rfl))) rfl
theorem wc_X4_state : Cond.code yX4_state cX4_state 3 (some .int) ∈ gz_ts := gz_go (gz_tb (List.mem_append_left _ (List.mem_of_getElem? (i := 199) rfl))) rfl
theorem wc_X4_chunk : Cond.code yX4_chunk cX4_chunk 5 (some .int) ∈ gz_ts := gz_go (gz_tb (List.mem_append_left _ (List.mem_of_getElem? (i := 203) rfl))) rfl
theorem wc_X2_cut : Cond.code yX2_cut cX2_cut 4 (some .int) ∈ gz_ts := gz_go (gz_tb (List.mem_append_left _ (List.mem_of_getElem? (i := 207) rfl))) rfl
theorem wc_X2_endsChunk : Cond.code yX2_endsChunk cX2_endsChunk 3 (some .boolean) ∈ gz_ts := gz_go (gz_tb (List.mem_append_left _ (List.mem_of_getElem? (i := 211) rfl))) rfl
theorem wc_X2_chunkSize : Cond.code yX2_chunkSize cX2_chunkSize 2 (some .int) ∈ gz_ts := gz_go (gz_tb (List.mem_append_left _ (List.mem_of_getElem? (i := 215) rfl))) rfl
theorem wc_X2_chunkStart : Cond.code yX2_chunkStart cX2_chunkStart 2 (some .int) ∈ gz_ts := gz_go (gz_tb (List.mem_append_left _ (List.mem_of_getElem? (i := 219) rfl))) rfl
theorem wc_X4_rescale : Cond.code yX4_rescale cX4_rescale 6 (some .int) ∈ gz_ts := gz_go (gz_tb (List.mem_append_left _ (List.mem_of_getElem? (i := 223) rfl))) rfl
theorem wc_X4_totalStateBytes : Cond.code yX4_totalStateBytes cX4_totalStateBytes 3 (some .int) ∈ gz_ts := gz_go (gz_tb (List.mem_append_left _ (List.mem_of_getElem? (i := 227) rfl))) rfl
theorem wc_X4_shareStart : Cond.code yX4_shareStart cX4_shareStart 3 (some .int) ∈ gz_ts := gz_go (gz_tb (List.mem_append_left _ (List.mem_of_getElem? (i := 230) rfl))) rfl
theorem wc_X4_joinStates : Cond.code yX4_joinStates cX4_joinStates 3 none ∈ gz_ts := gz_go (gz_tb (List.mem_append_left _ (List.mem_of_getElem? (i := 234) rfl))) rfl
theorem wc_X4_becomeTasks : Cond.code yX4_becomeTasks cX4_becomeTasks 3 none ∈ gz_ts := gz_go (gz_tb (List.mem_append_left _ (List.mem_of_getElem? (i := 239) rfl))) rfl
theorem wc_X1_clear : Cond.code yX1_clear cX1_clear 2 none ∈ gz_ts := gz_go (gz_tb (List.mem_append_right _ (List.mem_append_left _ (List.mem_of_getElem? (i := 3) rfl)))) rfl
theorem wc_X2_append : Cond.code yX2_append cX2_append 4 none ∈ gz_ts := gz_go (gz_tb (List.mem_append_right _ (List.mem_append_left _ (List.mem_of_getElem? (i := 7) rfl)))) rfl
theorem wc_X4_mark : Cond.code yX4_mark cX4_mark 3 (some .int) ∈ gz_ts := gz_go (gz_tb (List.mem_append_right _ (List.mem_append_left _ (List.mem_of_getElem? (i := 11) rfl)))) rfl
theorem wc_X0_begin : Cond.code yX0_begin cX0_begin 3 none ∈ gz_ts := gz_go (gz_tb (List.mem_append_right _ (List.mem_append_left _ (List.mem_of_getElem? (i := 15) rfl)))) rfl
theorem wc_X4_storeStates : Cond.code yX4_storeStates cX4_storeStates 3 (some .boolean) ∈ gz_ts := gz_go (gz_tb (List.mem_append_right _ (List.mem_append_left _ (List.mem_of_getElem? (i := 19) rfl)))) rfl
theorem wc_X3_beginMarking : Cond.code yX3_beginMarking cX3_beginMarking 1 none ∈ gz_ts := gz_go (gz_tb (List.mem_append_right _ (List.mem_append_left _ (List.mem_of_getElem? (i := 23) rfl)))) rfl
theorem wc_X4_storeState : Cond.code yX4_storeState cX4_storeState 7 (some .boolean) ∈ gz_ts := gz_go (gz_tb (List.mem_append_right _ (List.mem_append_left _ (List.mem_of_getElem? (i := 27) rfl)))) rfl
theorem wc_X3_partOf : Cond.code yX3_partOf cX3_partOf 6 (some .int) ∈ gz_ts := gz_go (gz_tb (List.mem_append_right _ (List.mem_append_left _ (List.mem_of_getElem? (i := 32) rfl)))) rfl
theorem wc_X4_digestOf : Cond.code yX4_digestOf cX4_digestOf 5 (some .int) ∈ gz_ts := gz_go (gz_tb (List.mem_append_right _ (List.mem_append_left _ (List.mem_of_getElem? (i := 35) rfl)))) rfl
theorem wc_X3_findPart : Cond.code yX3_findPart cX3_findPart 6 (some .int) ∈ gz_ts := gz_go (gz_tb (List.mem_append_right _ (List.mem_append_left _ (List.mem_of_getElem? (i := 39) rfl)))) rfl
theorem wc_X1_holds : Cond.code yX1_holds cX1_holds 6 (some .boolean) ∈ gz_ts := gz_go (gz_tb (List.mem_append_right _ (List.mem_append_left _ (List.mem_of_getElem? (i := 43) rfl)))) rfl
theorem wc_X3_makePart : Cond.code yX3_makePart cX3_makePart 6 (some .int) ∈ gz_ts := gz_go (gz_tb (List.mem_append_right _ (List.mem_append_left _ (List.mem_of_getElem? (i := 47) rfl)))) rfl
theorem wc_X3_leastUnused : Cond.code yX3_leastUnused cX3_leastUnused 2 (some .int) ∈ gz_ts := gz_go (gz_tb (List.mem_append_right _ (List.mem_append_left _ (List.mem_of_getElem? (i := 51) rfl)))) rfl
theorem wc_X1_put : Cond.code yX1_put cX1_put 5 none ∈ gz_ts := gz_go (gz_tb (List.mem_append_right _ (List.mem_append_left _ (List.mem_of_getElem? (i := 55) rfl)))) rfl
theorem wc_X3_undoMarking : Cond.code yX3_undoMarking cX3_undoMarking 2 none ∈ gz_ts := gz_go (gz_tb (List.mem_append_right _ (List.mem_append_left _ (List.mem_of_getElem? (i := 60) rfl)))) rfl
theorem wc_X3_takeAway : Cond.code yX3_takeAway cX3_takeAway 2 none ∈ gz_ts := gz_go (gz_tb (List.mem_append_right _ (List.mem_append_left _ (List.mem_of_getElem? (i := 64) rfl)))) rfl
theorem wc_X4_latestKept : Cond.code yX4_latestKept cX4_latestKept 2 (some (.object "GrownSnapshots$Mark")) ∈ gz_ts := gz_go (gz_tb (List.mem_append_right _ (List.mem_append_left _ (List.mem_of_getElem? (i := 68) rfl)))) rfl
theorem wc_X0_growUpon : Cond.code yX0_growUpon cX0_growUpon 3 none ∈ gz_ts := gz_go (gz_tb (List.mem_append_right _ (List.mem_append_left _ (List.mem_of_getElem? (i := 72) rfl)))) rfl
theorem wc_X0_partCount : Cond.code yX0_partCount cX0_partCount 3 (some .int) ∈ gz_ts := gz_go (gz_tb (List.mem_append_right _ (List.mem_append_left _ (List.mem_of_getElem? (i := 76) rfl)))) rfl
theorem wc_X0_sharedParts : Cond.code yX0_sharedParts cX0_sharedParts 6 (some .int) ∈ gz_ts := gz_go (gz_tb (List.mem_append_right _ (List.mem_append_left _ (List.mem_of_getElem? (i := 80) rfl)))) rfl
theorem wc_J9_min_7cf53 : Cond.code yJ9_min_7cf53 cJ9_min_7cf53 2 (some .int) ∈ gz_ts := gz_go (gz_tb (List.mem_append_right _ (List.mem_append_left _ (List.mem_of_getElem? (i := 83) rfl)))) rfl
theorem wc_X4_copyStates : Cond.code yX4_copyStates cX4_copyStates 6 none ∈ gz_ts := gz_go (gz_tb (List.mem_append_right _ (List.mem_append_left _ (List.mem_of_getElem? (i := 87) rfl)))) rfl
theorem wc_X4_drop : Cond.code yX4_drop cX4_drop 3 (some .int) ∈ gz_ts := gz_go (gz_tb (List.mem_append_right _ (List.mem_append_left _ (List.mem_of_getElem? (i := 92) rfl)))) rfl
theorem wc_X4_keptMark : Cond.code yX4_keptMark cX4_keptMark 3 (some (.object "GrownSnapshots$Mark")) ∈ gz_ts := gz_go (gz_tb (List.mem_append_right _ (List.mem_append_left _ (List.mem_of_getElem? (i := 96) rfl)))) rfl
theorem wc_X4_heldMark : Cond.code yX4_heldMark cX4_heldMark 3 (some (.object "GrownSnapshots$Mark")) ∈ gz_ts := gz_go (gz_tb (List.mem_append_right _ (List.mem_append_left _ (List.mem_of_getElem? (i := 100) rfl)))) rfl
theorem wc_X4_letGoUnheld : Cond.code yX4_letGoUnheld cX4_letGoUnheld 2 none ∈ gz_ts := gz_go (gz_tb (List.mem_append_right _ (List.mem_append_left _ (List.mem_of_getElem? (i := 104) rfl)))) rfl
theorem wc_X4_isBase : Cond.code yX4_isBase cX4_isBase 3 (some .boolean) ∈ gz_ts := gz_go (gz_tb (List.mem_append_right _ (List.mem_append_left _ (List.mem_of_getElem? (i := 108) rfl)))) rfl
theorem wc_X4_letGo : Cond.code yX4_letGo cX4_letGo 4 none ∈ gz_ts := gz_go (gz_tb (List.mem_append_right _ (List.mem_append_left _ (List.mem_of_getElem? (i := 112) rfl)))) rfl
theorem wc_X4_freeUnnamed : Cond.code yX4_freeUnnamed cX4_freeUnnamed 3 (some .int) ∈ gz_ts := gz_go (gz_tb (List.mem_append_right _ (List.mem_append_left _ (List.mem_of_getElem? (i := 116) rfl)))) rfl
theorem wc_X4_nameKeptParts : Cond.code yX4_nameKeptParts cX4_nameKeptParts 2 none ∈ gz_ts := gz_go (gz_tb (List.mem_append_right _ (List.mem_append_left _ (List.mem_of_getElem? (i := 120) rfl)))) rfl
theorem wc_X0_addNames : Cond.code yX0_addNames cX0_addNames 4 none ∈ gz_ts := gz_go (gz_tb (List.mem_append_right _ (List.mem_append_left _ (List.mem_of_getElem? (i := 124) rfl)))) rfl
theorem wc_X3_isThere : Cond.code yX3_isThere cX3_isThere 2 (some .boolean) ∈ gz_ts := gz_go (gz_tb (List.mem_append_right _ (List.mem_append_left _ (List.mem_of_getElem? (i := 128) rfl)))) rfl
theorem wc_X4_freePart : Cond.code yX4_freePart cX4_freePart 3 none ∈ gz_ts := gz_go (gz_tb (List.mem_append_right _ (List.mem_append_left _ (List.mem_of_getElem? (i := 132) rfl)))) rfl
theorem wc_X4_back : Cond.code yX4_back cX4_back 4 (some .int) ∈ gz_ts := gz_go (gz_tb (List.mem_append_right _ (List.mem_append_left _ (List.mem_of_getElem? (i := 137) rfl)))) rfl
theorem wc_X4_latestUsable : Cond.code yX4_latestUsable cX4_latestUsable 3 (some (.object "GrownSnapshots$Mark")) ∈ gz_ts := gz_go (gz_tb (List.mem_append_right _ (List.mem_append_left _ (List.mem_of_getElem? (i := 141) rfl)))) rfl
theorem wc_X4_isUsable : Cond.code yX4_isUsable cX4_isUsable 4 (some .boolean) ∈ gz_ts := gz_go (gz_tb (List.mem_append_right _ (List.mem_append_left _ (List.mem_of_getElem? (i := 145) rfl)))) rfl
theorem wc_X4_isReadable : Cond.code yX4_isReadable cX4_isReadable 3 (some .boolean) ∈ gz_ts := gz_go (gz_tb (List.mem_append_right _ (List.mem_append_left _ (List.mem_of_getElem? (i := 149) rfl)))) rfl
theorem wc_X3_isSound : Cond.code yX3_isSound cX3_isSound 3 (some .boolean) ∈ gz_ts := gz_go (gz_tb (List.mem_append_right _ (List.mem_append_left _ (List.mem_of_getElem? (i := 153) rfl)))) rfl
theorem wc_X4_readState : Cond.code yX4_readState cX4_readState 6 none ∈ gz_ts := gz_go (gz_tb (List.mem_append_right _ (List.mem_append_left _ (List.mem_of_getElem? (i := 157) rfl)))) rfl
theorem wc_X4_readPart : Cond.code yX4_readPart cX4_readPart 3 none ∈ gz_ts := gz_go (gz_tb (List.mem_append_right _ (List.mem_append_left _ (List.mem_of_getElem? (i := 161) rfl)))) rfl
theorem wc_X4_usable : Cond.code yX4_usable cX4_usable 3 (some .int) ∈ gz_ts := gz_go (gz_tb (List.mem_append_right _ (List.mem_append_left _ (List.mem_of_getElem? (i := 165) rfl)))) rfl
theorem wc_X4_markTold : Cond.code yX4_markTold cX4_markTold 4 (some .int) ∈ gz_ts := gz_go (gz_tb (List.mem_append_right _ (List.mem_append_left _ (List.mem_of_getElem? (i := 169) rfl)))) rfl
theorem wc_X4_list : Cond.code yX4_list cX4_list 5 (some .int) ∈ gz_ts := gz_go (gz_tb (List.mem_append_right _ (List.mem_append_left _ (List.mem_of_getElem? (i := 174) rfl)))) rfl
theorem wc_X4_same : Cond.code yX4_same cX4_same 5 (some .boolean) ∈ gz_ts := gz_go (gz_tb (List.mem_append_right _ (List.mem_append_left _ (List.mem_of_getElem? (i := 178) rfl)))) rfl
theorem wc_X0_isAlike : Cond.code yX0_isAlike cX0_isAlike 3 (some .boolean) ∈ gz_ts := gz_go (gz_tb (List.mem_append_right _ (List.mem_append_left _ (List.mem_of_getElem? (i := 182) rfl)))) rfl
theorem wc_X0_hasAlikeList : Cond.code yX0_hasAlikeList cX0_hasAlikeList 4 (some .boolean) ∈ gz_ts := gz_go (gz_tb (List.mem_append_right _ (List.mem_append_left _ (List.mem_of_getElem? (i := 186) rfl)))) rfl
theorem wc_X4_partTold : Cond.code yX4_partTold cX4_partTold 3 (some .int) ∈ gz_ts := gz_go (gz_tb (List.mem_append_right _ (List.mem_append_left _ (List.mem_of_getElem? (i := 190) rfl)))) rfl
theorem wc_X4_keptNaming : Cond.code yX4_keptNaming cX4_keptNaming 4 (some .int) ∈ gz_ts := gz_go (gz_tb (List.mem_append_right _ (List.mem_append_left _ (List.mem_of_getElem? (i := 194) rfl)))) rfl
theorem wc_X0_names : Cond.code yX0_names cX0_names 4 (some .boolean) ∈ gz_ts := gz_go (gz_tb (List.mem_append_right _ (List.mem_append_left _ (List.mem_of_getElem? (i := 198) rfl)))) rfl
theorem wc_X4_copyCount : Cond.code yX4_copyCount cX4_copyCount 4 (some .int) ∈ gz_ts := gz_go (gz_tb (List.mem_append_right _ (List.mem_append_left _ (List.mem_of_getElem? (i := 202) rfl)))) rfl
theorem wc_X4_partByte : Cond.code yX4_partByte cX4_partByte 5 (some .int) ∈ gz_ts := gz_go (gz_tb (List.mem_append_right _ (List.mem_append_left _ (List.mem_of_getElem? (i := 206) rfl)))) rfl
theorem wc_X4_shelfOf : Cond.code yX4_shelfOf cX4_shelfOf 2 (some (.object "GrownSnapshots$Shelf")) ∈ gz_ts := gz_go (gz_tb (List.mem_append_right _ (List.mem_append_left _ (List.mem_of_getElem? (i := 210) rfl)))) rfl
theorem wc_X3_hasByte : Cond.code yX3_hasByte cX3_hasByte 4 (some .boolean) ∈ gz_ts := gz_go (gz_tb (List.mem_append_right _ (List.mem_append_left _ (List.mem_of_getElem? (i := 214) rfl)))) rfl
theorem wc_X4_alter : Cond.code yX4_alter cX4_alter 6 (some .int) ∈ gz_ts := gz_go (gz_tb (List.mem_append_right _ (List.mem_append_left _ (List.mem_of_getElem? (i := 219) rfl)))) rfl
theorem wc_X4_lose : Cond.code yX4_lose cX4_lose 4 (some .int) ∈ gz_ts := gz_go (gz_tb (List.mem_append_right _ (List.mem_append_left _ (List.mem_of_getElem? (i := 223) rfl)))) rfl
theorem wc_X4_told : Cond.code yX4_told cX4_told 2 (some .int) ∈ gz_ts := gz_go (gz_tb (List.mem_append_right _ (List.mem_append_left _ (List.mem_of_getElem? (i := 227) rfl)))) rfl
theorem wc_X4_keptCount : Cond.code yX4_keptCount cX4_keptCount 3 (some .int) ∈ gz_ts := gz_go (gz_tb (List.mem_append_right _ (List.mem_append_left _ (List.mem_of_getElem? (i := 231) rfl)))) rfl
theorem wc_X3_brokenCount : Cond.code yX3_brokenCount cX3_brokenCount 3 (some .int) ∈ gz_ts := gz_go (gz_tb (List.mem_append_right _ (List.mem_append_left _ (List.mem_of_getElem? (i := 235) rfl)))) rfl
theorem wc_X4_allCopies : Cond.code yX4_allCopies cX4_allCopies 3 (some .int) ∈ gz_ts := gz_go (gz_tb (List.mem_append_right _ (List.mem_append_right _ (List.mem_of_getElem? (i := 0) rfl)))) rfl
theorem wc_X5_init : Cond.code yX5_init cX5_init 2 none ∈ gz_ts := gz_go (gz_tb (List.mem_append_right _ (List.mem_append_right _ (List.mem_of_getElem? (i := 5) rfl)))) rfl
theorem wc_X5_insert : Cond.code yX5_insert cX5_insert 8 (some .int) ∈ gz_ts := gz_go (gz_tb (List.mem_append_right _ (List.mem_append_right _ (List.mem_of_getElem? (i := 74) rfl)))) rfl
theorem wc_X5_isTask : Cond.code yX5_isTask cX5_isTask 2 (some .boolean) ∈ gz_ts := gz_go (gz_tb (List.mem_append_right _ (List.mem_append_right _ (List.mem_of_getElem? (i := 78) rfl)))) rfl
theorem wc_X5_in : Cond.code yX5_in cX5_in 3 (some .boolean) ∈ gz_ts := gz_go (gz_tb (List.mem_append_right _ (List.mem_append_right _ (List.mem_of_getElem? (i := 81) rfl)))) rfl
theorem wc_X5_remove : Cond.code yX5_remove cX5_remove 6 (some .int) ∈ gz_ts := gz_go (gz_tb (List.mem_append_right _ (List.mem_append_right _ (List.mem_of_getElem? (i := 86) rfl)))) rfl
theorem wc_X5_extend : Cond.code yX5_extend cX5_extend 6 (some .int) ∈ gz_ts := gz_go (gz_tb (List.mem_append_right _ (List.mem_append_right _ (List.mem_of_getElem? (i := 90) rfl)))) rfl
theorem wc_X5_state : Cond.code yX5_state cX5_state 3 (some .int) ∈ gz_ts := gz_go (gz_tb (List.mem_append_right _ (List.mem_append_right _ (List.mem_of_getElem? (i := 94) rfl)))) rfl
theorem wc_X5_chunk : Cond.code yX5_chunk cX5_chunk 6 (some .int) ∈ gz_ts := gz_go (gz_tb (List.mem_append_right _ (List.mem_append_right _ (List.mem_of_getElem? (i := 98) rfl)))) rfl
theorem wc_X5_chunkFrom : Cond.code yX5_chunkFrom cX5_chunkFrom 7 (some .int) ∈ gz_ts := gz_go (gz_tb (List.mem_append_right _ (List.mem_append_right _ (List.mem_of_getElem? (i := 102) rfl)))) rfl
theorem wc_X5_rescale : Cond.code yX5_rescale cX5_rescale 6 (some .int) ∈ gz_ts := gz_go (gz_tb (List.mem_append_right _ (List.mem_append_right _ (List.mem_of_getElem? (i := 106) rfl)))) rfl
theorem wc_X5_become : Cond.code yX5_become cX5_become 4 none ∈ gz_ts := gz_go (gz_tb (List.mem_append_right _ (List.mem_append_right _ (List.mem_of_getElem? (i := 110) rfl)))) rfl
theorem wc_X5_partTold : Cond.code yX5_partTold cX5_partTold 5 (some .int) ∈ gz_ts := gz_go (gz_tb (List.mem_append_right _ (List.mem_append_right _ (List.mem_of_getElem? (i := 114) rfl)))) rfl
theorem wc_X5_isPart : Cond.code yX5_isPart cX5_isPart 2 (some .boolean) ∈ gz_ts := gz_go (gz_tb (List.mem_append_right _ (List.mem_append_right _ (List.mem_of_getElem? (i := 118) rfl)))) rfl
theorem wc_X5_hasPart : Cond.code yX5_hasPart cX5_hasPart 6 (some .boolean) ∈ gz_ts := gz_go (gz_tb (List.mem_append_right _ (List.mem_append_right _ (List.mem_of_getElem? (i := 122) rfl)))) rfl
theorem wc_X5_isBroken : Cond.code yX5_isBroken cX5_isBroken 4 (some .boolean) ∈ gz_ts := gz_go (gz_tb (List.mem_append_right _ (List.mem_append_right _ (List.mem_of_getElem? (i := 126) rfl)))) rfl
theorem wc_X5_partByte : Cond.code yX5_partByte cX5_partByte 4 (some .int) ∈ gz_ts := gz_go (gz_tb (List.mem_append_right _ (List.mem_append_right _ (List.mem_of_getElem? (i := 130) rfl)))) rfl
theorem wc_X5_isByte : Cond.code yX5_isByte cX5_isByte 4 (some .boolean) ∈ gz_ts := gz_go (gz_tb (List.mem_append_right _ (List.mem_append_right _ (List.mem_of_getElem? (i := 134) rfl)))) rfl
theorem wc_X5_alter : Cond.code yX5_alter cX5_alter 5 (some .int) ∈ gz_ts := gz_go (gz_tb (List.mem_append_right _ (List.mem_append_right _ (List.mem_of_getElem? (i := 138) rfl)))) rfl
theorem wc_X5_lose : Cond.code yX5_lose cX5_lose 3 (some .int) ∈ gz_ts := gz_go (gz_tb (List.mem_append_right _ (List.mem_append_right _ (List.mem_of_getElem? (i := 143) rfl)))) rfl
theorem wc_X5_mark : Cond.code yX5_mark cX5_mark 11 (some .int) ∈ gz_ts := gz_go (gz_tb (List.mem_append_right _ (List.mem_append_right _ (List.mem_of_getElem? (i := 147) rfl)))) rfl
theorem wc_X5_held : Cond.code yX5_held cX5_held 3 (some .int) ∈ gz_ts := gz_go (gz_tb (List.mem_append_right _ (List.mem_append_right _ (List.mem_of_getElem? (i := 151) rfl)))) rfl
theorem wc_X5_partFor : Cond.code yX5_partFor cX5_partFor 7 (some .int) ∈ gz_ts := gz_go (gz_tb (List.mem_append_right _ (List.mem_append_right _ (List.mem_of_getElem? (i := 155) rfl)))) rfl
theorem wc_X5_isChunk : Cond.code yX5_isChunk cX5_isChunk 7 (some .boolean) ∈ gz_ts := gz_go (gz_tb (List.mem_append_right _ (List.mem_append_right _ (List.mem_of_getElem? (i := 159) rfl)))) rfl
theorem wc_X5_allBytes : Cond.code yX5_allBytes cX5_allBytes 3 (some .int) ∈ gz_ts := gz_go (gz_tb (List.mem_append_right _ (List.mem_append_right _ (List.mem_of_getElem? (i := 163) rfl)))) rfl
theorem wc_X5_latest : Cond.code yX5_latest cX5_latest 4 (some .int) ∈ gz_ts := gz_go (gz_tb (List.mem_append_right _ (List.mem_append_right _ (List.mem_of_getElem? (i := 167) rfl)))) rfl
theorem wc_X5_tells : Cond.code yX5_tells cX5_tells 11 (some .int) ∈ gz_ts := gz_go (gz_tb (List.mem_append_right _ (List.mem_append_right _ (List.mem_of_getElem? (i := 171) rfl)))) rfl
theorem wc_X5_drop : Cond.code yX5_drop cX5_drop 8 (some .int) ∈ gz_ts := gz_go (gz_tb (List.mem_append_right _ (List.mem_append_right _ (List.mem_of_getElem? (i := 175) rfl)))) rfl
theorem wc_X5_keptSlot : Cond.code yX5_keptSlot cX5_keptSlot 3 (some .int) ∈ gz_ts := gz_go (gz_tb (List.mem_append_right _ (List.mem_append_right _ (List.mem_of_getElem? (i := 179) rfl)))) rfl
theorem wc_X5_slotOf : Cond.code yX5_slotOf cX5_slotOf 4 (some .int) ∈ gz_ts := gz_go (gz_tb (List.mem_append_right _ (List.mem_append_right _ (List.mem_of_getElem? (i := 183) rfl)))) rfl
theorem wc_X5_usable : Cond.code yX5_usable cX5_usable 3 (some .int) ∈ gz_ts := gz_go (gz_tb (List.mem_append_right _ (List.mem_append_right _ (List.mem_of_getElem? (i := 187) rfl)))) rfl
theorem wc_X5_isUsable : Cond.code yX5_isUsable cX5_isUsable 5 (some .boolean) ∈ gz_ts := gz_go (gz_tb (List.mem_append_right _ (List.mem_append_right _ (List.mem_of_getElem? (i := 191) rfl)))) rfl
theorem wc_X5_isReadable : Cond.code yX5_isReadable cX5_isReadable 3 (some .boolean) ∈ gz_ts := gz_go (gz_tb (List.mem_append_right _ (List.mem_append_right _ (List.mem_of_getElem? (i := 195) rfl)))) rfl
theorem wc_X5_isGoodCopy : Cond.code yX5_isGoodCopy cX5_isGoodCopy 5 (some .boolean) ∈ gz_ts := gz_go (gz_tb (List.mem_append_right _ (List.mem_append_right _ (List.mem_of_getElem? (i := 199) rfl)))) rfl
theorem wc_X5_back : Cond.code yX5_back cX5_back 5 (some .int) ∈ gz_ts := gz_go (gz_tb (List.mem_append_right _ (List.mem_append_right _ (List.mem_of_getElem? (i := 203) rfl)))) rfl
theorem wc_X5_read : Cond.code yX5_read cX5_read 5 none ∈ gz_ts := gz_go (gz_tb (List.mem_append_right _ (List.mem_append_right _ (List.mem_of_getElem? (i := 207) rfl)))) rfl
theorem wc_X5_markTold : Cond.code yX5_markTold cX5_markTold 6 (some .int) ∈ gz_ts := gz_go (gz_tb (List.mem_append_right _ (List.mem_append_right _ (List.mem_of_getElem? (i := 211) rfl)))) rfl
theorem wc_X5_list : Cond.code yX5_list cX5_list 5 (some .int) ∈ gz_ts := gz_go (gz_tb (List.mem_append_right _ (List.mem_append_right _ (List.mem_of_getElem? (i := 215) rfl)))) rfl
theorem wc_X5_same : Cond.code yX5_same cX5_same 8 (some .boolean) ∈ gz_ts := gz_go (gz_tb (List.mem_append_right _ (List.mem_append_right _ (List.mem_of_getElem? (i := 219) rfl)))) rfl
theorem wc_X5_told : Cond.code yX5_told cX5_told 4 (some .int) ∈ gz_ts := gz_go (gz_tb (List.mem_append_right _ (List.mem_append_right _ (List.mem_of_getElem? (i := 223) rfl)))) rfl
theorem wu_X0 : ∀ w ∈ u_ws RX0 TX0 9, w ∈ gz_ts := List.forall_mem_cons.mpr ⟨gz_go (gz_tb (List.mem_append_left _ (List.mem_of_getElem? (i := 122) rfl))) rfl, List.forall_mem_cons.mpr ⟨gz_go (gz_tb (List.mem_append_left _ (List.mem_of_getElem? (i := 124) rfl))) rfl, List.forall_mem_cons.mpr ⟨gz_go (gz_tb (List.mem_append_left _ (List.mem_of_getElem? (i := 126) rfl))) rfl, List.forall_mem_cons.mpr ⟨gz_go (gz_tb (List.mem_append_left _ (List.mem_of_getElem? (i := 128) rfl))) rfl, List.forall_mem_cons.mpr ⟨gz_go (gz_tb (List.mem_append_left _ (List.mem_of_getElem? (i := 130) rfl))) rfl, List.forall_mem_cons.mpr ⟨gz_go (gz_tb (List.mem_append_left _ (List.mem_of_getElem? (i := 132) rfl))) rfl, List.forall_mem_cons.mpr ⟨gz_go (gz_tb (List.mem_append_left _ (List.mem_of_getElem? (i := 134) rfl))) rfl, List.forall_mem_cons.mpr ⟨gz_go (gz_tb (List.mem_append_left _ (List.mem_of_getElem? (i := 136) rfl))) rfl, List.forall_mem_cons.mpr ⟨gz_go (gz_tb (List.mem_append_left _ (List.mem_of_getElem? (i := 138) rfl))) rfl, fun _ h => absurd h List.not_mem_nil⟩⟩⟩⟩⟩⟩⟩⟩⟩
theorem wu_X1 : ∀ w ∈ u_ws RX1 TX1 2, w ∈ gz_ts := List.forall_mem_cons.mpr ⟨gz_go (gz_tb (List.mem_append_left _ (List.mem_of_getElem? (i := 39) rfl))) rfl, List.forall_mem_cons.mpr ⟨gz_go (gz_tb (List.mem_append_left _ (List.mem_of_getElem? (i := 41) rfl))) rfl, fun _ h => absurd h List.not_mem_nil⟩⟩
theorem wu_X2 : ∀ w ∈ u_ws RX2 TX2 3, w ∈ gz_ts := List.forall_mem_cons.mpr ⟨gz_go (gz_tb (List.mem_append_left _ (List.mem_of_getElem? (i := 89) rfl))) rfl, List.forall_mem_cons.mpr ⟨gz_go (gz_tb (List.mem_append_left _ (List.mem_of_getElem? (i := 91) rfl))) rfl, List.forall_mem_cons.mpr ⟨gz_go (gz_tb (List.mem_append_left _ (List.mem_of_getElem? (i := 93) rfl))) rfl, fun _ h => absurd h List.not_mem_nil⟩⟩⟩
theorem wu_X3 : ∀ w ∈ u_ws RX3 TX3 8, w ∈ gz_ts := List.forall_mem_cons.mpr ⟨gz_go (gz_tb (List.mem_append_left _ (List.mem_of_getElem? (i := 60) rfl))) rfl, List.forall_mem_cons.mpr ⟨gz_go (gz_tb (List.mem_append_left _ (List.mem_of_getElem? (i := 62) rfl))) rfl, List.forall_mem_cons.mpr ⟨gz_go (gz_tb (List.mem_append_left _ (List.mem_of_getElem? (i := 64) rfl))) rfl, List.forall_mem_cons.mpr ⟨gz_go (gz_tb (List.mem_append_left _ (List.mem_of_getElem? (i := 66) rfl))) rfl, List.forall_mem_cons.mpr ⟨gz_go (gz_tb (List.mem_append_left _ (List.mem_of_getElem? (i := 68) rfl))) rfl, List.forall_mem_cons.mpr ⟨gz_go (gz_tb (List.mem_append_left _ (List.mem_of_getElem? (i := 70) rfl))) rfl, List.forall_mem_cons.mpr ⟨gz_go (gz_tb (List.mem_append_left _ (List.mem_of_getElem? (i := 72) rfl))) rfl, List.forall_mem_cons.mpr ⟨gz_go (gz_tb (List.mem_append_left _ (List.mem_of_getElem? (i := 74) rfl))) rfl, fun _ h => absurd h List.not_mem_nil⟩⟩⟩⟩⟩⟩⟩⟩
theorem wu_X4 : ∀ w ∈ u_ws RX4 TX4 9, w ∈ gz_ts := List.forall_mem_cons.mpr ⟨gz_go (gz_tb (List.mem_append_left _ (List.mem_of_getElem? (i := 150) rfl))) rfl, List.forall_mem_cons.mpr ⟨gz_go (gz_tb (List.mem_append_left _ (List.mem_of_getElem? (i := 152) rfl))) rfl, List.forall_mem_cons.mpr ⟨gz_go (gz_tb (List.mem_append_left _ (List.mem_of_getElem? (i := 154) rfl))) rfl, List.forall_mem_cons.mpr ⟨gz_go (gz_tb (List.mem_append_left _ (List.mem_of_getElem? (i := 156) rfl))) rfl, List.forall_mem_cons.mpr ⟨gz_go (gz_tb (List.mem_append_left _ (List.mem_of_getElem? (i := 158) rfl))) rfl, List.forall_mem_cons.mpr ⟨gz_go (gz_tb (List.mem_append_left _ (List.mem_of_getElem? (i := 160) rfl))) rfl, List.forall_mem_cons.mpr ⟨gz_go (gz_tb (List.mem_append_left _ (List.mem_of_getElem? (i := 162) rfl))) rfl, List.forall_mem_cons.mpr ⟨gz_go (gz_tb (List.mem_append_left _ (List.mem_of_getElem? (i := 164) rfl))) rfl, List.forall_mem_cons.mpr ⟨gz_go (gz_tb (List.mem_append_left _ (List.mem_of_getElem? (i := 166) rfl))) rfl, fun _ h => absurd h List.not_mem_nil⟩⟩⟩⟩⟩⟩⟩⟩⟩
theorem wu_X5 : ∀ w ∈ u_ws RX5 TX5 21, w ∈ gz_ts := List.forall_mem_cons.mpr ⟨gz_go (gz_tb (List.mem_append_right _ (List.mem_append_right _ (List.mem_of_getElem? (i := 28) rfl)))) rfl, List.forall_mem_cons.mpr ⟨gz_go (gz_tb (List.mem_append_right _ (List.mem_append_right _ (List.mem_of_getElem? (i := 30) rfl)))) rfl, List.forall_mem_cons.mpr ⟨gz_go (gz_tb (List.mem_append_right _ (List.mem_append_right _ (List.mem_of_getElem? (i := 32) rfl)))) rfl, List.forall_mem_cons.mpr ⟨gz_go (gz_tb (List.mem_append_right _ (List.mem_append_right _ (List.mem_of_getElem? (i := 34) rfl)))) rfl, List.forall_mem_cons.mpr ⟨gz_go (gz_tb (List.mem_append_right _ (List.mem_append_right _ (List.mem_of_getElem? (i := 36) rfl)))) rfl, List.forall_mem_cons.mpr ⟨gz_go (gz_tb (List.mem_append_right _ (List.mem_append_right _ (List.mem_of_getElem? (i := 38) rfl)))) rfl, List.forall_mem_cons.mpr ⟨gz_go (gz_tb (List.mem_append_right _ (List.mem_append_right _ (List.mem_of_getElem? (i := 40) rfl)))) rfl, List.forall_mem_cons.mpr ⟨gz_go (gz_tb (List.mem_append_right _ (List.mem_append_right _ (List.mem_of_getElem? (i := 42) rfl)))) rfl, List.forall_mem_cons.mpr ⟨gz_go (gz_tb (List.mem_append_right _ (List.mem_append_right _ (List.mem_of_getElem? (i := 44) rfl)))) rfl, List.forall_mem_cons.mpr ⟨gz_go (gz_tb (List.mem_append_right _ (List.mem_append_right _ (List.mem_of_getElem? (i := 46) rfl)))) rfl, List.forall_mem_cons.mpr ⟨gz_go (gz_tb (List.mem_append_right _ (List.mem_append_right _ (List.mem_of_getElem? (i := 48) rfl)))) rfl, List.forall_mem_cons.mpr ⟨gz_go (gz_tb (List.mem_append_right _ (List.mem_append_right _ (List.mem_of_getElem? (i := 50) rfl)))) rfl, List.forall_mem_cons.mpr ⟨gz_go (gz_tb (List.mem_append_right _ (List.mem_append_right _ (List.mem_of_getElem? (i := 52) rfl)))) rfl, List.forall_mem_cons.mpr ⟨gz_go (gz_tb (List.mem_append_right _ (List.mem_append_right _ (List.mem_of_getElem? (i := 54) rfl)))) rfl, List.forall_mem_cons.mpr ⟨gz_go (gz_tb (List.mem_append_right _ (List.mem_append_right _ (List.mem_of_getElem? (i := 56) rfl)))) rfl, List.forall_mem_cons.mpr ⟨gz_go (gz_tb (List.mem_append_right _ (List.mem_append_right _ (List.mem_of_getElem? (i := 58) rfl)))) rfl, List.forall_mem_cons.mpr ⟨gz_go (gz_tb (List.mem_append_right _ (List.mem_append_right _ (List.mem_of_getElem? (i := 60) rfl)))) rfl, List.forall_mem_cons.mpr ⟨gz_go (gz_tb (List.mem_append_right _ (List.mem_append_right _ (List.mem_of_getElem? (i := 62) rfl)))) rfl, List.forall_mem_cons.mpr ⟨gz_go (gz_tb (List.mem_append_right _ (List.mem_append_right _ (List.mem_of_getElem? (i := 64) rfl)))) rfl, List.forall_mem_cons.mpr ⟨gz_go (gz_tb (List.mem_append_right _ (List.mem_append_right _ (List.mem_of_getElem? (i := 66) rfl)))) rfl, List.forall_mem_cons.mpr ⟨gz_go (gz_tb (List.mem_append_right _ (List.mem_append_right _ (List.mem_of_getElem? (i := 68) rfl)))) rfl, fun _ h => absurd h List.not_mem_nil⟩⟩⟩⟩⟩⟩⟩⟩⟩⟩⟩⟩⟩⟩⟩⟩⟩⟩⟩⟩⟩
end
section
/-! THE PURE MEMORY: a cell is a triple (region, a, b); what int fields, int and boolean arrays hold is a function of cell and place; references are fixed by the shape, but the row 'held', whose place i names the mark object (16, I (4,0,0) i, 0). -/
abbrev gz_P : Type := Nat × Int × Int
abbrev gz_M : Type := gz_P → Int → Int
abbrev gz_i (a : Int) : Value := .int (Int32.ofInt a)
def gz_up (I : gz_M) (p : gz_P) (j v : Int) : gz_M := fun q i => if q = p ∧ i = j then v else I q i
/-- kind (0 int[], 1 boolean[], 2 State[], 3 Shelf[], 4 Mark[], 5 int[][], 10 + a class's number), length or fields, how many a, how many b -/
def gz_shp (r : Nat) : Nat × Nat × Nat × Nat := match r with
  | 0 => (14, 9, 1, 1)
  | 1 => (2, 4, 1, 1)
  | 2 => (3, 4, 1, 1)
  | 3 => (13, 8, 1, 1)
  | 4 => (4, 12, 1, 1)
  | 5 => (0, 1200, 1, 1)
  | 6 => (1, 120, 1, 1)
  | 7 => (12, 3, 4, 1)
  | 8 => (0, 300, 4, 1)
  | 9 => (0, 75, 4, 1)
  | 10 => (11, 2, 5, 1)
  | 11 => (1, 120, 5, 1)
  | 12 => (0, 3840, 5, 1)
  | 13 => (0, 120, 1, 1)
  | 14 => (0, 120, 1, 1)
  | 15 => (0, 120, 1, 1)
  | 16 => (10, 9, 12, 1)
  | 17 => (5, 4, 12, 1)
  | 18 => (0, 75, 12, 4)
  | 19 => (0, 4, 12, 1)
  | 20 => (15, 21, 1, 1)
  | 21 => (0, 4, 1, 1)
  | 22 => (0, 1200, 1, 1)
  | 23 => (0, 1200, 1, 1)
  | 24 => (0, 120, 1, 1)
  | 25 => (0, 120, 1, 1)
  | 26 => (1, 120, 1, 1)
  | 27 => (0, 3840, 1, 1)
  | 28 => (1, 480, 1, 1)
  | 29 => (0, 15360, 1, 1)
  | 30 => (0, 12, 1, 1)
  | 31 => (1, 12, 1, 1)
  | 32 => (0, 12, 1, 1)
  | 33 => (0, 12, 1, 1)
  | 34 => (0, 48, 1, 1)
  | 35 => (0, 3840, 1, 1)
  | 36 => (0, 12, 1, 1)
  | 37 => (0, 12, 1, 1)
  | 38 => (0, 12, 1, 1)
  | 39 => (1, 120, 1, 1)
  | _ => (0, 0, 0, 0)
/-- fields that are references: of which cell, by the object's a and b -/
def gz_rfo (r k : Nat) : Option (Int → Int → gz_P) := match r, k with
  | 0, 0 => some (fun _ _ => (1, 0, 0))
  | 0, 1 => some (fun _ _ => (2, 0, 0))
  | 0, 2 => some (fun _ _ => (3, 0, 0))
  | 0, 3 => some (fun _ _ => (4, 0, 0))
  | 0, 4 => some (fun _ _ => (5, 0, 0))
  | 0, 5 => some (fun _ _ => (6, 0, 0))
  | 3, 0 => some (fun _ _ => (10, 4, 0))
  | 3, 1 => some (fun _ _ => (13, 0, 0))
  | 3, 2 => some (fun _ _ => (14, 0, 0))
  | 3, 3 => some (fun _ _ => (15, 0, 0))
  | 7, 0 => some (fun a _ => (8, a, 0))
  | 7, 1 => some (fun a _ => (9, a, 0))
  | 10, 0 => some (fun a _ => (11, a, 0))
  | 10, 1 => some (fun a _ => (12, a, 0))
  | 16, 0 => some (fun a _ => (17, a, 0))
  | 16, 1 => some (fun a _ => (19, a, 0))
  | 20, 1 => some (fun _ _ => (21, 0, 0))
  | 20, 2 => some (fun _ _ => (22, 0, 0))
  | 20, 3 => some (fun _ _ => (23, 0, 0))
  | 20, 4 => some (fun _ _ => (24, 0, 0))
  | 20, 5 => some (fun _ _ => (25, 0, 0))
  | 20, 6 => some (fun _ _ => (26, 0, 0))
  | 20, 7 => some (fun _ _ => (27, 0, 0))
  | 20, 8 => some (fun _ _ => (28, 0, 0))
  | 20, 9 => some (fun _ _ => (29, 0, 0))
  | 20, 11 => some (fun _ _ => (30, 0, 0))
  | 20, 12 => some (fun _ _ => (31, 0, 0))
  | 20, 13 => some (fun _ _ => (32, 0, 0))
  | 20, 14 => some (fun _ _ => (33, 0, 0))
  | 20, 15 => some (fun _ _ => (34, 0, 0))
  | 20, 16 => some (fun _ _ => (35, 0, 0))
  | 20, 17 => some (fun _ _ => (36, 0, 0))
  | 20, 18 => some (fun _ _ => (37, 0, 0))
  | 20, 19 => some (fun _ _ => (38, 0, 0))
  | 20, 20 => some (fun _ _ => (39, 0, 0))
  | _, _ => none
/-- what a row of references names at place i -/
def gz_tgt (I : gz_M) (p : gz_P) (i : Int) : gz_P := match p.1 with
  | 1 => (7, i, 0)
  | 2 => (10, i, 0)
  | 4 => (16, I p i, 0)
  | _ => (18, p.2.1, i)
def gz_fv (α : gz_P → Nat) (I : gz_M) (p : gz_P) (k : Nat) : Value := match gz_rfo p.1 k with
  | some g => .ref (α (g p.2.1 p.2.2))
  | none => gz_i (I p k)
def gz_cell (α : gz_P → Nat) (cA : Nat → ClassId) (I : gz_M) (p : gz_P) : va_E :=
  if (gz_shp p.1).1 < 2 then .inl (cA (gz_shp p.1).1, (gz_shp p.1).2.1, .inl (fun i => Int32.ofInt (I p i)))
  else if (gz_shp p.1).1 < 10 then .inl (cA (gz_shp p.1).1, (gz_shp p.1).2.1, .inr (.inr (.inr (.inr (fun i => some (α (gz_tgt I p i)))))))
  else .inr ((gz_shp p.1).1 - 10, (List.range (gz_shp p.1).2.1).map (gz_fv α I p))
def gz_ptrs : List gz_P := (List.range 40).flatMap fun r => (List.range (gz_shp r).2.2.1).flatMap fun (a : Nat) => (List.range (gz_shp r).2.2.2).map fun (b : Nat) => ((r, Int.ofNat a, Int.ofNat b) : gz_P)
def gz_ws (α : gz_P → Nat) (cA : Nat → ClassId) (I : gz_M) : va_W := gz_ptrs.map fun p => (α p, gz_cell α cA I p)
abbrev gz_cl : List vw_C := [(RX0, TX0, 9), (RX1, TX1, 2), (RX2, TX2, 3), (RX3, TX3, 8), (RX4, TX4, 9), (RX5, TX5, 21)]
abbrev gz_tys (cA : Nat → ClassId) : List (ClassId × FieldType) := [(cA 0, .int), (cA 1, .boolean), (cA 2, .object RX2), (cA 3, .object RX1), (cA 4, .object RX0), (cA 5, .array .int)]
theorem gz_mem {r : Nat} {a b : Int} {na nb : Nat} (hr : r < 40) (h : (gz_shp r).2.2 = (na, nb)) (ha : 0 ≤ a ∧ a < na) (hb : 0 ≤ b ∧ b < nb) : ((r, a, b) : gz_P) ∈ gz_ptrs := by
  have h1 : (gz_shp r).2.2.1 = na := by rw [h]
  have h2 : (gz_shp r).2.2.2 = nb := by rw [h]
  have hA : a.toNat < (gz_shp r).2.2.1 := by rw [h1]; omega
  have hB : b.toNat < (gz_shp r).2.2.2 := by rw [h2]; omega
  unfold gz_ptrs
  refine List.mem_flatMap.mpr ⟨r, List.mem_range.mpr hr, List.mem_flatMap.mpr ⟨a.toNat, List.mem_range.mpr hA, List.mem_map.mpr ⟨b.toNat, List.mem_range.mpr hB, ?_⟩⟩⟩
  rw [Int.ofNat_eq_natCast, Int.ofNat_eq_natCast, Int.toNat_of_nonneg ha.1, Int.toNat_of_nonneg hb.1]
theorem gz_ws_get {α : gz_P → Nat} {cA : Nat → ClassId} {I : gz_M} {A : Nat → Prop} {p : gz_P} (hp : p ∈ gz_ptrs) (hD : va_D A (gz_ws α cA I)) : ∃ k : Nat, (gz_ws α cA I)[k]? = some (α p, gz_cell α cA I p) ∧ ∀ I' : gz_M, (∀ q : gz_P, q ≠ p → gz_cell α cA I' q = gz_cell α cA I q) → (gz_ws α cA I).set k (α p, gz_cell α cA I' p) = gz_ws α cA I' := by
  obtain ⟨k, hk⟩ := List.getElem?_of_mem hp
  have hk2 : (gz_ws α cA I)[k]? = some (α p, gz_cell α cA I p) := by unfold gz_ws; rw [List.getElem?_map, hk]; rfl
  refine ⟨k, hk2, fun I' h => ?_⟩
  apply List.ext_getElem?
  intro j
  by_cases hj : k = j
  · subst hj
    have hlt : k < (gz_ws α cA I).length := (List.getElem?_eq_some_iff.mp hk2).1
    rw [List.getElem?_set_self hlt]
    unfold gz_ws
    rw [List.getElem?_map, hk]
    rfl
  · rw [List.getElem?_set_ne hj]
    unfold gz_ws
    rw [List.getElem?_map, List.getElem?_map]
    cases hq : gz_ptrs[j]? with
    | none => rfl
    | some q =>
      have hqp : q ≠ p := fun e => by
        subst e
        have h2 : (gz_ws α cA I)[j]? = some (α q, gz_cell α cA I q) := by unfold gz_ws; rw [List.getElem?_map, hq]; rfl
        exact hj (hD.1 k j _ _ hk2 h2 rfl)
      show some (α q, gz_cell α cA I q) = some (α q, gz_cell α cA I' q)
      rw [h q hqp]
/-- locals -/
def gz_L (ls : Array Slot) (nL : Nat) (L : List (Option Value)) : Prop := ls.size = nL ∧ lv_wf ls ∧ ∀ (i : Nat) (v : Value), L[i]? = some (some v) → ls[i]? = some (.val v)
def gz_as (L : List (Option Value)) : List (Nat × Value) := (List.range L.length).filterMap fun i => (L[i]?.join).map fun v => (i, v)
theorem gz_as_mem {L : List (Option Value)} {i : Nat} {v : Value} : (i, v) ∈ gz_as L ↔ L[i]? = some (some v) := by
  unfold gz_as
  rw [List.mem_filterMap]
  constructor
  · rintro ⟨j, hj, h⟩
    cases hL : L[j]? with
    | none => rw [hL] at h; simp at h
    | some o =>
      cases o with
      | none => rw [hL] at h; simp at h
      | some w =>
        rw [hL] at h
        simp at h
        obtain ⟨rfl, rfl⟩ := h
        exact hL
  · intro h
    exact ⟨i, List.mem_range.mpr (List.getElem?_eq_some_iff.mp h).1, by rw [h]; rfl⟩
theorem gz_L.has {ls : Array Slot} {nL : Nat} {L : List (Option Value)} (h : gz_L ls nL L) : lv_has ls nL (gz_as L) := ⟨h.1, h.2.1, fun q hq => h.2.2 q.1 q.2 (gz_as_mem.mp hq)⟩
/-- no long ends at place i -/
def gz_nl (L : List (Option Value)) (i : Nat) : Bool := match i with
  | 0 => true
  | j + 1 => match L[j]? with
    | some (some v) => v.category == 1
    | _ => true
theorem gz_L.set {ls' : Array Slot} {nL : Nat} {L : List (Option Value)} {i : Nat} {x : Value} (hn : gz_nl L i = true) (hi : i < L.length) (h : lv_has ls' nL ((i, x) :: (gz_as L).filter (fun q => !(q.1 == i) && !(q.1 + 1 == i && q.2.category == 2)))) : gz_L ls' nL (L.set i (some x)) := by
  refine ⟨h.1, h.2.1, fun j v hj => ?_⟩
  by_cases e : i = j
  · subst e
    rw [List.getElem?_set_self hi] at hj
    cases hj
    exact h.2.2 (i, x) List.mem_cons_self
  · rw [List.getElem?_set_ne e] at hj
    refine h.2.2 (j, v) (List.mem_cons_of_mem _ (List.mem_filter.mpr ⟨gz_as_mem.mpr hj, ?_⟩))
    have h1 : (j == i) = false := by simp; omega
    by_cases e2 : j + 1 = i
    · subst e2
      have hc : v.category = 1 := by simp only [gz_nl, hj] at hn; simpa using hn
      simp [hc]
    · have h2 : (j + 1 == i) = false := by simp; omega
      simp [h1, h2]
/-- a return instruction with its answer -/
def gz_ret (cc : ByteArray) (ret : Option FieldType) (pc : Nat) (r : Option Value) : Prop :=
  (ret = some .int ∧ decode cc pc = .ok (.ireturn, 1) ∧ ∃ x : Int32, r = some (.int x)) ∨
  (ret = some .boolean ∧ decode cc pc = .ok (.ireturn, 1) ∧ ∃ x : Int32, r = some (.int x) ∧ narrow .boolean (.int x) = .int x) ∨
  ((∃ n, ret = some (.object n)) ∧ decode cc pc = .ok (.areturn, 1) ∧ ∃ v : Value, r = some v ∧ (v = .null ∨ ∃ a, v = .ref a)) ∨
  (ret = none ∧ decode cc pc = .ok (.return_, 1) ∧ r = none)
/-- what stays while a method runs -/
def gz_C (D : va_G) (α : gz_P → Nat) (cA : Nat → ClassId) (own : String) (cc : ByteArray) (ret : Option FieldType) (nL d : Nat) (p : Program) (R : Room) (s : State) (m : MethodId) (args : Array Value) (meth : Method) (c : Code) (A : Nat → Prop) (cells slots : Nat) : Prop :=
  p.tables.exec = Jvm.exec ∧ c.code = cc ∧ meth.sig.returnType = ret ∧ c.maxLocals = nL ∧ s.vm.findClass own = some m.cls ∧ (∀ w ∈ gz_ts, w.before args s = true) ∧ va_K D gz_cl (gz_tys cA) s ∧ va_Nw (.methodLinkNest RX3 48 yX4_digestOf RX4) s ∧ d ≤ R.frames ∧ 38 * d ≤ R.locals ∧ cells ≤ R.cells ∧ slots ≤ R.slots ∧ ∀ I, va_D A (gz_ws α cA I)
/-- THE JUDGEMENT: at pc, with locals L, stack st and memory I, the method comes to an end with Q -/
def gz_V (l : Launch) (D : va_G) (α : gz_P → Nat) (cA : Nat → ClassId) (own : String) (cc : ByteArray) (ret : Option FieldType) (nL d : Nat) (Q : Option Value → gz_M → Prop) (I : gz_M) (L : List (Option Value)) (st : List Value) (pc : Nat) : Prop :=
  ∀ (p : Program) (e : Env) (R : Room) (s : State) (m : MethodId) (args : Array Value) (below : List Frame) (meth : Method) (c : Code) (A : Nat → Prop) (H : Heap) (locs : List Loc) (ls : Array Slot) (cells slots : Nat) (QQ : State → Prop),
    gz_C D α cA own cc ret nL d p R s m args meth c A cells slots → va_P D gz_cl (gz_ws α cA I) H → va_S A s.heap H locs → gz_L ls nL L →
    (∀ (r : Option Value) (I' : gz_M) (H' : Heap) (locs' : List Loc) (ls' : Array Slot) (pc' : Nat), Q r I' → va_P D gz_cl (gz_ws α cA I') H' → va_S A s.heap H' locs' → gz_ret cc ret pc' r → W p l e R s m args below meth c H' locs' cells slots QQ (F0 m pc' ls' r.toList)) →
    W p l e R s m args below meth c H locs cells slots QQ (F0 m pc ls st)
end
section
section
variable {l : Launch} {D : va_G} {α : gz_P → Nat} {cA : Nat → ClassId} {own : String} {cc : ByteArray} {ret : Option FieldType} {nL d : Nat} {Q : Option Value → gz_M → Prop} {I : gz_M} {L : List (Option Value)} {st : List Value} {pc : Nat}
theorem gz_ti {a : Int} (h : -2147483648 ≤ a ∧ a ≤ 2147483647) : (Int32.ofInt a).toInt = a := Int32.toInt_ofInt_of_le (by have := h.1; simpa using this) (by have := h.2; omega)
theorem gz_tn {a : Int} (h : 0 ≤ a ∧ a ≤ 2147483647) : (Int32.ofInt a).toNatClampNeg = a.toNat := by
  show (Int32.ofInt a).toInt.toNat = a.toNat
  rw [gz_ti ⟨by omega, h.2⟩]
theorem gz_clt {a b : Int} (ra : -2147483648 ≤ a ∧ a ≤ 2147483647) (rb : -2147483648 ≤ b ∧ b ≤ 2147483647) : Int32.ofInt a < Int32.ofInt b ↔ a < b := by rw [Int32.lt_iff_toInt_lt, gz_ti ra, gz_ti rb]
theorem gz_cle {a b : Int} (ra : -2147483648 ≤ a ∧ a ≤ 2147483647) (rb : -2147483648 ≤ b ∧ b ≤ 2147483647) : Int32.ofInt a ≤ Int32.ofInt b ↔ a ≤ b := by rw [Int32.le_iff_toInt_le, gz_ti ra, gz_ti rb]
theorem gz_ceq {a b : Int} (ra : -2147483648 ≤ a ∧ a ≤ 2147483647) (rb : -2147483648 ≤ b ∧ b ≤ 2147483647) : Int32.ofInt a = Int32.ofInt b ↔ a = b := by rw [← Int32.toInt_inj, gz_ti ra, gz_ti rb]
theorem gz_z0 : (0 : Int32) = Int32.ofInt 0 := rfl
theorem gz_r0 : -2147483648 ≤ (0 : Int) ∧ (0 : Int) ≤ 2147483647 := by decide
theorem gz_pin {a : Int} {n : Nat} (h : 0 ≤ a ∧ a < n) (hn : n ≤ 2147483647) : vp_in (Int32.ofInt a) n := by
  rw [vp_in_iff, gz_ti ⟨by omega, by omega⟩]
  exact h
theorem gz_arg (x : Int32) : Value.int x = gz_i x.toInt := by
  show Value.int x = Value.int (Int32.ofInt x.toInt)
  rw [Int32.ofInt_toInt]
theorem gz_rng (x : Int32) : -2147483648 ≤ x.toInt ∧ x.toInt ≤ 2147483647 := ⟨by have := Int32.minValue_le_toInt x; simpa using this, by have := Int32.toInt_le x; have h2 : Int32.maxValue.toInt = 2147483647 := rfl; omega⟩
theorem gz_iconst {n : Int} (hd : decode cc pc = .ok (.iconst n, 1)) (k : gz_V l D α cA own cc ret nL d Q I L (gz_i n :: st) (pc + 1)) : gz_V l D α cA own cc ret nL d Q I L st pc := by
  intro p e R s m args below meth c A H locs ls cells slots QQ C hP hS hl hQ
  exact lv_iconst C.1 C.2.1 hd rfl (k p e R s m args below meth c A H locs ls cells slots QQ C hP hS hl hQ)
theorem gz_bipush {n : Int} (hd : decode cc pc = .ok (.bipush n, 2)) (hv : (Int8.ofInt n).toInt32 = Int32.ofInt n) (k : gz_V l D α cA own cc ret nL d Q I L (gz_i n :: st) (pc + 2)) : gz_V l D α cA own cc ret nL d Q I L st pc := by
  intro p e R s m args below meth c A H locs ls cells slots QQ C hP hS hl hQ
  exact lv_bipush C.1 C.2.1 hd hv (k p e R s m args below meth c A H locs ls cells slots QQ C hP hS hl hQ)
theorem gz_sipush {n : Int} (hd : decode cc pc = .ok (.sipush n, 3)) (hv : (Int16.ofInt n).toInt32 = Int32.ofInt n) (k : gz_V l D α cA own cc ret nL d Q I L (gz_i n :: st) (pc + 3)) : gz_V l D α cA own cc ret nL d Q I L st pc := by
  intro p e R s m args below meth c A H locs ls cells slots QQ C hP hS hl hQ
  exact lv_sipush C.1 C.2.1 hd hv (k p e R s m args below meth c A H locs ls cells slots QQ C hP hS hl hQ)
theorem gz_iload_n {j : Fin 4} {a : Int} (hd : decode cc pc = .ok (.iload_n j, 1)) (hL : L[(j : Nat)]? = some (some (gz_i a))) (k : gz_V l D α cA own cc ret nL d Q I L (gz_i a :: st) (pc + 1)) : gz_V l D α cA own cc ret nL d Q I L st pc := by
  intro p e R s m args below meth c A H locs ls cells slots QQ C hP hS hl hQ
  exact lv_iload_n C.1 C.2.1 hd rfl (hl.2.2 _ _ hL) (k p e R s m args below meth c A H locs ls cells slots QQ C hP hS hl hQ)
theorem gz_iload {j : Nat} {a : Int} (hd : decode cc pc = .ok (.iload j, 2)) (hL : L[j]? = some (some (gz_i a))) (k : gz_V l D α cA own cc ret nL d Q I L (gz_i a :: st) (pc + 2)) : gz_V l D α cA own cc ret nL d Q I L st pc := by
  intro p e R s m args below meth c A H locs ls cells slots QQ C hP hS hl hQ
  exact lv_iload C.1 C.2.1 hd (hl.2.2 _ _ hL) (k p e R s m args below meth c A H locs ls cells slots QQ C hP hS hl hQ)
theorem gz_istore_n {j : Fin 4} {a : Int} (hd : decode cc pc = .ok (.istore_n j, 1)) (hn : gz_nl L j = true) (hi : Nat.ble (j.val + 1) L.length = true) (hi2 : Nat.ble (j.val + 1) nL = true) (k : gz_V l D α cA own cc ret nL d Q I (L.set j (some (gz_i a))) st (pc + 1)) : gz_V l D α cA own cc ret nL d Q I L (gz_i a :: st) pc := by
  intro p e R s m args below meth c A H locs ls cells slots QQ C hP hS hl hQ
  exact lv_istore_n C.1 C.2.1 hd rfl hl.has (Nat.le_of_ble_eq_true hi2) rfl (fun ls' hl' => (k p e R s m args below meth c A H locs ls' cells slots QQ C hP hS (gz_L.set hn (Nat.le_of_ble_eq_true hi) hl') hQ))
theorem gz_istore {j : Nat} {a : Int} (hd : decode cc pc = .ok (.istore j, 2)) (hn : gz_nl L j = true) (hi : Nat.ble (j + 1) L.length = true) (hi2 : Nat.ble (j + 1) nL = true) (k : gz_V l D α cA own cc ret nL d Q I (L.set j (some (gz_i a))) st (pc + 2)) : gz_V l D α cA own cc ret nL d Q I L (gz_i a :: st) pc := by
  intro p e R s m args below meth c A H locs ls cells slots QQ C hP hS hl hQ
  exact lv_istore C.1 C.2.1 hd hl.has (Nat.le_of_ble_eq_true hi2) rfl (fun ls' hl' => (k p e R s m args below meth c A H locs ls' cells slots QQ C hP hS (gz_L.set hn (Nat.le_of_ble_eq_true hi) hl') hQ))
theorem gz_aload_n {j : Fin 4} {a : Nat} (hd : decode cc pc = .ok (.aload_n j, 1)) (hL : L[(j : Nat)]? = some (some (.ref a))) (k : gz_V l D α cA own cc ret nL d Q I L (.ref a :: st) (pc + 1)) : gz_V l D α cA own cc ret nL d Q I L st pc := by
  intro p e R s m args below meth c A H locs ls cells slots QQ C hP hS hl hQ
  exact lv_aload_n C.1 C.2.1 hd rfl (hl.2.2 _ _ hL) (k p e R s m args below meth c A H locs ls cells slots QQ C hP hS hl hQ)
theorem gz_aload {j : Nat} {a : Nat} (hd : decode cc pc = .ok (.aload j, 2)) (hL : L[j]? = some (some (.ref a))) (k : gz_V l D α cA own cc ret nL d Q I L (.ref a :: st) (pc + 2)) : gz_V l D α cA own cc ret nL d Q I L st pc := by
  intro p e R s m args below meth c A H locs ls cells slots QQ C hP hS hl hQ
  exact lv_aload C.1 C.2.1 hd (hl.2.2 _ _ hL) (k p e R s m args below meth c A H locs ls cells slots QQ C hP hS hl hQ)
theorem gz_astore_n {j : Fin 4} {a : Nat} (hd : decode cc pc = .ok (.astore_n j, 1)) (hn : gz_nl L j = true) (hi : Nat.ble (j.val + 1) L.length = true) (hi2 : Nat.ble (j.val + 1) nL = true) (k : gz_V l D α cA own cc ret nL d Q I (L.set j (some (.ref a))) st (pc + 1)) : gz_V l D α cA own cc ret nL d Q I L (.ref a :: st) pc := by
  intro p e R s m args below meth c A H locs ls cells slots QQ C hP hS hl hQ
  exact lv_astore_n C.1 C.2.1 hd rfl hl.has (Nat.le_of_ble_eq_true hi2) rfl (fun ls' hl' => (k p e R s m args below meth c A H locs ls' cells slots QQ C hP hS (gz_L.set hn (Nat.le_of_ble_eq_true hi) hl') hQ))
theorem gz_astore {j : Nat} {a : Nat} (hd : decode cc pc = .ok (.astore j, 2)) (hn : gz_nl L j = true) (hi : Nat.ble (j + 1) L.length = true) (hi2 : Nat.ble (j + 1) nL = true) (k : gz_V l D α cA own cc ret nL d Q I (L.set j (some (.ref a))) st (pc + 2)) : gz_V l D α cA own cc ret nL d Q I L (.ref a :: st) pc := by
  intro p e R s m args below meth c A H locs ls cells slots QQ C hP hS hl hQ
  exact lv_astore C.1 C.2.1 hd hl.has (Nat.le_of_ble_eq_true hi2) rfl (fun ls' hl' => (k p e R s m args below meth c A H locs ls' cells slots QQ C hP hS (gz_L.set hn (Nat.le_of_ble_eq_true hi) hl') hQ))
theorem gz_aload_nN {j : Fin 4}  (hd : decode cc pc = .ok (.aload_n j, 1)) (hL : L[(j : Nat)]? = some (some (.null))) (k : gz_V l D α cA own cc ret nL d Q I L (.null :: st) (pc + 1)) : gz_V l D α cA own cc ret nL d Q I L st pc := by
  intro p e R s m args below meth c A H locs ls cells slots QQ C hP hS hl hQ
  exact lv_aload_nN C.1 C.2.1 hd rfl (hl.2.2 _ _ hL) (k p e R s m args below meth c A H locs ls cells slots QQ C hP hS hl hQ)
theorem gz_aloadN {j : Nat}  (hd : decode cc pc = .ok (.aload j, 2)) (hL : L[j]? = some (some (.null))) (k : gz_V l D α cA own cc ret nL d Q I L (.null :: st) (pc + 2)) : gz_V l D α cA own cc ret nL d Q I L st pc := by
  intro p e R s m args below meth c A H locs ls cells slots QQ C hP hS hl hQ
  exact lv_aloadN C.1 C.2.1 hd (hl.2.2 _ _ hL) (k p e R s m args below meth c A H locs ls cells slots QQ C hP hS hl hQ)
theorem gz_astore_nN {j : Fin 4}  (hd : decode cc pc = .ok (.astore_n j, 1)) (hn : gz_nl L j = true) (hi : Nat.ble (j.val + 1) L.length = true) (hi2 : Nat.ble (j.val + 1) nL = true) (k : gz_V l D α cA own cc ret nL d Q I (L.set j (some (.null))) st (pc + 1)) : gz_V l D α cA own cc ret nL d Q I L (.null :: st) pc := by
  intro p e R s m args below meth c A H locs ls cells slots QQ C hP hS hl hQ
  exact lv_astore_nN C.1 C.2.1 hd rfl hl.has (Nat.le_of_ble_eq_true hi2) rfl (fun ls' hl' => (k p e R s m args below meth c A H locs ls' cells slots QQ C hP hS (gz_L.set hn (Nat.le_of_ble_eq_true hi) hl') hQ))
theorem gz_astoreN {j : Nat}  (hd : decode cc pc = .ok (.astore j, 2)) (hn : gz_nl L j = true) (hi : Nat.ble (j + 1) L.length = true) (hi2 : Nat.ble (j + 1) nL = true) (k : gz_V l D α cA own cc ret nL d Q I (L.set j (some (.null))) st (pc + 2)) : gz_V l D α cA own cc ret nL d Q I L (.null :: st) pc := by
  intro p e R s m args below meth c A H locs ls cells slots QQ C hP hS hl hQ
  exact lv_astoreN C.1 C.2.1 hd hl.has (Nat.le_of_ble_eq_true hi2) rfl (fun ls' hl' => (k p e R s m args below meth c A H locs ls' cells slots QQ C hP hS (gz_L.set hn (Nat.le_of_ble_eq_true hi) hl') hQ))
theorem gz_lload {j : Nat} {a : Int64} (hd : decode cc pc = .ok (.lload j, 2)) (hL : L[j]? = some (some (.long a))) (k : gz_V l D α cA own cc ret nL d Q I L (.long a :: st) (pc + 2)) : gz_V l D α cA own cc ret nL d Q I L st pc := by
  intro p e R s m args below meth c A H locs ls cells slots QQ C hP hS hl hQ
  exact lv_lload C.1 C.2.1 hd (hl.2.2 _ _ hL) (k p e R s m args below meth c A H locs ls cells slots QQ C hP hS hl hQ)
theorem gz_iinc {j : Nat} {n a : Int} (hd : decode cc pc = .ok (.iinc j n, 3)) (hL : L[j]? = some (some (gz_i a))) (hn : gz_nl L j = true) (hi : Nat.ble (j + 1) L.length = true) (hi2 : Nat.ble (j + 1) nL = true) (k : gz_V l D α cA own cc ret nL d Q I (L.set j (some (gz_i (a + n)))) st (pc + 3)) : gz_V l D α cA own cc ret nL d Q I L st pc := by
  intro p e R s m args below meth c A H locs ls cells slots QQ C hP hS hl hQ
  obtain ⟨q, hq⟩ := List.getElem?_of_mem (gz_as_mem.mpr hL)
  exact lv_iinc (k := q) (v := Int32.ofInt (a + n)) C.1 C.2.1 hd hl.has hq (by rw [Int32.ofInt_add]) (Nat.le_of_ble_eq_true hi2) rfl (fun ls' hl' => (k p e R s m args below meth c A H locs ls' cells slots QQ C hP hS (gz_L.set hn (Nat.le_of_ble_eq_true hi) hl') hQ))
theorem gz_iadd {a b : Int} (hd : decode cc pc = .ok (.iadd, 1)) (k : gz_V l D α cA own cc ret nL d Q I L (gz_i (a + b) :: st) (pc + 1)) : gz_V l D α cA own cc ret nL d Q I L (gz_i b :: gz_i a :: st) pc := by
  intro p e R s m args below meth c A H locs ls cells slots QQ C hP hS hl hQ
  exact lv_iadd C.1 C.2.1 hd (by rw [← Int32.ofInt_add]; exact (k p e R s m args below meth c A H locs ls cells slots QQ C hP hS hl hQ))
theorem gz_isub {a b : Int} (hd : decode cc pc = .ok (.isub, 1)) (k : gz_V l D α cA own cc ret nL d Q I L (gz_i (a - b) :: st) (pc + 1)) : gz_V l D α cA own cc ret nL d Q I L (gz_i b :: gz_i a :: st) pc := by
  intro p e R s m args below meth c A H locs ls cells slots QQ C hP hS hl hQ
  exact lv_isub C.1 C.2.1 hd (by rw [← Int32.ofInt_sub]; exact (k p e R s m args below meth c A H locs ls cells slots QQ C hP hS hl hQ))
theorem gz_imul {a b : Int} (hd : decode cc pc = .ok (.imul, 1)) (k : gz_V l D α cA own cc ret nL d Q I L (gz_i (a * b) :: st) (pc + 1)) : gz_V l D α cA own cc ret nL d Q I L (gz_i b :: gz_i a :: st) pc := by
  intro p e R s m args below meth c A H locs ls cells slots QQ C hP hS hl hQ
  exact lv_imul C.1 C.2.1 hd (by rw [← Int32.ofInt_mul]; exact (k p e R s m args below meth c A H locs ls cells slots QQ C hP hS hl hQ))
theorem gz_dv {a b : Int} (ra : 0 ≤ a ∧ a ≤ 2147483647) (rb : 0 < b ∧ b ≤ 2147483647) : Int32.ofInt a / Int32.ofInt b = Int32.ofInt (a / b) := by
  have h0 : 0 ≤ a / b := Int.ediv_nonneg ra.1 (by omega)
  have h1 : a / b ≤ a := Int.ediv_le_self b ra.1
  rw [← Int32.toInt_inj, Int32.toInt_div_of_ne_left, gz_ti ⟨by omega, ra.2⟩, gz_ti ⟨by omega, rb.2⟩, gz_ti ⟨by omega, by omega⟩, Int.tdiv_eq_ediv_of_nonneg ra.1]
  intro h
  have := congrArg Int32.toInt h
  rw [gz_ti ⟨by omega, ra.2⟩] at this
  have h3 : Int32.minValue.toInt = -2147483648 := by decide
  omega
theorem gz_md {a b : Int} (ra : 0 ≤ a ∧ a ≤ 2147483647) (rb : 0 < b ∧ b ≤ 2147483647) : Int32.ofInt a - Int32.ofInt a / Int32.ofInt b * Int32.ofInt b = Int32.ofInt (a % b) := by
  rw [gz_dv ra rb, ← Int32.ofInt_mul, ← Int32.ofInt_sub]
  congr 1
  have := Int.emod_add_mul_ediv a b
  rw [Int.mul_comm (a / b) b]
  omega
theorem gz_nz {b : Int} (rb : 0 < b ∧ b ≤ 2147483647) : ¬ Int32.ofInt b = 0 := by
  rw [gz_z0, gz_ceq ⟨by omega, rb.2⟩ gz_r0]
  omega
theorem gz_an (a : Int) : Int32.ofInt a &&& Int32.ofInt 255 = Int32.ofInt (a % 256) := by
  apply Int32.toBitVec.inj
  rw [Int32.toBitVec_and, Int32.toBitVec_ofInt, Int32.toBitVec_ofInt, Int32.toBitVec_ofInt]
  apply BitVec.eq_of_toNat_eq
  rw [BitVec.toNat_and, BitVec.toNat_ofInt, BitVec.toNat_ofInt, BitVec.toNat_ofInt]
  have e : (((255 : Int) % ((2 ^ 32 : Nat) : Int)).toNat) = 2 ^ 8 - 1 := by decide
  rw [e, Nat.and_two_pow_sub_one_eq_mod]
  omega
theorem gz_idiv {a b : Int} (hd : decode cc pc = .ok (.idiv, 1)) (ra : 0 ≤ a ∧ a ≤ 2147483647) (rb : 0 < b ∧ b ≤ 2147483647) (k : gz_V l D α cA own cc ret nL d Q I L (gz_i (a / b) :: st) (pc + 1)) : gz_V l D α cA own cc ret nL d Q I L (gz_i b :: gz_i a :: st) pc := by
  intro p e R s m args below meth c A H locs ls cells slots QQ C hP hS hl hQ
  exact lv_idiv C.1 C.2.1 hd (gz_nz rb) (by rw [gz_dv ra rb]; exact (k p e R s m args below meth c A H locs ls cells slots QQ C hP hS hl hQ))
theorem gz_irem {a b : Int} (hd : decode cc pc = .ok (.irem, 1)) (ra : 0 ≤ a ∧ a ≤ 2147483647) (rb : 0 < b ∧ b ≤ 2147483647) (k : gz_V l D α cA own cc ret nL d Q I L (gz_i (a % b) :: st) (pc + 1)) : gz_V l D α cA own cc ret nL d Q I L (gz_i b :: gz_i a :: st) pc := by
  intro p e R s m args below meth c A H locs ls cells slots QQ C hP hS hl hQ
  exact lv_irem C.1 C.2.1 hd (gz_nz rb) (by rw [gz_md ra rb]; exact (k p e R s m args below meth c A H locs ls cells slots QQ C hP hS hl hQ))
theorem gz_iand {a : Int} (hd : decode cc pc = .ok (.iand, 1)) (k : gz_V l D α cA own cc ret nL d Q I L (gz_i (a % 256) :: st) (pc + 1)) : gz_V l D α cA own cc ret nL d Q I L (gz_i 255 :: gz_i a :: st) pc := by
  intro p e R s m args below meth c A H locs ls cells slots QQ C hP hS hl hQ
  exact lv_iand C.1 C.2.1 hd (by rw [gz_an]; exact (k p e R s m args below meth c A H locs ls cells slots QQ C hP hS hl hQ))
def gz_x (a b : Int) : Int := (Int32.ofInt a ^^^ Int32.ofInt b).toInt
theorem gz_ixor {a b : Int} (hd : decode cc pc = .ok (.ixor, 1)) (k : gz_V l D α cA own cc ret nL d Q I L (gz_i (gz_x a b) :: st) (pc + 1)) : gz_V l D α cA own cc ret nL d Q I L (gz_i b :: gz_i a :: st) pc := by
  intro p e R s m args below meth c A H locs ls cells slots QQ C hP hS hl hQ
  exact lv_ixor C.1 C.2.1 hd (by have h := (k p e R s m args below meth c A H locs ls cells slots QQ C hP hS hl hQ); unfold gz_x gz_i at h; rw [Int32.ofInt_toInt] at h; exact h)
theorem gz_dup {v : Value} (hd : decode cc pc = .ok (.dup, 1)) (hv : v.category = 1) (k : gz_V l D α cA own cc ret nL d Q I L (v :: v :: st) (pc + 1)) : gz_V l D α cA own cc ret nL d Q I L (v :: st) pc := by
  intro p e R s m args below meth c A H locs ls cells slots QQ C hP hS hl hQ
  exact lv_dup C.1 C.2.1 hd hv (k p e R s m args below meth c A H locs ls cells slots QQ C hP hS hl hQ)
theorem gz_dup2 {v w : Value} (hd : decode cc pc = .ok (.dup2, 1)) (hv : v.category = 1) (hw : w.category = 1) (k : gz_V l D α cA own cc ret nL d Q I L (v :: w :: v :: w :: st) (pc + 1)) : gz_V l D α cA own cc ret nL d Q I L (v :: w :: st) pc := by
  intro p e R s m args below meth c A H locs ls cells slots QQ C hP hS hl hQ
  exact lv_dup2_11 C.1 C.2.1 hd hv hw (k p e R s m args below meth c A H locs ls cells slots QQ C hP hS hl hQ)
theorem gz_null  (hd : decode cc pc = .ok (.aconst_null, 1)) (k : gz_V l D α cA own cc ret nL d Q I L (.null :: st) (pc + 1)) : gz_V l D α cA own cc ret nL d Q I L st pc := by
  intro p e R s m args below meth c A H locs ls cells slots QQ C hP hS hl hQ
  exact lv_null C.1 C.2.1 hd (k p e R s m args below meth c A H locs ls cells slots QQ C hP hS hl hQ)
theorem gz_goto {off : Int} {tgt : Nat} (hd : decode cc pc = .ok (.goto off, 3)) (ht : (pc : Int) + off = (tgt : Int)) (k : gz_V l D α cA own cc ret nL d Q I L st tgt) : gz_V l D α cA own cc ret nL d Q I L st pc := by
  intro p e R s m args below meth c A H locs ls cells slots QQ C hP hS hl hQ
  exact lv_goto C.1 C.2.1 hd ht (k p e R s m args below meth c A H locs ls cells slots QQ C hP hS hl hQ)
theorem gz_ifnull {off : Int} {x : Nat} (hd : decode cc pc = .ok (.ifnull off, 3)) (k : gz_V l D α cA own cc ret nL d Q I L st (pc + 3)) : gz_V l D α cA own cc ret nL d Q I L (.ref x :: st) pc := by
  intro p e R s m args below meth c A H locs ls cells slots QQ C hP hS hl hQ
  exact lv_ifnull C.1 C.2.1 hd (k p e R s m args below meth c A H locs ls cells slots QQ C hP hS hl hQ)
theorem gz_ifnullN {off : Int} {tgt : Nat} (hd : decode cc pc = .ok (.ifnull off, 3)) (ht : (pc : Int) + off = (tgt : Int)) (k : gz_V l D α cA own cc ret nL d Q I L st tgt) : gz_V l D α cA own cc ret nL d Q I L (.null :: st) pc := by
  intro p e R s m args below meth c A H locs ls cells slots QQ C hP hS hl hQ
  exact lv_ifnullN C.1 C.2.1 hd ht (k p e R s m args below meth c A H locs ls cells slots QQ C hP hS hl hQ)
theorem gz_ifnonnull {off : Int} {tgt : Nat} {x : Nat} (hd : decode cc pc = .ok (.ifnonnull off, 3)) (ht : (pc : Int) + off = (tgt : Int)) (k : gz_V l D α cA own cc ret nL d Q I L st tgt) : gz_V l D α cA own cc ret nL d Q I L (.ref x :: st) pc := by
  intro p e R s m args below meth c A H locs ls cells slots QQ C hP hS hl hQ
  exact lv_ifnonnull C.1 C.2.1 hd ht (k p e R s m args below meth c A H locs ls cells slots QQ C hP hS hl hQ)
theorem gz_ifnonnullN {off : Int} (hd : decode cc pc = .ok (.ifnonnull off, 3)) (k : gz_V l D α cA own cc ret nL d Q I L st (pc + 3)) : gz_V l D α cA own cc ret nL d Q I L (.null :: st) pc := by
  intro p e R s m args below meth c A H locs ls cells slots QQ C hP hS hl hQ
  exact lv_ifnonnullN C.1 C.2.1 hd (k p e R s m args below meth c A H locs ls cells slots QQ C hP hS hl hQ)
theorem gz_i2l {a : Int} (hd : decode cc pc = .ok (.i2l, 1)) (k : gz_V l D α cA own cc ret nL d Q I L (.long (Int32.ofInt a).toInt64 :: st) (pc + 1)) : gz_V l D α cA own cc ret nL d Q I L (gz_i a :: st) pc := by
  intro p e R s m args below meth c A H locs ls cells slots QQ C hP hS hl hQ
  exact lv_i2l C.1 C.2.1 hd rfl (k p e R s m args below meth c A H locs ls cells slots QQ C hP hS hl hQ)
theorem gz_l2i {x : Int64} (hd : decode cc pc = .ok (.l2i, 1)) (k : gz_V l D α cA own cc ret nL d Q I L (gz_i x.toInt32.toInt :: st) (pc + 1)) : gz_V l D α cA own cc ret nL d Q I L (.long x :: st) pc := by
  intro p e R s m args below meth c A H locs ls cells slots QQ C hP hS hl hQ
  exact lv_l2i C.1 C.2.1 hd rfl (by have h := (k p e R s m args below meth c A H locs ls cells slots QQ C hP hS hl hQ); unfold gz_i at h; rw [Int32.ofInt_toInt] at h; exact h)
theorem gz_lshl {x : Int64} {a : Int} (hd : decode cc pc = .ok (.lshl, 1)) (k : gz_V l D α cA own cc ret nL d Q I L (.long (x <<< ((Int32.ofInt a).toInt64 &&& 63)) :: st) (pc + 1)) : gz_V l D α cA own cc ret nL d Q I L (gz_i a :: .long x :: st) pc := by
  intro p e R s m args below meth c A H locs ls cells slots QQ C hP hS hl hQ
  exact lv_lshl C.1 C.2.1 hd rfl (k p e R s m args below meth c A H locs ls cells slots QQ C hP hS hl hQ)
theorem gz_lushr {x : Int64} {a : Int} (hd : decode cc pc = .ok (.lushr, 1)) (k : gz_V l D α cA own cc ret nL d Q I L (.long ((x.toUInt64 >>> ((Int32.ofInt a).toInt64.toUInt64 &&& Int64.toUInt64 63)).toInt64) :: st) (pc + 1)) : gz_V l D α cA own cc ret nL d Q I L (gz_i a :: .long x :: st) pc := by
  intro p e R s m args below meth c A H locs ls cells slots QQ C hP hS hl hQ
  exact lv_lushr C.1 C.2.1 hd rfl (k p e R s m args below meth c A H locs ls cells slots QQ C hP hS hl hQ)
theorem gz_land {x y : Int64} (hd : decode cc pc = .ok (.land, 1)) (k : gz_V l D α cA own cc ret nL d Q I L (.long (x &&& y) :: st) (pc + 1)) : gz_V l D α cA own cc ret nL d Q I L (.long y :: .long x :: st) pc := by
  intro p e R s m args below meth c A H locs ls cells slots QQ C hP hS hl hQ
  exact lv_land C.1 C.2.1 hd (k p e R s m args below meth c A H locs ls cells slots QQ C hP hS hl hQ)
theorem gz_lor {x y : Int64} (hd : decode cc pc = .ok (.lor, 1)) (k : gz_V l D α cA own cc ret nL d Q I L (.long (x ||| y) :: st) (pc + 1)) : gz_V l D α cA own cc ret nL d Q I L (.long y :: .long x :: st) pc := by
  intro p e R s m args below meth c A H locs ls cells slots QQ C hP hS hl hQ
  exact lv_lor C.1 C.2.1 hd (k p e R s m args below meth c A H locs ls cells slots QQ C hP hS hl hQ)
theorem gz_ldc2 {idx : Nat} {v : Int64} (hd : decode cc pc = .ok (.ldc2_w idx, 3)) (hw : Cond.constantLong own idx v ∈ gz_ts) (k : gz_V l D α cA own cc ret nL d Q I L (.long v :: st) (pc + 3)) : gz_V l D α cA own cc ret nL d Q I L st pc := by
  intro p e R s m args below meth c A H locs ls cells slots QQ C hP hS hl hQ
  exact lv_ldc2 C.1 C.2.1 C.2.2.2.2.1 (C.2.2.2.2.2.1 _ hw) hd (k p e R s m args below meth c A H locs ls cells slots QQ C hP hS hl hQ)
theorem gz_icmp_lt {off : Int} {tgt : Nat} {a b : Int} (hd : decode cc pc = .ok (.if_icmp .lt off, 3)) (ht : (pc : Int) + off = (tgt : Int)) (ra : -2147483648 ≤ a ∧ a ≤ 2147483647) (rb : -2147483648 ≤ b ∧ b ≤ 2147483647) (kt : a < b → gz_V l D α cA own cc ret nL d Q I L st tgt) (kf : b ≤ a → gz_V l D α cA own cc ret nL d Q I L st (pc + 3)) : gz_V l D α cA own cc ret nL d Q I L (gz_i b :: gz_i a :: st) pc := by
  intro p e R s m args below meth c A H locs ls cells slots QQ C hP hS hl hQ
  exact lv_icmp_lt C.1 C.2.1 hd ht (fun h => kt ((gz_clt ra rb).mp h) p e R s m args below meth c A H locs ls cells slots QQ C hP hS hl hQ) (fun h => kf (Int.not_lt.mp (fun q => h ((gz_clt ra rb).mpr q))) p e R s m args below meth c A H locs ls cells slots QQ C hP hS hl hQ)
theorem gz_if_lt {off : Int} {tgt : Nat} {a : Int} (hd : decode cc pc = .ok (.ifCond .lt off, 3)) (ht : (pc : Int) + off = (tgt : Int)) (ra : -2147483648 ≤ a ∧ a ≤ 2147483647) (kt : a < 0 → gz_V l D α cA own cc ret nL d Q I L st tgt) (kf : 0 ≤ a → gz_V l D α cA own cc ret nL d Q I L st (pc + 3)) : gz_V l D α cA own cc ret nL d Q I L (gz_i a :: st) pc := by
  intro p e R s m args below meth c A H locs ls cells slots QQ C hP hS hl hQ
  exact lv_if_lt C.1 C.2.1 hd ht (fun h => kt ((gz_clt ra gz_r0).mp h) p e R s m args below meth c A H locs ls cells slots QQ C hP hS hl hQ) (fun h => kf (Int.not_lt.mp (fun q => h ((gz_clt ra gz_r0).mpr q))) p e R s m args below meth c A H locs ls cells slots QQ C hP hS hl hQ)
theorem gz_icmp_ge {off : Int} {tgt : Nat} {a b : Int} (hd : decode cc pc = .ok (.if_icmp .ge off, 3)) (ht : (pc : Int) + off = (tgt : Int)) (ra : -2147483648 ≤ a ∧ a ≤ 2147483647) (rb : -2147483648 ≤ b ∧ b ≤ 2147483647) (kt : b ≤ a → gz_V l D α cA own cc ret nL d Q I L st tgt) (kf : a < b → gz_V l D α cA own cc ret nL d Q I L st (pc + 3)) : gz_V l D α cA own cc ret nL d Q I L (gz_i b :: gz_i a :: st) pc := by
  intro p e R s m args below meth c A H locs ls cells slots QQ C hP hS hl hQ
  exact lv_icmp_ge C.1 C.2.1 hd ht (fun h => kt ((gz_cle rb ra).mp h) p e R s m args below meth c A H locs ls cells slots QQ C hP hS hl hQ) (fun h => kf (Int.not_le.mp (fun q => h ((gz_cle rb ra).mpr q))) p e R s m args below meth c A H locs ls cells slots QQ C hP hS hl hQ)
theorem gz_if_ge {off : Int} {tgt : Nat} {a : Int} (hd : decode cc pc = .ok (.ifCond .ge off, 3)) (ht : (pc : Int) + off = (tgt : Int)) (ra : -2147483648 ≤ a ∧ a ≤ 2147483647) (kt : 0 ≤ a → gz_V l D α cA own cc ret nL d Q I L st tgt) (kf : a < 0 → gz_V l D α cA own cc ret nL d Q I L st (pc + 3)) : gz_V l D α cA own cc ret nL d Q I L (gz_i a :: st) pc := by
  intro p e R s m args below meth c A H locs ls cells slots QQ C hP hS hl hQ
  exact lv_if_ge C.1 C.2.1 hd ht (fun h => kt ((gz_cle gz_r0 ra).mp h) p e R s m args below meth c A H locs ls cells slots QQ C hP hS hl hQ) (fun h => kf (Int.not_le.mp (fun q => h ((gz_cle gz_r0 ra).mpr q))) p e R s m args below meth c A H locs ls cells slots QQ C hP hS hl hQ)
theorem gz_icmp_gt {off : Int} {tgt : Nat} {a b : Int} (hd : decode cc pc = .ok (.if_icmp .gt off, 3)) (ht : (pc : Int) + off = (tgt : Int)) (ra : -2147483648 ≤ a ∧ a ≤ 2147483647) (rb : -2147483648 ≤ b ∧ b ≤ 2147483647) (kt : b < a → gz_V l D α cA own cc ret nL d Q I L st tgt) (kf : a ≤ b → gz_V l D α cA own cc ret nL d Q I L st (pc + 3)) : gz_V l D α cA own cc ret nL d Q I L (gz_i b :: gz_i a :: st) pc := by
  intro p e R s m args below meth c A H locs ls cells slots QQ C hP hS hl hQ
  exact lv_icmp_gt C.1 C.2.1 hd ht (fun h => kt ((gz_clt rb ra).mp h) p e R s m args below meth c A H locs ls cells slots QQ C hP hS hl hQ) (fun h => kf (Int.not_lt.mp (fun q => h ((gz_clt rb ra).mpr q))) p e R s m args below meth c A H locs ls cells slots QQ C hP hS hl hQ)
theorem gz_if_gt {off : Int} {tgt : Nat} {a : Int} (hd : decode cc pc = .ok (.ifCond .gt off, 3)) (ht : (pc : Int) + off = (tgt : Int)) (ra : -2147483648 ≤ a ∧ a ≤ 2147483647) (kt : 0 < a → gz_V l D α cA own cc ret nL d Q I L st tgt) (kf : a ≤ 0 → gz_V l D α cA own cc ret nL d Q I L st (pc + 3)) : gz_V l D α cA own cc ret nL d Q I L (gz_i a :: st) pc := by
  intro p e R s m args below meth c A H locs ls cells slots QQ C hP hS hl hQ
  exact lv_if_gt C.1 C.2.1 hd ht (fun h => kt ((gz_clt gz_r0 ra).mp h) p e R s m args below meth c A H locs ls cells slots QQ C hP hS hl hQ) (fun h => kf (Int.not_lt.mp (fun q => h ((gz_clt gz_r0 ra).mpr q))) p e R s m args below meth c A H locs ls cells slots QQ C hP hS hl hQ)
theorem gz_icmp_le {off : Int} {tgt : Nat} {a b : Int} (hd : decode cc pc = .ok (.if_icmp .le off, 3)) (ht : (pc : Int) + off = (tgt : Int)) (ra : -2147483648 ≤ a ∧ a ≤ 2147483647) (rb : -2147483648 ≤ b ∧ b ≤ 2147483647) (kt : a ≤ b → gz_V l D α cA own cc ret nL d Q I L st tgt) (kf : b < a → gz_V l D α cA own cc ret nL d Q I L st (pc + 3)) : gz_V l D α cA own cc ret nL d Q I L (gz_i b :: gz_i a :: st) pc := by
  intro p e R s m args below meth c A H locs ls cells slots QQ C hP hS hl hQ
  exact lv_icmp_le C.1 C.2.1 hd ht (fun h => kt ((gz_cle ra rb).mp h) p e R s m args below meth c A H locs ls cells slots QQ C hP hS hl hQ) (fun h => kf (Int.not_le.mp (fun q => h ((gz_cle ra rb).mpr q))) p e R s m args below meth c A H locs ls cells slots QQ C hP hS hl hQ)
theorem gz_if_le {off : Int} {tgt : Nat} {a : Int} (hd : decode cc pc = .ok (.ifCond .le off, 3)) (ht : (pc : Int) + off = (tgt : Int)) (ra : -2147483648 ≤ a ∧ a ≤ 2147483647) (kt : a ≤ 0 → gz_V l D α cA own cc ret nL d Q I L st tgt) (kf : 0 < a → gz_V l D α cA own cc ret nL d Q I L st (pc + 3)) : gz_V l D α cA own cc ret nL d Q I L (gz_i a :: st) pc := by
  intro p e R s m args below meth c A H locs ls cells slots QQ C hP hS hl hQ
  exact lv_if_le C.1 C.2.1 hd ht (fun h => kt ((gz_cle ra gz_r0).mp h) p e R s m args below meth c A H locs ls cells slots QQ C hP hS hl hQ) (fun h => kf (Int.not_le.mp (fun q => h ((gz_cle ra gz_r0).mpr q))) p e R s m args below meth c A H locs ls cells slots QQ C hP hS hl hQ)
theorem gz_icmp_eq {off : Int} {tgt : Nat} {a b : Int} (hd : decode cc pc = .ok (.if_icmp .eq off, 3)) (ht : (pc : Int) + off = (tgt : Int)) (ra : -2147483648 ≤ a ∧ a ≤ 2147483647) (rb : -2147483648 ≤ b ∧ b ≤ 2147483647) (kt : a = b → gz_V l D α cA own cc ret nL d Q I L st tgt) (kf : ¬ a = b → gz_V l D α cA own cc ret nL d Q I L st (pc + 3)) : gz_V l D α cA own cc ret nL d Q I L (gz_i b :: gz_i a :: st) pc := by
  intro p e R s m args below meth c A H locs ls cells slots QQ C hP hS hl hQ
  exact lv_icmp_eq C.1 C.2.1 hd ht (fun h => kt ((gz_ceq ra rb).mp h) p e R s m args below meth c A H locs ls cells slots QQ C hP hS hl hQ) (fun h => kf (fun q => h ((gz_ceq ra rb).mpr q)) p e R s m args below meth c A H locs ls cells slots QQ C hP hS hl hQ)
theorem gz_if_eq {off : Int} {tgt : Nat} {a : Int} (hd : decode cc pc = .ok (.ifCond .eq off, 3)) (ht : (pc : Int) + off = (tgt : Int)) (ra : -2147483648 ≤ a ∧ a ≤ 2147483647) (kt : a = 0 → gz_V l D α cA own cc ret nL d Q I L st tgt) (kf : ¬ a = 0 → gz_V l D α cA own cc ret nL d Q I L st (pc + 3)) : gz_V l D α cA own cc ret nL d Q I L (gz_i a :: st) pc := by
  intro p e R s m args below meth c A H locs ls cells slots QQ C hP hS hl hQ
  exact lv_if_eq C.1 C.2.1 hd ht (fun h => kt ((gz_ceq ra gz_r0).mp h) p e R s m args below meth c A H locs ls cells slots QQ C hP hS hl hQ) (fun h => kf (fun q => h ((gz_ceq ra gz_r0).mpr q)) p e R s m args below meth c A H locs ls cells slots QQ C hP hS hl hQ)
theorem gz_icmp_ne {off : Int} {tgt : Nat} {a b : Int} (hd : decode cc pc = .ok (.if_icmp .ne off, 3)) (ht : (pc : Int) + off = (tgt : Int)) (ra : -2147483648 ≤ a ∧ a ≤ 2147483647) (rb : -2147483648 ≤ b ∧ b ≤ 2147483647) (kt : ¬ a = b → gz_V l D α cA own cc ret nL d Q I L st tgt) (kf : a = b → gz_V l D α cA own cc ret nL d Q I L st (pc + 3)) : gz_V l D α cA own cc ret nL d Q I L (gz_i b :: gz_i a :: st) pc := by
  intro p e R s m args below meth c A H locs ls cells slots QQ C hP hS hl hQ
  exact lv_icmp_ne C.1 C.2.1 hd ht (fun h => kt (fun q => h ((gz_ceq ra rb).mpr q)) p e R s m args below meth c A H locs ls cells slots QQ C hP hS hl hQ) (fun h => kf ((gz_ceq ra rb).mp h) p e R s m args below meth c A H locs ls cells slots QQ C hP hS hl hQ)
theorem gz_if_ne {off : Int} {tgt : Nat} {a : Int} (hd : decode cc pc = .ok (.ifCond .ne off, 3)) (ht : (pc : Int) + off = (tgt : Int)) (ra : -2147483648 ≤ a ∧ a ≤ 2147483647) (kt : ¬ a = 0 → gz_V l D α cA own cc ret nL d Q I L st tgt) (kf : a = 0 → gz_V l D α cA own cc ret nL d Q I L st (pc + 3)) : gz_V l D α cA own cc ret nL d Q I L (gz_i a :: st) pc := by
  intro p e R s m args below meth c A H locs ls cells slots QQ C hP hS hl hQ
  exact lv_if_ne C.1 C.2.1 hd ht (fun h => kt (fun q => h ((gz_ceq ra gz_r0).mpr q)) p e R s m args below meth c A H locs ls cells slots QQ C hP hS hl hQ) (fun h => kf ((gz_ceq ra gz_r0).mp h) p e R s m args below meth c A H locs ls cells slots QQ C hP hS hl hQ)
theorem gz_swOut {dflt lo hi : Int} {offs : Array Int} {len : Nat} {a : Int} {tgt : Nat} (hd : decode cc pc = .ok (.tableswitch dflt lo hi offs, len)) (ht : (pc : Int) + dflt = (tgt : Int)) (ra : -2147483648 ≤ a ∧ a ≤ 2147483647) (h : a < lo ∨ hi < a) (k : gz_V l D α cA own cc ret nL d Q I L st tgt) : gz_V l D α cA own cc ret nL d Q I L (gz_i a :: st) pc := by
  intro p e R s m args below meth c A H locs ls cells slots QQ C hP hS hl hQ
  exact lv_tableOut C.1 C.2.1 hd (by rw [gz_ti ra]; exact h) ht (k p e R s m args below meth c A H locs ls cells slots QQ C hP hS hl hQ)
theorem gz_swIn {dflt lo hi : Int} {offs : Array Int} {len : Nat} {a : Int} {off : Int} {tgt : Nat} (hd : decode cc pc = .ok (.tableswitch dflt lo hi offs, len)) (b : Int) (e : a = b) (rb : -2147483648 ≤ b ∧ b ≤ 2147483647) (h1 : ¬ b < lo) (h2 : ¬ hi < b) (ho : offs[(b - lo).toNat]? = some off) (ht : (pc : Int) + off = (tgt : Int)) (k : gz_V l D α cA own cc ret nL d Q I L st tgt) : gz_V l D α cA own cc ret nL d Q I L (gz_i a :: st) pc := by
  subst e
  intro p e R s m args below meth c A H locs ls cells slots QQ C hP hS hl hQ
  exact lv_tableIn C.1 C.2.1 hd (by rw [gz_ti rb]; exact h1) (by rw [gz_ti rb]; exact h2) (by rw [gz_ti rb]; exact ho) ht (k p e R s m args below meth c A H locs ls cells slots QQ C hP hS hl hQ)
def gz_Qi (P : Int → gz_M → Prop) : Option Value → gz_M → Prop := fun r I' => ∃ x : Int, r = some (gz_i x) ∧ P x I'
def gz_Qv (P : gz_M → Prop) : Option Value → gz_M → Prop := fun r I' => r = none ∧ P I'
def gz_Qr (P : Value → gz_M → Prop) : Option Value → gz_M → Prop := fun r I' => ∃ v : Value, r = some v ∧ P v I'
theorem gz_iret {P : Int → gz_M → Prop} {a : Int} (hd : decode cc pc = .ok (.ireturn, 1)) (hr : ret = some .int) (h : P a I) : gz_V l D α cA own cc ret nL d (gz_Qi P) I L [gz_i a] pc := by
  intro p e R s m args below meth c A H locs ls cells slots QQ C hP hS hl hQ
  exact hQ (some (gz_i a)) I H locs ls pc ⟨a, rfl, h⟩ hP hS (Or.inl ⟨hr, hd, _, rfl⟩)
theorem gz_zret {P : Int → gz_M → Prop} {a : Int} (hd : decode cc pc = .ok (.ireturn, 1)) (hr : ret = some .boolean) (hz : a = 0 ∨ a = 1) (h : P a I) : gz_V l D α cA own cc ret nL d (gz_Qi P) I L [gz_i a] pc := by
  intro p e R s m args below meth c A H locs ls cells slots QQ C hP hS hl hQ
  refine hQ (some (gz_i a)) I H locs ls pc ⟨a, rfl, h⟩ hP hS (Or.inr (Or.inl ⟨hr, hd, _, rfl, ?_⟩))
  rcases hz with rfl | rfl <;> rfl
theorem gz_vret {P : gz_M → Prop} (hd : decode cc pc = .ok (.return_, 1)) (hr : ret = none) (h : P I) : gz_V l D α cA own cc ret nL d (gz_Qv P) I L [] pc := by
  intro p e R s m args below meth c A H locs ls cells slots QQ C hP hS hl hQ
  exact hQ none I H locs ls pc ⟨rfl, h⟩ hP hS (Or.inr (Or.inr (Or.inr ⟨hr, hd, rfl⟩)))
theorem gz_aret {P : Value → gz_M → Prop} {a : Nat} {n : String} (hd : decode cc pc = .ok (.areturn, 1)) (hr : ret = some (.object n)) (h : P (.ref a) I) : gz_V l D α cA own cc ret nL d (gz_Qr P) I L [.ref a] pc := by
  intro p e R s m args below meth c A H locs ls cells slots QQ C hP hS hl hQ
  exact hQ (some (.ref a)) I H locs ls pc ⟨_, rfl, h⟩ hP hS (Or.inr (Or.inr (Or.inl ⟨⟨n, hr⟩, hd, _, rfl, Or.inr ⟨_, rfl⟩⟩)))
theorem gz_aretN {P : Value → gz_M → Prop} {n : String} (hd : decode cc pc = .ok (.areturn, 1)) (hr : ret = some (.object n)) (h : P .null I) : gz_V l D α cA own cc ret nL d (gz_Qr P) I L [.null] pc := by
  intro p e R s m args below meth c A H locs ls cells slots QQ C hP hS hl hQ
  exact hQ (some .null) I H locs ls pc ⟨_, rfl, h⟩ hP hS (Or.inr (Or.inr (Or.inl ⟨⟨n, hr⟩, hd, _, rfl, Or.inl rfl⟩)))
theorem gz_w {Q2 : Option Value → gz_M → Prop} (hq : ∀ r I', Q2 r I' → Q r I') (k : gz_V l D α cA own cc ret nL d Q2 I L st pc) : gz_V l D α cA own cc ret nL d Q I L st pc := by
  intro p e R s m args below meth c A H locs ls cells slots QQ C hP hS hl hQ
  exact k p e R s m args below meth c A H locs ls cells slots QQ C hP hS hl (fun r I' H' locs' ls' pc' h => hQ r I' H' locs' ls' pc' (hq r I' h))
theorem gz_mono {d' : Nat} (h : d' ≤ d) (k : gz_V l D α cA own cc ret nL d' Q I L st pc) : gz_V l D α cA own cc ret nL d Q I L st pc := by
  intro p e R s m args below meth c A H locs ls cells slots QQ C hP hS hl hQ
  obtain ⟨c1, c2, c3, c4, c5, c6, c7, c8, c9, c10, c11⟩ := C
  exact k p e R s m args below meth c A H locs ls cells slots QQ ⟨c1, c2, c3, c4, c5, c6, c7, c8, Nat.le_trans h c9, Nat.le_trans (Nat.mul_le_mul_left 38 h) c10, c11⟩ hP hS hl hQ
end
end
section
/-! rows that read and write the memory; calls -/
theorem gz_cell_eq {α : gz_P → Nat} {cA : Nat → ClassId} {I I' : gz_M} {q : gz_P} (h : I' q = I q) : gz_cell α cA I' q = gz_cell α cA I q := by
  unfold gz_cell
  have h1 : gz_fv α I' q = gz_fv α I q := by
    funext k
    unfold gz_fv
    rw [h]
  have h2 : (fun i : Nat => some (α (gz_tgt I' q i))) = (fun i : Nat => some (α (gz_tgt I q i))) := by
    funext i
    unfold gz_tgt
    rw [h]
  rw [h, h1, h2]
theorem gz_up_ne {I : gz_M} {p q : gz_P} {j v : Int} (h : q ≠ p) : gz_up I p j v q = I q := by
  funext i
  unfold gz_up
  rw [if_neg (fun e => h e.1)]
theorem gz_up_eq {I : gz_M} {p : gz_P} {j v i : Int} : gz_up I p j v p i = if i = j then v else I p i := by
  unfold gz_up
  by_cases h : i = j
  · rw [if_pos ⟨rfl, h⟩, if_pos h]
  · rw [if_neg (fun e => h e.2), if_neg h]
theorem gz_fv_up {α : gz_P → Nat} {I : gz_M} {p : gz_P} {k j : Nat} {v : Int} (h : j ≠ k) : gz_fv α (gz_up I p k v) p j = gz_fv α I p j := by
  unfold gz_fv
  have e : gz_up I p k v p j = I p j := by rw [gz_up_eq, if_neg (by omega)]
  rw [e]
theorem gz_cell_i {α : gz_P → Nat} {cA : Nat → ClassId} {I : gz_M} {r kd n na nb : Nat} {a b : Int} (hs : gz_shp r = (kd, n, na, nb)) (hk : Nat.blt kd 2 = true) : gz_cell α cA I (r, a, b) = .inl (cA kd, n, .inl (fun i => Int32.ofInt (I (r, a, b) i))) := by
  unfold gz_cell
  show (if (gz_shp r).1 < 2 then _ else _) = _
  rw [hs, if_pos (show kd < 2 from Nat.le_of_ble_eq_true hk)]
theorem gz_cell_q {α : gz_P → Nat} {cA : Nat → ClassId} {I : gz_M} {r kd n na nb : Nat} {a b : Int} (hs : gz_shp r = (kd, n, na, nb)) (hk : (Nat.ble 2 kd && Nat.blt kd 10) = true) : gz_cell α cA I (r, a, b) = .inl (cA kd, n, .inr (.inr (.inr (.inr (fun i => some (α (gz_tgt I (r, a, b) i))))))) := by
  rw [Bool.and_eq_true] at hk
  unfold gz_cell
  show (if (gz_shp r).1 < 2 then _ else if (gz_shp r).1 < 10 then _ else _) = _
  rw [hs, if_neg (Nat.not_lt.mpr (Nat.le_of_ble_eq_true hk.1)), if_pos (show kd < 10 from Nat.le_of_ble_eq_true hk.2)]
theorem gz_cell_o {α : gz_P → Nat} {cA : Nat → ClassId} {I : gz_M} {r ci n na nb : Nat} {a b : Int} (hs : gz_shp r = (10 + ci, n, na, nb)) : gz_cell α cA I (r, a, b) = .inr (ci, (List.range n).map (gz_fv α I (r, a, b))) := by
  unfold gz_cell
  show (if (gz_shp r).1 < 2 then _ else if (gz_shp r).1 < 10 then _ else _) = _
  rw [hs, if_neg (by show ¬ 10 + ci < 2; omega), if_neg (by show ¬ 10 + ci < 10; omega)]
  show Sum.inr (10 + ci - 10, _) = _
  rw [Nat.add_sub_cancel_left]
/-- the field that an instruction's entry links: field k of the class number ci -/
def gz_FL (own : String) (idx ci k : Nat) : Prop := ∃ (C : String) (T : u_T) (N : Nat) (ty0 : Nat → FieldType), gz_cl[ci]? = some (C, T, N) ∧ k < N ∧ Cond.fieldLink own idx (T k).1 (T k).2.1 (T k).2.2.1 ∈ gz_ts ∧ (∀ w ∈ u_ws C T N, w ∈ gz_ts) ∧ (∀ k, k < N → parseFieldDescriptor (T k).2.2.1 = some (ty0 k)) ∧ (∀ a, a < N → ∀ b, b < N → a ≠ b → (T a).2.1 ≠ (T b).2.1)
/-- ... that is no final one, of type ty -/
def gz_FW (own : String) (idx ci k : Nat) (ty : FieldType) : Prop := ∃ (C : String) (T : u_T) (N : Nat) (ty0 : Nat → FieldType), gz_cl[ci]? = some (C, T, N) ∧ k < N ∧ Cond.fieldLink own idx (T k).1 (T k).2.1 (T k).2.2.1 ∈ gz_ts ∧ (∀ w ∈ u_ws C T N, w ∈ gz_ts) ∧ (∀ k, k < N → parseFieldDescriptor (T k).2.2.1 = some (ty0 k)) ∧ (∀ a, a < N → ∀ b, b < N → a ≠ b → (T a).2.1 ≠ (T b).2.1) ∧ (T k).2.2.2 = false ∧ ty0 k = ty
abbrev gz_B (a b : Int) (na nb : Nat) : Prop := (0 ≤ a ∧ a < na) ∧ 0 ≤ b ∧ b < nb
theorem gz_B1 : gz_B 0 0 1 1 := by decide
section
variable {l : Launch} {D : va_G} {α : gz_P → Nat} {cA : Nat → ClassId} {own : String} {cc : ByteArray} {ret : Option FieldType} {nL d : Nat} {Q : Option Value → gz_M → Prop} {I : gz_M} {L : List (Option Value)} {st : List Value} {pc : Nat}
theorem gz_geti {idx ci k r n na nb : Nat} {a b : Int} (hd : decode cc pc = .ok (.getfield idx, 3)) (fl : gz_FL own idx ci k) (hs : gz_shp r = (10 + ci, n, na, nb)) (hr : (Nat.blt r 40 && Nat.blt k n) = true) (hq : gz_rfo r k = none) (ho : gz_B a b na nb) (kk : gz_V l D α cA own cc ret nL d Q I L (gz_i (I (r, a, b) k) :: st) (pc + 3)) : gz_V l D α cA own cc ret nL d Q I L (.ref (α (r, a, b)) :: st) pc := by
  intro p e R s m args below meth c A H locs ls cells slots QQ C hP hS hl hQ
  obtain ⟨hx, hb, hret, hml, hown, hts, hK, hN, hfr, hlo, hce, hsl, hDD⟩ := id C
  rw [Bool.and_eq_true] at hr
  obtain ⟨q0, he, -⟩ := gz_ws_get (I := I) (gz_mem (Nat.le_of_ble_eq_true hr.1) (by rw [hs]) ho.1 ho.2) (hDD I)
  rw [gz_cell_o hs] at he
  obtain ⟨C1, T, N, ty0, h1, h2, h3, h4, h5, h6⟩ := fl
  refine va_get hx hb hts h4 hown hK hP q0 he h1 k h2 (hts _ h3) (fun _ h => h) (v := gz_i (I (r, a, b) k)) ?_ hd (kk p e R s m args below meth c A H locs ls cells slots QQ C hP hS hl hQ)
  rw [List.getElem?_map, List.getElem?_range (Nat.le_of_ble_eq_true hr.2)]
  show some (gz_fv α I (r, a, b) k) = _
  unfold gz_fv
  show some (match gz_rfo r k with | some g => _ | none => _) = _
  rw [hq]
theorem gz_getr {idx ci k r n na nb : Nat} {a b : Int} {g : Int → Int → gz_P} (hd : decode cc pc = .ok (.getfield idx, 3)) (fl : gz_FL own idx ci k) (hs : gz_shp r = (10 + ci, n, na, nb)) (hr : (Nat.blt r 40 && Nat.blt k n) = true) (hq : gz_rfo r k = some g) (ho : gz_B a b na nb) (kk : gz_V l D α cA own cc ret nL d Q I L (.ref (α (g a b)) :: st) (pc + 3)) : gz_V l D α cA own cc ret nL d Q I L (.ref (α (r, a, b)) :: st) pc := by
  intro p e R s m args below meth c A H locs ls cells slots QQ C hP hS hl hQ
  obtain ⟨hx, hb, hret, hml, hown, hts, hK, hN, hfr, hlo, hce, hsl, hDD⟩ := id C
  rw [Bool.and_eq_true] at hr
  obtain ⟨q0, he, -⟩ := gz_ws_get (I := I) (gz_mem (Nat.le_of_ble_eq_true hr.1) (by rw [hs]) ho.1 ho.2) (hDD I)
  rw [gz_cell_o hs] at he
  obtain ⟨C1, T, N, ty0, h1, h2, h3, h4, h5, h6⟩ := fl
  refine va_get hx hb hts h4 hown hK hP q0 he h1 k h2 (hts _ h3) (fun _ h => h) (v := .ref (α (g a b))) ?_ hd (kk p e R s m args below meth c A H locs ls cells slots QQ C hP hS hl hQ)
  rw [List.getElem?_map, List.getElem?_range (Nat.le_of_ble_eq_true hr.2)]
  show some (gz_fv α I (r, a, b) k) = _
  unfold gz_fv
  show some (match gz_rfo r k with | some g => _ | none => _) = _
  rw [hq]
theorem gz_puti {idx ci k r n na nb : Nat} {a b v : Int} {ty : FieldType} (hd : decode cc pc = .ok (.putfield idx, 3)) (fl : gz_FW own idx ci k ty) (hs : gz_shp r = (10 + ci, n, na, nb)) (hr : (Nat.blt r 40 && Nat.blt k n) = true) (hq : gz_rfo r k = none) (ho : gz_B a b na nb) (hv : ty = .int ∨ ty = .boolean ∧ (v = 0 ∨ v = 1)) (kk : gz_V l D α cA own cc ret nL d Q (gz_up I (r, a, b) k v) L st (pc + 3)) : gz_V l D α cA own cc ret nL d Q I L (gz_i v :: .ref (α (r, a, b)) :: st) pc := by
  intro p e R s m args below meth c A H locs ls cells slots QQ C hP hS hl hQ
  obtain ⟨hx, hb, hret, hml, hown, hts, hK, hN, hfr, hlo, hce, hsl, hDD⟩ := id C
  rw [Bool.and_eq_true] at hr
  obtain ⟨q0, he, hset⟩ := gz_ws_get (I := I) (gz_mem (Nat.le_of_ble_eq_true hr.1) (by rw [hs]) ho.1 ho.2) (hDD I)
  rw [gz_cell_o hs] at he
  obtain ⟨C1, T, N, ty0, h1, h2, h3, h4, h5, h6, h7, h8⟩ := fl
  have hset' := hset (gz_up I (r, a, b) k v) (fun q hq => gz_cell_eq (gz_up_ne hq))
  have e1 : ((List.range n).map (gz_fv α I (r, a, b))).set k (gz_i v) = (List.range n).map (gz_fv α (gz_up I (r, a, b) k v) (r, a, b)) := by
    apply List.ext_getElem?
    intro j
    by_cases hj : k = j
    · subst hj
      rw [List.getElem?_set_self (by rw [List.length_map, List.length_range]; exact Nat.le_of_ble_eq_true hr.2), List.getElem?_map, List.getElem?_range (Nat.le_of_ble_eq_true hr.2)]
      show _ = some (gz_fv α _ (r, a, b) k)
      unfold gz_fv
      show _ = some (match gz_rfo r k with | some g => _ | none => _)
      rw [hq, gz_up_eq, if_pos rfl]
    · rw [List.getElem?_set_ne hj, List.getElem?_map, List.getElem?_map]
      by_cases hjn : j < n
      · rw [List.getElem?_range hjn]
        show some (gz_fv α I (r, a, b) j) = some (gz_fv α _ (r, a, b) j)
        rw [gz_fv_up (fun e => hj e.symm)]
      · rw [List.getElem?_eq_none (by rw [List.length_range]; omega)]
        rfl
  rw [gz_cell_o hs, ← e1] at hset'
  refine va_put hx hb hts h4 ty0 h5 h6 hown hK hP (hDD I) hS q0 he h1 k h2 (hts _ h3) (fun _ h => h) h7 (ty := ty) (h8 ▸ h5 k h2) ?_ ?_ (by rw [List.length_map, List.length_range]; exact Nat.le_of_ble_eq_true hr.2) hd ?_
  · rcases hv with rfl | ⟨rfl, rfl | rfl⟩ <;> rfl
  · rcases hv with rfl | ⟨rfl, rfl | rfl⟩ <;> rfl
  · intro H1 locs1 hP1 hD1 hS1
    rw [hset'] at hP1
    exact kk p e R s m args below meth c A H1 locs1 ls cells slots QQ C hP1 hS1 hl hQ
/-- the cell of a row of ints or of booleans behind a store -/
theorem gz_stA {kd n na nb r : Nat} {a b j v : Int} {A : Nat → Prop} (hs : gz_shp r = (kd, n, na, nb)) (hk : Nat.blt kd 2 = true) (hr : Nat.blt r 40 = true) (ho : gz_B a b na nb) (hj : 0 ≤ j ∧ j < n) (hn : n ≤ 2147483647) (hD : va_D A (gz_ws α cA I)) : ∃ q0, (gz_ws α cA I)[q0]? = some (α (r, a, b), .inl (cA kd, n, .inl (fun i => Int32.ofInt (I (r, a, b) i)))) ∧ (gz_ws α cA I).set q0 (α (r, a, b), .inl (cA kd, n, .inl (upd (fun i => Int32.ofInt (I (r, a, b) i)) (Int32.ofInt j).toNatClampNeg (Int32.ofInt v)))) = gz_ws α cA (gz_up I (r, a, b) j v) := by
  obtain ⟨q0, he, hset⟩ := gz_ws_get (I := I) (gz_mem (Nat.le_of_ble_eq_true hr) (by rw [hs]) ho.1 ho.2) hD
  refine ⟨q0, by rw [gz_cell_i hs hk] at he; exact he, ?_⟩
  rw [← hset _ (fun q hq => gz_cell_eq (gz_up_ne hq)), gz_cell_i hs hk, gz_tn ⟨hj.1, by omega⟩]
  congr 6
  funext i
  rw [gz_up_eq]
  unfold upd
  by_cases h : i = j.toNat
  · rw [if_pos h, if_pos (by omega)]
  · rw [if_neg h, if_neg (by omega)]
theorem gz_iald {r n na nb : Nat} {a b j : Int} (hd : decode cc pc = .ok (.iaload, 1)) (hs : gz_shp r = (0, n, na, nb)) (hr : (Nat.blt r 40 && Nat.ble n 65536) = true) (ho : gz_B a b na nb) (hj : 0 ≤ j ∧ j < n) (kk : gz_V l D α cA own cc ret nL d Q I L (gz_i (I (r, a, b) j) :: st) (pc + 1)) : gz_V l D α cA own cc ret nL d Q I L (gz_i j :: .ref (α (r, a, b)) :: st) pc := by
  intro p e R s m args below meth c A H locs ls cells slots QQ C hP hS hl hQ
  obtain ⟨hx, hb, hret, hml, hown, hts, hK, hN, hfr, hlo, hce, hsl, hDD⟩ := id C
  rw [Bool.and_eq_true] at hr
  have hn : n ≤ 65536 := Nat.le_of_ble_eq_true hr.2
  obtain ⟨q0, he, -⟩ := gz_ws_get (I := I) (gz_mem (Nat.le_of_ble_eq_true hr.1) (by rw [hs]) ho.1 ho.2) (hDD I)
  rw [gz_cell_i hs rfl] at he
  refine va_iald hx hb hK hP q0 0 he rfl (gz_pin hj (by omega)) hd ?_
  rw [gz_tn ⟨hj.1, by omega⟩]
  show W p l e R s m args below meth c H locs cells slots QQ (F0 m (pc + 1) ls (Value.int (Int32.ofInt (I (r, a, b) j.toNat)) :: st))
  rw [Int.toNat_of_nonneg hj.1]
  exact kk p e R s m args below meth c A H locs ls cells slots QQ C hP hS hl hQ
theorem gz_zald {r n na nb : Nat} {a b j : Int} (hd : decode cc pc = .ok (.baload, 1)) (hs : gz_shp r = (1, n, na, nb)) (hr : (Nat.blt r 40 && Nat.ble n 65536) = true) (ho : gz_B a b na nb) (hj : 0 ≤ j ∧ j < n) (kk : gz_V l D α cA own cc ret nL d Q I L (gz_i (I (r, a, b) j) :: st) (pc + 1)) : gz_V l D α cA own cc ret nL d Q I L (gz_i j :: .ref (α (r, a, b)) :: st) pc := by
  intro p e R s m args below meth c A H locs ls cells slots QQ C hP hS hl hQ
  obtain ⟨hx, hb, hret, hml, hown, hts, hK, hN, hfr, hlo, hce, hsl, hDD⟩ := id C
  rw [Bool.and_eq_true] at hr
  have hn : n ≤ 65536 := Nat.le_of_ble_eq_true hr.2
  obtain ⟨q0, he, -⟩ := gz_ws_get (I := I) (gz_mem (Nat.le_of_ble_eq_true hr.1) (by rw [hs]) ho.1 ho.2) (hDD I)
  rw [gz_cell_i hs rfl] at he
  refine va_zald hx hb hK hP q0 1 he rfl (gz_pin hj (by omega)) hd ?_
  rw [gz_tn ⟨hj.1, by omega⟩]
  show W p l e R s m args below meth c H locs cells slots QQ (F0 m (pc + 1) ls (Value.int (Int32.ofInt (I (r, a, b) j.toNat)) :: st))
  rw [Int.toNat_of_nonneg hj.1]
  exact kk p e R s m args below meth c A H locs ls cells slots QQ C hP hS hl hQ
theorem gz_iast {r n na nb : Nat} {a b j v : Int} (hd : decode cc pc = .ok (.iastore, 1)) (hs : gz_shp r = (0, n, na, nb)) (hr : (Nat.blt r 40 && Nat.ble n 65536) = true) (ho : gz_B a b na nb) (hj : 0 ≤ j ∧ j < n) (kk : gz_V l D α cA own cc ret nL d Q (gz_up I (r, a, b) j v) L st (pc + 1)) : gz_V l D α cA own cc ret nL d Q I L (gz_i v :: gz_i j :: .ref (α (r, a, b)) :: st) pc := by
  intro p e R s m args below meth c A H locs ls cells slots QQ C hP hS hl hQ
  obtain ⟨hx, hb, hret, hml, hown, hts, hK, hN, hfr, hlo, hce, hsl, hDD⟩ := id C
  rw [Bool.and_eq_true] at hr
  have hn : n ≤ 65536 := Nat.le_of_ble_eq_true hr.2
  obtain ⟨q0, he, hset⟩ := gz_stA (v := v) hs rfl hr.1 ho hj (by omega) (hDD I)
  refine va_iast hx hb hK hP (hDD I) hS q0 0 he rfl (gz_pin hj (by omega)) hd ?_
  intro H1 locs1 hP1 hD1 hS1
  rw [hset] at hP1
  exact kk p e R s m args below meth c A H1 locs1 ls cells slots QQ C hP1 hS1 hl hQ
theorem gz_zast {r n na nb : Nat} {a b j v : Int} (hd : decode cc pc = .ok (.bastore, 1)) (hs : gz_shp r = (1, n, na, nb)) (hr : (Nat.blt r 40 && Nat.ble n 65536) = true) (ho : gz_B a b na nb) (hj : 0 ≤ j ∧ j < n) (hv : v = 0 ∨ v = 1) (kk : gz_V l D α cA own cc ret nL d Q (gz_up I (r, a, b) j v) L st (pc + 1)) : gz_V l D α cA own cc ret nL d Q I L (gz_i v :: gz_i j :: .ref (α (r, a, b)) :: st) pc := by
  intro p e R s m args below meth c A H locs ls cells slots QQ C hP hS hl hQ
  obtain ⟨hx, hb, hret, hml, hown, hts, hK, hN, hfr, hlo, hce, hsl, hDD⟩ := id C
  rw [Bool.and_eq_true] at hr
  have hn : n ≤ 65536 := Nat.le_of_ble_eq_true hr.2
  obtain ⟨q0, he, hset⟩ := gz_stA (v := v) hs rfl hr.1 ho hj (by omega) (hDD I)
  refine va_zast hx hb hK hP (hDD I) hS q0 1 he rfl (gz_pin hj (by omega)) hd ?_
  intro H1 locs1 hP1 hD1 hS1
  have hnar : vp_nar .boolean (Int32.ofInt v) = Int32.ofInt v := by rcases hv with rfl | rfl <;> rfl
  rw [hnar, hset] at hP1
  exact kk p e R s m args below meth c A H1 locs1 ls cells slots QQ C hP1 hS1 hl hQ
/-- a place of a row of references -/
theorem gz_aald {r kd n na nb : Nat} {a b j : Int} (hd : decode cc pc = .ok (.aaload, 1)) (hs : gz_shp r = (kd, n, na, nb)) (hk : (Nat.ble 2 kd && Nat.blt kd 6) = true) (hr : (Nat.blt r 40 && Nat.ble n 65536) = true) (ho : gz_B a b na nb) (hj : 0 ≤ j ∧ j < n) (kk : gz_V l D α cA own cc ret nL d Q I L (.ref (α (gz_tgt I (r, a, b) j)) :: st) (pc + 1)) : gz_V l D α cA own cc ret nL d Q I L (gz_i j :: .ref (α (r, a, b)) :: st) pc := by
  intro p e R s m args below meth c A H locs ls cells slots QQ C hP hS hl hQ
  obtain ⟨hx, hb, hret, hml, hown, hts, hK, hN, hfr, hlo, hce, hsl, hDD⟩ := id C
  rw [Bool.and_eq_true] at hr hk
  have hk1 : 2 ≤ kd := Nat.le_of_ble_eq_true hk.1
  have hk2 : kd < 6 := Nat.le_of_ble_eq_true hk.2
  have hn : n ≤ 65536 := Nat.le_of_ble_eq_true hr.2
  obtain ⟨q0, he, -⟩ := gz_ws_get (I := I) (gz_mem (Nat.le_of_ble_eq_true hr.1) (by rw [hs]) ho.1 ho.2) (hDD I)
  rw [gz_cell_q hs (by rw [Bool.and_eq_true]; exact ⟨hk.1, Nat.ble_eq_true_of_le (by omega)⟩)] at he
  have hin := gz_pin hj (by omega : n ≤ 2147483647)
  have hlt : (Int32.ofInt j).toNatClampNeg < n := Nat.not_le.mp fun q => hin (Or.inr q)
  have hkk : W p l e R s m args below meth c H locs cells slots QQ (F0 m (pc + 1) ls (va_rf (some (α (gz_tgt I (r, a, b) (Int32.ofInt j).toNatClampNeg))) :: st)) := by
    rw [gz_tn ⟨hj.1, by omega⟩, Int.toNat_of_nonneg hj.1]
    exact kk p e R s m args below meth c A H locs ls cells slots QQ C hP hS hl hQ
  obtain ⟨ty, ht, hty⟩ : ∃ ty, (gz_tys cA)[kd]? = some (cA kd, ty) ∧ ty.isReference = true := by
    match kd, hk1, hk2 with
    | 2, _, _ => exact ⟨_, rfl, rfl⟩
    | 3, _, _ => exact ⟨_, rfl, rfl⟩
    | 4, _, _ => exact ⟨_, rfl, rfl⟩
    | 5, _, _ => exact ⟨_, rfl, rfl⟩
  exact W.aald (v := va_rf (some (α (gz_tgt I (r, a, b) (Int32.ofInt j).toNatClampNeg)))) (ty := ty) hx hb (hP q0 _ he) ((hK.2 kd _ ht).1 n (fun j => va_rf (some (α (gz_tgt I (r, a, b) j))))) hty (fun q => by cases q) (by show ¬ (Int32.ofInt j < 0 ∨ (arrV _ _ _).slots.size ≤ _); rw [arrV_size]; exact hin) (by show (arrV _ _ _).slots[_]? = _; rw [arrV_read _ _ hlt]) rfl rfl hd hkk
/-- states[j], copies[j], held[j], lists[j] -/
theorem gz_ald1 {j : Int} (hd : decode cc pc = .ok (.aaload, 1)) (hj : 0 ≤ j ∧ j < 4) (kk : gz_V l D α cA own cc ret nL d Q I L (.ref (α (7, j, 0)) :: st) (pc + 1)) : gz_V l D α cA own cc ret nL d Q I L (gz_i j :: .ref (α (1, 0, 0)) :: st) pc := gz_aald hd rfl rfl rfl gz_B1 hj kk
theorem gz_ald2 {j : Int} (hd : decode cc pc = .ok (.aaload, 1)) (hj : 0 ≤ j ∧ j < 4) (kk : gz_V l D α cA own cc ret nL d Q I L (.ref (α (10, j, 0)) :: st) (pc + 1)) : gz_V l D α cA own cc ret nL d Q I L (gz_i j :: .ref (α (2, 0, 0)) :: st) pc := gz_aald hd rfl rfl rfl gz_B1 hj kk
theorem gz_ald4 {j : Int} (hd : decode cc pc = .ok (.aaload, 1)) (hj : 0 ≤ j ∧ j < 12) (kk : gz_V l D α cA own cc ret nL d Q I L (.ref (α (16, I (4, 0, 0) j, 0)) :: st) (pc + 1)) : gz_V l D α cA own cc ret nL d Q I L (gz_i j :: .ref (α (4, 0, 0)) :: st) pc := gz_aald hd rfl rfl rfl gz_B1 hj kk
theorem gz_ald17 {a j : Int} (hd : decode cc pc = .ok (.aaload, 1)) (ho : gz_B a 0 12 1) (hj : 0 ≤ j ∧ j < 4) (kk : gz_V l D α cA own cc ret nL d Q I L (.ref (α (18, a, j)) :: st) (pc + 1)) : gz_V l D α cA own cc ret nL d Q I L (gz_i j :: .ref (α (17, a, 0)) :: st) pc := gz_aald hd rfl rfl rfl ho hj kk
/-- held[j] = a mark -/
theorem gz_ast4 {j k : Int} (hd : decode cc pc = .ok (.aastore, 1)) (hj : 0 ≤ j ∧ j < 12) (hk : 0 ≤ k ∧ k < 12) (kk : gz_V l D α cA own cc ret nL d Q (gz_up I (4, 0, 0) j k) L st (pc + 1)) : gz_V l D α cA own cc ret nL d Q I L (.ref (α (16, k, 0)) :: gz_i j :: .ref (α (4, 0, 0)) :: st) pc := by
  intro p e R s m args below meth c A H locs ls cells slots QQ C hP hS hl hQ
  obtain ⟨hx, hb, hret, hml, hown, hts, hK, hN, hfr, hlo, hce, hsl, hDD⟩ := id C
  obtain ⟨q0, he, hset⟩ := gz_ws_get (I := I) (gz_mem (r := 4) (a := 0) (b := 0) (na := 1) (nb := 1) (by decide) rfl (by decide) (by decide)) (hDD I)
  obtain ⟨q1, he1, -⟩ := gz_ws_get (I := I) (gz_mem (r := 16) (a := k) (b := 0) (na := 12) (nb := 1) (by decide) rfl hk (by decide)) (hDD I)
  rw [gz_cell_q (r := 4) (kd := 4) (n := 12) rfl rfl] at he
  rw [gz_cell_o (r := 16) (ci := 0) (n := 9) rfl] at he1
  refine va_astq hx hb hK hP (hDD I) hS q0 4 q1 0 (r := (RX0, TX0, 9)) he rfl he1 rfl (gz_pin hj (by decide)) hd ?_
  intro H1 locs1 hP1 hD1 hS1
  have hset' := hset (gz_up I (4, 0, 0) j k) (fun q hq => gz_cell_eq (gz_up_ne hq))
  rw [gz_cell_q (r := 4) (kd := 4) (n := 12) rfl rfl] at hset'
  have e1 : va_up (fun i : Nat => some (α (gz_tgt I (4, 0, 0) i))) (Int32.ofInt j).toNatClampNeg (some (α (16, k, 0))) = (fun i : Nat => some (α (gz_tgt (gz_up I (4, 0, 0) j k) (4, 0, 0) i))) := by
    rw [gz_tn ⟨hj.1, by omega⟩]
    funext i
    unfold va_up
    show _ = some (α (16, gz_up I (4, 0, 0) j k (4, 0, 0) i, 0))
    rw [gz_up_eq]
    by_cases h : i = j.toNat
    · rw [if_pos h, if_pos (by omega)]
    · rw [if_neg h, if_neg (by omega)]
      rfl
  rw [e1, hset'] at hP1
  exact kk p e R s m args below meth c A H1 locs1 ls cells slots QQ C hP1 hS1 hl hQ
end
end
section
/-! calls: a method's judgement at its entry is its contract -/
def gz_rm (d : Nat) : Room := { frames := d, cells := 0, slots := 0, locals := 38 * d }
def gz_A (α : gz_P → Nat) : Nat → Prop := fun q => ∃ p ∈ gz_ptrs, q = α p
def gz_so (x : Slot) : Option Value := match x with
  | .val v => some v
  | _ => none
def gz_args (vs : List Value) (n : Nat) : List (Option Value) := (lg_sl vs ++ List.replicate (n - (lg_sl vs).length) Slot.unset).map gz_so
def gz_Pre (D : va_G) (α : gz_P → Nat) (cA : Nat → ClassId) (I : gz_M) (U : State) : Prop := va_P D gz_cl (gz_ws α cA I) U.heap ∧ va_K D gz_cl (gz_tys cA) U ∧ va_Nw (.methodLinkNest RX3 48 yX4_digestOf RX4) U ∧ va_D (fun _ => True) (gz_ws α cA I)
def gz_Post (D : va_G) (α : gz_P → Nat) (cA : Nat → ClassId) (Q : Option Value → gz_M → Prop) : Array Value → State → Outcome → State → Prop := fun _ st oc t => (∃ (r : Option Value) (I' : gz_M), oc = .returned r ∧ Q r I' ∧ va_P D gz_cl (gz_ws α cA I') t.heap) ∧ va_F (gz_A α) st t
theorem gz_D_any {α : gz_P → Nat} {cA : Nat → ClassId} {A : Nat → Prop} {I : gz_M} (h : va_D A (gz_ws α cA I)) (I' : gz_M) : va_D (gz_A α) (gz_ws α cA I') := by
  have at' : ∀ (I1 : gz_M) (k : Nat) (q : Nat × va_E), (gz_ws α cA I1)[k]? = some q → ∃ p, gz_ptrs[k]? = some p ∧ q = (α p, gz_cell α cA I1 p) := by
    intro I1 k q hq
    unfold gz_ws at hq
    rw [List.getElem?_map] at hq
    cases hp : gz_ptrs[k]? with
    | none => rw [hp] at hq; cases hq
    | some p => rw [hp] at hq; exact ⟨p, rfl, (Option.some.inj hq).symm⟩
  have back : ∀ (k : Nat) (p : gz_P), gz_ptrs[k]? = some p → (gz_ws α cA I)[k]? = some (α p, gz_cell α cA I p) := by
    intro k p hp
    unfold gz_ws
    rw [List.getElem?_map, hp]
    rfl
  refine ⟨fun i j x y hx hy hxy => ?_, fun k q hq => ?_⟩
  · obtain ⟨p1, h1, rfl⟩ := at' I' i x hx
    obtain ⟨p2, h2, rfl⟩ := at' I' j y hy
    exact h.1 i j _ _ (back i p1 h1) (back j p2 h2) hxy
  · obtain ⟨p1, h1, rfl⟩ := at' I' k q hq
    exact ⟨p1, List.mem_of_getElem? h1, rfl⟩
theorem gz_in_A {α : gz_P → Nat} {cA : Nat → ClassId} {A : Nat → Prop} {I : gz_M} (h : va_D A (gz_ws α cA I)) : ∀ q, gz_A α q → A q := by
  rintro q ⟨p, hp, rfl⟩
  obtain ⟨k, hk⟩ := List.getElem?_of_mem hp
  have h2 : (gz_ws α cA I)[k]? = some (α p, gz_cell α cA I p) := by
    unfold gz_ws
    rw [List.getElem?_map, hk]
    rfl
  exact h.2 k _ h2
theorem gz_args_L {vs : List Value} {n : Nat} (h : (lg_sl vs).length ≤ n) : gz_L ((lg_sl vs ++ List.replicate (n - (lg_sl vs).length) Slot.unset).toArray) n (gz_args vs n) := by
  have h1 := lv_entry vs h
  refine ⟨h1.1, h1.2.1, fun i v hv => ?_⟩
  unfold gz_args at hv
  rw [List.getElem?_map] at hv
  rw [List.getElem?_toArray]
  cases hs : (lg_sl vs ++ List.replicate (n - (lg_sl vs).length) Slot.unset)[i]? with
  | none => rw [hs] at hv; cases hv
  | some x =>
    rw [hs] at hv
    have hx : gz_so x = some v := Option.some.inj hv
    cases x with
    | val w => cases hx; rfl
    | unset => cases hx
    | second => cases hx
theorem gz_met {l : Launch} {D : va_G} {α : gz_P → Nat} {cA : Nat → ClassId} {cc : ByteArray} {ret : Option FieldType} {nL d : Nat} {Q : Option Value → gz_M → Prop} {I : gz_M} {y : MethodName} {vs : List Value} (hy : plainName y.cls = true) (hlen : (lg_sl vs).length ≤ nL) (hV : gz_V l D α cA y.cls cc ret nL d Q I (gz_args vs nL) [] 0) :
    Met l y (.code y cc nL ret :: gz_ts) (gz_rm d) (va_Pc vs (gz_Pre D α cA I)) (gz_Post D α cA Q) 0 0 (gz_A α) := by
  refine Met.ofW (cc := cc) (maxL := nL) (ret := ret) hy rfl ?_
  intro p e s m args below meth c s₁ B hml hv
  obtain ⟨rfl, hP, hK, hN, hD⟩ := hv
  have hts := atoms_spec (ws := .code y cc nL ret :: gz_ts) B.pre
  have hown : s.vm.findClass y.cls = some m.cls := findClass_of_methodNamed B.named
  have hlocks := B.notSynchronized
  rw [lg_entry_eq]
  refine hV p e _ s m _ below meth c (gz_A α) s.heap [] _ 0 0 _ ⟨B.exec, B.bytes, B.returns, hml, hown, fun w hw => hts w (List.mem_cons_of_mem _ hw), hK, hN, Nat.le_refl _, Nat.le_refl _, Nat.zero_le _, Nat.zero_le _, gz_D_any hD⟩ hP va_S.rf (gz_args_L hlen) ?_
  intro r I' H' locs' ls' pc' hQ hP' hS' hret
  rcases hret with ⟨h1, h2, x, rfl⟩ | ⟨h1, h2, x, rfl, h3⟩ | ⟨⟨n, h1⟩, h2, v, rfl, h3⟩ | ⟨h1, h2, rfl⟩
  · exact W.iret B.exec B.bytes (B.returns.trans h1) (fun t ht hW => ⟨⟨_, I', rfl, hQ, by rw [ht]; exact hP'⟩, hS'.F ht⟩) hS'.2.2 h2
  · exact W.zret B.exec B.bytes (B.returns.trans h1) h3 (fun t ht hW => ⟨⟨_, I', rfl, hQ, by rw [ht]; exact hP'⟩, hS'.F ht⟩) hS'.2.2 h2
  · exact W.aret B.exec B.bytes (B.returns.trans h1) (Or.inl ⟨n, rfl⟩) h3 (fun t ht hW => ⟨⟨_, I', rfl, hQ, by rw [ht]; exact hP'⟩, hS'.F ht⟩) hS'.2.2 h2
  · exact W.vret B.exec B.bytes (B.returns.trans h1) (fun t ht hW => ⟨⟨_, I', rfl, hQ, by rw [ht]; exact hP'⟩, hS'.F ht⟩) hS'.2.2 h2
/-- what the tables say of a method: n parameters -/
def gz_Y (y : MethodName) (cc : ByteArray) (nL : Nat) (ret : Option FieldType) (n : Nat) : Prop := Cond.code y cc nL ret ∈ gz_ts ∧ Cond.initialized y.cls ∈ gz_ts ∧ plainName y.cls = true ∧ (y.cls ≠ "java/lang/invoke/MethodHandle" ∧ y.cls ≠ "java/lang/invoke/VarHandle" ∧ (parseMethodDescriptor y.desc).map (fun d => d.parameters.length) = some n)
def gz_YV (y : MethodName) (cc : ByteArray) (nL : Nat) (ret : Option FieldType) (n ci : Nat) : Prop := gz_Y y cc nL ret n ∧ Cond.instanceMethod y ∈ gz_ts ∧ Cond.selects y.cls y y ∈ gz_ts ∧ ∃ (T : u_T) (N : Nat), gz_cl[ci]? = some (y.cls, T, N)
def gz_YS (y : MethodName) (cc : ByteArray) (nL : Nat) (ret : Option FieldType) (n : Nat) : Prop := gz_Y y cc nL ret n ∧ Cond.static y ∈ gz_ts
section
variable {l : Launch} {D : va_G} {α : gz_P → Nat} {cA : Nat → ClassId} {own : String} {cc : ByteArray} {ret : Option FieldType} {nL d : Nat} {Q : Option Value → gz_M → Prop} {I : gz_M} {L : List (Option Value)} {st : List Value} {pc : Nat}
theorem gz_goodY {y : MethodName} {cc' : ByteArray} {nL' : Nat} {ret' : Option FieldType} {n : Nat} (hy : gz_Y y cc' nL' ret' n) : GoodIn gz_ts (Cond.code y cc' nL' ret' :: gz_ts) := fun w h => by
  rcases List.mem_cons.mp h with rfl | h
  · exact gz_ts_self _ hy.1
  · exact gz_ts_self _ h
/-- behind a call -/
theorem gz_back {p : Program} {e : Env} {R : Room} {s : State} {m : MethodId} {args : Array Value} {below : List Frame} {meth : Method} {c : Code} {A : Nat → Prop} {H : Heap} {locs : List Loc} {ls : Array Slot} {cells slots : Nat} {QQ : State → Prop} {Q' : Option Value → gz_M → Prop} {st0 rest : List Value} {a : Array Value}
    (C : gz_C D α cA own cc ret nL d p R s m args meth c A cells slots) (hS : va_S A s.heap H locs) (hl : gz_L ls nL L)
    (hQ : ∀ (r : Option Value) (I' : gz_M) (H' : Heap) (locs' : List Loc) (ls' : Array Slot) (pc' : Nat), Q r I' → va_P D gz_cl (gz_ws α cA I') H' → va_S A s.heap H' locs' → gz_ret cc ret pc' r → W p l e R s m args below meth c H' locs' cells slots QQ (F0 m pc' ls' r.toList))
    (hr : va_Run p l e R s m args below meth c H locs cells slots 0 0 (F0 m pc ls st0) rest (gz_Post D α cA Q' a) (gz_A α))
    (kk : ∀ (r : Option Value) (I' : gz_M), Q' r I' → gz_V l D α cA own cc ret nL d Q I' L (r.toList ++ rest) (pc + 3)) : W p l e R s m args below meth c H locs cells slots QQ (F0 m pc ls st0) := by
  intro T hT X
  obtain ⟨v, st₀, t, T', L2, h0, X', hL2, e1, e2, ⟨⟨r, I', hv, hq, hP'⟩, hz, hk⟩, stp⟩ := hr T hT X
  cases hv
  rw [h0] at hz hk
  have hA := gz_in_A (C.2.2.2.2.2.2.2.2.2.2.2.2 (fun _ _ => 0))
  obtain ⟨t2, a1, b1⟩ := kk v I' hq p e R s m args below meth c A T'.heap (locs ++ L2) ls cells slots QQ C (by rw [e1]; exact hP')
    ⟨Nat.le_trans hS.1 (by rw [e1]; exact hz), fun q h1 h2 => by rw [e1, hk q (Nat.lt_of_lt_of_le h1 hS.1) (fun z => h2 (hA q z))]; exact hS.2.1 q h1 h2, fun q hq => by
      rcases List.mem_append.mp hq with h | h
      · exact hS.2.2 q h
      · exact hA _ (hL2 q h)⟩ hl hQ T' rfl X'
  exact ⟨t2, stp t2 a1, b1⟩
theorem gz_blind {vs : List Value} {I1 : gz_M} : FrameBlind (va_Pc vs (gz_Pre D α cA I1)) := fun a U g mk q => by
  obtain ⟨q0, qP, qK, qN, qD⟩ := q
  exact ⟨q0, qP, va_K.moved (u := U) (U := U.calling g mk a) (Vm.Alike.refl U.vm) qK, va_Nw.same rfl (u := U) (U := U.calling g mk a) rfl qN, qD⟩
theorem gz_cV {y : MethodName} {cc' : ByteArray} {nL' n' d' idx : Nat} {ret' : Option FieldType} {Q' : Option Value → gz_M → Prop} {r ci n na nb : Nat} {a b : Int} {As rest : List Value}
    (hd : decode cc pc = .ok (.invokevirtual idx, 3)) (hm : Cond.methodLink own idx y ∈ gz_ts) (hy : gz_YV y cc' nL' ret' n' ci) (hn : As.length = n') (hdd : Nat.ble (d' + 1) d = true) (hnl : Nat.ble nL' 19 = true) (hs : gz_shp r = (10 + ci, n, na, nb)) (hr : Nat.blt r 40 = true) (ho : gz_B a b na nb) (hw : (rest.map fun v => v.category).sum ≤ 8) (hlen : (lg_sl (.ref (α (r, a, b)) :: As)).length ≤ nL')
    (hV : gz_V l D α cA y.cls cc' ret' nL' d' Q' I (gz_args (.ref (α (r, a, b)) :: As) nL') [] 0)
    (kk : ∀ (x : Option Value) (I' : gz_M), Q' x I' → gz_V l D α cA own cc ret nL d Q I' L (x.toList ++ rest) (pc + 3)) : gz_V l D α cA own cc ret nL d Q I L (As.reverse ++ .ref (α (r, a, b)) :: rest) pc := by
  intro p e R s m args below meth c A H locs ls cells slots QQ C hP hS hl hQ
  obtain ⟨hx, hb, hret, hml, hown, hts, hK, hN, hfr, hlo, hce, hsl, hDD⟩ := id C
  obtain ⟨q0, he, -⟩ := gz_ws_get (I := I) (gz_mem (Nat.le_of_ble_eq_true hr) (by rw [hs]) ho.1 ho.2) (hDD I)
  rw [gz_cell_o hs] at he
  obtain ⟨T0, N0, hc⟩ := hy.2.2.2
  have h1 : d' + 1 ≤ d := Nat.le_of_ble_eq_true hdd
  have h2 : nL' ≤ 19 := Nat.le_of_ble_eq_true hnl
  refine gz_back C hS hl hQ (va_runV (As := As) (rest := rest) (C := y.cls) (bytes := cc') (maxL := nL') (ret := ret') (n := n') (ws := .code y cc' nL' ret' :: gz_ts) ⟨hx, hb, hml, hown, hts⟩ (gz_met hy.1.2.2.1 hlen hV) ⟨callB_of n' hts (gz_goodY hy.1) rfl rfl rfl (hts _ hy.1.2.1) (hts _ hm) hy.1.2.2.2 ⟨by show d' + 1 ≤ R.frames; omega, by show 8 + (nL' + 11) + 38 * d' ≤ R.locals; omega⟩, hts _ hy.2.1, hts _ hy.2.2.1⟩ ⟨gz_blind, va_recv hK hP hc he, fun U hU hW => ⟨rfl, by rw [hU]; exact hP, va_K.moved hW.alike hK, va_Nw.warmM hW hN, (hDD I).weaken (fun _ _ _ _ => trivial)⟩⟩ rfl hn hl.1 rfl (lv_room hw) hd ⟨hce, hsl⟩) kk
theorem gz_cS {y : MethodName} {cc' : ByteArray} {nL' n' d' idx : Nat} {ret' : Option FieldType} {Q' : Option Value → gz_M → Prop} {As rest : List Value}
    (hd : decode cc pc = .ok (.invokestatic idx, 3)) (hm : Cond.methodLink own idx y ∈ gz_ts) (hy : gz_YS y cc' nL' ret' n') (hn : As.length = n') (hdd : Nat.ble (d' + 1) d = true) (hnl : Nat.ble nL' 19 = true) (hw : (rest.map fun v => v.category).sum ≤ 8) (hlen : (lg_sl As).length ≤ nL')
    (hV : gz_V l D α cA y.cls cc' ret' nL' d' Q' I (gz_args As nL') [] 0)
    (kk : ∀ (x : Option Value) (I' : gz_M), Q' x I' → gz_V l D α cA own cc ret nL d Q I' L (x.toList ++ rest) (pc + 3)) : gz_V l D α cA own cc ret nL d Q I L (As.reverse ++ rest) pc := by
  intro p e R s m args below meth c A H locs ls cells slots QQ C hP hS hl hQ
  obtain ⟨hx, hb, hret, hml, hown, hts, hK, hN, hfr, hlo, hce, hsl, hDD⟩ := id C
  have h1 : d' + 1 ≤ d := Nat.le_of_ble_eq_true hdd
  have h2 : nL' ≤ 19 := Nat.le_of_ble_eq_true hnl
  refine gz_back C hS hl hQ (va_runS (As := As) (rest := rest) (bytes := cc') (maxL := nL') (ret := ret') (n := n') (ws := .code y cc' nL' ret' :: gz_ts) ⟨hx, hb, hml, hown, hts⟩ (gz_met hy.1.2.2.1 hlen hV) ⟨callB_of n' hts (gz_goodY hy.1) rfl rfl rfl (hts _ hy.1.2.1) (hts _ hm) hy.1.2.2.2 ⟨by show d' + 1 ≤ R.frames; omega, by show 8 + (nL' + 11) + 38 * d' ≤ R.locals; omega⟩, hts _ hy.2⟩ ⟨gz_blind, fun U hU hW => ⟨rfl, by rw [hU]; exact hP, va_K.moved hW.alike hK, va_Nw.warmM hW hN, (hDD I).weaken (fun _ _ _ _ => trivial)⟩⟩ rfl hn hl.1 rfl (lv_room hw) hd ⟨hce, hsl⟩) kk
/-- digestOf, called out of the store's class -/
theorem gz_cN {nL' d' : Nat} {Q' : Option Value → gz_M → Prop} {As rest : List Value} {cc' : ByteArray} {ret' : Option FieldType}
    (hd : decode cc pc = .ok (.invokestatic 48, 3)) (ho : own = RX3) (hy : gz_YS yX4_digestOf cc' nL' ret' 3) (hn : As.length = 3) (hdd : Nat.ble (d' + 1) d = true) (hnl : Nat.ble nL' 19 = true) (hw : (rest.map fun v => v.category).sum ≤ 8) (hlen : (lg_sl As).length ≤ nL')
    (hV : gz_V l D α cA yX4_digestOf.cls cc' ret' nL' d' Q' I (gz_args As nL') [] 0)
    (kk : ∀ (x : Option Value) (I' : gz_M), Q' x I' → gz_V l D α cA own cc ret nL d Q I' L (x.toList ++ rest) (pc + 3)) : gz_V l D α cA own cc ret nL d Q I L (As.reverse ++ rest) pc := by
  subst ho
  intro p e R s m args below meth c A H locs ls cells slots QQ C hP hS hl hQ
  obtain ⟨hx, hb, hret, hml, hown, hts, hK, hN, hfr, hlo, hce, hsl, hDD⟩ := id C
  have h1 : d' + 1 ≤ d := Nat.le_of_ble_eq_true hdd
  have h2 : nL' ≤ 19 := Nat.le_of_ble_eq_true hnl
  refine gz_back C hS hl hQ (va_runSN (As := As) (rest := rest) (bytes := cc') (maxL := nL') (ret := ret') (n := 3) (ws := .code yX4_digestOf cc' nL' ret' :: gz_ts) ⟨hx, hb, hml, hown, hts⟩ (gz_met hy.1.2.2.1 hlen hV) ⟨va_cnB 3 hts (gz_goodY hy.1) rfl rfl rfl hN (hts _ hy.1.2.1) hy.1.2.2.2 ⟨by show d' + 1 ≤ R.frames; omega, by show 8 + (nL' + 11) + 38 * d' ≤ R.locals; omega⟩, hts _ hy.2, trivial⟩ ⟨gz_blind, fun U hU hW => ⟨rfl, by rw [hU]; exact hP, va_K.moved hW.alike hK, va_Nw.warmM hW hN, (hDD I).weaken (fun _ _ _ _ => trivial)⟩⟩ rfl hn hl.1 rfl (lv_room hw) hd ⟨hce, hsl⟩) kk
/-- n ints of the row p, from sp on, come to the row q, from dp on -/
def gz_cp (I : gz_M) (p q : gz_P) (sp dp n : Int) : gz_M := fun x i => if x = q ∧ dp ≤ i ∧ i < dp + n then I p (sp + (i - dp)) else I x i
theorem gz_copy {r1 n1 na1 nb1 r2 n2 na2 nb2 idx : Nat} {a1 b1 a2 b2 sp dp n : Int} (hd : decode cc pc = .ok (.invokestatic idx, 3)) (hm : Cond.methodLink own idx arraycopyName ∈ gz_ts) (hs1 : gz_shp r1 = (0, n1, na1, nb1)) (hs2 : gz_shp r2 = (0, n2, na2, nb2)) (hr : (Nat.blt r1 40 && Nat.blt r2 40 && Nat.ble n1 65536 && Nat.ble n2 65536) = true) (hdd : Nat.ble 1 d = true) (hw : (st.map fun v => v.category).sum ≤ 8) (ho1 : gz_B a1 b1 na1 nb1) (ho2 : gz_B a2 b2 na2 nb2) (h1 : 0 ≤ sp ∧ 0 ≤ dp ∧ 0 ≤ n ∧ sp + n ≤ n1 ∧ dp + n ≤ n2)
    (kk : gz_V l D α cA own cc ret nL d Q (gz_cp I (r1, a1, b1) (r2, a2, b2) sp dp n) L st (pc + 3)) : gz_V l D α cA own cc ret nL d Q I L (gz_i n :: gz_i dp :: .ref (α (r2, a2, b2)) :: gz_i sp :: .ref (α (r1, a1, b1)) :: st) pc := by
  intro p e R s m args below meth c A H locs ls cells slots QQ C hP hS hl hQ
  obtain ⟨hx, hb, hret, hml, hown, hts, hK, hN, hfr, hlo, hce, hsl, hDD⟩ := id C
  rw [Bool.and_eq_true, Bool.and_eq_true, Bool.and_eq_true] at hr
  have hn1 : n1 ≤ 65536 := Nat.le_of_ble_eq_true hr.1.2
  have hn2 : n2 ≤ 65536 := Nat.le_of_ble_eq_true hr.2
  have hd1 : 1 ≤ d := Nat.le_of_ble_eq_true hdd
  obtain ⟨q0, he0, -⟩ := gz_ws_get (I := I) (gz_mem (Nat.le_of_ble_eq_true hr.1.1.1) (by rw [hs1]) ho1.1 ho1.2) (hDD I)
  obtain ⟨q1, he1, hset⟩ := gz_ws_get (I := I) (gz_mem (Nat.le_of_ble_eq_true hr.1.1.2) (by rw [hs2]) ho2.1 ho2.2) (hDD I)
  rw [gz_cell_i hs1 rfl] at he0
  rw [gz_cell_i hs2 rfl] at he1
  have t1 : (Int32.ofInt sp).toNatClampNeg = sp.toNat := gz_tn ⟨by omega, by omega⟩
  have t2 : (Int32.ofInt dp).toNatClampNeg = dp.toNat := gz_tn ⟨by omega, by omega⟩
  have t3 : (Int32.ofInt n).toNatClampNeg = n.toNat := gz_tn ⟨by omega, by omega⟩
  have nn : ∀ {z : Int}, 0 ≤ z ∧ z ≤ 65536 → ¬ Int32.ofInt z < 0 := fun {z} h => by rw [gz_z0, gz_clt ⟨by omega, by omega⟩ gz_r0]; omega
  have s1 : ¬ Int32.ofInt sp < 0 := nn ⟨by omega, by omega⟩
  have s2 : ¬ Int32.ofInt dp < 0 := nn ⟨by omega, by omega⟩
  have s3 : ¬ Int32.ofInt n < 0 := nn ⟨by omega, by omega⟩
  have hnf : nativeFrameWords "java/lang/System" "arraycopy" 5 = 7 := by decide
  have s4 : 1 ≤ R.frames := by omega
  have s5 : (st.map fun v => v.category).sum + (nativeFrameWords "java/lang/System" "arraycopy" 5 + 11) ≤ R.locals := by omega
  have s6 : (Int32.ofInt sp).toNatClampNeg + (Int32.ofInt n).toNatClampNeg ≤ n1 := by rw [t1, t3]; omega
  have s7 : (Int32.ofInt dp).toNatClampNeg + (Int32.ofInt n).toNatClampNeg ≤ n2 := by rw [t2, t3]; omega
  refine va_copyi hx hb (hml.trans hl.1.symm) hown (hts _ hm) (hts _ wv_arraycopy) (hts _ ws_arraycopyName) (hts _ wn_J10) hK hP (hDD I) hS q0 q1 0 0 he0 he1 rfl rfl rfl s1 s2 s3 s6 s7 (fun i hi => rfl) s4 s5 hd ?_
  intro H1 locs1 hP1 hD1 hS1
  have hset' := hset (gz_cp I (r1, a1, b1) (r2, a2, b2) sp dp n) (fun q hq => gz_cell_eq (by funext i; unfold gz_cp; rw [if_neg (fun e => hq e.1)]))
  rw [gz_cell_i hs2 rfl] at hset'
  have e1 : va_cpy (fun i : Nat => Int32.ofInt (I (r1, a1, b1) i)) (fun i : Nat => Int32.ofInt (I (r2, a2, b2) i)) (Int32.ofInt sp).toNatClampNeg (Int32.ofInt dp).toNatClampNeg (Int32.ofInt n).toNatClampNeg = (fun i : Nat => Int32.ofInt (gz_cp I (r1, a1, b1) (r2, a2, b2) sp dp n (r2, a2, b2) i)) := by
    rw [t1, t2, t3]
    funext i
    unfold va_cpy gz_cp
    by_cases h : dp.toNat ≤ i ∧ i < dp.toNat + n.toNat
    · rw [if_pos h, if_pos ⟨rfl, by omega, by omega⟩]
      have e9 : ((sp.toNat + (i - dp.toNat) : Nat) : Int) = sp + ((i : Int) - dp) := by omega
      show Int32.ofInt (I (r1, a1, b1) ((sp.toNat + (i - dp.toNat) : Nat) : Int)) = _
      rw [e9]
    · rw [if_neg h, if_neg (fun q => h ⟨by omega, by omega⟩)]
  rw [e1, hset'] at hP1
  exact kk p e R s m args below meth c A H1 locs1 ls cells slots QQ C hP1 hS1 hl hQ
theorem gz_cV0i {y : MethodName} {cc' : ByteArray} {nL' d' idx : Nat} {ret' : Option FieldType} {P' : Int → gz_M → Prop} {r ci n na nb : Nat} {a b : Int} {rest : List Value} {L' : List (Option Value)} (hd : decode cc pc = .ok (.invokevirtual idx, 3)) (hm : Cond.methodLink own idx y ∈ gz_ts) (hy : gz_YV y cc' nL' ret' 0 ci) (hs : gz_shp r = (10 + ci, n, na, nb)) (hA : gz_args [.ref (α (r, a, b))] nL' = L') (hbb : (Nat.ble (d' + 1) d && Nat.ble nL' 19 && Nat.blt r 40 && Nat.ble (rest.map fun v => v.category).sum 8 && Nat.ble (lg_sl [.ref (α (r, a, b))]).length nL') = true) (ho : gz_B a b na nb) (hV : gz_V l D α cA y.cls cc' ret' nL' d' (gz_Qi P') I L' [] 0) (kk : ∀ (x : Int) (I' : gz_M), P' x I' → gz_V l D α cA own cc ret nL d Q I' L (gz_i x :: rest) (pc + 3)) : gz_V l D α cA own cc ret nL d Q I L (.ref (α (r, a, b)) :: rest) pc := by
  subst hA
  rw [Bool.and_eq_true, Bool.and_eq_true, Bool.and_eq_true, Bool.and_eq_true] at hbb
  exact gz_cV (As := []) hd hm hy rfl hbb.1.1.1.1 hbb.1.1.1.2 hs hbb.1.1.2 ho (Nat.le_of_ble_eq_true hbb.1.2) (Nat.le_of_ble_eq_true hbb.2) hV (fun x I' h => by obtain ⟨z, rfl, hz⟩ := h; exact kk z I' hz)
theorem gz_cV0v {y : MethodName} {cc' : ByteArray} {nL' d' idx : Nat} {ret' : Option FieldType} {P' : gz_M → Prop} {r ci n na nb : Nat} {a b : Int} {rest : List Value} {L' : List (Option Value)} (hd : decode cc pc = .ok (.invokevirtual idx, 3)) (hm : Cond.methodLink own idx y ∈ gz_ts) (hy : gz_YV y cc' nL' ret' 0 ci) (hs : gz_shp r = (10 + ci, n, na, nb)) (hA : gz_args [.ref (α (r, a, b))] nL' = L') (hbb : (Nat.ble (d' + 1) d && Nat.ble nL' 19 && Nat.blt r 40 && Nat.ble (rest.map fun v => v.category).sum 8 && Nat.ble (lg_sl [.ref (α (r, a, b))]).length nL') = true) (ho : gz_B a b na nb) (hV : gz_V l D α cA y.cls cc' ret' nL' d' (gz_Qv P') I L' [] 0) (kk : ∀ I' : gz_M, P' I' → gz_V l D α cA own cc ret nL d Q I' L rest (pc + 3)) : gz_V l D α cA own cc ret nL d Q I L (.ref (α (r, a, b)) :: rest) pc := by
  subst hA
  rw [Bool.and_eq_true, Bool.and_eq_true, Bool.and_eq_true, Bool.and_eq_true] at hbb
  exact gz_cV (As := []) hd hm hy rfl hbb.1.1.1.1 hbb.1.1.1.2 hs hbb.1.1.2 ho (Nat.le_of_ble_eq_true hbb.1.2) (Nat.le_of_ble_eq_true hbb.2) hV (fun x I' h => by obtain ⟨rfl, hz⟩ := h; exact kk I' hz)
theorem gz_cV0r {y : MethodName} {cc' : ByteArray} {nL' d' idx : Nat} {ret' : Option FieldType} {P' : Value → gz_M → Prop} {r ci n na nb : Nat} {a b : Int} {rest : List Value} {L' : List (Option Value)} (hd : decode cc pc = .ok (.invokevirtual idx, 3)) (hm : Cond.methodLink own idx y ∈ gz_ts) (hy : gz_YV y cc' nL' ret' 0 ci) (hs : gz_shp r = (10 + ci, n, na, nb)) (hA : gz_args [.ref (α (r, a, b))] nL' = L') (hbb : (Nat.ble (d' + 1) d && Nat.ble nL' 19 && Nat.blt r 40 && Nat.ble (rest.map fun v => v.category).sum 8 && Nat.ble (lg_sl [.ref (α (r, a, b))]).length nL') = true) (ho : gz_B a b na nb) (hV : gz_V l D α cA y.cls cc' ret' nL' d' (gz_Qr P') I L' [] 0) (kk : ∀ (x : Value) (I' : gz_M), P' x I' → gz_V l D α cA own cc ret nL d Q I' L (x :: rest) (pc + 3)) : gz_V l D α cA own cc ret nL d Q I L (.ref (α (r, a, b)) :: rest) pc := by
  subst hA
  rw [Bool.and_eq_true, Bool.and_eq_true, Bool.and_eq_true, Bool.and_eq_true] at hbb
  exact gz_cV (As := []) hd hm hy rfl hbb.1.1.1.1 hbb.1.1.1.2 hs hbb.1.1.2 ho (Nat.le_of_ble_eq_true hbb.1.2) (Nat.le_of_ble_eq_true hbb.2) hV (fun x I' h => by obtain ⟨z, rfl, hz⟩ := h; exact kk z I' hz)
theorem gz_cV1i {y : MethodName} {cc' : ByteArray} {nL' d' idx : Nat} {ret' : Option FieldType} {P' : Int → gz_M → Prop} {r ci n na nb : Nat} {a b : Int} {v1 : Value} {rest : List Value} {L' : List (Option Value)} (hd : decode cc pc = .ok (.invokevirtual idx, 3)) (hm : Cond.methodLink own idx y ∈ gz_ts) (hy : gz_YV y cc' nL' ret' 1 ci) (hs : gz_shp r = (10 + ci, n, na, nb)) (hA : gz_args [.ref (α (r, a, b)), v1] nL' = L') (hbb : (Nat.ble (d' + 1) d && Nat.ble nL' 19 && Nat.blt r 40 && Nat.ble (rest.map fun v => v.category).sum 8 && Nat.ble (lg_sl [.ref (α (r, a, b)), v1]).length nL') = true) (ho : gz_B a b na nb) (hV : gz_V l D α cA y.cls cc' ret' nL' d' (gz_Qi P') I L' [] 0) (kk : ∀ (x : Int) (I' : gz_M), P' x I' → gz_V l D α cA own cc ret nL d Q I' L (gz_i x :: rest) (pc + 3)) : gz_V l D α cA own cc ret nL d Q I L (v1 :: .ref (α (r, a, b)) :: rest) pc := by
  subst hA
  rw [Bool.and_eq_true, Bool.and_eq_true, Bool.and_eq_true, Bool.and_eq_true] at hbb
  exact gz_cV (As := [v1]) hd hm hy rfl hbb.1.1.1.1 hbb.1.1.1.2 hs hbb.1.1.2 ho (Nat.le_of_ble_eq_true hbb.1.2) (Nat.le_of_ble_eq_true hbb.2) hV (fun x I' h => by obtain ⟨z, rfl, hz⟩ := h; exact kk z I' hz)
theorem gz_cV1v {y : MethodName} {cc' : ByteArray} {nL' d' idx : Nat} {ret' : Option FieldType} {P' : gz_M → Prop} {r ci n na nb : Nat} {a b : Int} {v1 : Value} {rest : List Value} {L' : List (Option Value)} (hd : decode cc pc = .ok (.invokevirtual idx, 3)) (hm : Cond.methodLink own idx y ∈ gz_ts) (hy : gz_YV y cc' nL' ret' 1 ci) (hs : gz_shp r = (10 + ci, n, na, nb)) (hA : gz_args [.ref (α (r, a, b)), v1] nL' = L') (hbb : (Nat.ble (d' + 1) d && Nat.ble nL' 19 && Nat.blt r 40 && Nat.ble (rest.map fun v => v.category).sum 8 && Nat.ble (lg_sl [.ref (α (r, a, b)), v1]).length nL') = true) (ho : gz_B a b na nb) (hV : gz_V l D α cA y.cls cc' ret' nL' d' (gz_Qv P') I L' [] 0) (kk : ∀ I' : gz_M, P' I' → gz_V l D α cA own cc ret nL d Q I' L rest (pc + 3)) : gz_V l D α cA own cc ret nL d Q I L (v1 :: .ref (α (r, a, b)) :: rest) pc := by
  subst hA
  rw [Bool.and_eq_true, Bool.and_eq_true, Bool.and_eq_true, Bool.and_eq_true] at hbb
  exact gz_cV (As := [v1]) hd hm hy rfl hbb.1.1.1.1 hbb.1.1.1.2 hs hbb.1.1.2 ho (Nat.le_of_ble_eq_true hbb.1.2) (Nat.le_of_ble_eq_true hbb.2) hV (fun x I' h => by obtain ⟨rfl, hz⟩ := h; exact kk I' hz)
theorem gz_cV1r {y : MethodName} {cc' : ByteArray} {nL' d' idx : Nat} {ret' : Option FieldType} {P' : Value → gz_M → Prop} {r ci n na nb : Nat} {a b : Int} {v1 : Value} {rest : List Value} {L' : List (Option Value)} (hd : decode cc pc = .ok (.invokevirtual idx, 3)) (hm : Cond.methodLink own idx y ∈ gz_ts) (hy : gz_YV y cc' nL' ret' 1 ci) (hs : gz_shp r = (10 + ci, n, na, nb)) (hA : gz_args [.ref (α (r, a, b)), v1] nL' = L') (hbb : (Nat.ble (d' + 1) d && Nat.ble nL' 19 && Nat.blt r 40 && Nat.ble (rest.map fun v => v.category).sum 8 && Nat.ble (lg_sl [.ref (α (r, a, b)), v1]).length nL') = true) (ho : gz_B a b na nb) (hV : gz_V l D α cA y.cls cc' ret' nL' d' (gz_Qr P') I L' [] 0) (kk : ∀ (x : Value) (I' : gz_M), P' x I' → gz_V l D α cA own cc ret nL d Q I' L (x :: rest) (pc + 3)) : gz_V l D α cA own cc ret nL d Q I L (v1 :: .ref (α (r, a, b)) :: rest) pc := by
  subst hA
  rw [Bool.and_eq_true, Bool.and_eq_true, Bool.and_eq_true, Bool.and_eq_true] at hbb
  exact gz_cV (As := [v1]) hd hm hy rfl hbb.1.1.1.1 hbb.1.1.1.2 hs hbb.1.1.2 ho (Nat.le_of_ble_eq_true hbb.1.2) (Nat.le_of_ble_eq_true hbb.2) hV (fun x I' h => by obtain ⟨z, rfl, hz⟩ := h; exact kk z I' hz)
theorem gz_cV2i {y : MethodName} {cc' : ByteArray} {nL' d' idx : Nat} {ret' : Option FieldType} {P' : Int → gz_M → Prop} {r ci n na nb : Nat} {a b : Int} {v1 v2 : Value} {rest : List Value} {L' : List (Option Value)} (hd : decode cc pc = .ok (.invokevirtual idx, 3)) (hm : Cond.methodLink own idx y ∈ gz_ts) (hy : gz_YV y cc' nL' ret' 2 ci) (hs : gz_shp r = (10 + ci, n, na, nb)) (hA : gz_args [.ref (α (r, a, b)), v1, v2] nL' = L') (hbb : (Nat.ble (d' + 1) d && Nat.ble nL' 19 && Nat.blt r 40 && Nat.ble (rest.map fun v => v.category).sum 8 && Nat.ble (lg_sl [.ref (α (r, a, b)), v1, v2]).length nL') = true) (ho : gz_B a b na nb) (hV : gz_V l D α cA y.cls cc' ret' nL' d' (gz_Qi P') I L' [] 0) (kk : ∀ (x : Int) (I' : gz_M), P' x I' → gz_V l D α cA own cc ret nL d Q I' L (gz_i x :: rest) (pc + 3)) : gz_V l D α cA own cc ret nL d Q I L (v2 :: v1 :: .ref (α (r, a, b)) :: rest) pc := by
  subst hA
  rw [Bool.and_eq_true, Bool.and_eq_true, Bool.and_eq_true, Bool.and_eq_true] at hbb
  exact gz_cV (As := [v1, v2]) hd hm hy rfl hbb.1.1.1.1 hbb.1.1.1.2 hs hbb.1.1.2 ho (Nat.le_of_ble_eq_true hbb.1.2) (Nat.le_of_ble_eq_true hbb.2) hV (fun x I' h => by obtain ⟨z, rfl, hz⟩ := h; exact kk z I' hz)
theorem gz_cV2v {y : MethodName} {cc' : ByteArray} {nL' d' idx : Nat} {ret' : Option FieldType} {P' : gz_M → Prop} {r ci n na nb : Nat} {a b : Int} {v1 v2 : Value} {rest : List Value} {L' : List (Option Value)} (hd : decode cc pc = .ok (.invokevirtual idx, 3)) (hm : Cond.methodLink own idx y ∈ gz_ts) (hy : gz_YV y cc' nL' ret' 2 ci) (hs : gz_shp r = (10 + ci, n, na, nb)) (hA : gz_args [.ref (α (r, a, b)), v1, v2] nL' = L') (hbb : (Nat.ble (d' + 1) d && Nat.ble nL' 19 && Nat.blt r 40 && Nat.ble (rest.map fun v => v.category).sum 8 && Nat.ble (lg_sl [.ref (α (r, a, b)), v1, v2]).length nL') = true) (ho : gz_B a b na nb) (hV : gz_V l D α cA y.cls cc' ret' nL' d' (gz_Qv P') I L' [] 0) (kk : ∀ I' : gz_M, P' I' → gz_V l D α cA own cc ret nL d Q I' L rest (pc + 3)) : gz_V l D α cA own cc ret nL d Q I L (v2 :: v1 :: .ref (α (r, a, b)) :: rest) pc := by
  subst hA
  rw [Bool.and_eq_true, Bool.and_eq_true, Bool.and_eq_true, Bool.and_eq_true] at hbb
  exact gz_cV (As := [v1, v2]) hd hm hy rfl hbb.1.1.1.1 hbb.1.1.1.2 hs hbb.1.1.2 ho (Nat.le_of_ble_eq_true hbb.1.2) (Nat.le_of_ble_eq_true hbb.2) hV (fun x I' h => by obtain ⟨rfl, hz⟩ := h; exact kk I' hz)
theorem gz_cV2r {y : MethodName} {cc' : ByteArray} {nL' d' idx : Nat} {ret' : Option FieldType} {P' : Value → gz_M → Prop} {r ci n na nb : Nat} {a b : Int} {v1 v2 : Value} {rest : List Value} {L' : List (Option Value)} (hd : decode cc pc = .ok (.invokevirtual idx, 3)) (hm : Cond.methodLink own idx y ∈ gz_ts) (hy : gz_YV y cc' nL' ret' 2 ci) (hs : gz_shp r = (10 + ci, n, na, nb)) (hA : gz_args [.ref (α (r, a, b)), v1, v2] nL' = L') (hbb : (Nat.ble (d' + 1) d && Nat.ble nL' 19 && Nat.blt r 40 && Nat.ble (rest.map fun v => v.category).sum 8 && Nat.ble (lg_sl [.ref (α (r, a, b)), v1, v2]).length nL') = true) (ho : gz_B a b na nb) (hV : gz_V l D α cA y.cls cc' ret' nL' d' (gz_Qr P') I L' [] 0) (kk : ∀ (x : Value) (I' : gz_M), P' x I' → gz_V l D α cA own cc ret nL d Q I' L (x :: rest) (pc + 3)) : gz_V l D α cA own cc ret nL d Q I L (v2 :: v1 :: .ref (α (r, a, b)) :: rest) pc := by
  subst hA
  rw [Bool.and_eq_true, Bool.and_eq_true, Bool.and_eq_true, Bool.and_eq_true] at hbb
  exact gz_cV (As := [v1, v2]) hd hm hy rfl hbb.1.1.1.1 hbb.1.1.1.2 hs hbb.1.1.2 ho (Nat.le_of_ble_eq_true hbb.1.2) (Nat.le_of_ble_eq_true hbb.2) hV (fun x I' h => by obtain ⟨z, rfl, hz⟩ := h; exact kk z I' hz)
theorem gz_cV3i {y : MethodName} {cc' : ByteArray} {nL' d' idx : Nat} {ret' : Option FieldType} {P' : Int → gz_M → Prop} {r ci n na nb : Nat} {a b : Int} {v1 v2 v3 : Value} {rest : List Value} {L' : List (Option Value)} (hd : decode cc pc = .ok (.invokevirtual idx, 3)) (hm : Cond.methodLink own idx y ∈ gz_ts) (hy : gz_YV y cc' nL' ret' 3 ci) (hs : gz_shp r = (10 + ci, n, na, nb)) (hA : gz_args [.ref (α (r, a, b)), v1, v2, v3] nL' = L') (hbb : (Nat.ble (d' + 1) d && Nat.ble nL' 19 && Nat.blt r 40 && Nat.ble (rest.map fun v => v.category).sum 8 && Nat.ble (lg_sl [.ref (α (r, a, b)), v1, v2, v3]).length nL') = true) (ho : gz_B a b na nb) (hV : gz_V l D α cA y.cls cc' ret' nL' d' (gz_Qi P') I L' [] 0) (kk : ∀ (x : Int) (I' : gz_M), P' x I' → gz_V l D α cA own cc ret nL d Q I' L (gz_i x :: rest) (pc + 3)) : gz_V l D α cA own cc ret nL d Q I L (v3 :: v2 :: v1 :: .ref (α (r, a, b)) :: rest) pc := by
  subst hA
  rw [Bool.and_eq_true, Bool.and_eq_true, Bool.and_eq_true, Bool.and_eq_true] at hbb
  exact gz_cV (As := [v1, v2, v3]) hd hm hy rfl hbb.1.1.1.1 hbb.1.1.1.2 hs hbb.1.1.2 ho (Nat.le_of_ble_eq_true hbb.1.2) (Nat.le_of_ble_eq_true hbb.2) hV (fun x I' h => by obtain ⟨z, rfl, hz⟩ := h; exact kk z I' hz)
theorem gz_cV3v {y : MethodName} {cc' : ByteArray} {nL' d' idx : Nat} {ret' : Option FieldType} {P' : gz_M → Prop} {r ci n na nb : Nat} {a b : Int} {v1 v2 v3 : Value} {rest : List Value} {L' : List (Option Value)} (hd : decode cc pc = .ok (.invokevirtual idx, 3)) (hm : Cond.methodLink own idx y ∈ gz_ts) (hy : gz_YV y cc' nL' ret' 3 ci) (hs : gz_shp r = (10 + ci, n, na, nb)) (hA : gz_args [.ref (α (r, a, b)), v1, v2, v3] nL' = L') (hbb : (Nat.ble (d' + 1) d && Nat.ble nL' 19 && Nat.blt r 40 && Nat.ble (rest.map fun v => v.category).sum 8 && Nat.ble (lg_sl [.ref (α (r, a, b)), v1, v2, v3]).length nL') = true) (ho : gz_B a b na nb) (hV : gz_V l D α cA y.cls cc' ret' nL' d' (gz_Qv P') I L' [] 0) (kk : ∀ I' : gz_M, P' I' → gz_V l D α cA own cc ret nL d Q I' L rest (pc + 3)) : gz_V l D α cA own cc ret nL d Q I L (v3 :: v2 :: v1 :: .ref (α (r, a, b)) :: rest) pc := by
  subst hA
  rw [Bool.and_eq_true, Bool.and_eq_true, Bool.and_eq_true, Bool.and_eq_true] at hbb
  exact gz_cV (As := [v1, v2, v3]) hd hm hy rfl hbb.1.1.1.1 hbb.1.1.1.2 hs hbb.1.1.2 ho (Nat.le_of_ble_eq_true hbb.1.2) (Nat.le_of_ble_eq_true hbb.2) hV (fun x I' h => by obtain ⟨rfl, hz⟩ := h; exact kk I' hz)
theorem gz_cV3r {y : MethodName} {cc' : ByteArray} {nL' d' idx : Nat} {ret' : Option FieldType} {P' : Value → gz_M → Prop} {r ci n na nb : Nat} {a b : Int} {v1 v2 v3 : Value} {rest : List Value} {L' : List (Option Value)} (hd : decode cc pc = .ok (.invokevirtual idx, 3)) (hm : Cond.methodLink own idx y ∈ gz_ts) (hy : gz_YV y cc' nL' ret' 3 ci) (hs : gz_shp r = (10 + ci, n, na, nb)) (hA : gz_args [.ref (α (r, a, b)), v1, v2, v3] nL' = L') (hbb : (Nat.ble (d' + 1) d && Nat.ble nL' 19 && Nat.blt r 40 && Nat.ble (rest.map fun v => v.category).sum 8 && Nat.ble (lg_sl [.ref (α (r, a, b)), v1, v2, v3]).length nL') = true) (ho : gz_B a b na nb) (hV : gz_V l D α cA y.cls cc' ret' nL' d' (gz_Qr P') I L' [] 0) (kk : ∀ (x : Value) (I' : gz_M), P' x I' → gz_V l D α cA own cc ret nL d Q I' L (x :: rest) (pc + 3)) : gz_V l D α cA own cc ret nL d Q I L (v3 :: v2 :: v1 :: .ref (α (r, a, b)) :: rest) pc := by
  subst hA
  rw [Bool.and_eq_true, Bool.and_eq_true, Bool.and_eq_true, Bool.and_eq_true] at hbb
  exact gz_cV (As := [v1, v2, v3]) hd hm hy rfl hbb.1.1.1.1 hbb.1.1.1.2 hs hbb.1.1.2 ho (Nat.le_of_ble_eq_true hbb.1.2) (Nat.le_of_ble_eq_true hbb.2) hV (fun x I' h => by obtain ⟨z, rfl, hz⟩ := h; exact kk z I' hz)
theorem gz_cV4i {y : MethodName} {cc' : ByteArray} {nL' d' idx : Nat} {ret' : Option FieldType} {P' : Int → gz_M → Prop} {r ci n na nb : Nat} {a b : Int} {v1 v2 v3 v4 : Value} {rest : List Value} {L' : List (Option Value)} (hd : decode cc pc = .ok (.invokevirtual idx, 3)) (hm : Cond.methodLink own idx y ∈ gz_ts) (hy : gz_YV y cc' nL' ret' 4 ci) (hs : gz_shp r = (10 + ci, n, na, nb)) (hA : gz_args [.ref (α (r, a, b)), v1, v2, v3, v4] nL' = L') (hbb : (Nat.ble (d' + 1) d && Nat.ble nL' 19 && Nat.blt r 40 && Nat.ble (rest.map fun v => v.category).sum 8 && Nat.ble (lg_sl [.ref (α (r, a, b)), v1, v2, v3, v4]).length nL') = true) (ho : gz_B a b na nb) (hV : gz_V l D α cA y.cls cc' ret' nL' d' (gz_Qi P') I L' [] 0) (kk : ∀ (x : Int) (I' : gz_M), P' x I' → gz_V l D α cA own cc ret nL d Q I' L (gz_i x :: rest) (pc + 3)) : gz_V l D α cA own cc ret nL d Q I L (v4 :: v3 :: v2 :: v1 :: .ref (α (r, a, b)) :: rest) pc := by
  subst hA
  rw [Bool.and_eq_true, Bool.and_eq_true, Bool.and_eq_true, Bool.and_eq_true] at hbb
  exact gz_cV (As := [v1, v2, v3, v4]) hd hm hy rfl hbb.1.1.1.1 hbb.1.1.1.2 hs hbb.1.1.2 ho (Nat.le_of_ble_eq_true hbb.1.2) (Nat.le_of_ble_eq_true hbb.2) hV (fun x I' h => by obtain ⟨z, rfl, hz⟩ := h; exact kk z I' hz)
theorem gz_cV4v {y : MethodName} {cc' : ByteArray} {nL' d' idx : Nat} {ret' : Option FieldType} {P' : gz_M → Prop} {r ci n na nb : Nat} {a b : Int} {v1 v2 v3 v4 : Value} {rest : List Value} {L' : List (Option Value)} (hd : decode cc pc = .ok (.invokevirtual idx, 3)) (hm : Cond.methodLink own idx y ∈ gz_ts) (hy : gz_YV y cc' nL' ret' 4 ci) (hs : gz_shp r = (10 + ci, n, na, nb)) (hA : gz_args [.ref (α (r, a, b)), v1, v2, v3, v4] nL' = L') (hbb : (Nat.ble (d' + 1) d && Nat.ble nL' 19 && Nat.blt r 40 && Nat.ble (rest.map fun v => v.category).sum 8 && Nat.ble (lg_sl [.ref (α (r, a, b)), v1, v2, v3, v4]).length nL') = true) (ho : gz_B a b na nb) (hV : gz_V l D α cA y.cls cc' ret' nL' d' (gz_Qv P') I L' [] 0) (kk : ∀ I' : gz_M, P' I' → gz_V l D α cA own cc ret nL d Q I' L rest (pc + 3)) : gz_V l D α cA own cc ret nL d Q I L (v4 :: v3 :: v2 :: v1 :: .ref (α (r, a, b)) :: rest) pc := by
  subst hA
  rw [Bool.and_eq_true, Bool.and_eq_true, Bool.and_eq_true, Bool.and_eq_true] at hbb
  exact gz_cV (As := [v1, v2, v3, v4]) hd hm hy rfl hbb.1.1.1.1 hbb.1.1.1.2 hs hbb.1.1.2 ho (Nat.le_of_ble_eq_true hbb.1.2) (Nat.le_of_ble_eq_true hbb.2) hV (fun x I' h => by obtain ⟨rfl, hz⟩ := h; exact kk I' hz)
theorem gz_cV4r {y : MethodName} {cc' : ByteArray} {nL' d' idx : Nat} {ret' : Option FieldType} {P' : Value → gz_M → Prop} {r ci n na nb : Nat} {a b : Int} {v1 v2 v3 v4 : Value} {rest : List Value} {L' : List (Option Value)} (hd : decode cc pc = .ok (.invokevirtual idx, 3)) (hm : Cond.methodLink own idx y ∈ gz_ts) (hy : gz_YV y cc' nL' ret' 4 ci) (hs : gz_shp r = (10 + ci, n, na, nb)) (hA : gz_args [.ref (α (r, a, b)), v1, v2, v3, v4] nL' = L') (hbb : (Nat.ble (d' + 1) d && Nat.ble nL' 19 && Nat.blt r 40 && Nat.ble (rest.map fun v => v.category).sum 8 && Nat.ble (lg_sl [.ref (α (r, a, b)), v1, v2, v3, v4]).length nL') = true) (ho : gz_B a b na nb) (hV : gz_V l D α cA y.cls cc' ret' nL' d' (gz_Qr P') I L' [] 0) (kk : ∀ (x : Value) (I' : gz_M), P' x I' → gz_V l D α cA own cc ret nL d Q I' L (x :: rest) (pc + 3)) : gz_V l D α cA own cc ret nL d Q I L (v4 :: v3 :: v2 :: v1 :: .ref (α (r, a, b)) :: rest) pc := by
  subst hA
  rw [Bool.and_eq_true, Bool.and_eq_true, Bool.and_eq_true, Bool.and_eq_true] at hbb
  exact gz_cV (As := [v1, v2, v3, v4]) hd hm hy rfl hbb.1.1.1.1 hbb.1.1.1.2 hs hbb.1.1.2 ho (Nat.le_of_ble_eq_true hbb.1.2) (Nat.le_of_ble_eq_true hbb.2) hV (fun x I' h => by obtain ⟨z, rfl, hz⟩ := h; exact kk z I' hz)
theorem gz_cV5i {y : MethodName} {cc' : ByteArray} {nL' d' idx : Nat} {ret' : Option FieldType} {P' : Int → gz_M → Prop} {r ci n na nb : Nat} {a b : Int} {v1 v2 v3 v4 v5 : Value} {rest : List Value} {L' : List (Option Value)} (hd : decode cc pc = .ok (.invokevirtual idx, 3)) (hm : Cond.methodLink own idx y ∈ gz_ts) (hy : gz_YV y cc' nL' ret' 5 ci) (hs : gz_shp r = (10 + ci, n, na, nb)) (hA : gz_args [.ref (α (r, a, b)), v1, v2, v3, v4, v5] nL' = L') (hbb : (Nat.ble (d' + 1) d && Nat.ble nL' 19 && Nat.blt r 40 && Nat.ble (rest.map fun v => v.category).sum 8 && Nat.ble (lg_sl [.ref (α (r, a, b)), v1, v2, v3, v4, v5]).length nL') = true) (ho : gz_B a b na nb) (hV : gz_V l D α cA y.cls cc' ret' nL' d' (gz_Qi P') I L' [] 0) (kk : ∀ (x : Int) (I' : gz_M), P' x I' → gz_V l D α cA own cc ret nL d Q I' L (gz_i x :: rest) (pc + 3)) : gz_V l D α cA own cc ret nL d Q I L (v5 :: v4 :: v3 :: v2 :: v1 :: .ref (α (r, a, b)) :: rest) pc := by
  subst hA
  rw [Bool.and_eq_true, Bool.and_eq_true, Bool.and_eq_true, Bool.and_eq_true] at hbb
  exact gz_cV (As := [v1, v2, v3, v4, v5]) hd hm hy rfl hbb.1.1.1.1 hbb.1.1.1.2 hs hbb.1.1.2 ho (Nat.le_of_ble_eq_true hbb.1.2) (Nat.le_of_ble_eq_true hbb.2) hV (fun x I' h => by obtain ⟨z, rfl, hz⟩ := h; exact kk z I' hz)
theorem gz_cV5v {y : MethodName} {cc' : ByteArray} {nL' d' idx : Nat} {ret' : Option FieldType} {P' : gz_M → Prop} {r ci n na nb : Nat} {a b : Int} {v1 v2 v3 v4 v5 : Value} {rest : List Value} {L' : List (Option Value)} (hd : decode cc pc = .ok (.invokevirtual idx, 3)) (hm : Cond.methodLink own idx y ∈ gz_ts) (hy : gz_YV y cc' nL' ret' 5 ci) (hs : gz_shp r = (10 + ci, n, na, nb)) (hA : gz_args [.ref (α (r, a, b)), v1, v2, v3, v4, v5] nL' = L') (hbb : (Nat.ble (d' + 1) d && Nat.ble nL' 19 && Nat.blt r 40 && Nat.ble (rest.map fun v => v.category).sum 8 && Nat.ble (lg_sl [.ref (α (r, a, b)), v1, v2, v3, v4, v5]).length nL') = true) (ho : gz_B a b na nb) (hV : gz_V l D α cA y.cls cc' ret' nL' d' (gz_Qv P') I L' [] 0) (kk : ∀ I' : gz_M, P' I' → gz_V l D α cA own cc ret nL d Q I' L rest (pc + 3)) : gz_V l D α cA own cc ret nL d Q I L (v5 :: v4 :: v3 :: v2 :: v1 :: .ref (α (r, a, b)) :: rest) pc := by
  subst hA
  rw [Bool.and_eq_true, Bool.and_eq_true, Bool.and_eq_true, Bool.and_eq_true] at hbb
  exact gz_cV (As := [v1, v2, v3, v4, v5]) hd hm hy rfl hbb.1.1.1.1 hbb.1.1.1.2 hs hbb.1.1.2 ho (Nat.le_of_ble_eq_true hbb.1.2) (Nat.le_of_ble_eq_true hbb.2) hV (fun x I' h => by obtain ⟨rfl, hz⟩ := h; exact kk I' hz)
theorem gz_cV5r {y : MethodName} {cc' : ByteArray} {nL' d' idx : Nat} {ret' : Option FieldType} {P' : Value → gz_M → Prop} {r ci n na nb : Nat} {a b : Int} {v1 v2 v3 v4 v5 : Value} {rest : List Value} {L' : List (Option Value)} (hd : decode cc pc = .ok (.invokevirtual idx, 3)) (hm : Cond.methodLink own idx y ∈ gz_ts) (hy : gz_YV y cc' nL' ret' 5 ci) (hs : gz_shp r = (10 + ci, n, na, nb)) (hA : gz_args [.ref (α (r, a, b)), v1, v2, v3, v4, v5] nL' = L') (hbb : (Nat.ble (d' + 1) d && Nat.ble nL' 19 && Nat.blt r 40 && Nat.ble (rest.map fun v => v.category).sum 8 && Nat.ble (lg_sl [.ref (α (r, a, b)), v1, v2, v3, v4, v5]).length nL') = true) (ho : gz_B a b na nb) (hV : gz_V l D α cA y.cls cc' ret' nL' d' (gz_Qr P') I L' [] 0) (kk : ∀ (x : Value) (I' : gz_M), P' x I' → gz_V l D α cA own cc ret nL d Q I' L (x :: rest) (pc + 3)) : gz_V l D α cA own cc ret nL d Q I L (v5 :: v4 :: v3 :: v2 :: v1 :: .ref (α (r, a, b)) :: rest) pc := by
  subst hA
  rw [Bool.and_eq_true, Bool.and_eq_true, Bool.and_eq_true, Bool.and_eq_true] at hbb
  exact gz_cV (As := [v1, v2, v3, v4, v5]) hd hm hy rfl hbb.1.1.1.1 hbb.1.1.1.2 hs hbb.1.1.2 ho (Nat.le_of_ble_eq_true hbb.1.2) (Nat.le_of_ble_eq_true hbb.2) hV (fun x I' h => by obtain ⟨z, rfl, hz⟩ := h; exact kk z I' hz)
theorem gz_cS2i {y : MethodName} {cc' : ByteArray} {nL' d' idx : Nat} {ret' : Option FieldType} {P' : Int → gz_M → Prop} {v1 v2 : Value} {rest : List Value} {L' : List (Option Value)} (hd : decode cc pc = .ok (.invokestatic idx, 3)) (hm : Cond.methodLink own idx y ∈ gz_ts) (hy : gz_YS y cc' nL' ret' 2) (hA : gz_args [v1, v2] nL' = L') (hbb : (Nat.ble (d' + 1) d && Nat.ble nL' 19 && Nat.ble (rest.map fun v => v.category).sum 8 && Nat.ble (lg_sl [v1, v2]).length nL') = true) (hV : gz_V l D α cA y.cls cc' ret' nL' d' (gz_Qi P') I L' [] 0) (kk : ∀ (x : Int) (I' : gz_M), P' x I' → gz_V l D α cA own cc ret nL d Q I' L (gz_i x :: rest) (pc + 3)) : gz_V l D α cA own cc ret nL d Q I L (v2 :: v1 :: rest) pc := by
  subst hA
  rw [Bool.and_eq_true, Bool.and_eq_true, Bool.and_eq_true] at hbb
  exact gz_cS (As := [v1, v2]) hd hm hy rfl hbb.1.1.1 hbb.1.1.2 (Nat.le_of_ble_eq_true hbb.1.2) (Nat.le_of_ble_eq_true hbb.2) hV (fun x I' h => by obtain ⟨z, rfl, hz⟩ := h; exact kk z I' hz)
theorem gz_cS3i {y : MethodName} {cc' : ByteArray} {nL' d' idx : Nat} {ret' : Option FieldType} {P' : Int → gz_M → Prop} {v1 v2 v3 : Value} {rest : List Value} {L' : List (Option Value)} (hd : decode cc pc = .ok (.invokestatic idx, 3)) (hm : Cond.methodLink own idx y ∈ gz_ts) (hy : gz_YS y cc' nL' ret' 3) (hA : gz_args [v1, v2, v3] nL' = L') (hbb : (Nat.ble (d' + 1) d && Nat.ble nL' 19 && Nat.ble (rest.map fun v => v.category).sum 8 && Nat.ble (lg_sl [v1, v2, v3]).length nL') = true) (hV : gz_V l D α cA y.cls cc' ret' nL' d' (gz_Qi P') I L' [] 0) (kk : ∀ (x : Int) (I' : gz_M), P' x I' → gz_V l D α cA own cc ret nL d Q I' L (gz_i x :: rest) (pc + 3)) : gz_V l D α cA own cc ret nL d Q I L (v3 :: v2 :: v1 :: rest) pc := by
  subst hA
  rw [Bool.and_eq_true, Bool.and_eq_true, Bool.and_eq_true] at hbb
  exact gz_cS (As := [v1, v2, v3]) hd hm hy rfl hbb.1.1.1 hbb.1.1.2 (Nat.le_of_ble_eq_true hbb.1.2) (Nat.le_of_ble_eq_true hbb.2) hV (fun x I' h => by obtain ⟨z, rfl, hz⟩ := h; exact kk z I' hz)
theorem gz_cN3i {cc' : ByteArray} {nL' d' : Nat} {ret' : Option FieldType} {P' : Int → gz_M → Prop} {v1 v2 v3 : Value} {rest : List Value} {L' : List (Option Value)} (hd : decode cc pc = .ok (.invokestatic 48, 3)) (ho : own = RX3) (hy : gz_YS yX4_digestOf cc' nL' ret' 3) (hA : gz_args [v1, v2, v3] nL' = L') (hbb : (Nat.ble (d' + 1) d && Nat.ble nL' 19 && Nat.ble (rest.map fun v => v.category).sum 8 && Nat.ble (lg_sl [v1, v2, v3]).length nL') = true) (hV : gz_V l D α cA yX4_digestOf.cls cc' ret' nL' d' (gz_Qi P') I L' [] 0) (kk : ∀ (x : Int) (I' : gz_M), P' x I' → gz_V l D α cA own cc ret nL d Q I' L (gz_i x :: rest) (pc + 3)) : gz_V l D α cA own cc ret nL d Q I L (v3 :: v2 :: v1 :: rest) pc := by
  subst hA
  rw [Bool.and_eq_true, Bool.and_eq_true, Bool.and_eq_true] at hbb
  exact gz_cN (As := [v1, v2, v3]) hd ho hy rfl hbb.1.1.1 hbb.1.1.2 (Nat.le_of_ble_eq_true hbb.1.2) (Nat.le_of_ble_eq_true hbb.2) hV (fun x I' h => by obtain ⟨z, rfl, hz⟩ := h; exact kk z I' hz)
end
end
section
theorem fl_X1_9 : gz_FL RX1 9 1 0 := ⟨RX1, TX1, 2, tyX1, rfl, by decide, wf_X1_9, wu_X1, tyX1_ok, nmX1⟩
theorem fl_X3_41 : gz_FL RX3 41 1 0 := ⟨RX1, TX1, 2, tyX1, rfl, by decide, wf_X3_41, wu_X1, tyX1_ok, nmX1⟩
theorem fl_X4_207 : gz_FL RX4 207 1 0 := ⟨RX1, TX1, 2, tyX1, rfl, by decide, wf_X4_207, wu_X1, tyX1_ok, nmX1⟩
theorem fl_X1_15 : gz_FL RX1 15 1 1 := ⟨RX1, TX1, 2, tyX1, rfl, by decide, wf_X1_15, wu_X1, tyX1_ok, nmX1⟩
theorem fl_X3_45 : gz_FL RX3 45 1 1 := ⟨RX1, TX1, 2, tyX1, rfl, by decide, wf_X3_45, wu_X1, tyX1_ok, nmX1⟩
theorem fl_X4_206 : gz_FL RX4 206 1 1 := ⟨RX1, TX1, 2, tyX1, rfl, by decide, wf_X4_206, wu_X1, tyX1_ok, nmX1⟩
theorem fl_X3_12 : gz_FL RX3 12 3 0 := ⟨RX3, TX3, 8, tyX3, rfl, by decide, wf_X3_12, wu_X3, tyX3_ok, nmX3⟩
theorem fl_X4_187 : gz_FL RX4 187 3 0 := ⟨RX3, TX3, 8, tyX3, rfl, by decide, wf_X4_187, wu_X3, tyX3_ok, nmX3⟩
theorem fl_X3_18 : gz_FL RX3 18 3 1 := ⟨RX3, TX3, 8, tyX3, rfl, by decide, wf_X3_18, wu_X3, tyX3_ok, nmX3⟩
theorem fl_X4_180 : gz_FL RX4 180 3 1 := ⟨RX3, TX3, 8, tyX3, rfl, by decide, wf_X4_180, wu_X3, tyX3_ok, nmX3⟩
theorem fl_X3_22 : gz_FL RX3 22 3 2 := ⟨RX3, TX3, 8, tyX3, rfl, by decide, wf_X3_22, wu_X3, tyX3_ok, nmX3⟩
theorem fl_X4_181 : gz_FL RX4 181 3 2 := ⟨RX3, TX3, 8, tyX3, rfl, by decide, wf_X4_181, wu_X3, tyX3_ok, nmX3⟩
theorem fl_X3_25 : gz_FL RX3 25 3 3 := ⟨RX3, TX3, 8, tyX3, rfl, by decide, wf_X3_25, wu_X3, tyX3_ok, nmX3⟩
theorem fl_X3_28 : gz_FL RX3 28 3 4 := ⟨RX3, TX3, 8, tyX3, rfl, by decide, wf_X3_28, wu_X3, tyX3_ok, nmX3⟩
theorem fw_X3_28 : gz_FW RX3 28 3 4 .int := ⟨RX3, TX3, 8, tyX3, rfl, by decide, wf_X3_28, wu_X3, tyX3_ok, nmX3, rfl, rfl⟩
theorem fl_X3_32 : gz_FL RX3 32 3 5 := ⟨RX3, TX3, 8, tyX3, rfl, by decide, wf_X3_32, wu_X3, tyX3_ok, nmX3⟩
theorem fw_X3_32 : gz_FW RX3 32 3 5 .int := ⟨RX3, TX3, 8, tyX3, rfl, by decide, wf_X3_32, wu_X3, tyX3_ok, nmX3, rfl, rfl⟩
theorem fl_X4_105 : gz_FL RX4 105 3 5 := ⟨RX3, TX3, 8, tyX3, rfl, by decide, wf_X4_105, wu_X3, tyX3_ok, nmX3⟩
theorem fw_X4_105 : gz_FW RX4 105 3 5 .int := ⟨RX3, TX3, 8, tyX3, rfl, by decide, wf_X4_105, wu_X3, tyX3_ok, nmX3, rfl, rfl⟩
theorem fl_X3_35 : gz_FL RX3 35 3 6 := ⟨RX3, TX3, 8, tyX3, rfl, by decide, wf_X3_35, wu_X3, tyX3_ok, nmX3⟩
theorem fw_X3_35 : gz_FW RX3 35 3 6 .int := ⟨RX3, TX3, 8, tyX3, rfl, by decide, wf_X3_35, wu_X3, tyX3_ok, nmX3, rfl, rfl⟩
theorem fl_X4_213 : gz_FL RX4 213 3 6 := ⟨RX3, TX3, 8, tyX3, rfl, by decide, wf_X4_213, wu_X3, tyX3_ok, nmX3⟩
theorem fw_X4_213 : gz_FW RX4 213 3 6 .int := ⟨RX3, TX3, 8, tyX3, rfl, by decide, wf_X4_213, wu_X3, tyX3_ok, nmX3, rfl, rfl⟩
theorem fl_X3_38 : gz_FL RX3 38 3 7 := ⟨RX3, TX3, 8, tyX3, rfl, by decide, wf_X3_38, wu_X3, tyX3_ok, nmX3⟩
theorem fw_X3_38 : gz_FW RX3 38 3 7 .int := ⟨RX3, TX3, 8, tyX3, rfl, by decide, wf_X3_38, wu_X3, tyX3_ok, nmX3, rfl, rfl⟩
theorem fl_X4_216 : gz_FL RX4 216 3 7 := ⟨RX3, TX3, 8, tyX3, rfl, by decide, wf_X4_216, wu_X3, tyX3_ok, nmX3⟩
theorem fw_X4_216 : gz_FW RX4 216 3 7 .int := ⟨RX3, TX3, 8, tyX3, rfl, by decide, wf_X4_216, wu_X3, tyX3_ok, nmX3, rfl, rfl⟩
theorem fl_X2_9 : gz_FL RX2 9 2 0 := ⟨RX2, TX2, 3, tyX2, rfl, by decide, wf_X2_9, wu_X2, tyX2_ok, nmX2⟩
theorem fl_X4_66 : gz_FL RX4 66 2 0 := ⟨RX2, TX2, 3, tyX2, rfl, by decide, wf_X4_66, wu_X2, tyX2_ok, nmX2⟩
theorem fl_X2_15 : gz_FL RX2 15 2 1 := ⟨RX2, TX2, 3, tyX2, rfl, by decide, wf_X2_15, wu_X2, tyX2_ok, nmX2⟩
theorem fl_X2_18 : gz_FL RX2 18 2 2 := ⟨RX2, TX2, 3, tyX2, rfl, by decide, wf_X2_18, wu_X2, tyX2_ok, nmX2⟩
theorem fw_X2_18 : gz_FW RX2 18 2 2 .int := ⟨RX2, TX2, 3, tyX2, rfl, by decide, wf_X2_18, wu_X2, tyX2_ok, nmX2, rfl, rfl⟩
theorem fl_X4_59 : gz_FL RX4 59 2 2 := ⟨RX2, TX2, 3, tyX2, rfl, by decide, wf_X4_59, wu_X2, tyX2_ok, nmX2⟩
theorem fw_X4_59 : gz_FW RX4 59 2 2 .int := ⟨RX2, TX2, 3, tyX2, rfl, by decide, wf_X4_59, wu_X2, tyX2_ok, nmX2, rfl, rfl⟩
theorem fl_X0_11 : gz_FL RX0 11 0 0 := ⟨RX0, TX0, 9, tyX0, rfl, by decide, wf_X0_11, wu_X0, tyX0_ok, nmX0⟩
theorem fl_X4_170 : gz_FL RX4 170 0 0 := ⟨RX0, TX0, 9, tyX0, rfl, by decide, wf_X4_170, wu_X0, tyX0_ok, nmX0⟩
theorem fl_X0_16 : gz_FL RX0 16 0 1 := ⟨RX0, TX0, 9, tyX0, rfl, by decide, wf_X0_16, wu_X0, tyX0_ok, nmX0⟩
theorem fl_X4_167 : gz_FL RX4 167 0 1 := ⟨RX0, TX0, 9, tyX0, rfl, by decide, wf_X4_167, wu_X0, tyX0_ok, nmX0⟩
theorem fl_X0_20 : gz_FL RX0 20 0 2 := ⟨RX0, TX0, 9, tyX0, rfl, by decide, wf_X0_20, wu_X0, tyX0_ok, nmX0⟩
theorem fw_X0_20 : gz_FW RX0 20 0 2 .int := ⟨RX0, TX0, 9, tyX0, rfl, by decide, wf_X0_20, wu_X0, tyX0_ok, nmX0, rfl, rfl⟩
theorem fl_X4_122 : gz_FL RX4 122 0 2 := ⟨RX0, TX0, 9, tyX0, rfl, by decide, wf_X4_122, wu_X0, tyX0_ok, nmX0⟩
theorem fw_X4_122 : gz_FW RX4 122 0 2 .int := ⟨RX0, TX0, 9, tyX0, rfl, by decide, wf_X4_122, wu_X0, tyX0_ok, nmX0, rfl, rfl⟩
theorem fl_X0_24 : gz_FL RX0 24 0 3 := ⟨RX0, TX0, 9, tyX0, rfl, by decide, wf_X0_24, wu_X0, tyX0_ok, nmX0⟩
theorem fw_X0_24 : gz_FW RX0 24 0 3 .boolean := ⟨RX0, TX0, 9, tyX0, rfl, by decide, wf_X0_24, wu_X0, tyX0_ok, nmX0, rfl, rfl⟩
theorem fl_X4_129 : gz_FL RX4 129 0 3 := ⟨RX0, TX0, 9, tyX0, rfl, by decide, wf_X4_129, wu_X0, tyX0_ok, nmX0⟩
theorem fw_X4_129 : gz_FW RX4 129 0 3 .boolean := ⟨RX0, TX0, 9, tyX0, rfl, by decide, wf_X4_129, wu_X0, tyX0_ok, nmX0, rfl, rfl⟩
theorem fl_X0_28 : gz_FL RX0 28 0 4 := ⟨RX0, TX0, 9, tyX0, rfl, by decide, wf_X0_28, wu_X0, tyX0_ok, nmX0⟩
theorem fw_X0_28 : gz_FW RX0 28 0 4 .int := ⟨RX0, TX0, 9, tyX0, rfl, by decide, wf_X0_28, wu_X0, tyX0_ok, nmX0, rfl, rfl⟩
theorem fl_X4_155 : gz_FL RX4 155 0 4 := ⟨RX0, TX0, 9, tyX0, rfl, by decide, wf_X4_155, wu_X0, tyX0_ok, nmX0⟩
theorem fw_X4_155 : gz_FW RX4 155 0 4 .int := ⟨RX0, TX0, 9, tyX0, rfl, by decide, wf_X4_155, wu_X0, tyX0_ok, nmX0, rfl, rfl⟩
theorem fl_X0_31 : gz_FL RX0 31 0 5 := ⟨RX0, TX0, 9, tyX0, rfl, by decide, wf_X0_31, wu_X0, tyX0_ok, nmX0⟩
theorem fw_X0_31 : gz_FW RX0 31 0 5 .int := ⟨RX0, TX0, 9, tyX0, rfl, by decide, wf_X0_31, wu_X0, tyX0_ok, nmX0, rfl, rfl⟩
theorem fl_X4_142 : gz_FL RX4 142 0 5 := ⟨RX0, TX0, 9, tyX0, rfl, by decide, wf_X4_142, wu_X0, tyX0_ok, nmX0⟩
theorem fw_X4_142 : gz_FW RX4 142 0 5 .int := ⟨RX0, TX0, 9, tyX0, rfl, by decide, wf_X4_142, wu_X0, tyX0_ok, nmX0, rfl, rfl⟩
theorem fl_X0_34 : gz_FL RX0 34 0 6 := ⟨RX0, TX0, 9, tyX0, rfl, by decide, wf_X0_34, wu_X0, tyX0_ok, nmX0⟩
theorem fw_X0_34 : gz_FW RX0 34 0 6 .int := ⟨RX0, TX0, 9, tyX0, rfl, by decide, wf_X0_34, wu_X0, tyX0_ok, nmX0, rfl, rfl⟩
theorem fl_X4_161 : gz_FL RX4 161 0 6 := ⟨RX0, TX0, 9, tyX0, rfl, by decide, wf_X4_161, wu_X0, tyX0_ok, nmX0⟩
theorem fw_X4_161 : gz_FW RX4 161 0 6 .int := ⟨RX0, TX0, 9, tyX0, rfl, by decide, wf_X4_161, wu_X0, tyX0_ok, nmX0, rfl, rfl⟩
theorem fl_X0_37 : gz_FL RX0 37 0 7 := ⟨RX0, TX0, 9, tyX0, rfl, by decide, wf_X0_37, wu_X0, tyX0_ok, nmX0⟩
theorem fw_X0_37 : gz_FW RX0 37 0 7 .int := ⟨RX0, TX0, 9, tyX0, rfl, by decide, wf_X0_37, wu_X0, tyX0_ok, nmX0, rfl, rfl⟩
theorem fl_X4_164 : gz_FL RX4 164 0 7 := ⟨RX0, TX0, 9, tyX0, rfl, by decide, wf_X4_164, wu_X0, tyX0_ok, nmX0⟩
theorem fw_X4_164 : gz_FW RX4 164 0 7 .int := ⟨RX0, TX0, 9, tyX0, rfl, by decide, wf_X4_164, wu_X0, tyX0_ok, nmX0, rfl, rfl⟩
theorem fl_X0_40 : gz_FL RX0 40 0 8 := ⟨RX0, TX0, 9, tyX0, rfl, by decide, wf_X0_40, wu_X0, tyX0_ok, nmX0⟩
theorem fw_X0_40 : gz_FW RX0 40 0 8 .int := ⟨RX0, TX0, 9, tyX0, rfl, by decide, wf_X0_40, wu_X0, tyX0_ok, nmX0, rfl, rfl⟩
theorem fl_X4_108 : gz_FL RX4 108 0 8 := ⟨RX0, TX0, 9, tyX0, rfl, by decide, wf_X4_108, wu_X0, tyX0_ok, nmX0⟩
theorem fw_X4_108 : gz_FW RX4 108 0 8 .int := ⟨RX0, TX0, 9, tyX0, rfl, by decide, wf_X4_108, wu_X0, tyX0_ok, nmX0, rfl, rfl⟩
theorem fl_X4_11 : gz_FL RX4 11 4 0 := ⟨RX4, TX4, 9, tyX4, rfl, by decide, wf_X4_11, wu_X4, tyX4_ok, nmX4⟩
theorem fl_X4_17 : gz_FL RX4 17 4 1 := ⟨RX4, TX4, 9, tyX4, rfl, by decide, wf_X4_17, wu_X4, tyX4_ok, nmX4⟩
theorem fl_X4_24 : gz_FL RX4 24 4 2 := ⟨RX4, TX4, 9, tyX4, rfl, by decide, wf_X4_24, wu_X4, tyX4_ok, nmX4⟩
theorem fl_X4_30 : gz_FL RX4 30 4 3 := ⟨RX4, TX4, 9, tyX4, rfl, by decide, wf_X4_30, wu_X4, tyX4_ok, nmX4⟩
theorem fl_X4_34 : gz_FL RX4 34 4 4 := ⟨RX4, TX4, 9, tyX4, rfl, by decide, wf_X4_34, wu_X4, tyX4_ok, nmX4⟩
theorem fl_X4_38 : gz_FL RX4 38 4 5 := ⟨RX4, TX4, 9, tyX4, rfl, by decide, wf_X4_38, wu_X4, tyX4_ok, nmX4⟩
theorem fl_X4_42 : gz_FL RX4 42 4 6 := ⟨RX4, TX4, 9, tyX4, rfl, by decide, wf_X4_42, wu_X4, tyX4_ok, nmX4⟩
theorem fw_X4_42 : gz_FW RX4 42 4 6 .int := ⟨RX4, TX4, 9, tyX4, rfl, by decide, wf_X4_42, wu_X4, tyX4_ok, nmX4, rfl, rfl⟩
theorem fl_X4_46 : gz_FL RX4 46 4 7 := ⟨RX4, TX4, 9, tyX4, rfl, by decide, wf_X4_46, wu_X4, tyX4_ok, nmX4⟩
theorem fw_X4_46 : gz_FW RX4 46 4 7 .int := ⟨RX4, TX4, 9, tyX4, rfl, by decide, wf_X4_46, wu_X4, tyX4_ok, nmX4, rfl, rfl⟩
theorem fl_X4_49 : gz_FL RX4 49 4 8 := ⟨RX4, TX4, 9, tyX4, rfl, by decide, wf_X4_49, wu_X4, tyX4_ok, nmX4⟩
theorem fw_X4_49 : gz_FW RX4 49 4 8 .int := ⟨RX4, TX4, 9, tyX4, rfl, by decide, wf_X4_49, wu_X4, tyX4_ok, nmX4, rfl, rfl⟩
theorem fl_X5_7 : gz_FL RX5 7 5 0 := ⟨RX5, TX5, 21, tyX5, rfl, by decide, wf_X5_7, wu_X5, tyX5_ok, nmX5⟩
theorem fw_X5_7 : gz_FW RX5 7 5 0 .int := ⟨RX5, TX5, 21, tyX5, rfl, by decide, wf_X5_7, wu_X5, tyX5_ok, nmX5, rfl, rfl⟩
theorem fl_X5_13 : gz_FL RX5 13 5 1 := ⟨RX5, TX5, 21, tyX5, rfl, by decide, wf_X5_13, wu_X5, tyX5_ok, nmX5⟩
theorem fl_X5_17 : gz_FL RX5 17 5 2 := ⟨RX5, TX5, 21, tyX5, rfl, by decide, wf_X5_17, wu_X5, tyX5_ok, nmX5⟩
theorem fl_X5_20 : gz_FL RX5 20 5 3 := ⟨RX5, TX5, 21, tyX5, rfl, by decide, wf_X5_20, wu_X5, tyX5_ok, nmX5⟩
theorem fl_X5_23 : gz_FL RX5 23 5 4 := ⟨RX5, TX5, 21, tyX5, rfl, by decide, wf_X5_23, wu_X5, tyX5_ok, nmX5⟩
theorem fl_X5_26 : gz_FL RX5 26 5 5 := ⟨RX5, TX5, 21, tyX5, rfl, by decide, wf_X5_26, wu_X5, tyX5_ok, nmX5⟩
theorem fl_X5_29 : gz_FL RX5 29 5 6 := ⟨RX5, TX5, 21, tyX5, rfl, by decide, wf_X5_29, wu_X5, tyX5_ok, nmX5⟩
theorem fl_X5_33 : gz_FL RX5 33 5 7 := ⟨RX5, TX5, 21, tyX5, rfl, by decide, wf_X5_33, wu_X5, tyX5_ok, nmX5⟩
theorem fl_X5_36 : gz_FL RX5 36 5 8 := ⟨RX5, TX5, 21, tyX5, rfl, by decide, wf_X5_36, wu_X5, tyX5_ok, nmX5⟩
theorem fl_X5_39 : gz_FL RX5 39 5 9 := ⟨RX5, TX5, 21, tyX5, rfl, by decide, wf_X5_39, wu_X5, tyX5_ok, nmX5⟩
theorem fl_X5_128 : gz_FL RX5 128 5 10 := ⟨RX5, TX5, 21, tyX5, rfl, by decide, wf_X5_128, wu_X5, tyX5_ok, nmX5⟩
theorem fw_X5_128 : gz_FW RX5 128 5 10 .int := ⟨RX5, TX5, 21, tyX5, rfl, by decide, wf_X5_128, wu_X5, tyX5_ok, nmX5, rfl, rfl⟩
theorem fl_X5_42 : gz_FL RX5 42 5 11 := ⟨RX5, TX5, 21, tyX5, rfl, by decide, wf_X5_42, wu_X5, tyX5_ok, nmX5⟩
theorem fl_X5_45 : gz_FL RX5 45 5 12 := ⟨RX5, TX5, 21, tyX5, rfl, by decide, wf_X5_45, wu_X5, tyX5_ok, nmX5⟩
theorem fl_X5_48 : gz_FL RX5 48 5 13 := ⟨RX5, TX5, 21, tyX5, rfl, by decide, wf_X5_48, wu_X5, tyX5_ok, nmX5⟩
theorem fl_X5_51 : gz_FL RX5 51 5 14 := ⟨RX5, TX5, 21, tyX5, rfl, by decide, wf_X5_51, wu_X5, tyX5_ok, nmX5⟩
theorem fl_X5_54 : gz_FL RX5 54 5 15 := ⟨RX5, TX5, 21, tyX5, rfl, by decide, wf_X5_54, wu_X5, tyX5_ok, nmX5⟩
theorem fl_X5_57 : gz_FL RX5 57 5 16 := ⟨RX5, TX5, 21, tyX5, rfl, by decide, wf_X5_57, wu_X5, tyX5_ok, nmX5⟩
theorem fl_X5_60 : gz_FL RX5 60 5 17 := ⟨RX5, TX5, 21, tyX5, rfl, by decide, wf_X5_60, wu_X5, tyX5_ok, nmX5⟩
theorem fl_X5_63 : gz_FL RX5 63 5 18 := ⟨RX5, TX5, 21, tyX5, rfl, by decide, wf_X5_63, wu_X5, tyX5_ok, nmX5⟩
theorem fl_X5_66 : gz_FL RX5 66 5 19 := ⟨RX5, TX5, 21, tyX5, rfl, by decide, wf_X5_66, wu_X5, tyX5_ok, nmX5⟩
theorem fl_X5_69 : gz_FL RX5 69 5 20 := ⟨RX5, TX5, 21, tyX5, rfl, by decide, wf_X5_69, wu_X5, tyX5_ok, nmX5⟩
theorem my_X4_insert : gz_YV yX4_insert cX4_insert 8 (some .int) 4 4 := ⟨⟨wc_X4_insert, wn_X4, by decide +kernel, by decide +kernel⟩, wi_X4_insert, we_X4_insert, TX4, 9, rfl⟩
theorem my_X4_isTask : gz_YV yX4_isTask cX4_isTask 2 (some .boolean) 1 4 := ⟨⟨wc_X4_isTask, wn_X4, by decide +kernel, by decide +kernel⟩, wi_X4_isTask, we_X4_isTask, TX4, 9, rfl⟩
theorem my_X2_open : gz_YV yX2_open cX2_open 3 none 2 2 := ⟨⟨wc_X2_open, wn_X2, by decide +kernel, by decide +kernel⟩, wi_X2_open, we_X2_open, TX2, 3, rfl⟩
theorem my_X4_remove : gz_YV yX4_remove cX4_remove 5 (some .int) 3 4 := ⟨⟨wc_X4_remove, wn_X4, by decide +kernel, by decide +kernel⟩, wi_X4_remove, we_X4_remove, TX4, 9, rfl⟩
theorem my_X2_close : gz_YV yX2_close cX2_close 3 none 2 2 := ⟨⟨wc_X2_close, wn_X2, by decide +kernel, by decide +kernel⟩, wi_X2_close, we_X2_close, TX2, 3, rfl⟩
theorem my_X4_extend : gz_YV yX4_extend cX4_extend 8 (some .int) 4 4 := ⟨⟨wc_X4_extend, wn_X4, by decide +kernel, by decide +kernel⟩, wi_X4_extend, we_X4_extend, TX4, 9, rfl⟩
theorem my_X4_state : gz_YV yX4_state cX4_state 3 (some .int) 2 4 := ⟨⟨wc_X4_state, wn_X4, by decide +kernel, by decide +kernel⟩, wi_X4_state, we_X4_state, TX4, 9, rfl⟩
theorem my_X4_chunk : gz_YV yX4_chunk cX4_chunk 5 (some .int) 2 4 := ⟨⟨wc_X4_chunk, wn_X4, by decide +kernel, by decide +kernel⟩, wi_X4_chunk, we_X4_chunk, TX4, 9, rfl⟩
theorem my_X2_cut : gz_YV yX2_cut cX2_cut 4 (some .int) 0 2 := ⟨⟨wc_X2_cut, wn_X2, by decide +kernel, by decide +kernel⟩, wi_X2_cut, we_X2_cut, TX2, 3, rfl⟩
theorem my_X2_endsChunk : gz_YV yX2_endsChunk cX2_endsChunk 3 (some .boolean) 2 2 := ⟨⟨wc_X2_endsChunk, wn_X2, by decide +kernel, by decide +kernel⟩, wi_X2_endsChunk, we_X2_endsChunk, TX2, 3, rfl⟩
theorem my_X2_chunkSize : gz_YV yX2_chunkSize cX2_chunkSize 2 (some .int) 1 2 := ⟨⟨wc_X2_chunkSize, wn_X2, by decide +kernel, by decide +kernel⟩, wi_X2_chunkSize, we_X2_chunkSize, TX2, 3, rfl⟩
theorem my_X2_chunkStart : gz_YV yX2_chunkStart cX2_chunkStart 2 (some .int) 1 2 := ⟨⟨wc_X2_chunkStart, wn_X2, by decide +kernel, by decide +kernel⟩, wi_X2_chunkStart, we_X2_chunkStart, TX2, 3, rfl⟩
theorem my_X4_rescale : gz_YV yX4_rescale cX4_rescale 6 (some .int) 1 4 := ⟨⟨wc_X4_rescale, wn_X4, by decide +kernel, by decide +kernel⟩, wi_X4_rescale, we_X4_rescale, TX4, 9, rfl⟩
theorem my_X4_totalStateBytes : gz_YV yX4_totalStateBytes cX4_totalStateBytes 3 (some .int) 0 4 := ⟨⟨wc_X4_totalStateBytes, wn_X4, by decide +kernel, by decide +kernel⟩, wi_X4_totalStateBytes, we_X4_totalStateBytes, TX4, 9, rfl⟩
theorem my_X4_shareStart : gz_YS yX4_shareStart cX4_shareStart 3 (some .int) 3 := ⟨⟨wc_X4_shareStart, wn_X4, by decide +kernel, by decide +kernel⟩, ws_X4_shareStart⟩
theorem my_X4_joinStates : gz_YV yX4_joinStates cX4_joinStates 3 none 0 4 := ⟨⟨wc_X4_joinStates, wn_X4, by decide +kernel, by decide +kernel⟩, wi_X4_joinStates, we_X4_joinStates, TX4, 9, rfl⟩
theorem my_X4_becomeTasks : gz_YV yX4_becomeTasks cX4_becomeTasks 3 none 1 4 := ⟨⟨wc_X4_becomeTasks, wn_X4, by decide +kernel, by decide +kernel⟩, wi_X4_becomeTasks, we_X4_becomeTasks, TX4, 9, rfl⟩
theorem my_X1_clear : gz_YV yX1_clear cX1_clear 2 none 0 1 := ⟨⟨wc_X1_clear, wn_X1, by decide +kernel, by decide +kernel⟩, wi_X1_clear, we_X1_clear, TX1, 2, rfl⟩
theorem my_X2_append : gz_YV yX2_append cX2_append 4 none 3 2 := ⟨⟨wc_X2_append, wn_X2, by decide +kernel, by decide +kernel⟩, wi_X2_append, we_X2_append, TX2, 3, rfl⟩
theorem my_X4_mark : gz_YV yX4_mark cX4_mark 3 (some .int) 1 4 := ⟨⟨wc_X4_mark, wn_X4, by decide +kernel, by decide +kernel⟩, wi_X4_mark, we_X4_mark, TX4, 9, rfl⟩
theorem my_X0_begin : gz_YV yX0_begin cX0_begin 3 none 2 0 := ⟨⟨wc_X0_begin, wn_X0, by decide +kernel, by decide +kernel⟩, wi_X0_begin, we_X0_begin, TX0, 9, rfl⟩
theorem my_X4_storeStates : gz_YV yX4_storeStates cX4_storeStates 3 (some .boolean) 1 4 := ⟨⟨wc_X4_storeStates, wn_X4, by decide +kernel, by decide +kernel⟩, wi_X4_storeStates, we_X4_storeStates, TX4, 9, rfl⟩
theorem my_X3_beginMarking : gz_YV yX3_beginMarking cX3_beginMarking 1 none 0 3 := ⟨⟨wc_X3_beginMarking, wn_X3, by decide +kernel, by decide +kernel⟩, wi_X3_beginMarking, we_X3_beginMarking, TX3, 8, rfl⟩
theorem my_X4_storeState : gz_YV yX4_storeState cX4_storeState 7 (some .boolean) 2 4 := ⟨⟨wc_X4_storeState, wn_X4, by decide +kernel, by decide +kernel⟩, wi_X4_storeState, we_X4_storeState, TX4, 9, rfl⟩
theorem my_X3_partOf : gz_YV yX3_partOf cX3_partOf 6 (some .int) 3 3 := ⟨⟨wc_X3_partOf, wn_X3, by decide +kernel, by decide +kernel⟩, wi_X3_partOf, we_X3_partOf, TX3, 8, rfl⟩
theorem my_X4_digestOf : gz_YS yX4_digestOf cX4_digestOf 5 (some .int) 3 := ⟨⟨wc_X4_digestOf, wn_X4, by decide +kernel, by decide +kernel⟩, ws_X4_digestOf⟩
theorem my_X3_findPart : gz_YV yX3_findPart cX3_findPart 6 (some .int) 4 3 := ⟨⟨wc_X3_findPart, wn_X3, by decide +kernel, by decide +kernel⟩, wi_X3_findPart, we_X3_findPart, TX3, 8, rfl⟩
theorem my_X1_holds : gz_YV yX1_holds cX1_holds 6 (some .boolean) 4 1 := ⟨⟨wc_X1_holds, wn_X1, by decide +kernel, by decide +kernel⟩, wi_X1_holds, we_X1_holds, TX1, 2, rfl⟩
theorem my_X3_makePart : gz_YV yX3_makePart cX3_makePart 6 (some .int) 4 3 := ⟨⟨wc_X3_makePart, wn_X3, by decide +kernel, by decide +kernel⟩, wi_X3_makePart, we_X3_makePart, TX3, 8, rfl⟩
theorem my_X3_leastUnused : gz_YV yX3_leastUnused cX3_leastUnused 2 (some .int) 0 3 := ⟨⟨wc_X3_leastUnused, wn_X3, by decide +kernel, by decide +kernel⟩, wi_X3_leastUnused, we_X3_leastUnused, TX3, 8, rfl⟩
theorem my_X1_put : gz_YV yX1_put cX1_put 5 none 4 1 := ⟨⟨wc_X1_put, wn_X1, by decide +kernel, by decide +kernel⟩, wi_X1_put, we_X1_put, TX1, 2, rfl⟩
theorem my_X3_undoMarking : gz_YV yX3_undoMarking cX3_undoMarking 2 none 0 3 := ⟨⟨wc_X3_undoMarking, wn_X3, by decide +kernel, by decide +kernel⟩, wi_X3_undoMarking, we_X3_undoMarking, TX3, 8, rfl⟩
theorem my_X3_takeAway : gz_YV yX3_takeAway cX3_takeAway 2 none 1 3 := ⟨⟨wc_X3_takeAway, wn_X3, by decide +kernel, by decide +kernel⟩, wi_X3_takeAway, we_X3_takeAway, TX3, 8, rfl⟩
theorem my_X4_latestKept : gz_YV yX4_latestKept cX4_latestKept 2 (some (.object "GrownSnapshots$Mark")) 0 4 := ⟨⟨wc_X4_latestKept, wn_X4, by decide +kernel, by decide +kernel⟩, wi_X4_latestKept, we_X4_latestKept, TX4, 9, rfl⟩
theorem my_X0_growUpon : gz_YV yX0_growUpon cX0_growUpon 3 none 1 0 := ⟨⟨wc_X0_growUpon, wn_X0, by decide +kernel, by decide +kernel⟩, wi_X0_growUpon, we_X0_growUpon, TX0, 9, rfl⟩
theorem my_X0_partCount : gz_YV yX0_partCount cX0_partCount 3 (some .int) 0 0 := ⟨⟨wc_X0_partCount, wn_X0, by decide +kernel, by decide +kernel⟩, wi_X0_partCount, we_X0_partCount, TX0, 9, rfl⟩
theorem my_X0_sharedParts : gz_YV yX0_sharedParts cX0_sharedParts 6 (some .int) 2 0 := ⟨⟨wc_X0_sharedParts, wn_X0, by decide +kernel, by decide +kernel⟩, wi_X0_sharedParts, we_X0_sharedParts, TX0, 9, rfl⟩
theorem my_J9_min_7cf53 : gz_YS yJ9_min_7cf53 cJ9_min_7cf53 2 (some .int) 2 := ⟨⟨wc_J9_min_7cf53, wn_J9, by decide +kernel, by decide +kernel⟩, ws_J9_min_7cf53⟩
theorem my_X4_copyStates : gz_YV yX4_copyStates cX4_copyStates 6 none 1 4 := ⟨⟨wc_X4_copyStates, wn_X4, by decide +kernel, by decide +kernel⟩, wi_X4_copyStates, we_X4_copyStates, TX4, 9, rfl⟩
theorem my_X4_drop : gz_YV yX4_drop cX4_drop 3 (some .int) 1 4 := ⟨⟨wc_X4_drop, wn_X4, by decide +kernel, by decide +kernel⟩, wi_X4_drop, we_X4_drop, TX4, 9, rfl⟩
theorem my_X4_keptMark : gz_YV yX4_keptMark cX4_keptMark 3 (some (.object "GrownSnapshots$Mark")) 1 4 := ⟨⟨wc_X4_keptMark, wn_X4, by decide +kernel, by decide +kernel⟩, wi_X4_keptMark, we_X4_keptMark, TX4, 9, rfl⟩
theorem my_X4_heldMark : gz_YV yX4_heldMark cX4_heldMark 3 (some (.object "GrownSnapshots$Mark")) 1 4 := ⟨⟨wc_X4_heldMark, wn_X4, by decide +kernel, by decide +kernel⟩, wi_X4_heldMark, we_X4_heldMark, TX4, 9, rfl⟩
theorem my_X4_letGoUnheld : gz_YV yX4_letGoUnheld cX4_letGoUnheld 2 none 0 4 := ⟨⟨wc_X4_letGoUnheld, wn_X4, by decide +kernel, by decide +kernel⟩, wi_X4_letGoUnheld, we_X4_letGoUnheld, TX4, 9, rfl⟩
theorem my_X4_isBase : gz_YV yX4_isBase cX4_isBase 3 (some .boolean) 1 4 := ⟨⟨wc_X4_isBase, wn_X4, by decide +kernel, by decide +kernel⟩, wi_X4_isBase, we_X4_isBase, TX4, 9, rfl⟩
theorem my_X4_letGo : gz_YV yX4_letGo cX4_letGo 4 none 1 4 := ⟨⟨wc_X4_letGo, wn_X4, by decide +kernel, by decide +kernel⟩, wi_X4_letGo, we_X4_letGo, TX4, 9, rfl⟩
theorem my_X4_freeUnnamed : gz_YV yX4_freeUnnamed cX4_freeUnnamed 3 (some .int) 0 4 := ⟨⟨wc_X4_freeUnnamed, wn_X4, by decide +kernel, by decide +kernel⟩, wi_X4_freeUnnamed, we_X4_freeUnnamed, TX4, 9, rfl⟩
theorem my_X4_nameKeptParts : gz_YV yX4_nameKeptParts cX4_nameKeptParts 2 none 0 4 := ⟨⟨wc_X4_nameKeptParts, wn_X4, by decide +kernel, by decide +kernel⟩, wi_X4_nameKeptParts, we_X4_nameKeptParts, TX4, 9, rfl⟩
theorem my_X0_addNames : gz_YV yX0_addNames cX0_addNames 4 none 1 0 := ⟨⟨wc_X0_addNames, wn_X0, by decide +kernel, by decide +kernel⟩, wi_X0_addNames, we_X0_addNames, TX0, 9, rfl⟩
theorem my_X3_isThere : gz_YV yX3_isThere cX3_isThere 2 (some .boolean) 1 3 := ⟨⟨wc_X3_isThere, wn_X3, by decide +kernel, by decide +kernel⟩, wi_X3_isThere, we_X3_isThere, TX3, 8, rfl⟩
theorem my_X4_freePart : gz_YV yX4_freePart cX4_freePart 3 none 1 4 := ⟨⟨wc_X4_freePart, wn_X4, by decide +kernel, by decide +kernel⟩, wi_X4_freePart, we_X4_freePart, TX4, 9, rfl⟩
theorem my_X4_back : gz_YV yX4_back cX4_back 4 (some .int) 1 4 := ⟨⟨wc_X4_back, wn_X4, by decide +kernel, by decide +kernel⟩, wi_X4_back, we_X4_back, TX4, 9, rfl⟩
theorem my_X4_latestUsable : gz_YV yX4_latestUsable cX4_latestUsable 3 (some (.object "GrownSnapshots$Mark")) 1 4 := ⟨⟨wc_X4_latestUsable, wn_X4, by decide +kernel, by decide +kernel⟩, wi_X4_latestUsable, we_X4_latestUsable, TX4, 9, rfl⟩
theorem my_X4_isUsable : gz_YV yX4_isUsable cX4_isUsable 4 (some .boolean) 1 4 := ⟨⟨wc_X4_isUsable, wn_X4, by decide +kernel, by decide +kernel⟩, wi_X4_isUsable, we_X4_isUsable, TX4, 9, rfl⟩
theorem my_X4_isReadable : gz_YV yX4_isReadable cX4_isReadable 3 (some .boolean) 2 4 := ⟨⟨wc_X4_isReadable, wn_X4, by decide +kernel, by decide +kernel⟩, wi_X4_isReadable, we_X4_isReadable, TX4, 9, rfl⟩
theorem my_X3_isSound : gz_YV yX3_isSound cX3_isSound 3 (some .boolean) 2 3 := ⟨⟨wc_X3_isSound, wn_X3, by decide +kernel, by decide +kernel⟩, wi_X3_isSound, we_X3_isSound, TX3, 8, rfl⟩
theorem my_X4_readState : gz_YV yX4_readState cX4_readState 6 none 2 4 := ⟨⟨wc_X4_readState, wn_X4, by decide +kernel, by decide +kernel⟩, wi_X4_readState, we_X4_readState, TX4, 9, rfl⟩
theorem my_X4_readPart : gz_YV yX4_readPart cX4_readPart 3 none 2 4 := ⟨⟨wc_X4_readPart, wn_X4, by decide +kernel, by decide +kernel⟩, wi_X4_readPart, we_X4_readPart, TX4, 9, rfl⟩
theorem my_X4_usable : gz_YV yX4_usable cX4_usable 3 (some .int) 1 4 := ⟨⟨wc_X4_usable, wn_X4, by decide +kernel, by decide +kernel⟩, wi_X4_usable, we_X4_usable, TX4, 9, rfl⟩
theorem my_X4_markTold : gz_YV yX4_markTold cX4_markTold 4 (some .int) 2 4 := ⟨⟨wc_X4_markTold, wn_X4, by decide +kernel, by decide +kernel⟩, wi_X4_markTold, we_X4_markTold, TX4, 9, rfl⟩
theorem my_X4_list : gz_YV yX4_list cX4_list 5 (some .int) 3 4 := ⟨⟨wc_X4_list, wn_X4, by decide +kernel, by decide +kernel⟩, wi_X4_list, we_X4_list, TX4, 9, rfl⟩
theorem my_X4_same : gz_YV yX4_same cX4_same 5 (some .boolean) 2 4 := ⟨⟨wc_X4_same, wn_X4, by decide +kernel, by decide +kernel⟩, wi_X4_same, we_X4_same, TX4, 9, rfl⟩
theorem my_X0_isAlike : gz_YV yX0_isAlike cX0_isAlike 3 (some .boolean) 1 0 := ⟨⟨wc_X0_isAlike, wn_X0, by decide +kernel, by decide +kernel⟩, wi_X0_isAlike, we_X0_isAlike, TX0, 9, rfl⟩
theorem my_X0_hasAlikeList : gz_YV yX0_hasAlikeList cX0_hasAlikeList 4 (some .boolean) 2 0 := ⟨⟨wc_X0_hasAlikeList, wn_X0, by decide +kernel, by decide +kernel⟩, wi_X0_hasAlikeList, we_X0_hasAlikeList, TX0, 9, rfl⟩
theorem my_X4_partTold : gz_YV yX4_partTold cX4_partTold 3 (some .int) 2 4 := ⟨⟨wc_X4_partTold, wn_X4, by decide +kernel, by decide +kernel⟩, wi_X4_partTold, we_X4_partTold, TX4, 9, rfl⟩
theorem my_X4_keptNaming : gz_YV yX4_keptNaming cX4_keptNaming 4 (some .int) 1 4 := ⟨⟨wc_X4_keptNaming, wn_X4, by decide +kernel, by decide +kernel⟩, wi_X4_keptNaming, we_X4_keptNaming, TX4, 9, rfl⟩
theorem my_X0_names : gz_YV yX0_names cX0_names 4 (some .boolean) 1 0 := ⟨⟨wc_X0_names, wn_X0, by decide +kernel, by decide +kernel⟩, wi_X0_names, we_X0_names, TX0, 9, rfl⟩
theorem my_X4_copyCount : gz_YV yX4_copyCount cX4_copyCount 4 (some .int) 1 4 := ⟨⟨wc_X4_copyCount, wn_X4, by decide +kernel, by decide +kernel⟩, wi_X4_copyCount, we_X4_copyCount, TX4, 9, rfl⟩
theorem my_X4_partByte : gz_YV yX4_partByte cX4_partByte 5 (some .int) 3 4 := ⟨⟨wc_X4_partByte, wn_X4, by decide +kernel, by decide +kernel⟩, wi_X4_partByte, we_X4_partByte, TX4, 9, rfl⟩
theorem my_X4_shelfOf : gz_YV yX4_shelfOf cX4_shelfOf 2 (some (.object "GrownSnapshots$Shelf")) 1 4 := ⟨⟨wc_X4_shelfOf, wn_X4, by decide +kernel, by decide +kernel⟩, wi_X4_shelfOf, we_X4_shelfOf, TX4, 9, rfl⟩
theorem my_X3_hasByte : gz_YV yX3_hasByte cX3_hasByte 4 (some .boolean) 3 3 := ⟨⟨wc_X3_hasByte, wn_X3, by decide +kernel, by decide +kernel⟩, wi_X3_hasByte, we_X3_hasByte, TX3, 8, rfl⟩
theorem my_X4_alter : gz_YV yX4_alter cX4_alter 6 (some .int) 4 4 := ⟨⟨wc_X4_alter, wn_X4, by decide +kernel, by decide +kernel⟩, wi_X4_alter, we_X4_alter, TX4, 9, rfl⟩
theorem my_X4_lose : gz_YV yX4_lose cX4_lose 4 (some .int) 2 4 := ⟨⟨wc_X4_lose, wn_X4, by decide +kernel, by decide +kernel⟩, wi_X4_lose, we_X4_lose, TX4, 9, rfl⟩
theorem my_X4_told : gz_YV yX4_told cX4_told 2 (some .int) 1 4 := ⟨⟨wc_X4_told, wn_X4, by decide +kernel, by decide +kernel⟩, wi_X4_told, we_X4_told, TX4, 9, rfl⟩
theorem my_X4_keptCount : gz_YV yX4_keptCount cX4_keptCount 3 (some .int) 0 4 := ⟨⟨wc_X4_keptCount, wn_X4, by decide +kernel, by decide +kernel⟩, wi_X4_keptCount, we_X4_keptCount, TX4, 9, rfl⟩
theorem my_X3_brokenCount : gz_YV yX3_brokenCount cX3_brokenCount 3 (some .int) 0 3 := ⟨⟨wc_X3_brokenCount, wn_X3, by decide +kernel, by decide +kernel⟩, wi_X3_brokenCount, we_X3_brokenCount, TX3, 8, rfl⟩
theorem my_X4_allCopies : gz_YV yX4_allCopies cX4_allCopies 3 (some .int) 0 4 := ⟨⟨wc_X4_allCopies, wn_X4, by decide +kernel, by decide +kernel⟩, wi_X4_allCopies, we_X4_allCopies, TX4, 9, rfl⟩
theorem my_X5_insert : gz_YV yX5_insert cX5_insert 8 (some .int) 4 5 := ⟨⟨wc_X5_insert, wn_X5, by decide +kernel, by decide +kernel⟩, wi_X5_insert, we_X5_insert, TX5, 21, rfl⟩
theorem my_X5_isTask : gz_YV yX5_isTask cX5_isTask 2 (some .boolean) 1 5 := ⟨⟨wc_X5_isTask, wn_X5, by decide +kernel, by decide +kernel⟩, wi_X5_isTask, we_X5_isTask, TX5, 21, rfl⟩
theorem my_X5_in : gz_YS yX5_in cX5_in 3 (some .boolean) 3 := ⟨⟨wc_X5_in, wn_X5, by decide +kernel, by decide +kernel⟩, ws_X5_in⟩
theorem my_X5_remove : gz_YV yX5_remove cX5_remove 6 (some .int) 3 5 := ⟨⟨wc_X5_remove, wn_X5, by decide +kernel, by decide +kernel⟩, wi_X5_remove, we_X5_remove, TX5, 21, rfl⟩
theorem my_X5_extend : gz_YV yX5_extend cX5_extend 6 (some .int) 4 5 := ⟨⟨wc_X5_extend, wn_X5, by decide +kernel, by decide +kernel⟩, wi_X5_extend, we_X5_extend, TX5, 21, rfl⟩
theorem my_X5_state : gz_YV yX5_state cX5_state 3 (some .int) 2 5 := ⟨⟨wc_X5_state, wn_X5, by decide +kernel, by decide +kernel⟩, wi_X5_state, we_X5_state, TX5, 21, rfl⟩
theorem my_X5_chunk : gz_YV yX5_chunk cX5_chunk 6 (some .int) 2 5 := ⟨⟨wc_X5_chunk, wn_X5, by decide +kernel, by decide +kernel⟩, wi_X5_chunk, we_X5_chunk, TX5, 21, rfl⟩
theorem my_X5_chunkFrom : gz_YV yX5_chunkFrom cX5_chunkFrom 7 (some .int) 2 5 := ⟨⟨wc_X5_chunkFrom, wn_X5, by decide +kernel, by decide +kernel⟩, wi_X5_chunkFrom, we_X5_chunkFrom, TX5, 21, rfl⟩
theorem my_X5_rescale : gz_YV yX5_rescale cX5_rescale 6 (some .int) 1 5 := ⟨⟨wc_X5_rescale, wn_X5, by decide +kernel, by decide +kernel⟩, wi_X5_rescale, we_X5_rescale, TX5, 21, rfl⟩
theorem my_X5_become : gz_YV yX5_become cX5_become 4 none 1 5 := ⟨⟨wc_X5_become, wn_X5, by decide +kernel, by decide +kernel⟩, wi_X5_become, we_X5_become, TX5, 21, rfl⟩
theorem my_X5_partTold : gz_YV yX5_partTold cX5_partTold 5 (some .int) 2 5 := ⟨⟨wc_X5_partTold, wn_X5, by decide +kernel, by decide +kernel⟩, wi_X5_partTold, we_X5_partTold, TX5, 21, rfl⟩
theorem my_X5_isPart : gz_YV yX5_isPart cX5_isPart 2 (some .boolean) 1 5 := ⟨⟨wc_X5_isPart, wn_X5, by decide +kernel, by decide +kernel⟩, wi_X5_isPart, we_X5_isPart, TX5, 21, rfl⟩
theorem my_X5_hasPart : gz_YV yX5_hasPart cX5_hasPart 6 (some .boolean) 2 5 := ⟨⟨wc_X5_hasPart, wn_X5, by decide +kernel, by decide +kernel⟩, wi_X5_hasPart, we_X5_hasPart, TX5, 21, rfl⟩
theorem my_X5_isBroken : gz_YV yX5_isBroken cX5_isBroken 4 (some .boolean) 1 5 := ⟨⟨wc_X5_isBroken, wn_X5, by decide +kernel, by decide +kernel⟩, wi_X5_isBroken, we_X5_isBroken, TX5, 21, rfl⟩
theorem my_X5_partByte : gz_YV yX5_partByte cX5_partByte 4 (some .int) 3 5 := ⟨⟨wc_X5_partByte, wn_X5, by decide +kernel, by decide +kernel⟩, wi_X5_partByte, we_X5_partByte, TX5, 21, rfl⟩
theorem my_X5_isByte : gz_YV yX5_isByte cX5_isByte 4 (some .boolean) 3 5 := ⟨⟨wc_X5_isByte, wn_X5, by decide +kernel, by decide +kernel⟩, wi_X5_isByte, we_X5_isByte, TX5, 21, rfl⟩
theorem my_X5_alter : gz_YV yX5_alter cX5_alter 5 (some .int) 4 5 := ⟨⟨wc_X5_alter, wn_X5, by decide +kernel, by decide +kernel⟩, wi_X5_alter, we_X5_alter, TX5, 21, rfl⟩
theorem my_X5_lose : gz_YV yX5_lose cX5_lose 3 (some .int) 2 5 := ⟨⟨wc_X5_lose, wn_X5, by decide +kernel, by decide +kernel⟩, wi_X5_lose, we_X5_lose, TX5, 21, rfl⟩
theorem my_X5_mark : gz_YV yX5_mark cX5_mark 11 (some .int) 1 5 := ⟨⟨wc_X5_mark, wn_X5, by decide +kernel, by decide +kernel⟩, wi_X5_mark, we_X5_mark, TX5, 21, rfl⟩
theorem my_X5_held : gz_YV yX5_held cX5_held 3 (some .int) 0 5 := ⟨⟨wc_X5_held, wn_X5, by decide +kernel, by decide +kernel⟩, wi_X5_held, we_X5_held, TX5, 21, rfl⟩
theorem my_X5_partFor : gz_YV yX5_partFor cX5_partFor 7 (some .int) 3 5 := ⟨⟨wc_X5_partFor, wn_X5, by decide +kernel, by decide +kernel⟩, wi_X5_partFor, we_X5_partFor, TX5, 21, rfl⟩
theorem my_X5_isChunk : gz_YV yX5_isChunk cX5_isChunk 7 (some .boolean) 4 5 := ⟨⟨wc_X5_isChunk, wn_X5, by decide +kernel, by decide +kernel⟩, wi_X5_isChunk, we_X5_isChunk, TX5, 21, rfl⟩
theorem my_X5_allBytes : gz_YV yX5_allBytes cX5_allBytes 3 (some .int) 0 5 := ⟨⟨wc_X5_allBytes, wn_X5, by decide +kernel, by decide +kernel⟩, wi_X5_allBytes, we_X5_allBytes, TX5, 21, rfl⟩
theorem my_X5_latest : gz_YV yX5_latest cX5_latest 4 (some .int) 1 5 := ⟨⟨wc_X5_latest, wn_X5, by decide +kernel, by decide +kernel⟩, wi_X5_latest, we_X5_latest, TX5, 21, rfl⟩
theorem my_X5_tells : gz_YV yX5_tells cX5_tells 11 (some .int) 2 5 := ⟨⟨wc_X5_tells, wn_X5, by decide +kernel, by decide +kernel⟩, wi_X5_tells, we_X5_tells, TX5, 21, rfl⟩
theorem my_X5_drop : gz_YV yX5_drop cX5_drop 8 (some .int) 1 5 := ⟨⟨wc_X5_drop, wn_X5, by decide +kernel, by decide +kernel⟩, wi_X5_drop, we_X5_drop, TX5, 21, rfl⟩
theorem my_X5_keptSlot : gz_YV yX5_keptSlot cX5_keptSlot 3 (some .int) 1 5 := ⟨⟨wc_X5_keptSlot, wn_X5, by decide +kernel, by decide +kernel⟩, wi_X5_keptSlot, we_X5_keptSlot, TX5, 21, rfl⟩
theorem my_X5_slotOf : gz_YV yX5_slotOf cX5_slotOf 4 (some .int) 1 5 := ⟨⟨wc_X5_slotOf, wn_X5, by decide +kernel, by decide +kernel⟩, wi_X5_slotOf, we_X5_slotOf, TX5, 21, rfl⟩
theorem my_X5_usable : gz_YV yX5_usable cX5_usable 3 (some .int) 1 5 := ⟨⟨wc_X5_usable, wn_X5, by decide +kernel, by decide +kernel⟩, wi_X5_usable, we_X5_usable, TX5, 21, rfl⟩
theorem my_X5_isUsable : gz_YV yX5_isUsable cX5_isUsable 5 (some .boolean) 1 5 := ⟨⟨wc_X5_isUsable, wn_X5, by decide +kernel, by decide +kernel⟩, wi_X5_isUsable, we_X5_isUsable, TX5, 21, rfl⟩
theorem my_X5_isReadable : gz_YV yX5_isReadable cX5_isReadable 3 (some .boolean) 2 5 := ⟨⟨wc_X5_isReadable, wn_X5, by decide +kernel, by decide +kernel⟩, wi_X5_isReadable, we_X5_isReadable, TX5, 21, rfl⟩
theorem my_X5_isGoodCopy : gz_YV yX5_isGoodCopy cX5_isGoodCopy 5 (some .boolean) 2 5 := ⟨⟨wc_X5_isGoodCopy, wn_X5, by decide +kernel, by decide +kernel⟩, wi_X5_isGoodCopy, we_X5_isGoodCopy, TX5, 21, rfl⟩
theorem my_X5_back : gz_YV yX5_back cX5_back 5 (some .int) 1 5 := ⟨⟨wc_X5_back, wn_X5, by decide +kernel, by decide +kernel⟩, wi_X5_back, we_X5_back, TX5, 21, rfl⟩
theorem my_X5_read : gz_YV yX5_read cX5_read 5 none 2 5 := ⟨⟨wc_X5_read, wn_X5, by decide +kernel, by decide +kernel⟩, wi_X5_read, we_X5_read, TX5, 21, rfl⟩
theorem my_X5_markTold : gz_YV yX5_markTold cX5_markTold 6 (some .int) 2 5 := ⟨⟨wc_X5_markTold, wn_X5, by decide +kernel, by decide +kernel⟩, wi_X5_markTold, we_X5_markTold, TX5, 21, rfl⟩
theorem my_X5_list : gz_YV yX5_list cX5_list 5 (some .int) 3 5 := ⟨⟨wc_X5_list, wn_X5, by decide +kernel, by decide +kernel⟩, wi_X5_list, we_X5_list, TX5, 21, rfl⟩
theorem my_X5_same : gz_YV yX5_same cX5_same 8 (some .boolean) 2 5 := ⟨⟨wc_X5_same, wn_X5, by decide +kernel, by decide +kernel⟩, wi_X5_same, we_X5_same, TX5, 21, rfl⟩
theorem my_X5_told : gz_YV yX5_told cX5_told 4 (some .int) 1 5 := ⟨⟨wc_X5_told, wn_X5, by decide +kernel, by decide +kernel⟩, wi_X5_told, we_X5_told, TX5, 21, rfl⟩
end
