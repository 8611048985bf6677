section
-- ===== PART A: goes FIRST, ahead of the names: the tables' words, and 'selects' of the private methods out of them =====
/-- a private method of a class that the tables say can be made, by its rows of tables_1 -/
def lw_okq (q : MethodName × Nat) : Prop := (q.1.cls ≠ "java/lang/invoke/MethodHandle" ∧ q.1.cls ≠ "java/lang/invoke/VarHandle") ∧ Cond.instantiable q.1.cls q.2 ∈ tables_1 ∧ Cond.privateMethod q.1 ∈ tables_1 ∧ Cond.instanceMethod q.1 ∈ tables_1
theorem lw_p0 : lw_okq (⟨"GrownSnapshots", "isTask", "(I)Z"⟩, 9) := ⟨⟨by decide +kernel, by decide +kernel⟩, List.mem_of_getElem? (i := 10) (by decide +kernel), List.mem_of_getElem? (i := 174) (by decide +kernel), List.mem_of_getElem? (i := 175) (by decide +kernel)⟩
theorem lw_p1 : lw_okq (⟨"GrownSnapshots$State", "endsChunk", "(II)Z"⟩, 3) := ⟨⟨by decide +kernel, by decide +kernel⟩, List.mem_of_getElem? (i := 79) (by decide +kernel), List.mem_of_getElem? (i := 209) (by decide +kernel), List.mem_of_getElem? (i := 210) (by decide +kernel)⟩
theorem lw_p2 : lw_okq (⟨"GrownSnapshots", "totalStateBytes", "()I"⟩, 9) := ⟨⟨by decide +kernel, by decide +kernel⟩, List.mem_of_getElem? (i := 10) (by decide +kernel), List.mem_of_getElem? (i := 225) (by decide +kernel), List.mem_of_getElem? (i := 226) (by decide +kernel)⟩
theorem lw_p3 : lw_okq (⟨"GrownSnapshots", "joinStates", "()V"⟩, 9) := ⟨⟨by decide +kernel, by decide +kernel⟩, List.mem_of_getElem? (i := 10) (by decide +kernel), List.mem_of_getElem? (i := 232) (by decide +kernel), List.mem_of_getElem? (i := 233) (by decide +kernel)⟩
theorem lw_p4 : lw_okq (⟨"GrownSnapshots", "becomeTasks", "(I)V"⟩, 9) := ⟨⟨by decide +kernel, by decide +kernel⟩, List.mem_of_getElem? (i := 10) (by decide +kernel), List.mem_of_getElem? (i := 237) (by decide +kernel), List.mem_of_getElem? (i := 238) (by decide +kernel)⟩
theorem lw_p5 : lw_okq (⟨"GrownSnapshots", "storeStates", "(LGrownSnapshots$Mark;)Z"⟩, 9) := ⟨⟨by decide +kernel, by decide +kernel⟩, List.mem_of_getElem? (i := 10) (by decide +kernel), List.mem_of_getElem? (i := 257) (by decide +kernel), List.mem_of_getElem? (i := 258) (by decide +kernel)⟩
theorem lw_p6 : lw_okq (⟨"GrownSnapshots", "storeState", "(LGrownSnapshots$Mark;I)Z"⟩, 9) := ⟨⟨by decide +kernel, by decide +kernel⟩, List.mem_of_getElem? (i := 10) (by decide +kernel), List.mem_of_getElem? (i := 265) (by decide +kernel), List.mem_of_getElem? (i := 266) (by decide +kernel)⟩
theorem lw_p7 : lw_okq (⟨"GrownSnapshots$Store", "findPart", "([IIII)I"⟩, 8) := ⟨⟨by decide +kernel, by decide +kernel⟩, List.mem_of_getElem? (i := 22) (by decide +kernel), List.mem_of_getElem? (i := 277) (by decide +kernel), List.mem_of_getElem? (i := 278) (by decide +kernel)⟩
theorem lw_p8 : lw_okq (⟨"GrownSnapshots$Store", "makePart", "([IIII)I"⟩, 8) := ⟨⟨by decide +kernel, by decide +kernel⟩, List.mem_of_getElem? (i := 22) (by decide +kernel), List.mem_of_getElem? (i := 285) (by decide +kernel), List.mem_of_getElem? (i := 286) (by decide +kernel)⟩
theorem lw_p9 : lw_okq (⟨"GrownSnapshots$Store", "leastUnused", "()I"⟩, 8) := ⟨⟨by decide +kernel, by decide +kernel⟩, List.mem_of_getElem? (i := 22) (by decide +kernel), List.mem_of_getElem? (i := 289) (by decide +kernel), List.mem_of_getElem? (i := 290) (by decide +kernel)⟩
theorem lw_p10 : lw_okq (⟨"GrownSnapshots", "latestKept", "()LGrownSnapshots$Mark;"⟩, 9) := ⟨⟨by decide +kernel, by decide +kernel⟩, List.mem_of_getElem? (i := 10) (by decide +kernel), List.mem_of_getElem? (i := 306) (by decide +kernel), List.mem_of_getElem? (i := 307) (by decide +kernel)⟩
theorem lw_p11 : lw_okq (⟨"GrownSnapshots$Mark", "sharedParts", "(LGrownSnapshots$Mark;I)I"⟩, 9) := ⟨⟨by decide +kernel, by decide +kernel⟩, List.mem_of_getElem? (i := 97) (by decide +kernel), List.mem_of_getElem? (i := 318) (by decide +kernel), List.mem_of_getElem? (i := 319) (by decide +kernel)⟩
theorem lw_p12 : lw_okq (⟨"GrownSnapshots", "copyStates", "(LGrownSnapshots$Mark;)V"⟩, 9) := ⟨⟨by decide +kernel, by decide +kernel⟩, List.mem_of_getElem? (i := 10) (by decide +kernel), List.mem_of_getElem? (i := 325) (by decide +kernel), List.mem_of_getElem? (i := 326) (by decide +kernel)⟩
theorem lw_p13 : lw_okq (⟨"GrownSnapshots", "keptMark", "(I)LGrownSnapshots$Mark;"⟩, 9) := ⟨⟨by decide +kernel, by decide +kernel⟩, List.mem_of_getElem? (i := 10) (by decide +kernel), List.mem_of_getElem? (i := 334) (by decide +kernel), List.mem_of_getElem? (i := 335) (by decide +kernel)⟩
theorem lw_p14 : lw_okq (⟨"GrownSnapshots", "heldMark", "(I)LGrownSnapshots$Mark;"⟩, 9) := ⟨⟨by decide +kernel, by decide +kernel⟩, List.mem_of_getElem? (i := 10) (by decide +kernel), List.mem_of_getElem? (i := 338) (by decide +kernel), List.mem_of_getElem? (i := 339) (by decide +kernel)⟩
theorem lw_p15 : lw_okq (⟨"GrownSnapshots", "letGoUnheld", "()V"⟩, 9) := ⟨⟨by decide +kernel, by decide +kernel⟩, List.mem_of_getElem? (i := 10) (by decide +kernel), List.mem_of_getElem? (i := 342) (by decide +kernel), List.mem_of_getElem? (i := 343) (by decide +kernel)⟩
def lw_privs_1 : List (MethodName × Nat) := [(⟨"GrownSnapshots", "isTask", "(I)Z"⟩, 9), (⟨"GrownSnapshots$State", "endsChunk", "(II)Z"⟩, 3), (⟨"GrownSnapshots", "totalStateBytes", "()I"⟩, 9), (⟨"GrownSnapshots", "joinStates", "()V"⟩, 9), (⟨"GrownSnapshots", "becomeTasks", "(I)V"⟩, 9), (⟨"GrownSnapshots", "storeStates", "(LGrownSnapshots$Mark;)Z"⟩, 9), (⟨"GrownSnapshots", "storeState", "(LGrownSnapshots$Mark;I)Z"⟩, 9), (⟨"GrownSnapshots$Store", "findPart", "([IIII)I"⟩, 8), (⟨"GrownSnapshots$Store", "makePart", "([IIII)I"⟩, 8), (⟨"GrownSnapshots$Store", "leastUnused", "()I"⟩, 8), (⟨"GrownSnapshots", "latestKept", "()LGrownSnapshots$Mark;"⟩, 9), (⟨"GrownSnapshots$Mark", "sharedParts", "(LGrownSnapshots$Mark;I)I"⟩, 9), (⟨"GrownSnapshots", "copyStates", "(LGrownSnapshots$Mark;)V"⟩, 9), (⟨"GrownSnapshots", "keptMark", "(I)LGrownSnapshots$Mark;"⟩, 9), (⟨"GrownSnapshots", "heldMark", "(I)LGrownSnapshots$Mark;"⟩, 9), (⟨"GrownSnapshots", "letGoUnheld", "()V"⟩, 9)]
theorem lw_r1 : ∀ q ∈ lw_privs_1, lw_okq q := List.forall_mem_cons.mpr ⟨lw_p0, List.forall_mem_cons.mpr ⟨lw_p1, List.forall_mem_cons.mpr ⟨lw_p2, List.forall_mem_cons.mpr ⟨lw_p3, List.forall_mem_cons.mpr ⟨lw_p4, List.forall_mem_cons.mpr ⟨lw_p5, List.forall_mem_cons.mpr ⟨lw_p6, List.forall_mem_cons.mpr ⟨lw_p7, List.forall_mem_cons.mpr ⟨lw_p8, List.forall_mem_cons.mpr ⟨lw_p9, List.forall_mem_cons.mpr ⟨lw_p10, List.forall_mem_cons.mpr ⟨lw_p11, List.forall_mem_cons.mpr ⟨lw_p12, List.forall_mem_cons.mpr ⟨lw_p13, List.forall_mem_cons.mpr ⟨lw_p14, List.forall_mem_cons.mpr ⟨lw_p15, fun _ h => absurd h List.not_mem_nil⟩⟩⟩⟩⟩⟩⟩⟩⟩⟩⟩⟩⟩⟩⟩⟩
theorem lw_p16 : lw_okq (⟨"GrownSnapshots", "isBase", "(I)Z"⟩, 9) := ⟨⟨by decide +kernel, by decide +kernel⟩, List.mem_of_getElem? (i := 10) (by decide +kernel), List.mem_of_getElem? (i := 346) (by decide +kernel), List.mem_of_getElem? (i := 347) (by decide +kernel)⟩
theorem lw_p17 : lw_okq (⟨"GrownSnapshots", "letGo", "(I)V"⟩, 9) := ⟨⟨by decide +kernel, by decide +kernel⟩, List.mem_of_getElem? (i := 10) (by decide +kernel), List.mem_of_getElem? (i := 350) (by decide +kernel), List.mem_of_getElem? (i := 351) (by decide +kernel)⟩
theorem lw_p18 : lw_okq (⟨"GrownSnapshots", "freeUnnamed", "()I"⟩, 9) := ⟨⟨by decide +kernel, by decide +kernel⟩, List.mem_of_getElem? (i := 10) (by decide +kernel), List.mem_of_getElem? (i := 354) (by decide +kernel), List.mem_of_getElem? (i := 355) (by decide +kernel)⟩
theorem lw_p19 : lw_okq (⟨"GrownSnapshots", "nameKeptParts", "()V"⟩, 9) := ⟨⟨by decide +kernel, by decide +kernel⟩, List.mem_of_getElem? (i := 10) (by decide +kernel), List.mem_of_getElem? (i := 358) (by decide +kernel), List.mem_of_getElem? (i := 359) (by decide +kernel)⟩
theorem lw_p20 : lw_okq (⟨"GrownSnapshots", "freePart", "(I)V"⟩, 9) := ⟨⟨by decide +kernel, by decide +kernel⟩, List.mem_of_getElem? (i := 10) (by decide +kernel), List.mem_of_getElem? (i := 370) (by decide +kernel), List.mem_of_getElem? (i := 371) (by decide +kernel)⟩
theorem lw_p21 : lw_okq (⟨"GrownSnapshots", "latestUsable", "(I)LGrownSnapshots$Mark;"⟩, 9) := ⟨⟨by decide +kernel, by decide +kernel⟩, List.mem_of_getElem? (i := 10) (by decide +kernel), List.mem_of_getElem? (i := 379) (by decide +kernel), List.mem_of_getElem? (i := 380) (by decide +kernel)⟩
theorem lw_p22 : lw_okq (⟨"GrownSnapshots", "isUsable", "(LGrownSnapshots$Mark;)Z"⟩, 9) := ⟨⟨by decide +kernel, by decide +kernel⟩, List.mem_of_getElem? (i := 10) (by decide +kernel), List.mem_of_getElem? (i := 383) (by decide +kernel), List.mem_of_getElem? (i := 384) (by decide +kernel)⟩
theorem lw_p23 : lw_okq (⟨"GrownSnapshots", "isReadable", "(II)Z"⟩, 9) := ⟨⟨by decide +kernel, by decide +kernel⟩, List.mem_of_getElem? (i := 10) (by decide +kernel), List.mem_of_getElem? (i := 387) (by decide +kernel), List.mem_of_getElem? (i := 388) (by decide +kernel)⟩
theorem lw_p24 : lw_okq (⟨"GrownSnapshots", "readState", "(LGrownSnapshots$Mark;I)V"⟩, 9) := ⟨⟨by decide +kernel, by decide +kernel⟩, List.mem_of_getElem? (i := 10) (by decide +kernel), List.mem_of_getElem? (i := 395) (by decide +kernel), List.mem_of_getElem? (i := 396) (by decide +kernel)⟩
theorem lw_p25 : lw_okq (⟨"GrownSnapshots", "readPart", "(II)V"⟩, 9) := ⟨⟨by decide +kernel, by decide +kernel⟩, List.mem_of_getElem? (i := 10) (by decide +kernel), List.mem_of_getElem? (i := 399) (by decide +kernel), List.mem_of_getElem? (i := 400) (by decide +kernel)⟩
theorem lw_p26 : lw_okq (⟨"GrownSnapshots$Mark", "hasAlikeList", "(LGrownSnapshots$Mark;I)Z"⟩, 9) := ⟨⟨by decide +kernel, by decide +kernel⟩, List.mem_of_getElem? (i := 97) (by decide +kernel), List.mem_of_getElem? (i := 424) (by decide +kernel), List.mem_of_getElem? (i := 425) (by decide +kernel)⟩
theorem lw_p27 : lw_okq (⟨"GrownSnapshots", "keptNaming", "(I)I"⟩, 9) := ⟨⟨by decide +kernel, by decide +kernel⟩, List.mem_of_getElem? (i := 10) (by decide +kernel), List.mem_of_getElem? (i := 432) (by decide +kernel), List.mem_of_getElem? (i := 433) (by decide +kernel)⟩
theorem lw_p28 : lw_okq (⟨"GrownSnapshots", "copyCount", "(I)I"⟩, 9) := ⟨⟨by decide +kernel, by decide +kernel⟩, List.mem_of_getElem? (i := 10) (by decide +kernel), List.mem_of_getElem? (i := 440) (by decide +kernel), List.mem_of_getElem? (i := 441) (by decide +kernel)⟩
theorem lw_p29 : lw_okq (⟨"GrownSnapshots", "shelfOf", "(I)LGrownSnapshots$Shelf;"⟩, 9) := ⟨⟨by decide +kernel, by decide +kernel⟩, List.mem_of_getElem? (i := 10) (by decide +kernel), List.mem_of_getElem? (i := 448) (by decide +kernel), List.mem_of_getElem? (i := 449) (by decide +kernel)⟩
theorem lw_p30 : lw_okq (⟨"GrownSnapshots", "keptCount", "()I"⟩, 9) := ⟨⟨by decide +kernel, by decide +kernel⟩, List.mem_of_getElem? (i := 10) (by decide +kernel), List.mem_of_getElem? (i := 469) (by decide +kernel), List.mem_of_getElem? (i := 470) (by decide +kernel)⟩
theorem lw_p31 : lw_okq (⟨"GrownSnapshots", "allCopies", "()I"⟩, 9) := ⟨⟨by decide +kernel, by decide +kernel⟩, List.mem_of_getElem? (i := 10) (by decide +kernel), List.mem_of_getElem? (i := 478) (by decide +kernel), List.mem_of_getElem? (i := 479) (by decide +kernel)⟩
def lw_privs_2 : List (MethodName × Nat) := [(⟨"GrownSnapshots", "isBase", "(I)Z"⟩, 9), (⟨"GrownSnapshots", "letGo", "(I)V"⟩, 9), (⟨"GrownSnapshots", "freeUnnamed", "()I"⟩, 9), (⟨"GrownSnapshots", "nameKeptParts", "()V"⟩, 9), (⟨"GrownSnapshots", "freePart", "(I)V"⟩, 9), (⟨"GrownSnapshots", "latestUsable", "(I)LGrownSnapshots$Mark;"⟩, 9), (⟨"GrownSnapshots", "isUsable", "(LGrownSnapshots$Mark;)Z"⟩, 9), (⟨"GrownSnapshots", "isReadable", "(II)Z"⟩, 9), (⟨"GrownSnapshots", "readState", "(LGrownSnapshots$Mark;I)V"⟩, 9), (⟨"GrownSnapshots", "readPart", "(II)V"⟩, 9), (⟨"GrownSnapshots$Mark", "hasAlikeList", "(LGrownSnapshots$Mark;I)Z"⟩, 9), (⟨"GrownSnapshots", "keptNaming", "(I)I"⟩, 9), (⟨"GrownSnapshots", "copyCount", "(I)I"⟩, 9), (⟨"GrownSnapshots", "shelfOf", "(I)LGrownSnapshots$Shelf;"⟩, 9), (⟨"GrownSnapshots", "keptCount", "()I"⟩, 9), (⟨"GrownSnapshots", "allCopies", "()I"⟩, 9)]
theorem lw_r2 : ∀ q ∈ lw_privs_2, lw_okq q := List.forall_mem_cons.mpr ⟨lw_p16, List.forall_mem_cons.mpr ⟨lw_p17, List.forall_mem_cons.mpr ⟨lw_p18, List.forall_mem_cons.mpr ⟨lw_p19, List.forall_mem_cons.mpr ⟨lw_p20, List.forall_mem_cons.mpr ⟨lw_p21, List.forall_mem_cons.mpr ⟨lw_p22, List.forall_mem_cons.mpr ⟨lw_p23, List.forall_mem_cons.mpr ⟨lw_p24, List.forall_mem_cons.mpr ⟨lw_p25, List.forall_mem_cons.mpr ⟨lw_p26, List.forall_mem_cons.mpr ⟨lw_p27, List.forall_mem_cons.mpr ⟨lw_p28, List.forall_mem_cons.mpr ⟨lw_p29, List.forall_mem_cons.mpr ⟨lw_p30, List.forall_mem_cons.mpr ⟨lw_p31, fun _ h => absurd h List.not_mem_nil⟩⟩⟩⟩⟩⟩⟩⟩⟩⟩⟩⟩⟩⟩⟩⟩
theorem lw_p32 : lw_okq (⟨"GrownSnapshotsModel", "isTask", "(I)Z"⟩, 21) := ⟨⟨by decide +kernel, by decide +kernel⟩, List.mem_of_getElem? (i := 482) (by decide +kernel), List.mem_of_getElem? (i := 556) (by decide +kernel), List.mem_of_getElem? (i := 557) (by decide +kernel)⟩
theorem lw_p33 : lw_okq (⟨"GrownSnapshotsModel", "chunkFrom", "(II)I"⟩, 21) := ⟨⟨by decide +kernel, by decide +kernel⟩, List.mem_of_getElem? (i := 482) (by decide +kernel), List.mem_of_getElem? (i := 580) (by decide +kernel), List.mem_of_getElem? (i := 581) (by decide +kernel)⟩
theorem lw_p34 : lw_okq (⟨"GrownSnapshotsModel", "become", "(I)V"⟩, 21) := ⟨⟨by decide +kernel, by decide +kernel⟩, List.mem_of_getElem? (i := 482) (by decide +kernel), List.mem_of_getElem? (i := 588) (by decide +kernel), List.mem_of_getElem? (i := 589) (by decide +kernel)⟩
theorem lw_p35 : lw_okq (⟨"GrownSnapshotsModel", "isPart", "(I)Z"⟩, 21) := ⟨⟨by decide +kernel, by decide +kernel⟩, List.mem_of_getElem? (i := 482) (by decide +kernel), List.mem_of_getElem? (i := 596) (by decide +kernel), List.mem_of_getElem? (i := 597) (by decide +kernel)⟩
theorem lw_p36 : lw_okq (⟨"GrownSnapshotsModel", "hasPart", "(II)Z"⟩, 21) := ⟨⟨by decide +kernel, by decide +kernel⟩, List.mem_of_getElem? (i := 482) (by decide +kernel), List.mem_of_getElem? (i := 600) (by decide +kernel), List.mem_of_getElem? (i := 601) (by decide +kernel)⟩
theorem lw_p37 : lw_okq (⟨"GrownSnapshotsModel", "isBroken", "(I)Z"⟩, 21) := ⟨⟨by decide +kernel, by decide +kernel⟩, List.mem_of_getElem? (i := 482) (by decide +kernel), List.mem_of_getElem? (i := 604) (by decide +kernel), List.mem_of_getElem? (i := 605) (by decide +kernel)⟩
theorem lw_p38 : lw_okq (⟨"GrownSnapshotsModel", "isByte", "(III)Z"⟩, 21) := ⟨⟨by decide +kernel, by decide +kernel⟩, List.mem_of_getElem? (i := 482) (by decide +kernel), List.mem_of_getElem? (i := 612) (by decide +kernel), List.mem_of_getElem? (i := 613) (by decide +kernel)⟩
theorem lw_p39 : lw_okq (⟨"GrownSnapshotsModel", "held", "()I"⟩, 21) := ⟨⟨by decide +kernel, by decide +kernel⟩, List.mem_of_getElem? (i := 482) (by decide +kernel), List.mem_of_getElem? (i := 629) (by decide +kernel), List.mem_of_getElem? (i := 630) (by decide +kernel)⟩
theorem lw_p40 : lw_okq (⟨"GrownSnapshotsModel", "partFor", "(III)I"⟩, 21) := ⟨⟨by decide +kernel, by decide +kernel⟩, List.mem_of_getElem? (i := 482) (by decide +kernel), List.mem_of_getElem? (i := 633) (by decide +kernel), List.mem_of_getElem? (i := 634) (by decide +kernel)⟩
theorem lw_p41 : lw_okq (⟨"GrownSnapshotsModel", "isChunk", "(IIII)Z"⟩, 21) := ⟨⟨by decide +kernel, by decide +kernel⟩, List.mem_of_getElem? (i := 482) (by decide +kernel), List.mem_of_getElem? (i := 637) (by decide +kernel), List.mem_of_getElem? (i := 638) (by decide +kernel)⟩
theorem lw_p42 : lw_okq (⟨"GrownSnapshotsModel", "allBytes", "()I"⟩, 21) := ⟨⟨by decide +kernel, by decide +kernel⟩, List.mem_of_getElem? (i := 482) (by decide +kernel), List.mem_of_getElem? (i := 641) (by decide +kernel), List.mem_of_getElem? (i := 642) (by decide +kernel)⟩
theorem lw_p43 : lw_okq (⟨"GrownSnapshotsModel", "latest", "(I)I"⟩, 21) := ⟨⟨by decide +kernel, by decide +kernel⟩, List.mem_of_getElem? (i := 482) (by decide +kernel), List.mem_of_getElem? (i := 645) (by decide +kernel), List.mem_of_getElem? (i := 646) (by decide +kernel)⟩
theorem lw_p44 : lw_okq (⟨"GrownSnapshotsModel", "tells", "(II)I"⟩, 21) := ⟨⟨by decide +kernel, by decide +kernel⟩, List.mem_of_getElem? (i := 482) (by decide +kernel), List.mem_of_getElem? (i := 649) (by decide +kernel), List.mem_of_getElem? (i := 650) (by decide +kernel)⟩
theorem lw_p45 : lw_okq (⟨"GrownSnapshotsModel", "keptSlot", "(I)I"⟩, 21) := ⟨⟨by decide +kernel, by decide +kernel⟩, List.mem_of_getElem? (i := 482) (by decide +kernel), List.mem_of_getElem? (i := 657) (by decide +kernel), List.mem_of_getElem? (i := 658) (by decide +kernel)⟩
theorem lw_p46 : lw_okq (⟨"GrownSnapshotsModel", "slotOf", "(I)I"⟩, 21) := ⟨⟨by decide +kernel, by decide +kernel⟩, List.mem_of_getElem? (i := 482) (by decide +kernel), List.mem_of_getElem? (i := 661) (by decide +kernel), List.mem_of_getElem? (i := 662) (by decide +kernel)⟩
theorem lw_p47 : lw_okq (⟨"GrownSnapshotsModel", "isUsable", "(I)Z"⟩, 21) := ⟨⟨by decide +kernel, by decide +kernel⟩, List.mem_of_getElem? (i := 482) (by decide +kernel), List.mem_of_getElem? (i := 669) (by decide +kernel), List.mem_of_getElem? (i := 670) (by decide +kernel)⟩
def lw_privs_3 : List (MethodName × Nat) := [(⟨"GrownSnapshotsModel", "isTask", "(I)Z"⟩, 21), (⟨"GrownSnapshotsModel", "chunkFrom", "(II)I"⟩, 21), (⟨"GrownSnapshotsModel", "become", "(I)V"⟩, 21), (⟨"GrownSnapshotsModel", "isPart", "(I)Z"⟩, 21), (⟨"GrownSnapshotsModel", "hasPart", "(II)Z"⟩, 21), (⟨"GrownSnapshotsModel", "isBroken", "(I)Z"⟩, 21), (⟨"GrownSnapshotsModel", "isByte", "(III)Z"⟩, 21), (⟨"GrownSnapshotsModel", "held", "()I"⟩, 21), (⟨"GrownSnapshotsModel", "partFor", "(III)I"⟩, 21), (⟨"GrownSnapshotsModel", "isChunk", "(IIII)Z"⟩, 21), (⟨"GrownSnapshotsModel", "allBytes", "()I"⟩, 21), (⟨"GrownSnapshotsModel", "latest", "(I)I"⟩, 21), (⟨"GrownSnapshotsModel", "tells", "(II)I"⟩, 21), (⟨"GrownSnapshotsModel", "keptSlot", "(I)I"⟩, 21), (⟨"GrownSnapshotsModel", "slotOf", "(I)I"⟩, 21), (⟨"GrownSnapshotsModel", "isUsable", "(I)Z"⟩, 21)]
theorem lw_r3 : ∀ q ∈ lw_privs_3, lw_okq q := List.forall_mem_cons.mpr ⟨lw_p32, List.forall_mem_cons.mpr ⟨lw_p33, List.forall_mem_cons.mpr ⟨lw_p34, List.forall_mem_cons.mpr ⟨lw_p35, List.forall_mem_cons.mpr ⟨lw_p36, List.forall_mem_cons.mpr ⟨lw_p37, List.forall_mem_cons.mpr ⟨lw_p38, List.forall_mem_cons.mpr ⟨lw_p39, List.forall_mem_cons.mpr ⟨lw_p40, List.forall_mem_cons.mpr ⟨lw_p41, List.forall_mem_cons.mpr ⟨lw_p42, List.forall_mem_cons.mpr ⟨lw_p43, List.forall_mem_cons.mpr ⟨lw_p44, List.forall_mem_cons.mpr ⟨lw_p45, List.forall_mem_cons.mpr ⟨lw_p46, List.forall_mem_cons.mpr ⟨lw_p47, fun _ h => absurd h List.not_mem_nil⟩⟩⟩⟩⟩⟩⟩⟩⟩⟩⟩⟩⟩⟩⟩⟩
theorem lw_p48 : lw_okq (⟨"GrownSnapshotsModel", "isReadable", "(II)Z"⟩, 21) := ⟨⟨by decide +kernel, by decide +kernel⟩, List.mem_of_getElem? (i := 482) (by decide +kernel), List.mem_of_getElem? (i := 673) (by decide +kernel), List.mem_of_getElem? (i := 674) (by decide +kernel)⟩
theorem lw_p49 : lw_okq (⟨"GrownSnapshotsModel", "isGoodCopy", "(II)Z"⟩, 21) := ⟨⟨by decide +kernel, by decide +kernel⟩, List.mem_of_getElem? (i := 482) (by decide +kernel), List.mem_of_getElem? (i := 677) (by decide +kernel), List.mem_of_getElem? (i := 678) (by decide +kernel)⟩
theorem lw_p50 : lw_okq (⟨"GrownSnapshotsModel", "read", "(II)V"⟩, 21) := ⟨⟨by decide +kernel, by decide +kernel⟩, List.mem_of_getElem? (i := 482) (by decide +kernel), List.mem_of_getElem? (i := 685) (by decide +kernel), List.mem_of_getElem? (i := 686) (by decide +kernel)⟩
def lw_privs_4 : List (MethodName × Nat) := [(⟨"GrownSnapshotsModel", "isReadable", "(II)Z"⟩, 21), (⟨"GrownSnapshotsModel", "isGoodCopy", "(II)Z"⟩, 21), (⟨"GrownSnapshotsModel", "read", "(II)V"⟩, 21)]
theorem lw_r4 : ∀ q ∈ lw_privs_4, lw_okq q := List.forall_mem_cons.mpr ⟨lw_p48, List.forall_mem_cons.mpr ⟨lw_p49, List.forall_mem_cons.mpr ⟨lw_p50, fun _ h => absurd h List.not_mem_nil⟩⟩⟩
def lw_privs : List (MethodName × Nat) := lw_privs_1 ++ (lw_privs_2 ++ (lw_privs_3 ++ (lw_privs_4)))
def lw_tbl : List Cond := k2_sels lw_privs ++ tables_1
theorem lw_privs_ok : ∀ q ∈ lw_privs, lw_okq q := by
  show ∀ q ∈ lw_privs_1 ++ (lw_privs_2 ++ (lw_privs_3 ++ (lw_privs_4))), lw_okq q
  exact List.forall_mem_append.mpr ⟨lw_r1, List.forall_mem_append.mpr ⟨lw_r2, List.forall_mem_append.mpr ⟨lw_r3, lw_r4⟩⟩⟩
end
section
/-! ===== BEGIN words of one list among another's, by their places ===== -/
theorem goodIn_r {big : List Cond} (ws : List Cond) (ps : List Nat) (hp : ws = ps.filterMap (fun i => big[i]?)) (h : ws.all goodWord = true) : GoodIn big ws := by
  intro w hw
  have h1 := List.all_eq_true.mp h w hw
  rw [hp] at hw
  obtain ⟨i, -, hi⟩ := List.mem_filterMap.mp hw
  have hm : w ∈ big := by first | exact List.mem_of_getElem? hi | exact List.getElem?_mem hi
  exact ⟨hm, good_of_word h1⟩
theorem goodIn_app {big a b : List Cond} (ha : GoodIn big a) (hb : GoodIn big b) : GoodIn big (a ++ b) := fun w h => (List.mem_append.mp h).elim (ha w) (hb w)
theorem goodIn_ca {big a b : List Cond} {c : Cond} (ha : GoodIn big (c :: a)) (hb : GoodIn big b) : GoodIn big (c :: (a ++ b)) := fun w h => (List.mem_cons.mp h).elim (fun e => ha w (List.mem_cons.mpr (Or.inl e))) (fun h => (List.mem_append.mp h).elim (fun h => ha w (List.mem_cons.mpr (Or.inr h))) (hb w))
theorem goodIn_sub {big ws : List Cond} (hm : ∀ w ∈ ws, w ∈ big) (h : ws.all goodWord = true) : GoodIn big ws := fun w hw => ⟨hm w hw, good_of_word (List.all_eq_true.mp h w hw)⟩
/-! ===== END ===== -/
def RX0 : String := "GrownSnapshots$Mark"
def TX0 : u_T := fun k => match k with
  | 0 => ("GrownSnapshots$Mark", "lists", "[[I", true)
  | 1 => ("GrownSnapshots$Mark", "sizes", "[I", true)
  | 2 => ("GrownSnapshots$Mark", "number", "I", false)
  | 3 => ("GrownSnapshots$Mark", "kept", "Z", false)
  | 4 => ("GrownSnapshots$Mark", "base", "I", false)
  | 5 => ("GrownSnapshots$Mark", "tasks", "I", false)
  | 6 => ("GrownSnapshots$Mark", "ownParts", "I", false)
  | 7 => ("GrownSnapshots$Mark", "listBytes", "I", false)
  | _ => ("GrownSnapshots$Mark", "newBytes", "I", false)
def tyX0 : Nat → FieldType := fun k => match k with
  | 0 => .array (.array .int)
  | 1 => .array .int
  | 2 => .int
  | 3 => .boolean
  | 4 => .int
  | 5 => .int
  | 6 => .int
  | 7 => .int
  | _ => .int
abbrev wsX00 : List Cond := u_ws RX0 TX0 9
theorem nmX0 : ∀ a, a < 9 → ∀ b, b < 9 → a ≠ b → (TX0 a).2.1 ≠ (TX0 b).2.1 := by decide +kernel
theorem tyX0_ok : ∀ k, k < 9 → parseFieldDescriptor (TX0 k).2.2.1 = some (tyX0 k) := by decide +kernel
abbrev cX0_init : ByteArray := prog_2_method_1_code
def yX0_init : MethodName := ⟨RX0, "<init>", "()V"⟩
abbrev cX0_begin : ByteArray := prog_2_method_2_code
def yX0_begin : MethodName := ⟨RX0, "begin", "(II)V"⟩
abbrev cX0_partCount : ByteArray := prog_2_method_3_code
def yX0_partCount : MethodName := ⟨RX0, "partCount", "()I"⟩
abbrev cX0_growUpon : ByteArray := prog_2_method_4_code
def yX0_growUpon : MethodName := ⟨RX0, "growUpon", "(LGrownSnapshots$Mark;)V"⟩
abbrev cX0_sharedParts : ByteArray := prog_2_method_5_code
def yX0_sharedParts : MethodName := ⟨RX0, "sharedParts", "(LGrownSnapshots$Mark;I)I"⟩
abbrev cX0_isAlike : ByteArray := prog_2_method_6_code
def yX0_isAlike : MethodName := ⟨RX0, "isAlike", "(LGrownSnapshots$Mark;)Z"⟩
abbrev cX0_hasAlikeList : ByteArray := prog_2_method_7_code
def yX0_hasAlikeList : MethodName := ⟨RX0, "hasAlikeList", "(LGrownSnapshots$Mark;I)Z"⟩
abbrev cX0_names : ByteArray := prog_2_method_8_code
def yX0_names : MethodName := ⟨RX0, "names", "(I)Z"⟩
abbrev cX0_addNames : ByteArray := prog_2_method_9_code
def yX0_addNames : MethodName := ⟨RX0, "addNames", "([Z)V"⟩
def RX1 : String := "GrownSnapshots$Shelf"
def TX1 : u_T := fun k => match k with
  | 0 => ("GrownSnapshots$Shelf", "has", "[Z", true)
  | _ => ("GrownSnapshots$Shelf", "bytes", "[I", true)
def tyX1 : Nat → FieldType := fun k => match k with
  | 0 => .array .boolean
  | _ => .array .int
abbrev wsX10 : List Cond := u_ws RX1 TX1 2
theorem nmX1 : ∀ a, a < 2 → ∀ b, b < 2 → a ≠ b → (TX1 a).2.1 ≠ (TX1 b).2.1 := by decide +kernel
theorem tyX1_ok : ∀ k, k < 2 → parseFieldDescriptor (TX1 k).2.2.1 = some (tyX1 k) := by decide +kernel
abbrev cX1_init : ByteArray := prog_3_method_1_code
def yX1_init : MethodName := ⟨RX1, "<init>", "()V"⟩
abbrev cX1_put : ByteArray := prog_3_method_2_code
def yX1_put : MethodName := ⟨RX1, "put", "(I[III)V"⟩
abbrev cX1_holds : ByteArray := prog_3_method_3_code
def yX1_holds : MethodName := ⟨RX1, "holds", "(I[III)Z"⟩
abbrev cX1_clear : ByteArray := prog_3_method_4_code
def yX1_clear : MethodName := ⟨RX1, "clear", "()V"⟩
def RX2 : String := "GrownSnapshots$State"
def TX2 : u_T := fun k => match k with
  | 0 => ("GrownSnapshots$State", "bytes", "[I", true)
  | 1 => ("GrownSnapshots$State", "ends", "[I", true)
  | _ => ("GrownSnapshots$State", "size", "I", false)
def tyX2 : Nat → FieldType := fun k => match k with
  | 0 => .array .int
  | 1 => .array .int
  | _ => .int
abbrev wsX20 : List Cond := u_ws RX2 TX2 3
theorem nmX2 : ∀ a, a < 3 → ∀ b, b < 3 → a ≠ b → (TX2 a).2.1 ≠ (TX2 b).2.1 := by decide +kernel
theorem tyX2_ok : ∀ k, k < 3 → parseFieldDescriptor (TX2 k).2.2.1 = some (tyX2 k) := by decide +kernel
abbrev cX2_init : ByteArray := prog_4_method_1_code
def yX2_init : MethodName := ⟨RX2, "<init>", "()V"⟩
abbrev cX2_open : ByteArray := prog_4_method_2_code
def yX2_open : MethodName := ⟨RX2, "open", "(II)V"⟩
abbrev cX2_close : ByteArray := prog_4_method_3_code
def yX2_close : MethodName := ⟨RX2, "close", "(II)V"⟩
abbrev cX2_append : ByteArray := prog_4_method_4_code
def yX2_append : MethodName := ⟨RX2, "append", "([III)V"⟩
abbrev cX2_cut : ByteArray := prog_4_method_5_code
def yX2_cut : MethodName := ⟨RX2, "cut", "()I"⟩
abbrev cX2_endsChunk : ByteArray := prog_4_method_6_code
def yX2_endsChunk : MethodName := ⟨RX2, "endsChunk", "(II)Z"⟩
abbrev cX2_chunkStart : ByteArray := prog_4_method_7_code
def yX2_chunkStart : MethodName := ⟨RX2, "chunkStart", "(I)I"⟩
abbrev cX2_chunkSize : ByteArray := prog_4_method_8_code
def yX2_chunkSize : MethodName := ⟨RX2, "chunkSize", "(I)I"⟩
def RX3 : String := "GrownSnapshots$Store"
def TX3 : u_T := fun k => match k with
  | 0 => ("GrownSnapshots$Store", "shelf", "LGrownSnapshots$Shelf;", true)
  | 1 => ("GrownSnapshots$Store", "sizes", "[I", true)
  | 2 => ("GrownSnapshots$Store", "digests", "[I", true)
  | 3 => ("GrownSnapshots$Store", "fresh", "[I", true)
  | 4 => ("GrownSnapshots$Store", "freshCount", "I", false)
  | 5 => ("GrownSnapshots$Store", "freshBytes", "I", false)
  | 6 => ("GrownSnapshots$Store", "count", "I", false)
  | _ => ("GrownSnapshots$Store", "totalBytes", "I", false)
def tyX3 : Nat → FieldType := fun k => match k with
  | 0 => .object "GrownSnapshots$Shelf"
  | 1 => .array .int
  | 2 => .array .int
  | 3 => .array .int
  | 4 => .int
  | 5 => .int
  | 6 => .int
  | _ => .int
abbrev wsX30 : List Cond := u_ws RX3 TX3 8
theorem nmX3 : ∀ a, a < 8 → ∀ b, b < 8 → a ≠ b → (TX3 a).2.1 ≠ (TX3 b).2.1 := by decide +kernel
theorem tyX3_ok : ∀ k, k < 8 → parseFieldDescriptor (TX3 k).2.2.1 = some (tyX3 k) := by decide +kernel
abbrev cX3_init : ByteArray := prog_5_method_1_code
def yX3_init : MethodName := ⟨RX3, "<init>", "()V"⟩
abbrev cX3_isThere : ByteArray := prog_5_method_2_code
def yX3_isThere : MethodName := ⟨RX3, "isThere", "(I)Z"⟩
abbrev cX3_isSound : ByteArray := prog_5_method_3_code
def yX3_isSound : MethodName := ⟨RX3, "isSound", "(ILGrownSnapshots$Shelf;)Z"⟩
abbrev cX3_hasByte : ByteArray := prog_5_method_4_code
def yX3_hasByte : MethodName := ⟨RX3, "hasByte", "(ILGrownSnapshots$Shelf;I)Z"⟩
abbrev cX3_brokenCount : ByteArray := prog_5_method_5_code
def yX3_brokenCount : MethodName := ⟨RX3, "brokenCount", "()I"⟩
abbrev cX3_beginMarking : ByteArray := prog_5_method_6_code
def yX3_beginMarking : MethodName := ⟨RX3, "beginMarking", "()V"⟩
abbrev cX3_undoMarking : ByteArray := prog_5_method_7_code
def yX3_undoMarking : MethodName := ⟨RX3, "undoMarking", "()V"⟩
abbrev cX3_partOf : ByteArray := prog_5_method_8_code
def yX3_partOf : MethodName := ⟨RX3, "partOf", "([III)I"⟩
abbrev cX3_findPart : ByteArray := prog_5_method_9_code
def yX3_findPart : MethodName := ⟨RX3, "findPart", "([IIII)I"⟩
abbrev cX3_makePart : ByteArray := prog_5_method_10_code
def yX3_makePart : MethodName := ⟨RX3, "makePart", "([IIII)I"⟩
abbrev cX3_leastUnused : ByteArray := prog_5_method_11_code
def yX3_leastUnused : MethodName := ⟨RX3, "leastUnused", "()I"⟩
abbrev cX3_takeAway : ByteArray := prog_5_method_12_code
def yX3_takeAway : MethodName := ⟨RX3, "takeAway", "(I)V"⟩
def RX4 : String := "GrownSnapshots"
def TX4 : u_T := fun k => match k with
  | 0 => ("GrownSnapshots", "states", "[LGrownSnapshots$State;", true)
  | 1 => ("GrownSnapshots", "copies", "[LGrownSnapshots$Shelf;", true)
  | 2 => ("GrownSnapshots", "store", "LGrownSnapshots$Store;", true)
  | 3 => ("GrownSnapshots", "held", "[LGrownSnapshots$Mark;", true)
  | 4 => ("GrownSnapshots", "joined", "[I", true)
  | 5 => ("GrownSnapshots", "named", "[Z", true)
  | 6 => ("GrownSnapshots", "taskCount", "I", false)
  | 7 => ("GrownSnapshots", "heldCount", "I", false)
  | _ => ("GrownSnapshots", "nextMark", "I", false)
def tyX4 : Nat → FieldType := fun k => match k with
  | 0 => .array (.object "GrownSnapshots$State")
  | 1 => .array (.object "GrownSnapshots$Shelf")
  | 2 => .object "GrownSnapshots$Store"
  | 3 => .array (.object "GrownSnapshots$Mark")
  | 4 => .array .int
  | 5 => .array .boolean
  | 6 => .int
  | 7 => .int
  | _ => .int
abbrev wsX40 : List Cond := u_ws RX4 TX4 9
theorem nmX4 : ∀ a, a < 9 → ∀ b, b < 9 → a ≠ b → (TX4 a).2.1 ≠ (TX4 b).2.1 := by decide +kernel
theorem tyX4_ok : ∀ k, k < 9 → parseFieldDescriptor (TX4 k).2.2.1 = some (tyX4 k) := by decide +kernel
abbrev cX4_init : ByteArray := prog_1_method_1_code
def yX4_init : MethodName := ⟨RX4, "<init>", "()V"⟩
abbrev cX4_insert : ByteArray := prog_1_method_2_code
def yX4_insert : MethodName := ⟨RX4, "insert", "(IIIJ)I"⟩
abbrev cX4_remove : ByteArray := prog_1_method_3_code
def yX4_remove : MethodName := ⟨RX4, "remove", "(III)I"⟩
abbrev cX4_extend : ByteArray := prog_1_method_4_code
def yX4_extend : MethodName := ⟨RX4, "extend", "(IIII)I"⟩
abbrev cX4_state : ByteArray := prog_1_method_5_code
def yX4_state : MethodName := ⟨RX4, "state", "(II)I"⟩
abbrev cX4_chunk : ByteArray := prog_1_method_6_code
def yX4_chunk : MethodName := ⟨RX4, "chunk", "(II)I"⟩
abbrev cX4_rescale : ByteArray := prog_1_method_7_code
def yX4_rescale : MethodName := ⟨RX4, "rescale", "(I)I"⟩
abbrev cX4_mark : ByteArray := prog_1_method_8_code
def yX4_mark : MethodName := ⟨RX4, "mark", "(I)I"⟩
abbrev cX4_drop : ByteArray := prog_1_method_9_code
def yX4_drop : MethodName := ⟨RX4, "drop", "(I)I"⟩
abbrev cX4_back : ByteArray := prog_1_method_10_code
def yX4_back : MethodName := ⟨RX4, "back", "(I)I"⟩
abbrev cX4_usable : ByteArray := prog_1_method_11_code
def yX4_usable : MethodName := ⟨RX4, "usable", "(I)I"⟩
abbrev cX4_markTold : ByteArray := prog_1_method_12_code
def yX4_markTold : MethodName := ⟨RX4, "markTold", "(II)I"⟩
abbrev cX4_list : ByteArray := prog_1_method_13_code
def yX4_list : MethodName := ⟨RX4, "list", "(III)I"⟩
abbrev cX4_same : ByteArray := prog_1_method_14_code
def yX4_same : MethodName := ⟨RX4, "same", "(II)Z"⟩
abbrev cX4_partTold : ByteArray := prog_1_method_15_code
def yX4_partTold : MethodName := ⟨RX4, "partTold", "(II)I"⟩
abbrev cX4_partByte : ByteArray := prog_1_method_16_code
def yX4_partByte : MethodName := ⟨RX4, "partByte", "(III)I"⟩
abbrev cX4_alter : ByteArray := prog_1_method_17_code
def yX4_alter : MethodName := ⟨RX4, "alter", "(IIII)I"⟩
abbrev cX4_lose : ByteArray := prog_1_method_18_code
def yX4_lose : MethodName := ⟨RX4, "lose", "(II)I"⟩
abbrev cX4_told : ByteArray := prog_1_method_19_code
def yX4_told : MethodName := ⟨RX4, "told", "(I)I"⟩
abbrev cX4_isTask : ByteArray := prog_1_method_20_code
def yX4_isTask : MethodName := ⟨RX4, "isTask", "(I)Z"⟩
abbrev cX4_totalStateBytes : ByteArray := prog_1_method_21_code
def yX4_totalStateBytes : MethodName := ⟨RX4, "totalStateBytes", "()I"⟩
abbrev cX4_joinStates : ByteArray := prog_1_method_22_code
def yX4_joinStates : MethodName := ⟨RX4, "joinStates", "()V"⟩
abbrev cX4_becomeTasks : ByteArray := prog_1_method_23_code
def yX4_becomeTasks : MethodName := ⟨RX4, "becomeTasks", "(I)V"⟩
abbrev cX4_shareStart : ByteArray := prog_1_method_24_code
def yX4_shareStart : MethodName := ⟨RX4, "shareStart", "(III)I"⟩
abbrev cX4_storeStates : ByteArray := prog_1_method_25_code
def yX4_storeStates : MethodName := ⟨RX4, "storeStates", "(LGrownSnapshots$Mark;)Z"⟩
abbrev cX4_storeState : ByteArray := prog_1_method_26_code
def yX4_storeState : MethodName := ⟨RX4, "storeState", "(LGrownSnapshots$Mark;I)Z"⟩
abbrev cX4_copyStates : ByteArray := prog_1_method_27_code
def yX4_copyStates : MethodName := ⟨RX4, "copyStates", "(LGrownSnapshots$Mark;)V"⟩
abbrev cX4_letGoUnheld : ByteArray := prog_1_method_28_code
def yX4_letGoUnheld : MethodName := ⟨RX4, "letGoUnheld", "()V"⟩
abbrev cX4_isBase : ByteArray := prog_1_method_29_code
def yX4_isBase : MethodName := ⟨RX4, "isBase", "(I)Z"⟩
abbrev cX4_letGo : ByteArray := prog_1_method_30_code
def yX4_letGo : MethodName := ⟨RX4, "letGo", "(I)V"⟩
abbrev cX4_freeUnnamed : ByteArray := prog_1_method_31_code
def yX4_freeUnnamed : MethodName := ⟨RX4, "freeUnnamed", "()I"⟩
abbrev cX4_nameKeptParts : ByteArray := prog_1_method_32_code
def yX4_nameKeptParts : MethodName := ⟨RX4, "nameKeptParts", "()V"⟩
abbrev cX4_freePart : ByteArray := prog_1_method_33_code
def yX4_freePart : MethodName := ⟨RX4, "freePart", "(I)V"⟩
abbrev cX4_heldMark : ByteArray := prog_1_method_34_code
def yX4_heldMark : MethodName := ⟨RX4, "heldMark", "(I)LGrownSnapshots$Mark;"⟩
abbrev cX4_keptMark : ByteArray := prog_1_method_35_code
def yX4_keptMark : MethodName := ⟨RX4, "keptMark", "(I)LGrownSnapshots$Mark;"⟩
abbrev cX4_latestKept : ByteArray := prog_1_method_36_code
def yX4_latestKept : MethodName := ⟨RX4, "latestKept", "()LGrownSnapshots$Mark;"⟩
abbrev cX4_latestUsable : ByteArray := prog_1_method_37_code
def yX4_latestUsable : MethodName := ⟨RX4, "latestUsable", "(I)LGrownSnapshots$Mark;"⟩
abbrev cX4_keptCount : ByteArray := prog_1_method_38_code
def yX4_keptCount : MethodName := ⟨RX4, "keptCount", "()I"⟩
abbrev cX4_keptNaming : ByteArray := prog_1_method_39_code
def yX4_keptNaming : MethodName := ⟨RX4, "keptNaming", "(I)I"⟩
abbrev cX4_isUsable : ByteArray := prog_1_method_40_code
def yX4_isUsable : MethodName := ⟨RX4, "isUsable", "(LGrownSnapshots$Mark;)Z"⟩
abbrev cX4_isReadable : ByteArray := prog_1_method_41_code
def yX4_isReadable : MethodName := ⟨RX4, "isReadable", "(II)Z"⟩
abbrev cX4_readState : ByteArray := prog_1_method_42_code
def yX4_readState : MethodName := ⟨RX4, "readState", "(LGrownSnapshots$Mark;I)V"⟩
abbrev cX4_readPart : ByteArray := prog_1_method_43_code
def yX4_readPart : MethodName := ⟨RX4, "readPart", "(II)V"⟩
abbrev cX4_shelfOf : ByteArray := prog_1_method_44_code
def yX4_shelfOf : MethodName := ⟨RX4, "shelfOf", "(I)LGrownSnapshots$Shelf;"⟩
abbrev cX4_copyCount : ByteArray := prog_1_method_45_code
def yX4_copyCount : MethodName := ⟨RX4, "copyCount", "(I)I"⟩
abbrev cX4_allCopies : ByteArray := prog_1_method_46_code
def yX4_allCopies : MethodName := ⟨RX4, "allCopies", "()I"⟩
abbrev cX4_digestOf : ByteArray := prog_1_method_47_code
def yX4_digestOf : MethodName := ⟨RX4, "digestOf", "([III)I"⟩
def RX5 : String := "GrownSnapshotsModel"
def TX5 : u_T := fun k => match k with
  | 0 => ("GrownSnapshotsModel", "tasks", "I", false)
  | 1 => ("GrownSnapshotsModel", "size", "[I", true)
  | 2 => ("GrownSnapshotsModel", "state", "[I", true)
  | 3 => ("GrownSnapshotsModel", "moved", "[I", true)
  | 4 => ("GrownSnapshotsModel", "partSize", "[I", true)
  | 5 => ("GrownSnapshotsModel", "digest", "[I", true)
  | 6 => ("GrownSnapshotsModel", "lost", "[Z", true)
  | 7 => ("GrownSnapshotsModel", "bytes", "[I", true)
  | 8 => ("GrownSnapshotsModel", "copied", "[Z", true)
  | 9 => ("GrownSnapshotsModel", "copy", "[I", true)
  | 10 => ("GrownSnapshotsModel", "next", "I", false)
  | 11 => ("GrownSnapshotsModel", "number", "[I", true)
  | 12 => ("GrownSnapshotsModel", "kept", "[Z", true)
  | 13 => ("GrownSnapshotsModel", "base", "[I", true)
  | 14 => ("GrownSnapshotsModel", "markTasks", "[I", true)
  | 15 => ("GrownSnapshotsModel", "length", "[I", true)
  | 16 => ("GrownSnapshotsModel", "lists", "[I", true)
  | 17 => ("GrownSnapshotsModel", "own", "[I", true)
  | 18 => ("GrownSnapshotsModel", "marked", "[I", true)
  | 19 => ("GrownSnapshotsModel", "fresh", "[I", true)
  | _ => ("GrownSnapshotsModel", "isNew", "[Z", true)
def tyX5 : Nat → FieldType := fun k => match k with
  | 0 => .int
  | 1 => .array .int
  | 2 => .array .int
  | 3 => .array .int
  | 4 => .array .int
  | 5 => .array .int
  | 6 => .array .boolean
  | 7 => .array .int
  | 8 => .array .boolean
  | 9 => .array .int
  | 10 => .int
  | 11 => .array .int
  | 12 => .array .boolean
  | 13 => .array .int
  | 14 => .array .int
  | 15 => .array .int
  | 16 => .array .int
  | 17 => .array .int
  | 18 => .array .int
  | 19 => .array .int
  | _ => .array .boolean
abbrev wsX50 : List Cond := u_ws RX5 TX5 21
theorem nmX5 : ∀ a, a < 21 → ∀ b, b < 21 → a ≠ b → (TX5 a).2.1 ≠ (TX5 b).2.1 := by decide +kernel
theorem tyX5_ok : ∀ k, k < 21 → parseFieldDescriptor (TX5 k).2.2.1 = some (tyX5 k) := by decide +kernel
abbrev cX5_init : ByteArray := prog_7_method_1_code
def yX5_init : MethodName := ⟨RX5, "<init>", "()V"⟩
abbrev cX5_in : ByteArray := prog_7_method_2_code
def yX5_in : MethodName := ⟨RX5, "in", "(III)Z"⟩
abbrev cX5_isTask : ByteArray := prog_7_method_3_code
def yX5_isTask : MethodName := ⟨RX5, "isTask", "(I)Z"⟩
abbrev cX5_insert : ByteArray := prog_7_method_4_code
def yX5_insert : MethodName := ⟨RX5, "insert", "(IIIJ)I"⟩
abbrev cX5_remove : ByteArray := prog_7_method_5_code
def yX5_remove : MethodName := ⟨RX5, "remove", "(III)I"⟩
abbrev cX5_extend : ByteArray := prog_7_method_6_code
def yX5_extend : MethodName := ⟨RX5, "extend", "(IIII)I"⟩
abbrev cX5_state : ByteArray := prog_7_method_7_code
def yX5_state : MethodName := ⟨RX5, "state", "(II)I"⟩
abbrev cX5_chunkFrom : ByteArray := prog_7_method_8_code
def yX5_chunkFrom : MethodName := ⟨RX5, "chunkFrom", "(II)I"⟩
abbrev cX5_chunk : ByteArray := prog_7_method_9_code
def yX5_chunk : MethodName := ⟨RX5, "chunk", "(II)I"⟩
abbrev cX5_rescale : ByteArray := prog_7_method_10_code
def yX5_rescale : MethodName := ⟨RX5, "rescale", "(I)I"⟩
abbrev cX5_become : ByteArray := prog_7_method_11_code
def yX5_become : MethodName := ⟨RX5, "become", "(I)V"⟩
abbrev cX5_isPart : ByteArray := prog_7_method_12_code
def yX5_isPart : MethodName := ⟨RX5, "isPart", "(I)Z"⟩
abbrev cX5_isBroken : ByteArray := prog_7_method_13_code
def yX5_isBroken : MethodName := ⟨RX5, "isBroken", "(I)Z"⟩
abbrev cX5_isGoodCopy : ByteArray := prog_7_method_14_code
def yX5_isGoodCopy : MethodName := ⟨RX5, "isGoodCopy", "(II)Z"⟩
abbrev cX5_isReadable : ByteArray := prog_7_method_15_code
def yX5_isReadable : MethodName := ⟨RX5, "isReadable", "(II)Z"⟩
abbrev cX5_hasPart : ByteArray := prog_7_method_16_code
def yX5_hasPart : MethodName := ⟨RX5, "hasPart", "(II)Z"⟩
abbrev cX5_partTold : ByteArray := prog_7_method_17_code
def yX5_partTold : MethodName := ⟨RX5, "partTold", "(II)I"⟩
abbrev cX5_isByte : ByteArray := prog_7_method_18_code
def yX5_isByte : MethodName := ⟨RX5, "isByte", "(III)Z"⟩
abbrev cX5_partByte : ByteArray := prog_7_method_19_code
def yX5_partByte : MethodName := ⟨RX5, "partByte", "(III)I"⟩
abbrev cX5_alter : ByteArray := prog_7_method_20_code
def yX5_alter : MethodName := ⟨RX5, "alter", "(IIII)I"⟩
abbrev cX5_lose : ByteArray := prog_7_method_21_code
def yX5_lose : MethodName := ⟨RX5, "lose", "(II)I"⟩
abbrev cX5_slotOf : ByteArray := prog_7_method_22_code
def yX5_slotOf : MethodName := ⟨RX5, "slotOf", "(I)I"⟩
abbrev cX5_keptSlot : ByteArray := prog_7_method_23_code
def yX5_keptSlot : MethodName := ⟨RX5, "keptSlot", "(I)I"⟩
abbrev cX5_isChunk : ByteArray := prog_7_method_24_code
def yX5_isChunk : MethodName := ⟨RX5, "isChunk", "(IIII)Z"⟩
abbrev cX5_partFor : ByteArray := prog_7_method_25_code
def yX5_partFor : MethodName := ⟨RX5, "partFor", "(III)I"⟩
abbrev cX5_allBytes : ByteArray := prog_7_method_26_code
def yX5_allBytes : MethodName := ⟨RX5, "allBytes", "()I"⟩
abbrev cX5_held : ByteArray := prog_7_method_27_code
def yX5_held : MethodName := ⟨RX5, "held", "()I"⟩
abbrev cX5_latest : ByteArray := prog_7_method_28_code
def yX5_latest : MethodName := ⟨RX5, "latest", "(I)I"⟩
abbrev cX5_mark : ByteArray := prog_7_method_29_code
def yX5_mark : MethodName := ⟨RX5, "mark", "(I)I"⟩
abbrev cX5_tells : ByteArray := prog_7_method_30_code
def yX5_tells : MethodName := ⟨RX5, "tells", "(II)I"⟩
abbrev cX5_drop : ByteArray := prog_7_method_31_code
def yX5_drop : MethodName := ⟨RX5, "drop", "(I)I"⟩
abbrev cX5_isUsable : ByteArray := prog_7_method_32_code
def yX5_isUsable : MethodName := ⟨RX5, "isUsable", "(I)Z"⟩
abbrev cX5_usable : ByteArray := prog_7_method_33_code
def yX5_usable : MethodName := ⟨RX5, "usable", "(I)I"⟩
abbrev cX5_back : ByteArray := prog_7_method_34_code
def yX5_back : MethodName := ⟨RX5, "back", "(I)I"⟩
abbrev cX5_read : ByteArray := prog_7_method_35_code
def yX5_read : MethodName := ⟨RX5, "read", "(II)V"⟩
abbrev cX5_markTold : ByteArray := prog_7_method_36_code
def yX5_markTold : MethodName := ⟨RX5, "markTold", "(II)I"⟩
abbrev cX5_list : ByteArray := prog_7_method_37_code
def yX5_list : MethodName := ⟨RX5, "list", "(III)I"⟩
abbrev cX5_same : ByteArray := prog_7_method_38_code
def yX5_same : MethodName := ⟨RX5, "same", "(II)Z"⟩
abbrev cX5_told : ByteArray := prog_7_method_39_code
def yX5_told : MethodName := ⟨RX5, "told", "(I)I"⟩
def RJ9 : String := "java/lang/Math"
def TJ9 : u_T := fun k => match k with
  | _ => ("", "", "", false)
def tyJ9 : Nat → FieldType := fun k => match k with
  | _ => .int
abbrev wsJ90 : List Cond := u_ws RJ9 TJ9 0
theorem nmJ9 : ∀ a, a < 0 → ∀ b, b < 0 → a ≠ b → (TJ9 a).2.1 ≠ (TJ9 b).2.1 := by decide +kernel
theorem tyJ9_ok : ∀ k, k < 0 → parseFieldDescriptor (TJ9 k).2.2.1 = some (tyJ9 k) := by decide +kernel
abbrev cJ9_min_7cf53 : ByteArray := prog_8_method_69_code
def yJ9_min_7cf53 : MethodName := ⟨RJ9, "min", "(II)I"⟩
def RJ10 : String := "java/lang/System"
def TJ10 : u_T := fun k => match k with
  | _ => ("", "", "", false)
def tyJ10 : Nat → FieldType := fun k => match k with
  | _ => .int
abbrev wsJ100 : List Cond := u_ws RJ10 TJ10 0
theorem nmJ10 : ∀ a, a < 0 → ∀ b, b < 0 → a ≠ b → (TJ10 a).2.1 ≠ (TJ10 b).2.1 := by decide +kernel
theorem tyJ10_ok : ∀ k, k < 0 → parseFieldDescriptor (TJ10 k).2.2.1 = some (tyJ10 k) := by decide +kernel
def RL : String := "GrownSnapshotsLaw"
abbrev cL_law : ByteArray := code
def yL_law : MethodName := ⟨RL, "law", "([I)Z"⟩
end
section
theorem dX0_init_0 : decode cX0_init 0 = .ok (.aload_n 0, 1) := by decide +kernel
theorem dX0_init_1 : decode cX0_init 1 = .ok (.invokespecial 3, 3) := by decide +kernel
theorem dX0_init_4 : decode cX0_init 4 = .ok (.aload_n 0, 1) := by decide +kernel
theorem dX0_init_5 : decode cX0_init 5 = .ok (.iconst 4, 1) := by decide +kernel
theorem dX0_init_6 : decode cX0_init 6 = .ok (.bipush 75, 2) := by decide +kernel
theorem dX0_init_8 : decode cX0_init 8 = .ok (.multianewarray 9 2, 4) := by decide +kernel
theorem dX0_init_12 : decode cX0_init 12 = .ok (.putfield 11, 3) := by decide +kernel
theorem dX0_init_15 : decode cX0_init 15 = .ok (.aload_n 0, 1) := by decide +kernel
theorem dX0_init_16 : decode cX0_init 16 = .ok (.iconst 4, 1) := by decide +kernel
theorem dX0_init_17 : decode cX0_init 17 = .ok (.newarray .int, 2) := by decide +kernel
theorem dX0_init_19 : decode cX0_init 19 = .ok (.putfield 16, 3) := by decide +kernel
theorem dX0_init_22 : decode cX0_init 22 = .ok (.aload_n 0, 1) := by decide +kernel
theorem dX0_init_23 : decode cX0_init 23 = .ok (.iconst (-1), 1) := by decide +kernel
theorem dX0_init_24 : decode cX0_init 24 = .ok (.putfield 20, 3) := by decide +kernel
theorem dX0_init_27 : decode cX0_init 27 = .ok (.aload_n 0, 1) := by decide +kernel
theorem dX0_init_28 : decode cX0_init 28 = .ok (.iconst 0, 1) := by decide +kernel
theorem dX0_init_29 : decode cX0_init 29 = .ok (.putfield 24, 3) := by decide +kernel
theorem dX0_init_32 : decode cX0_init 32 = .ok (.aload_n 0, 1) := by decide +kernel
theorem dX0_init_33 : decode cX0_init 33 = .ok (.iconst (-1), 1) := by decide +kernel
theorem dX0_init_34 : decode cX0_init 34 = .ok (.putfield 28, 3) := by decide +kernel
theorem dX0_init_37 : decode cX0_init 37 = .ok (.aload_n 0, 1) := by decide +kernel
theorem dX0_init_38 : decode cX0_init 38 = .ok (.iconst 0, 1) := by decide +kernel
theorem dX0_init_39 : decode cX0_init 39 = .ok (.putfield 31, 3) := by decide +kernel
theorem dX0_init_42 : decode cX0_init 42 = .ok (.aload_n 0, 1) := by decide +kernel
theorem dX0_init_43 : decode cX0_init 43 = .ok (.iconst 0, 1) := by decide +kernel
theorem dX0_init_44 : decode cX0_init 44 = .ok (.putfield 34, 3) := by decide +kernel
theorem dX0_init_47 : decode cX0_init 47 = .ok (.aload_n 0, 1) := by decide +kernel
theorem dX0_init_48 : decode cX0_init 48 = .ok (.iconst 0, 1) := by decide +kernel
theorem dX0_init_49 : decode cX0_init 49 = .ok (.putfield 37, 3) := by decide +kernel
theorem dX0_init_52 : decode cX0_init 52 = .ok (.aload_n 0, 1) := by decide +kernel
theorem dX0_init_53 : decode cX0_init 53 = .ok (.iconst 0, 1) := by decide +kernel
theorem dX0_init_54 : decode cX0_init 54 = .ok (.putfield 40, 3) := by decide +kernel
theorem dX0_init_57 : decode cX0_init 57 = .ok (.return_, 1) := by decide +kernel
theorem dX0_begin_0 : decode cX0_begin 0 = .ok (.aload_n 0, 1) := by decide +kernel
theorem dX0_begin_1 : decode cX0_begin 1 = .ok (.iload_n 1, 1) := by decide +kernel
theorem dX0_begin_2 : decode cX0_begin 2 = .ok (.putfield 20, 3) := by decide +kernel
theorem dX0_begin_5 : decode cX0_begin 5 = .ok (.aload_n 0, 1) := by decide +kernel
theorem dX0_begin_6 : decode cX0_begin 6 = .ok (.iconst 1, 1) := by decide +kernel
theorem dX0_begin_7 : decode cX0_begin 7 = .ok (.putfield 24, 3) := by decide +kernel
theorem dX0_begin_10 : decode cX0_begin 10 = .ok (.aload_n 0, 1) := by decide +kernel
theorem dX0_begin_11 : decode cX0_begin 11 = .ok (.iconst (-1), 1) := by decide +kernel
theorem dX0_begin_12 : decode cX0_begin 12 = .ok (.putfield 28, 3) := by decide +kernel
theorem dX0_begin_15 : decode cX0_begin 15 = .ok (.aload_n 0, 1) := by decide +kernel
theorem dX0_begin_16 : decode cX0_begin 16 = .ok (.iload_n 2, 1) := by decide +kernel
theorem dX0_begin_17 : decode cX0_begin 17 = .ok (.putfield 31, 3) := by decide +kernel
theorem dX0_begin_20 : decode cX0_begin 20 = .ok (.aload_n 0, 1) := by decide +kernel
theorem dX0_begin_21 : decode cX0_begin 21 = .ok (.iconst 0, 1) := by decide +kernel
theorem dX0_begin_22 : decode cX0_begin 22 = .ok (.putfield 37, 3) := by decide +kernel
theorem dX0_begin_25 : decode cX0_begin 25 = .ok (.return_, 1) := by decide +kernel
theorem dX0_partCount_0 : decode cX0_partCount 0 = .ok (.iconst 0, 1) := by decide +kernel
theorem dX0_partCount_1 : decode cX0_partCount 1 = .ok (.istore_n 1, 1) := by decide +kernel
theorem dX0_partCount_2 : decode cX0_partCount 2 = .ok (.iconst 0, 1) := by decide +kernel
theorem dX0_partCount_3 : decode cX0_partCount 3 = .ok (.istore_n 2, 1) := by decide +kernel
theorem dX0_partCount_4 : decode cX0_partCount 4 = .ok (.iload_n 2, 1) := by decide +kernel
theorem dX0_partCount_5 : decode cX0_partCount 5 = .ok (.aload_n 0, 1) := by decide +kernel
theorem dX0_partCount_6 : decode cX0_partCount 6 = .ok (.getfield 31, 3) := by decide +kernel
theorem dX0_partCount_9 : decode cX0_partCount 9 = .ok (.if_icmp .ge 18, 3) := by decide +kernel
theorem dX0_partCount_12 : decode cX0_partCount 12 = .ok (.iload_n 1, 1) := by decide +kernel
theorem dX0_partCount_13 : decode cX0_partCount 13 = .ok (.aload_n 0, 1) := by decide +kernel
theorem dX0_partCount_14 : decode cX0_partCount 14 = .ok (.getfield 16, 3) := by decide +kernel
theorem dX0_partCount_17 : decode cX0_partCount 17 = .ok (.iload_n 2, 1) := by decide +kernel
theorem dX0_partCount_18 : decode cX0_partCount 18 = .ok (.iaload, 1) := by decide +kernel
theorem dX0_partCount_19 : decode cX0_partCount 19 = .ok (.iadd, 1) := by decide +kernel
theorem dX0_partCount_20 : decode cX0_partCount 20 = .ok (.istore_n 1, 1) := by decide +kernel
theorem dX0_partCount_21 : decode cX0_partCount 21 = .ok (.iinc 2 1, 3) := by decide +kernel
theorem dX0_partCount_24 : decode cX0_partCount 24 = .ok (.goto (-20), 3) := by decide +kernel
theorem dX0_partCount_27 : decode cX0_partCount 27 = .ok (.iload_n 1, 1) := by decide +kernel
theorem dX0_partCount_28 : decode cX0_partCount 28 = .ok (.ireturn, 1) := by decide +kernel
theorem dX0_growUpon_0 : decode cX0_growUpon 0 = .ok (.aload_n 0, 1) := by decide +kernel
theorem dX0_growUpon_1 : decode cX0_growUpon 1 = .ok (.aload_n 0, 1) := by decide +kernel
theorem dX0_growUpon_2 : decode cX0_growUpon 2 = .ok (.invokevirtual 43, 3) := by decide +kernel
theorem dX0_growUpon_5 : decode cX0_growUpon 5 = .ok (.putfield 34, 3) := by decide +kernel
theorem dX0_growUpon_8 : decode cX0_growUpon 8 = .ok (.aload_n 1, 1) := by decide +kernel
theorem dX0_growUpon_9 : decode cX0_growUpon 9 = .ok (.ifnonnull 4, 3) := by decide +kernel
theorem dX0_growUpon_12 : decode cX0_growUpon 12 = .ok (.return_, 1) := by decide +kernel
theorem dX0_growUpon_13 : decode cX0_growUpon 13 = .ok (.aload_n 0, 1) := by decide +kernel
theorem dX0_growUpon_14 : decode cX0_growUpon 14 = .ok (.aload_n 1, 1) := by decide +kernel
theorem dX0_growUpon_15 : decode cX0_growUpon 15 = .ok (.getfield 20, 3) := by decide +kernel
theorem dX0_growUpon_18 : decode cX0_growUpon 18 = .ok (.putfield 28, 3) := by decide +kernel
theorem dX0_growUpon_21 : decode cX0_growUpon 21 = .ok (.iconst 0, 1) := by decide +kernel
theorem dX0_growUpon_22 : decode cX0_growUpon 22 = .ok (.istore_n 2, 1) := by decide +kernel
theorem dX0_growUpon_23 : decode cX0_growUpon 23 = .ok (.iload_n 2, 1) := by decide +kernel
theorem dX0_growUpon_24 : decode cX0_growUpon 24 = .ok (.aload_n 0, 1) := by decide +kernel
theorem dX0_growUpon_25 : decode cX0_growUpon 25 = .ok (.getfield 31, 3) := by decide +kernel
theorem dX0_growUpon_28 : decode cX0_growUpon 28 = .ok (.if_icmp .ge 32, 3) := by decide +kernel
theorem dX0_growUpon_31 : decode cX0_growUpon 31 = .ok (.iload_n 2, 1) := by decide +kernel
theorem dX0_growUpon_32 : decode cX0_growUpon 32 = .ok (.aload_n 1, 1) := by decide +kernel
theorem dX0_growUpon_33 : decode cX0_growUpon 33 = .ok (.getfield 31, 3) := by decide +kernel
theorem dX0_growUpon_36 : decode cX0_growUpon 36 = .ok (.if_icmp .ge 24, 3) := by decide +kernel
theorem dX0_growUpon_39 : decode cX0_growUpon 39 = .ok (.aload_n 0, 1) := by decide +kernel
theorem dX0_growUpon_40 : decode cX0_growUpon 40 = .ok (.dup, 1) := by decide +kernel
theorem dX0_growUpon_41 : decode cX0_growUpon 41 = .ok (.getfield 34, 3) := by decide +kernel
theorem dX0_growUpon_44 : decode cX0_growUpon 44 = .ok (.aload_n 0, 1) := by decide +kernel
theorem dX0_growUpon_45 : decode cX0_growUpon 45 = .ok (.aload_n 1, 1) := by decide +kernel
theorem dX0_growUpon_46 : decode cX0_growUpon 46 = .ok (.iload_n 2, 1) := by decide +kernel
theorem dX0_growUpon_47 : decode cX0_growUpon 47 = .ok (.invokevirtual 47, 3) := by decide +kernel
theorem dX0_growUpon_50 : decode cX0_growUpon 50 = .ok (.isub, 1) := by decide +kernel
theorem dX0_growUpon_51 : decode cX0_growUpon 51 = .ok (.putfield 34, 3) := by decide +kernel
theorem dX0_growUpon_54 : decode cX0_growUpon 54 = .ok (.iinc 2 1, 3) := by decide +kernel
theorem dX0_growUpon_57 : decode cX0_growUpon 57 = .ok (.goto (-34), 3) := by decide +kernel
theorem dX0_growUpon_60 : decode cX0_growUpon 60 = .ok (.return_, 1) := by decide +kernel
theorem dX0_sharedParts_0 : decode cX0_sharedParts 0 = .ok (.aload_n 0, 1) := by decide +kernel
theorem dX0_sharedParts_1 : decode cX0_sharedParts 1 = .ok (.getfield 16, 3) := by decide +kernel
theorem dX0_sharedParts_4 : decode cX0_sharedParts 4 = .ok (.iload_n 2, 1) := by decide +kernel
theorem dX0_sharedParts_5 : decode cX0_sharedParts 5 = .ok (.iaload, 1) := by decide +kernel
theorem dX0_sharedParts_6 : decode cX0_sharedParts 6 = .ok (.aload_n 1, 1) := by decide +kernel
theorem dX0_sharedParts_7 : decode cX0_sharedParts 7 = .ok (.getfield 16, 3) := by decide +kernel
theorem dX0_sharedParts_10 : decode cX0_sharedParts 10 = .ok (.iload_n 2, 1) := by decide +kernel
theorem dX0_sharedParts_11 : decode cX0_sharedParts 11 = .ok (.iaload, 1) := by decide +kernel
theorem dX0_sharedParts_12 : decode cX0_sharedParts 12 = .ok (.invokestatic 51, 3) := by decide +kernel
theorem dX0_sharedParts_15 : decode cX0_sharedParts 15 = .ok (.istore_n 3, 1) := by decide +kernel
theorem dX0_sharedParts_16 : decode cX0_sharedParts 16 = .ok (.iconst 0, 1) := by decide +kernel
theorem dX0_sharedParts_17 : decode cX0_sharedParts 17 = .ok (.istore 4, 2) := by decide +kernel
theorem dX0_sharedParts_19 : decode cX0_sharedParts 19 = .ok (.iload 4, 2) := by decide +kernel
theorem dX0_sharedParts_21 : decode cX0_sharedParts 21 = .ok (.iload_n 3, 1) := by decide +kernel
theorem dX0_sharedParts_22 : decode cX0_sharedParts 22 = .ok (.if_icmp .ge 30, 3) := by decide +kernel
theorem dX0_sharedParts_25 : decode cX0_sharedParts 25 = .ok (.aload_n 0, 1) := by decide +kernel
theorem dX0_sharedParts_26 : decode cX0_sharedParts 26 = .ok (.getfield 11, 3) := by decide +kernel
theorem dX0_sharedParts_29 : decode cX0_sharedParts 29 = .ok (.iload_n 2, 1) := by decide +kernel
theorem dX0_sharedParts_30 : decode cX0_sharedParts 30 = .ok (.aaload, 1) := by decide +kernel
theorem dX0_sharedParts_31 : decode cX0_sharedParts 31 = .ok (.iload 4, 2) := by decide +kernel
theorem dX0_sharedParts_33 : decode cX0_sharedParts 33 = .ok (.iaload, 1) := by decide +kernel
theorem dX0_sharedParts_34 : decode cX0_sharedParts 34 = .ok (.aload_n 1, 1) := by decide +kernel
theorem dX0_sharedParts_35 : decode cX0_sharedParts 35 = .ok (.getfield 11, 3) := by decide +kernel
theorem dX0_sharedParts_38 : decode cX0_sharedParts 38 = .ok (.iload_n 2, 1) := by decide +kernel
theorem dX0_sharedParts_39 : decode cX0_sharedParts 39 = .ok (.aaload, 1) := by decide +kernel
theorem dX0_sharedParts_40 : decode cX0_sharedParts 40 = .ok (.iload 4, 2) := by decide +kernel
theorem dX0_sharedParts_42 : decode cX0_sharedParts 42 = .ok (.iaload, 1) := by decide +kernel
theorem dX0_sharedParts_43 : decode cX0_sharedParts 43 = .ok (.if_icmp .ne 9, 3) := by decide +kernel
theorem dX0_sharedParts_46 : decode cX0_sharedParts 46 = .ok (.iinc 4 1, 3) := by decide +kernel
theorem dX0_sharedParts_49 : decode cX0_sharedParts 49 = .ok (.goto (-30), 3) := by decide +kernel
theorem dX0_sharedParts_52 : decode cX0_sharedParts 52 = .ok (.iconst 0, 1) := by decide +kernel
theorem dX0_sharedParts_53 : decode cX0_sharedParts 53 = .ok (.istore 5, 2) := by decide +kernel
theorem dX0_sharedParts_55 : decode cX0_sharedParts 55 = .ok (.iload 5, 2) := by decide +kernel
theorem dX0_sharedParts_57 : decode cX0_sharedParts 57 = .ok (.iload_n 3, 1) := by decide +kernel
theorem dX0_sharedParts_58 : decode cX0_sharedParts 58 = .ok (.iload 4, 2) := by decide +kernel
theorem dX0_sharedParts_60 : decode cX0_sharedParts 60 = .ok (.isub, 1) := by decide +kernel
theorem dX0_sharedParts_61 : decode cX0_sharedParts 61 = .ok (.if_icmp .ge 48, 3) := by decide +kernel
theorem dX0_sharedParts_64 : decode cX0_sharedParts 64 = .ok (.aload_n 0, 1) := by decide +kernel
theorem dX0_sharedParts_65 : decode cX0_sharedParts 65 = .ok (.getfield 11, 3) := by decide +kernel
theorem dX0_sharedParts_68 : decode cX0_sharedParts 68 = .ok (.iload_n 2, 1) := by decide +kernel
theorem dX0_sharedParts_69 : decode cX0_sharedParts 69 = .ok (.aaload, 1) := by decide +kernel
theorem dX0_sharedParts_70 : decode cX0_sharedParts 70 = .ok (.aload_n 0, 1) := by decide +kernel
theorem dX0_sharedParts_71 : decode cX0_sharedParts 71 = .ok (.getfield 16, 3) := by decide +kernel
theorem dX0_sharedParts_74 : decode cX0_sharedParts 74 = .ok (.iload_n 2, 1) := by decide +kernel
theorem dX0_sharedParts_75 : decode cX0_sharedParts 75 = .ok (.iaload, 1) := by decide +kernel
theorem dX0_sharedParts_76 : decode cX0_sharedParts 76 = .ok (.iconst 1, 1) := by decide +kernel
theorem dX0_sharedParts_77 : decode cX0_sharedParts 77 = .ok (.isub, 1) := by decide +kernel
theorem dX0_sharedParts_78 : decode cX0_sharedParts 78 = .ok (.iload 5, 2) := by decide +kernel
theorem dX0_sharedParts_80 : decode cX0_sharedParts 80 = .ok (.isub, 1) := by decide +kernel
theorem dX0_sharedParts_81 : decode cX0_sharedParts 81 = .ok (.iaload, 1) := by decide +kernel
theorem dX0_sharedParts_82 : decode cX0_sharedParts 82 = .ok (.aload_n 1, 1) := by decide +kernel
theorem dX0_sharedParts_83 : decode cX0_sharedParts 83 = .ok (.getfield 11, 3) := by decide +kernel
theorem dX0_sharedParts_86 : decode cX0_sharedParts 86 = .ok (.iload_n 2, 1) := by decide +kernel
theorem dX0_sharedParts_87 : decode cX0_sharedParts 87 = .ok (.aaload, 1) := by decide +kernel
theorem dX0_sharedParts_88 : decode cX0_sharedParts 88 = .ok (.aload_n 1, 1) := by decide +kernel
theorem dX0_sharedParts_89 : decode cX0_sharedParts 89 = .ok (.getfield 16, 3) := by decide +kernel
theorem dX0_sharedParts_92 : decode cX0_sharedParts 92 = .ok (.iload_n 2, 1) := by decide +kernel
theorem dX0_sharedParts_93 : decode cX0_sharedParts 93 = .ok (.iaload, 1) := by decide +kernel
theorem dX0_sharedParts_94 : decode cX0_sharedParts 94 = .ok (.iconst 1, 1) := by decide +kernel
theorem dX0_sharedParts_95 : decode cX0_sharedParts 95 = .ok (.isub, 1) := by decide +kernel
theorem dX0_sharedParts_96 : decode cX0_sharedParts 96 = .ok (.iload 5, 2) := by decide +kernel
theorem dX0_sharedParts_98 : decode cX0_sharedParts 98 = .ok (.isub, 1) := by decide +kernel
theorem dX0_sharedParts_99 : decode cX0_sharedParts 99 = .ok (.iaload, 1) := by decide +kernel
theorem dX0_sharedParts_100 : decode cX0_sharedParts 100 = .ok (.if_icmp .ne 9, 3) := by decide +kernel
theorem dX0_sharedParts_103 : decode cX0_sharedParts 103 = .ok (.iinc 5 1, 3) := by decide +kernel
theorem dX0_sharedParts_106 : decode cX0_sharedParts 106 = .ok (.goto (-51), 3) := by decide +kernel
theorem dX0_sharedParts_109 : decode cX0_sharedParts 109 = .ok (.iload 4, 2) := by decide +kernel
theorem dX0_sharedParts_111 : decode cX0_sharedParts 111 = .ok (.iload 5, 2) := by decide +kernel
theorem dX0_sharedParts_113 : decode cX0_sharedParts 113 = .ok (.iadd, 1) := by decide +kernel
theorem dX0_sharedParts_114 : decode cX0_sharedParts 114 = .ok (.ireturn, 1) := by decide +kernel
theorem dX0_isAlike_0 : decode cX0_isAlike 0 = .ok (.aload_n 0, 1) := by decide +kernel
theorem dX0_isAlike_1 : decode cX0_isAlike 1 = .ok (.getfield 31, 3) := by decide +kernel
theorem dX0_isAlike_4 : decode cX0_isAlike 4 = .ok (.aload_n 1, 1) := by decide +kernel
theorem dX0_isAlike_5 : decode cX0_isAlike 5 = .ok (.getfield 31, 3) := by decide +kernel
theorem dX0_isAlike_8 : decode cX0_isAlike 8 = .ok (.if_icmp .eq 5, 3) := by decide +kernel
theorem dX0_isAlike_11 : decode cX0_isAlike 11 = .ok (.iconst 0, 1) := by decide +kernel
theorem dX0_isAlike_12 : decode cX0_isAlike 12 = .ok (.ireturn, 1) := by decide +kernel
theorem dX0_isAlike_13 : decode cX0_isAlike 13 = .ok (.iconst 0, 1) := by decide +kernel
theorem dX0_isAlike_14 : decode cX0_isAlike 14 = .ok (.istore_n 2, 1) := by decide +kernel
theorem dX0_isAlike_15 : decode cX0_isAlike 15 = .ok (.iload_n 2, 1) := by decide +kernel
theorem dX0_isAlike_16 : decode cX0_isAlike 16 = .ok (.aload_n 0, 1) := by decide +kernel
theorem dX0_isAlike_17 : decode cX0_isAlike 17 = .ok (.getfield 31, 3) := by decide +kernel
theorem dX0_isAlike_20 : decode cX0_isAlike 20 = .ok (.if_icmp .ge 20, 3) := by decide +kernel
theorem dX0_isAlike_23 : decode cX0_isAlike 23 = .ok (.aload_n 0, 1) := by decide +kernel
theorem dX0_isAlike_24 : decode cX0_isAlike 24 = .ok (.aload_n 1, 1) := by decide +kernel
theorem dX0_isAlike_25 : decode cX0_isAlike 25 = .ok (.iload_n 2, 1) := by decide +kernel
theorem dX0_isAlike_26 : decode cX0_isAlike 26 = .ok (.invokevirtual 57, 3) := by decide +kernel
theorem dX0_isAlike_29 : decode cX0_isAlike 29 = .ok (.ifCond .ne 5, 3) := by decide +kernel
theorem dX0_isAlike_32 : decode cX0_isAlike 32 = .ok (.iconst 0, 1) := by decide +kernel
theorem dX0_isAlike_33 : decode cX0_isAlike 33 = .ok (.ireturn, 1) := by decide +kernel
theorem dX0_isAlike_34 : decode cX0_isAlike 34 = .ok (.iinc 2 1, 3) := by decide +kernel
theorem dX0_isAlike_37 : decode cX0_isAlike 37 = .ok (.goto (-22), 3) := by decide +kernel
theorem dX0_isAlike_40 : decode cX0_isAlike 40 = .ok (.iconst 1, 1) := by decide +kernel
theorem dX0_isAlike_41 : decode cX0_isAlike 41 = .ok (.ireturn, 1) := by decide +kernel
theorem dX0_hasAlikeList_0 : decode cX0_hasAlikeList 0 = .ok (.aload_n 0, 1) := by decide +kernel
theorem dX0_hasAlikeList_1 : decode cX0_hasAlikeList 1 = .ok (.getfield 16, 3) := by decide +kernel
theorem dX0_hasAlikeList_4 : decode cX0_hasAlikeList 4 = .ok (.iload_n 2, 1) := by decide +kernel
theorem dX0_hasAlikeList_5 : decode cX0_hasAlikeList 5 = .ok (.iaload, 1) := by decide +kernel
theorem dX0_hasAlikeList_6 : decode cX0_hasAlikeList 6 = .ok (.aload_n 1, 1) := by decide +kernel
theorem dX0_hasAlikeList_7 : decode cX0_hasAlikeList 7 = .ok (.getfield 16, 3) := by decide +kernel
theorem dX0_hasAlikeList_10 : decode cX0_hasAlikeList 10 = .ok (.iload_n 2, 1) := by decide +kernel
theorem dX0_hasAlikeList_11 : decode cX0_hasAlikeList 11 = .ok (.iaload, 1) := by decide +kernel
theorem dX0_hasAlikeList_12 : decode cX0_hasAlikeList 12 = .ok (.if_icmp .eq 5, 3) := by decide +kernel
theorem dX0_hasAlikeList_15 : decode cX0_hasAlikeList 15 = .ok (.iconst 0, 1) := by decide +kernel
theorem dX0_hasAlikeList_16 : decode cX0_hasAlikeList 16 = .ok (.ireturn, 1) := by decide +kernel
theorem dX0_hasAlikeList_17 : decode cX0_hasAlikeList 17 = .ok (.iconst 0, 1) := by decide +kernel
theorem dX0_hasAlikeList_18 : decode cX0_hasAlikeList 18 = .ok (.istore_n 3, 1) := by decide +kernel
theorem dX0_hasAlikeList_19 : decode cX0_hasAlikeList 19 = .ok (.iload_n 3, 1) := by decide +kernel
theorem dX0_hasAlikeList_20 : decode cX0_hasAlikeList 20 = .ok (.aload_n 0, 1) := by decide +kernel
theorem dX0_hasAlikeList_21 : decode cX0_hasAlikeList 21 = .ok (.getfield 16, 3) := by decide +kernel
theorem dX0_hasAlikeList_24 : decode cX0_hasAlikeList 24 = .ok (.iload_n 2, 1) := by decide +kernel
theorem dX0_hasAlikeList_25 : decode cX0_hasAlikeList 25 = .ok (.iaload, 1) := by decide +kernel
theorem dX0_hasAlikeList_26 : decode cX0_hasAlikeList 26 = .ok (.if_icmp .ge 30, 3) := by decide +kernel
theorem dX0_hasAlikeList_29 : decode cX0_hasAlikeList 29 = .ok (.aload_n 0, 1) := by decide +kernel
theorem dX0_hasAlikeList_30 : decode cX0_hasAlikeList 30 = .ok (.getfield 11, 3) := by decide +kernel
theorem dX0_hasAlikeList_33 : decode cX0_hasAlikeList 33 = .ok (.iload_n 2, 1) := by decide +kernel
theorem dX0_hasAlikeList_34 : decode cX0_hasAlikeList 34 = .ok (.aaload, 1) := by decide +kernel
theorem dX0_hasAlikeList_35 : decode cX0_hasAlikeList 35 = .ok (.iload_n 3, 1) := by decide +kernel
theorem dX0_hasAlikeList_36 : decode cX0_hasAlikeList 36 = .ok (.iaload, 1) := by decide +kernel
theorem dX0_hasAlikeList_37 : decode cX0_hasAlikeList 37 = .ok (.aload_n 1, 1) := by decide +kernel
theorem dX0_hasAlikeList_38 : decode cX0_hasAlikeList 38 = .ok (.getfield 11, 3) := by decide +kernel
theorem dX0_hasAlikeList_41 : decode cX0_hasAlikeList 41 = .ok (.iload_n 2, 1) := by decide +kernel
theorem dX0_hasAlikeList_42 : decode cX0_hasAlikeList 42 = .ok (.aaload, 1) := by decide +kernel
theorem dX0_hasAlikeList_43 : decode cX0_hasAlikeList 43 = .ok (.iload_n 3, 1) := by decide +kernel
theorem dX0_hasAlikeList_44 : decode cX0_hasAlikeList 44 = .ok (.iaload, 1) := by decide +kernel
theorem dX0_hasAlikeList_45 : decode cX0_hasAlikeList 45 = .ok (.if_icmp .eq 5, 3) := by decide +kernel
theorem dX0_hasAlikeList_48 : decode cX0_hasAlikeList 48 = .ok (.iconst 0, 1) := by decide +kernel
theorem dX0_hasAlikeList_49 : decode cX0_hasAlikeList 49 = .ok (.ireturn, 1) := by decide +kernel
theorem dX0_hasAlikeList_50 : decode cX0_hasAlikeList 50 = .ok (.iinc 3 1, 3) := by decide +kernel
theorem dX0_hasAlikeList_53 : decode cX0_hasAlikeList 53 = .ok (.goto (-34), 3) := by decide +kernel
theorem dX0_hasAlikeList_56 : decode cX0_hasAlikeList 56 = .ok (.iconst 1, 1) := by decide +kernel
theorem dX0_hasAlikeList_57 : decode cX0_hasAlikeList 57 = .ok (.ireturn, 1) := by decide +kernel
theorem dX0_names_0 : decode cX0_names 0 = .ok (.iconst 0, 1) := by decide +kernel
theorem dX0_names_1 : decode cX0_names 1 = .ok (.istore_n 2, 1) := by decide +kernel
theorem dX0_names_2 : decode cX0_names 2 = .ok (.iload_n 2, 1) := by decide +kernel
theorem dX0_names_3 : decode cX0_names 3 = .ok (.aload_n 0, 1) := by decide +kernel
theorem dX0_names_4 : decode cX0_names 4 = .ok (.getfield 31, 3) := by decide +kernel
theorem dX0_names_7 : decode cX0_names 7 = .ok (.if_icmp .ge 41, 3) := by decide +kernel
theorem dX0_names_10 : decode cX0_names 10 = .ok (.iconst 0, 1) := by decide +kernel
theorem dX0_names_11 : decode cX0_names 11 = .ok (.istore_n 3, 1) := by decide +kernel
theorem dX0_names_12 : decode cX0_names 12 = .ok (.iload_n 3, 1) := by decide +kernel
theorem dX0_names_13 : decode cX0_names 13 = .ok (.aload_n 0, 1) := by decide +kernel
theorem dX0_names_14 : decode cX0_names 14 = .ok (.getfield 16, 3) := by decide +kernel
theorem dX0_names_17 : decode cX0_names 17 = .ok (.iload_n 2, 1) := by decide +kernel
theorem dX0_names_18 : decode cX0_names 18 = .ok (.iaload, 1) := by decide +kernel
theorem dX0_names_19 : decode cX0_names 19 = .ok (.if_icmp .ge 23, 3) := by decide +kernel
theorem dX0_names_22 : decode cX0_names 22 = .ok (.aload_n 0, 1) := by decide +kernel
theorem dX0_names_23 : decode cX0_names 23 = .ok (.getfield 11, 3) := by decide +kernel
theorem dX0_names_26 : decode cX0_names 26 = .ok (.iload_n 2, 1) := by decide +kernel
theorem dX0_names_27 : decode cX0_names 27 = .ok (.aaload, 1) := by decide +kernel
theorem dX0_names_28 : decode cX0_names 28 = .ok (.iload_n 3, 1) := by decide +kernel
theorem dX0_names_29 : decode cX0_names 29 = .ok (.iaload, 1) := by decide +kernel
theorem dX0_names_30 : decode cX0_names 30 = .ok (.iload_n 1, 1) := by decide +kernel
theorem dX0_names_31 : decode cX0_names 31 = .ok (.if_icmp .ne 5, 3) := by decide +kernel
theorem dX0_names_34 : decode cX0_names 34 = .ok (.iconst 1, 1) := by decide +kernel
theorem dX0_names_35 : decode cX0_names 35 = .ok (.ireturn, 1) := by decide +kernel
theorem dX0_names_36 : decode cX0_names 36 = .ok (.iinc 3 1, 3) := by decide +kernel
theorem dX0_names_39 : decode cX0_names 39 = .ok (.goto (-27), 3) := by decide +kernel
theorem dX0_names_42 : decode cX0_names 42 = .ok (.iinc 2 1, 3) := by decide +kernel
theorem dX0_names_45 : decode cX0_names 45 = .ok (.goto (-43), 3) := by decide +kernel
theorem dX0_names_48 : decode cX0_names 48 = .ok (.iconst 0, 1) := by decide +kernel
theorem dX0_names_49 : decode cX0_names 49 = .ok (.ireturn, 1) := by decide +kernel
theorem dX0_addNames_0 : decode cX0_addNames 0 = .ok (.iconst 0, 1) := by decide +kernel
theorem dX0_addNames_1 : decode cX0_addNames 1 = .ok (.istore_n 2, 1) := by decide +kernel
theorem dX0_addNames_2 : decode cX0_addNames 2 = .ok (.iload_n 2, 1) := by decide +kernel
theorem dX0_addNames_3 : decode cX0_addNames 3 = .ok (.aload_n 0, 1) := by decide +kernel
theorem dX0_addNames_4 : decode cX0_addNames 4 = .ok (.getfield 31, 3) := by decide +kernel
theorem dX0_addNames_7 : decode cX0_addNames 7 = .ok (.if_icmp .ge 38, 3) := by decide +kernel
theorem dX0_addNames_10 : decode cX0_addNames 10 = .ok (.iconst 0, 1) := by decide +kernel
theorem dX0_addNames_11 : decode cX0_addNames 11 = .ok (.istore_n 3, 1) := by decide +kernel
theorem dX0_addNames_12 : decode cX0_addNames 12 = .ok (.iload_n 3, 1) := by decide +kernel
theorem dX0_addNames_13 : decode cX0_addNames 13 = .ok (.aload_n 0, 1) := by decide +kernel
theorem dX0_addNames_14 : decode cX0_addNames 14 = .ok (.getfield 16, 3) := by decide +kernel
theorem dX0_addNames_17 : decode cX0_addNames 17 = .ok (.iload_n 2, 1) := by decide +kernel
theorem dX0_addNames_18 : decode cX0_addNames 18 = .ok (.iaload, 1) := by decide +kernel
theorem dX0_addNames_19 : decode cX0_addNames 19 = .ok (.if_icmp .ge 20, 3) := by decide +kernel
theorem dX0_addNames_22 : decode cX0_addNames 22 = .ok (.aload_n 1, 1) := by decide +kernel
theorem dX0_addNames_23 : decode cX0_addNames 23 = .ok (.aload_n 0, 1) := by decide +kernel
theorem dX0_addNames_24 : decode cX0_addNames 24 = .ok (.getfield 11, 3) := by decide +kernel
theorem dX0_addNames_27 : decode cX0_addNames 27 = .ok (.iload_n 2, 1) := by decide +kernel
theorem dX0_addNames_28 : decode cX0_addNames 28 = .ok (.aaload, 1) := by decide +kernel
theorem dX0_addNames_29 : decode cX0_addNames 29 = .ok (.iload_n 3, 1) := by decide +kernel
theorem dX0_addNames_30 : decode cX0_addNames 30 = .ok (.iaload, 1) := by decide +kernel
theorem dX0_addNames_31 : decode cX0_addNames 31 = .ok (.iconst 1, 1) := by decide +kernel
theorem dX0_addNames_32 : decode cX0_addNames 32 = .ok (.bastore, 1) := by decide +kernel
theorem dX0_addNames_33 : decode cX0_addNames 33 = .ok (.iinc 3 1, 3) := by decide +kernel
theorem dX0_addNames_36 : decode cX0_addNames 36 = .ok (.goto (-24), 3) := by decide +kernel
theorem dX0_addNames_39 : decode cX0_addNames 39 = .ok (.iinc 2 1, 3) := by decide +kernel
theorem dX0_addNames_42 : decode cX0_addNames 42 = .ok (.goto (-40), 3) := by decide +kernel
theorem dX0_addNames_45 : decode cX0_addNames 45 = .ok (.return_, 1) := by decide +kernel
theorem dX1_init_0 : decode cX1_init 0 = .ok (.aload_n 0, 1) := by decide +kernel
theorem dX1_init_1 : decode cX1_init 1 = .ok (.invokespecial 3, 3) := by decide +kernel
theorem dX1_init_4 : decode cX1_init 4 = .ok (.aload_n 0, 1) := by decide +kernel
theorem dX1_init_5 : decode cX1_init 5 = .ok (.bipush 120, 2) := by decide +kernel
theorem dX1_init_7 : decode cX1_init 7 = .ok (.newarray .boolean, 2) := by decide +kernel
theorem dX1_init_9 : decode cX1_init 9 = .ok (.putfield 9, 3) := by decide +kernel
theorem dX1_init_12 : decode cX1_init 12 = .ok (.aload_n 0, 1) := by decide +kernel
theorem dX1_init_13 : decode cX1_init 13 = .ok (.sipush 3840, 3) := by decide +kernel
theorem dX1_init_16 : decode cX1_init 16 = .ok (.newarray .int, 2) := by decide +kernel
theorem dX1_init_18 : decode cX1_init 18 = .ok (.putfield 15, 3) := by decide +kernel
theorem dX1_init_21 : decode cX1_init 21 = .ok (.return_, 1) := by decide +kernel
theorem dX1_put_0 : decode cX1_put 0 = .ok (.aload_n 2, 1) := by decide +kernel
theorem dX1_put_1 : decode cX1_put 1 = .ok (.iload_n 3, 1) := by decide +kernel
theorem dX1_put_2 : decode cX1_put 2 = .ok (.aload_n 0, 1) := by decide +kernel
theorem dX1_put_3 : decode cX1_put 3 = .ok (.getfield 15, 3) := by decide +kernel
theorem dX1_put_6 : decode cX1_put 6 = .ok (.iload_n 1, 1) := by decide +kernel
theorem dX1_put_7 : decode cX1_put 7 = .ok (.bipush 32, 2) := by decide +kernel
theorem dX1_put_9 : decode cX1_put 9 = .ok (.imul, 1) := by decide +kernel
theorem dX1_put_10 : decode cX1_put 10 = .ok (.iload 4, 2) := by decide +kernel
theorem dX1_put_12 : decode cX1_put 12 = .ok (.invokestatic 19, 3) := by decide +kernel
theorem dX1_put_15 : decode cX1_put 15 = .ok (.aload_n 0, 1) := by decide +kernel
theorem dX1_put_16 : decode cX1_put 16 = .ok (.getfield 9, 3) := by decide +kernel
theorem dX1_put_19 : decode cX1_put 19 = .ok (.iload_n 1, 1) := by decide +kernel
theorem dX1_put_20 : decode cX1_put 20 = .ok (.iconst 1, 1) := by decide +kernel
theorem dX1_put_21 : decode cX1_put 21 = .ok (.bastore, 1) := by decide +kernel
theorem dX1_put_22 : decode cX1_put 22 = .ok (.return_, 1) := by decide +kernel
theorem dX1_holds_0 : decode cX1_holds 0 = .ok (.aload_n 0, 1) := by decide +kernel
theorem dX1_holds_1 : decode cX1_holds 1 = .ok (.getfield 9, 3) := by decide +kernel
theorem dX1_holds_4 : decode cX1_holds 4 = .ok (.iload_n 1, 1) := by decide +kernel
theorem dX1_holds_5 : decode cX1_holds 5 = .ok (.baload, 1) := by decide +kernel
theorem dX1_holds_6 : decode cX1_holds 6 = .ok (.ifCond .ne 5, 3) := by decide +kernel
theorem dX1_holds_9 : decode cX1_holds 9 = .ok (.iconst 0, 1) := by decide +kernel
theorem dX1_holds_10 : decode cX1_holds 10 = .ok (.ireturn, 1) := by decide +kernel
theorem dX1_holds_11 : decode cX1_holds 11 = .ok (.iconst 0, 1) := by decide +kernel
theorem dX1_holds_12 : decode cX1_holds 12 = .ok (.istore 5, 2) := by decide +kernel
theorem dX1_holds_14 : decode cX1_holds 14 = .ok (.iload 5, 2) := by decide +kernel
theorem dX1_holds_16 : decode cX1_holds 16 = .ok (.iload 4, 2) := by decide +kernel
theorem dX1_holds_18 : decode cX1_holds 18 = .ok (.if_icmp .ge 32, 3) := by decide +kernel
theorem dX1_holds_21 : decode cX1_holds 21 = .ok (.aload_n 0, 1) := by decide +kernel
theorem dX1_holds_22 : decode cX1_holds 22 = .ok (.getfield 15, 3) := by decide +kernel
theorem dX1_holds_25 : decode cX1_holds 25 = .ok (.iload_n 1, 1) := by decide +kernel
theorem dX1_holds_26 : decode cX1_holds 26 = .ok (.bipush 32, 2) := by decide +kernel
theorem dX1_holds_28 : decode cX1_holds 28 = .ok (.imul, 1) := by decide +kernel
theorem dX1_holds_29 : decode cX1_holds 29 = .ok (.iload 5, 2) := by decide +kernel
theorem dX1_holds_31 : decode cX1_holds 31 = .ok (.iadd, 1) := by decide +kernel
theorem dX1_holds_32 : decode cX1_holds 32 = .ok (.iaload, 1) := by decide +kernel
theorem dX1_holds_33 : decode cX1_holds 33 = .ok (.aload_n 2, 1) := by decide +kernel
theorem dX1_holds_34 : decode cX1_holds 34 = .ok (.iload_n 3, 1) := by decide +kernel
theorem dX1_holds_35 : decode cX1_holds 35 = .ok (.iload 5, 2) := by decide +kernel
theorem dX1_holds_37 : decode cX1_holds 37 = .ok (.iadd, 1) := by decide +kernel
theorem dX1_holds_38 : decode cX1_holds 38 = .ok (.iaload, 1) := by decide +kernel
theorem dX1_holds_39 : decode cX1_holds 39 = .ok (.if_icmp .eq 5, 3) := by decide +kernel
theorem dX1_holds_42 : decode cX1_holds 42 = .ok (.iconst 0, 1) := by decide +kernel
theorem dX1_holds_43 : decode cX1_holds 43 = .ok (.ireturn, 1) := by decide +kernel
theorem dX1_holds_44 : decode cX1_holds 44 = .ok (.iinc 5 1, 3) := by decide +kernel
theorem dX1_holds_47 : decode cX1_holds 47 = .ok (.goto (-33), 3) := by decide +kernel
theorem dX1_holds_50 : decode cX1_holds 50 = .ok (.iconst 1, 1) := by decide +kernel
theorem dX1_holds_51 : decode cX1_holds 51 = .ok (.ireturn, 1) := by decide +kernel
theorem dX1_clear_0 : decode cX1_clear 0 = .ok (.iconst 0, 1) := by decide +kernel
theorem dX1_clear_1 : decode cX1_clear 1 = .ok (.istore_n 1, 1) := by decide +kernel
theorem dX1_clear_2 : decode cX1_clear 2 = .ok (.iload_n 1, 1) := by decide +kernel
theorem dX1_clear_3 : decode cX1_clear 3 = .ok (.bipush 120, 2) := by decide +kernel
theorem dX1_clear_5 : decode cX1_clear 5 = .ok (.if_icmp .ge 16, 3) := by decide +kernel
theorem dX1_clear_8 : decode cX1_clear 8 = .ok (.aload_n 0, 1) := by decide +kernel
theorem dX1_clear_9 : decode cX1_clear 9 = .ok (.getfield 9, 3) := by decide +kernel
theorem dX1_clear_12 : decode cX1_clear 12 = .ok (.iload_n 1, 1) := by decide +kernel
theorem dX1_clear_13 : decode cX1_clear 13 = .ok (.iconst 0, 1) := by decide +kernel
theorem dX1_clear_14 : decode cX1_clear 14 = .ok (.bastore, 1) := by decide +kernel
theorem dX1_clear_15 : decode cX1_clear 15 = .ok (.iinc 1 1, 3) := by decide +kernel
theorem dX1_clear_18 : decode cX1_clear 18 = .ok (.goto (-16), 3) := by decide +kernel
theorem dX1_clear_21 : decode cX1_clear 21 = .ok (.return_, 1) := by decide +kernel
theorem dX2_init_0 : decode cX2_init 0 = .ok (.aload_n 0, 1) := by decide +kernel
theorem dX2_init_1 : decode cX2_init 1 = .ok (.invokespecial 3, 3) := by decide +kernel
theorem dX2_init_4 : decode cX2_init 4 = .ok (.aload_n 0, 1) := by decide +kernel
theorem dX2_init_5 : decode cX2_init 5 = .ok (.sipush 300, 3) := by decide +kernel
theorem dX2_init_8 : decode cX2_init 8 = .ok (.newarray .int, 2) := by decide +kernel
theorem dX2_init_10 : decode cX2_init 10 = .ok (.putfield 9, 3) := by decide +kernel
theorem dX2_init_13 : decode cX2_init 13 = .ok (.aload_n 0, 1) := by decide +kernel
theorem dX2_init_14 : decode cX2_init 14 = .ok (.bipush 75, 2) := by decide +kernel
theorem dX2_init_16 : decode cX2_init 16 = .ok (.newarray .int, 2) := by decide +kernel
theorem dX2_init_18 : decode cX2_init 18 = .ok (.putfield 15, 3) := by decide +kernel
theorem dX2_init_21 : decode cX2_init 21 = .ok (.aload_n 0, 1) := by decide +kernel
theorem dX2_init_22 : decode cX2_init 22 = .ok (.iconst 0, 1) := by decide +kernel
theorem dX2_init_23 : decode cX2_init 23 = .ok (.putfield 18, 3) := by decide +kernel
theorem dX2_init_26 : decode cX2_init 26 = .ok (.return_, 1) := by decide +kernel
theorem dX2_open_0 : decode cX2_open 0 = .ok (.aload_n 0, 1) := by decide +kernel
theorem dX2_open_1 : decode cX2_open 1 = .ok (.getfield 9, 3) := by decide +kernel
theorem dX2_open_4 : decode cX2_open 4 = .ok (.iload_n 1, 1) := by decide +kernel
theorem dX2_open_5 : decode cX2_open 5 = .ok (.aload_n 0, 1) := by decide +kernel
theorem dX2_open_6 : decode cX2_open 6 = .ok (.getfield 9, 3) := by decide +kernel
theorem dX2_open_9 : decode cX2_open 9 = .ok (.iload_n 1, 1) := by decide +kernel
theorem dX2_open_10 : decode cX2_open 10 = .ok (.iload_n 2, 1) := by decide +kernel
theorem dX2_open_11 : decode cX2_open 11 = .ok (.iadd, 1) := by decide +kernel
theorem dX2_open_12 : decode cX2_open 12 = .ok (.aload_n 0, 1) := by decide +kernel
theorem dX2_open_13 : decode cX2_open 13 = .ok (.getfield 18, 3) := by decide +kernel
theorem dX2_open_16 : decode cX2_open 16 = .ok (.iload_n 1, 1) := by decide +kernel
theorem dX2_open_17 : decode cX2_open 17 = .ok (.isub, 1) := by decide +kernel
theorem dX2_open_18 : decode cX2_open 18 = .ok (.invokestatic 22, 3) := by decide +kernel
theorem dX2_open_21 : decode cX2_open 21 = .ok (.aload_n 0, 1) := by decide +kernel
theorem dX2_open_22 : decode cX2_open 22 = .ok (.dup, 1) := by decide +kernel
theorem dX2_open_23 : decode cX2_open 23 = .ok (.getfield 18, 3) := by decide +kernel
theorem dX2_open_26 : decode cX2_open 26 = .ok (.iload_n 2, 1) := by decide +kernel
theorem dX2_open_27 : decode cX2_open 27 = .ok (.iadd, 1) := by decide +kernel
theorem dX2_open_28 : decode cX2_open 28 = .ok (.putfield 18, 3) := by decide +kernel
theorem dX2_open_31 : decode cX2_open 31 = .ok (.return_, 1) := by decide +kernel
theorem dX2_close_0 : decode cX2_close 0 = .ok (.aload_n 0, 1) := by decide +kernel
theorem dX2_close_1 : decode cX2_close 1 = .ok (.getfield 9, 3) := by decide +kernel
theorem dX2_close_4 : decode cX2_close 4 = .ok (.iload_n 1, 1) := by decide +kernel
theorem dX2_close_5 : decode cX2_close 5 = .ok (.iload_n 2, 1) := by decide +kernel
theorem dX2_close_6 : decode cX2_close 6 = .ok (.iadd, 1) := by decide +kernel
theorem dX2_close_7 : decode cX2_close 7 = .ok (.aload_n 0, 1) := by decide +kernel
theorem dX2_close_8 : decode cX2_close 8 = .ok (.getfield 9, 3) := by decide +kernel
theorem dX2_close_11 : decode cX2_close 11 = .ok (.iload_n 1, 1) := by decide +kernel
theorem dX2_close_12 : decode cX2_close 12 = .ok (.aload_n 0, 1) := by decide +kernel
theorem dX2_close_13 : decode cX2_close 13 = .ok (.getfield 18, 3) := by decide +kernel
theorem dX2_close_16 : decode cX2_close 16 = .ok (.iload_n 1, 1) := by decide +kernel
theorem dX2_close_17 : decode cX2_close 17 = .ok (.isub, 1) := by decide +kernel
theorem dX2_close_18 : decode cX2_close 18 = .ok (.iload_n 2, 1) := by decide +kernel
theorem dX2_close_19 : decode cX2_close 19 = .ok (.isub, 1) := by decide +kernel
theorem dX2_close_20 : decode cX2_close 20 = .ok (.invokestatic 22, 3) := by decide +kernel
theorem dX2_close_23 : decode cX2_close 23 = .ok (.aload_n 0, 1) := by decide +kernel
theorem dX2_close_24 : decode cX2_close 24 = .ok (.dup, 1) := by decide +kernel
theorem dX2_close_25 : decode cX2_close 25 = .ok (.getfield 18, 3) := by decide +kernel
theorem dX2_close_28 : decode cX2_close 28 = .ok (.iload_n 2, 1) := by decide +kernel
theorem dX2_close_29 : decode cX2_close 29 = .ok (.isub, 1) := by decide +kernel
theorem dX2_close_30 : decode cX2_close 30 = .ok (.putfield 18, 3) := by decide +kernel
theorem dX2_close_33 : decode cX2_close 33 = .ok (.return_, 1) := by decide +kernel
theorem dX2_append_0 : decode cX2_append 0 = .ok (.aload_n 1, 1) := by decide +kernel
theorem dX2_append_1 : decode cX2_append 1 = .ok (.iload_n 2, 1) := by decide +kernel
theorem dX2_append_2 : decode cX2_append 2 = .ok (.aload_n 0, 1) := by decide +kernel
theorem dX2_append_3 : decode cX2_append 3 = .ok (.getfield 9, 3) := by decide +kernel
theorem dX2_append_6 : decode cX2_append 6 = .ok (.aload_n 0, 1) := by decide +kernel
theorem dX2_append_7 : decode cX2_append 7 = .ok (.getfield 18, 3) := by decide +kernel
theorem dX2_append_10 : decode cX2_append 10 = .ok (.iload_n 3, 1) := by decide +kernel
theorem dX2_append_11 : decode cX2_append 11 = .ok (.invokestatic 22, 3) := by decide +kernel
theorem dX2_append_14 : decode cX2_append 14 = .ok (.aload_n 0, 1) := by decide +kernel
theorem dX2_append_15 : decode cX2_append 15 = .ok (.dup, 1) := by decide +kernel
theorem dX2_append_16 : decode cX2_append 16 = .ok (.getfield 18, 3) := by decide +kernel
theorem dX2_append_19 : decode cX2_append 19 = .ok (.iload_n 3, 1) := by decide +kernel
theorem dX2_append_20 : decode cX2_append 20 = .ok (.iadd, 1) := by decide +kernel
theorem dX2_append_21 : decode cX2_append 21 = .ok (.putfield 18, 3) := by decide +kernel
theorem dX2_append_24 : decode cX2_append 24 = .ok (.return_, 1) := by decide +kernel
theorem dX2_cut_0 : decode cX2_cut 0 = .ok (.iconst 0, 1) := by decide +kernel
theorem dX2_cut_1 : decode cX2_cut 1 = .ok (.istore_n 1, 1) := by decide +kernel
theorem dX2_cut_2 : decode cX2_cut 2 = .ok (.iconst 0, 1) := by decide +kernel
theorem dX2_cut_3 : decode cX2_cut 3 = .ok (.istore_n 2, 1) := by decide +kernel
theorem dX2_cut_4 : decode cX2_cut 4 = .ok (.iconst 1, 1) := by decide +kernel
theorem dX2_cut_5 : decode cX2_cut 5 = .ok (.istore_n 3, 1) := by decide +kernel
theorem dX2_cut_6 : decode cX2_cut 6 = .ok (.iload_n 3, 1) := by decide +kernel
theorem dX2_cut_7 : decode cX2_cut 7 = .ok (.aload_n 0, 1) := by decide +kernel
theorem dX2_cut_8 : decode cX2_cut 8 = .ok (.getfield 18, 3) := by decide +kernel
theorem dX2_cut_11 : decode cX2_cut 11 = .ok (.if_icmp .gt 38, 3) := by decide +kernel
theorem dX2_cut_14 : decode cX2_cut 14 = .ok (.iload_n 3, 1) := by decide +kernel
theorem dX2_cut_15 : decode cX2_cut 15 = .ok (.aload_n 0, 1) := by decide +kernel
theorem dX2_cut_16 : decode cX2_cut 16 = .ok (.getfield 18, 3) := by decide +kernel
theorem dX2_cut_19 : decode cX2_cut 19 = .ok (.if_icmp .eq 12, 3) := by decide +kernel
theorem dX2_cut_22 : decode cX2_cut 22 = .ok (.aload_n 0, 1) := by decide +kernel
theorem dX2_cut_23 : decode cX2_cut 23 = .ok (.iload_n 2, 1) := by decide +kernel
theorem dX2_cut_24 : decode cX2_cut 24 = .ok (.iload_n 3, 1) := by decide +kernel
theorem dX2_cut_25 : decode cX2_cut 25 = .ok (.invokevirtual 28, 3) := by decide +kernel
theorem dX2_cut_28 : decode cX2_cut 28 = .ok (.ifCond .eq 15, 3) := by decide +kernel
theorem dX2_cut_31 : decode cX2_cut 31 = .ok (.aload_n 0, 1) := by decide +kernel
theorem dX2_cut_32 : decode cX2_cut 32 = .ok (.getfield 15, 3) := by decide +kernel
theorem dX2_cut_35 : decode cX2_cut 35 = .ok (.iload_n 1, 1) := by decide +kernel
theorem dX2_cut_36 : decode cX2_cut 36 = .ok (.iload_n 3, 1) := by decide +kernel
theorem dX2_cut_37 : decode cX2_cut 37 = .ok (.iastore, 1) := by decide +kernel
theorem dX2_cut_38 : decode cX2_cut 38 = .ok (.iinc 1 1, 3) := by decide +kernel
theorem dX2_cut_41 : decode cX2_cut 41 = .ok (.iload_n 3, 1) := by decide +kernel
theorem dX2_cut_42 : decode cX2_cut 42 = .ok (.istore_n 2, 1) := by decide +kernel
theorem dX2_cut_43 : decode cX2_cut 43 = .ok (.iinc 3 1, 3) := by decide +kernel
theorem dX2_cut_46 : decode cX2_cut 46 = .ok (.goto (-40), 3) := by decide +kernel
theorem dX2_cut_49 : decode cX2_cut 49 = .ok (.iload_n 1, 1) := by decide +kernel
theorem dX2_cut_50 : decode cX2_cut 50 = .ok (.ireturn, 1) := by decide +kernel
theorem dX2_endsChunk_0 : decode cX2_endsChunk 0 = .ok (.iload_n 2, 1) := by decide +kernel
theorem dX2_endsChunk_1 : decode cX2_endsChunk 1 = .ok (.iload_n 1, 1) := by decide +kernel
theorem dX2_endsChunk_2 : decode cX2_endsChunk 2 = .ok (.isub, 1) := by decide +kernel
theorem dX2_endsChunk_3 : decode cX2_endsChunk 3 = .ok (.bipush 32, 2) := by decide +kernel
theorem dX2_endsChunk_5 : decode cX2_endsChunk 5 = .ok (.if_icmp .lt 5, 3) := by decide +kernel
theorem dX2_endsChunk_8 : decode cX2_endsChunk 8 = .ok (.iconst 1, 1) := by decide +kernel
theorem dX2_endsChunk_9 : decode cX2_endsChunk 9 = .ok (.ireturn, 1) := by decide +kernel
theorem dX2_endsChunk_10 : decode cX2_endsChunk 10 = .ok (.iload_n 2, 1) := by decide +kernel
theorem dX2_endsChunk_11 : decode cX2_endsChunk 11 = .ok (.iload_n 1, 1) := by decide +kernel
theorem dX2_endsChunk_12 : decode cX2_endsChunk 12 = .ok (.isub, 1) := by decide +kernel
theorem dX2_endsChunk_13 : decode cX2_endsChunk 13 = .ok (.iconst 4, 1) := by decide +kernel
theorem dX2_endsChunk_14 : decode cX2_endsChunk 14 = .ok (.if_icmp .ge 5, 3) := by decide +kernel
theorem dX2_endsChunk_17 : decode cX2_endsChunk 17 = .ok (.iconst 0, 1) := by decide +kernel
theorem dX2_endsChunk_18 : decode cX2_endsChunk 18 = .ok (.ireturn, 1) := by decide +kernel
theorem dX2_endsChunk_19 : decode cX2_endsChunk 19 = .ok (.iconst 3, 1) := by decide +kernel
theorem dX2_endsChunk_20 : decode cX2_endsChunk 20 = .ok (.aload_n 0, 1) := by decide +kernel
theorem dX2_endsChunk_21 : decode cX2_endsChunk 21 = .ok (.getfield 9, 3) := by decide +kernel
theorem dX2_endsChunk_24 : decode cX2_endsChunk 24 = .ok (.iload_n 2, 1) := by decide +kernel
theorem dX2_endsChunk_25 : decode cX2_endsChunk 25 = .ok (.iconst 3, 1) := by decide +kernel
theorem dX2_endsChunk_26 : decode cX2_endsChunk 26 = .ok (.isub, 1) := by decide +kernel
theorem dX2_endsChunk_27 : decode cX2_endsChunk 27 = .ok (.iaload, 1) := by decide +kernel
theorem dX2_endsChunk_28 : decode cX2_endsChunk 28 = .ok (.imul, 1) := by decide +kernel
theorem dX2_endsChunk_29 : decode cX2_endsChunk 29 = .ok (.iconst 5, 1) := by decide +kernel
theorem dX2_endsChunk_30 : decode cX2_endsChunk 30 = .ok (.aload_n 0, 1) := by decide +kernel
theorem dX2_endsChunk_31 : decode cX2_endsChunk 31 = .ok (.getfield 9, 3) := by decide +kernel
theorem dX2_endsChunk_34 : decode cX2_endsChunk 34 = .ok (.iload_n 2, 1) := by decide +kernel
theorem dX2_endsChunk_35 : decode cX2_endsChunk 35 = .ok (.iconst 2, 1) := by decide +kernel
theorem dX2_endsChunk_36 : decode cX2_endsChunk 36 = .ok (.isub, 1) := by decide +kernel
theorem dX2_endsChunk_37 : decode cX2_endsChunk 37 = .ok (.iaload, 1) := by decide +kernel
theorem dX2_endsChunk_38 : decode cX2_endsChunk 38 = .ok (.imul, 1) := by decide +kernel
theorem dX2_endsChunk_39 : decode cX2_endsChunk 39 = .ok (.iadd, 1) := by decide +kernel
theorem dX2_endsChunk_40 : decode cX2_endsChunk 40 = .ok (.bipush 7, 2) := by decide +kernel
theorem dX2_endsChunk_42 : decode cX2_endsChunk 42 = .ok (.aload_n 0, 1) := by decide +kernel
theorem dX2_endsChunk_43 : decode cX2_endsChunk 43 = .ok (.getfield 9, 3) := by decide +kernel
theorem dX2_endsChunk_46 : decode cX2_endsChunk 46 = .ok (.iload_n 2, 1) := by decide +kernel
theorem dX2_endsChunk_47 : decode cX2_endsChunk 47 = .ok (.iconst 1, 1) := by decide +kernel
theorem dX2_endsChunk_48 : decode cX2_endsChunk 48 = .ok (.isub, 1) := by decide +kernel
theorem dX2_endsChunk_49 : decode cX2_endsChunk 49 = .ok (.iaload, 1) := by decide +kernel
theorem dX2_endsChunk_50 : decode cX2_endsChunk 50 = .ok (.imul, 1) := by decide +kernel
theorem dX2_endsChunk_51 : decode cX2_endsChunk 51 = .ok (.iadd, 1) := by decide +kernel
theorem dX2_endsChunk_52 : decode cX2_endsChunk 52 = .ok (.bipush 11, 2) := by decide +kernel
theorem dX2_endsChunk_54 : decode cX2_endsChunk 54 = .ok (.irem, 1) := by decide +kernel
theorem dX2_endsChunk_55 : decode cX2_endsChunk 55 = .ok (.ifCond .ne 7, 3) := by decide +kernel
theorem dX2_endsChunk_58 : decode cX2_endsChunk 58 = .ok (.iconst 1, 1) := by decide +kernel
theorem dX2_endsChunk_59 : decode cX2_endsChunk 59 = .ok (.goto 4, 3) := by decide +kernel
theorem dX2_endsChunk_62 : decode cX2_endsChunk 62 = .ok (.iconst 0, 1) := by decide +kernel
theorem dX2_endsChunk_63 : decode cX2_endsChunk 63 = .ok (.ireturn, 1) := by decide +kernel
theorem dX2_chunkStart_0 : decode cX2_chunkStart 0 = .ok (.iload_n 1, 1) := by decide +kernel
theorem dX2_chunkStart_1 : decode cX2_chunkStart 1 = .ok (.ifCond .ne 7, 3) := by decide +kernel
theorem dX2_chunkStart_4 : decode cX2_chunkStart 4 = .ok (.iconst 0, 1) := by decide +kernel
theorem dX2_chunkStart_5 : decode cX2_chunkStart 5 = .ok (.goto 11, 3) := by decide +kernel
theorem dX2_chunkStart_8 : decode cX2_chunkStart 8 = .ok (.aload_n 0, 1) := by decide +kernel
theorem dX2_chunkStart_9 : decode cX2_chunkStart 9 = .ok (.getfield 15, 3) := by decide +kernel
theorem dX2_chunkStart_12 : decode cX2_chunkStart 12 = .ok (.iload_n 1, 1) := by decide +kernel
theorem dX2_chunkStart_13 : decode cX2_chunkStart 13 = .ok (.iconst 1, 1) := by decide +kernel
theorem dX2_chunkStart_14 : decode cX2_chunkStart 14 = .ok (.isub, 1) := by decide +kernel
theorem dX2_chunkStart_15 : decode cX2_chunkStart 15 = .ok (.iaload, 1) := by decide +kernel
theorem dX2_chunkStart_16 : decode cX2_chunkStart 16 = .ok (.ireturn, 1) := by decide +kernel
theorem dX2_chunkSize_0 : decode cX2_chunkSize 0 = .ok (.aload_n 0, 1) := by decide +kernel
theorem dX2_chunkSize_1 : decode cX2_chunkSize 1 = .ok (.getfield 15, 3) := by decide +kernel
theorem dX2_chunkSize_4 : decode cX2_chunkSize 4 = .ok (.iload_n 1, 1) := by decide +kernel
theorem dX2_chunkSize_5 : decode cX2_chunkSize 5 = .ok (.iaload, 1) := by decide +kernel
theorem dX2_chunkSize_6 : decode cX2_chunkSize 6 = .ok (.aload_n 0, 1) := by decide +kernel
theorem dX2_chunkSize_7 : decode cX2_chunkSize 7 = .ok (.iload_n 1, 1) := by decide +kernel
theorem dX2_chunkSize_8 : decode cX2_chunkSize 8 = .ok (.invokevirtual 32, 3) := by decide +kernel
theorem dX2_chunkSize_11 : decode cX2_chunkSize 11 = .ok (.isub, 1) := by decide +kernel
theorem dX2_chunkSize_12 : decode cX2_chunkSize 12 = .ok (.ireturn, 1) := by decide +kernel
theorem dX3_init_0 : decode cX3_init 0 = .ok (.aload_n 0, 1) := by decide +kernel
theorem dX3_init_1 : decode cX3_init 1 = .ok (.invokespecial 3, 3) := by decide +kernel
theorem dX3_init_4 : decode cX3_init 4 = .ok (.aload_n 0, 1) := by decide +kernel
theorem dX3_init_5 : decode cX3_init 5 = .ok (.new 9, 3) := by decide +kernel
theorem dX3_init_8 : decode cX3_init 8 = .ok (.dup, 1) := by decide +kernel
theorem dX3_init_9 : decode cX3_init 9 = .ok (.invokespecial 11, 3) := by decide +kernel
theorem dX3_init_12 : decode cX3_init 12 = .ok (.putfield 12, 3) := by decide +kernel
theorem dX3_init_15 : decode cX3_init 15 = .ok (.aload_n 0, 1) := by decide +kernel
theorem dX3_init_16 : decode cX3_init 16 = .ok (.bipush 120, 2) := by decide +kernel
theorem dX3_init_18 : decode cX3_init 18 = .ok (.newarray .int, 2) := by decide +kernel
theorem dX3_init_20 : decode cX3_init 20 = .ok (.putfield 18, 3) := by decide +kernel
theorem dX3_init_23 : decode cX3_init 23 = .ok (.aload_n 0, 1) := by decide +kernel
theorem dX3_init_24 : decode cX3_init 24 = .ok (.bipush 120, 2) := by decide +kernel
theorem dX3_init_26 : decode cX3_init 26 = .ok (.newarray .int, 2) := by decide +kernel
theorem dX3_init_28 : decode cX3_init 28 = .ok (.putfield 22, 3) := by decide +kernel
theorem dX3_init_31 : decode cX3_init 31 = .ok (.aload_n 0, 1) := by decide +kernel
theorem dX3_init_32 : decode cX3_init 32 = .ok (.bipush 120, 2) := by decide +kernel
theorem dX3_init_34 : decode cX3_init 34 = .ok (.newarray .int, 2) := by decide +kernel
theorem dX3_init_36 : decode cX3_init 36 = .ok (.putfield 25, 3) := by decide +kernel
theorem dX3_init_39 : decode cX3_init 39 = .ok (.aload_n 0, 1) := by decide +kernel
theorem dX3_init_40 : decode cX3_init 40 = .ok (.iconst 0, 1) := by decide +kernel
theorem dX3_init_41 : decode cX3_init 41 = .ok (.putfield 28, 3) := by decide +kernel
theorem dX3_init_44 : decode cX3_init 44 = .ok (.aload_n 0, 1) := by decide +kernel
theorem dX3_init_45 : decode cX3_init 45 = .ok (.iconst 0, 1) := by decide +kernel
theorem dX3_init_46 : decode cX3_init 46 = .ok (.putfield 32, 3) := by decide +kernel
theorem dX3_init_49 : decode cX3_init 49 = .ok (.aload_n 0, 1) := by decide +kernel
theorem dX3_init_50 : decode cX3_init 50 = .ok (.iconst 0, 1) := by decide +kernel
theorem dX3_init_51 : decode cX3_init 51 = .ok (.putfield 35, 3) := by decide +kernel
theorem dX3_init_54 : decode cX3_init 54 = .ok (.aload_n 0, 1) := by decide +kernel
theorem dX3_init_55 : decode cX3_init 55 = .ok (.iconst 0, 1) := by decide +kernel
theorem dX3_init_56 : decode cX3_init 56 = .ok (.putfield 38, 3) := by decide +kernel
theorem dX3_init_59 : decode cX3_init 59 = .ok (.return_, 1) := by decide +kernel
theorem dX3_isThere_0 : decode cX3_isThere 0 = .ok (.iload_n 1, 1) := by decide +kernel
theorem dX3_isThere_1 : decode cX3_isThere 1 = .ok (.ifCond .lt 22, 3) := by decide +kernel
theorem dX3_isThere_4 : decode cX3_isThere 4 = .ok (.iload_n 1, 1) := by decide +kernel
theorem dX3_isThere_5 : decode cX3_isThere 5 = .ok (.bipush 120, 2) := by decide +kernel
theorem dX3_isThere_7 : decode cX3_isThere 7 = .ok (.if_icmp .ge 16, 3) := by decide +kernel
theorem dX3_isThere_10 : decode cX3_isThere 10 = .ok (.aload_n 0, 1) := by decide +kernel
theorem dX3_isThere_11 : decode cX3_isThere 11 = .ok (.getfield 18, 3) := by decide +kernel
theorem dX3_isThere_14 : decode cX3_isThere 14 = .ok (.iload_n 1, 1) := by decide +kernel
theorem dX3_isThere_15 : decode cX3_isThere 15 = .ok (.iaload, 1) := by decide +kernel
theorem dX3_isThere_16 : decode cX3_isThere 16 = .ok (.ifCond .le 7, 3) := by decide +kernel
theorem dX3_isThere_19 : decode cX3_isThere 19 = .ok (.iconst 1, 1) := by decide +kernel
theorem dX3_isThere_20 : decode cX3_isThere 20 = .ok (.goto 4, 3) := by decide +kernel
theorem dX3_isThere_23 : decode cX3_isThere 23 = .ok (.iconst 0, 1) := by decide +kernel
theorem dX3_isThere_24 : decode cX3_isThere 24 = .ok (.ireturn, 1) := by decide +kernel
theorem dX3_isSound_0 : decode cX3_isSound 0 = .ok (.aload_n 2, 1) := by decide +kernel
theorem dX3_isSound_1 : decode cX3_isSound 1 = .ok (.getfield 41, 3) := by decide +kernel
theorem dX3_isSound_4 : decode cX3_isSound 4 = .ok (.iload_n 1, 1) := by decide +kernel
theorem dX3_isSound_5 : decode cX3_isSound 5 = .ok (.baload, 1) := by decide +kernel
theorem dX3_isSound_6 : decode cX3_isSound 6 = .ok (.ifCond .eq 33, 3) := by decide +kernel
theorem dX3_isSound_9 : decode cX3_isSound 9 = .ok (.aload_n 2, 1) := by decide +kernel
theorem dX3_isSound_10 : decode cX3_isSound 10 = .ok (.getfield 45, 3) := by decide +kernel
theorem dX3_isSound_13 : decode cX3_isSound 13 = .ok (.iload_n 1, 1) := by decide +kernel
theorem dX3_isSound_14 : decode cX3_isSound 14 = .ok (.bipush 32, 2) := by decide +kernel
theorem dX3_isSound_16 : decode cX3_isSound 16 = .ok (.imul, 1) := by decide +kernel
theorem dX3_isSound_17 : decode cX3_isSound 17 = .ok (.aload_n 0, 1) := by decide +kernel
theorem dX3_isSound_18 : decode cX3_isSound 18 = .ok (.getfield 18, 3) := by decide +kernel
theorem dX3_isSound_21 : decode cX3_isSound 21 = .ok (.iload_n 1, 1) := by decide +kernel
theorem dX3_isSound_22 : decode cX3_isSound 22 = .ok (.iaload, 1) := by decide +kernel
theorem dX3_isSound_23 : decode cX3_isSound 23 = .ok (.invokestatic 48, 3) := by decide +kernel
theorem dX3_isSound_26 : decode cX3_isSound 26 = .ok (.aload_n 0, 1) := by decide +kernel
theorem dX3_isSound_27 : decode cX3_isSound 27 = .ok (.getfield 22, 3) := by decide +kernel
theorem dX3_isSound_30 : decode cX3_isSound 30 = .ok (.iload_n 1, 1) := by decide +kernel
theorem dX3_isSound_31 : decode cX3_isSound 31 = .ok (.iaload, 1) := by decide +kernel
theorem dX3_isSound_32 : decode cX3_isSound 32 = .ok (.if_icmp .ne 7, 3) := by decide +kernel
theorem dX3_isSound_35 : decode cX3_isSound 35 = .ok (.iconst 1, 1) := by decide +kernel
theorem dX3_isSound_36 : decode cX3_isSound 36 = .ok (.goto 4, 3) := by decide +kernel
theorem dX3_isSound_39 : decode cX3_isSound 39 = .ok (.iconst 0, 1) := by decide +kernel
theorem dX3_isSound_40 : decode cX3_isSound 40 = .ok (.ireturn, 1) := by decide +kernel
theorem dX3_hasByte_0 : decode cX3_hasByte 0 = .ok (.aload_n 0, 1) := by decide +kernel
theorem dX3_hasByte_1 : decode cX3_hasByte 1 = .ok (.iload_n 1, 1) := by decide +kernel
theorem dX3_hasByte_2 : decode cX3_hasByte 2 = .ok (.invokevirtual 52, 3) := by decide +kernel
theorem dX3_hasByte_5 : decode cX3_hasByte 5 = .ok (.ifCond .eq 30, 3) := by decide +kernel
theorem dX3_hasByte_8 : decode cX3_hasByte 8 = .ok (.aload_n 2, 1) := by decide +kernel
theorem dX3_hasByte_9 : decode cX3_hasByte 9 = .ok (.getfield 41, 3) := by decide +kernel
theorem dX3_hasByte_12 : decode cX3_hasByte 12 = .ok (.iload_n 1, 1) := by decide +kernel
theorem dX3_hasByte_13 : decode cX3_hasByte 13 = .ok (.baload, 1) := by decide +kernel
theorem dX3_hasByte_14 : decode cX3_hasByte 14 = .ok (.ifCond .eq 21, 3) := by decide +kernel
theorem dX3_hasByte_17 : decode cX3_hasByte 17 = .ok (.iload_n 3, 1) := by decide +kernel
theorem dX3_hasByte_18 : decode cX3_hasByte 18 = .ok (.ifCond .lt 17, 3) := by decide +kernel
theorem dX3_hasByte_21 : decode cX3_hasByte 21 = .ok (.iload_n 3, 1) := by decide +kernel
theorem dX3_hasByte_22 : decode cX3_hasByte 22 = .ok (.aload_n 0, 1) := by decide +kernel
theorem dX3_hasByte_23 : decode cX3_hasByte 23 = .ok (.getfield 18, 3) := by decide +kernel
theorem dX3_hasByte_26 : decode cX3_hasByte 26 = .ok (.iload_n 1, 1) := by decide +kernel
theorem dX3_hasByte_27 : decode cX3_hasByte 27 = .ok (.iaload, 1) := by decide +kernel
theorem dX3_hasByte_28 : decode cX3_hasByte 28 = .ok (.if_icmp .ge 7, 3) := by decide +kernel
theorem dX3_hasByte_31 : decode cX3_hasByte 31 = .ok (.iconst 1, 1) := by decide +kernel
theorem dX3_hasByte_32 : decode cX3_hasByte 32 = .ok (.goto 4, 3) := by decide +kernel
theorem dX3_hasByte_35 : decode cX3_hasByte 35 = .ok (.iconst 0, 1) := by decide +kernel
theorem dX3_hasByte_36 : decode cX3_hasByte 36 = .ok (.ireturn, 1) := by decide +kernel
theorem dX3_brokenCount_0 : decode cX3_brokenCount 0 = .ok (.iconst 0, 1) := by decide +kernel
theorem dX3_brokenCount_1 : decode cX3_brokenCount 1 = .ok (.istore_n 1, 1) := by decide +kernel
theorem dX3_brokenCount_2 : decode cX3_brokenCount 2 = .ok (.iconst 0, 1) := by decide +kernel
theorem dX3_brokenCount_3 : decode cX3_brokenCount 3 = .ok (.istore_n 2, 1) := by decide +kernel
theorem dX3_brokenCount_4 : decode cX3_brokenCount 4 = .ok (.iload_n 2, 1) := by decide +kernel
theorem dX3_brokenCount_5 : decode cX3_brokenCount 5 = .ok (.bipush 120, 2) := by decide +kernel
theorem dX3_brokenCount_7 : decode cX3_brokenCount 7 = .ok (.if_icmp .ge 32, 3) := by decide +kernel
theorem dX3_brokenCount_10 : decode cX3_brokenCount 10 = .ok (.aload_n 0, 1) := by decide +kernel
theorem dX3_brokenCount_11 : decode cX3_brokenCount 11 = .ok (.iload_n 2, 1) := by decide +kernel
theorem dX3_brokenCount_12 : decode cX3_brokenCount 12 = .ok (.invokevirtual 52, 3) := by decide +kernel
theorem dX3_brokenCount_15 : decode cX3_brokenCount 15 = .ok (.ifCond .eq 18, 3) := by decide +kernel
theorem dX3_brokenCount_18 : decode cX3_brokenCount 18 = .ok (.aload_n 0, 1) := by decide +kernel
theorem dX3_brokenCount_19 : decode cX3_brokenCount 19 = .ok (.iload_n 2, 1) := by decide +kernel
theorem dX3_brokenCount_20 : decode cX3_brokenCount 20 = .ok (.aload_n 0, 1) := by decide +kernel
theorem dX3_brokenCount_21 : decode cX3_brokenCount 21 = .ok (.getfield 12, 3) := by decide +kernel
theorem dX3_brokenCount_24 : decode cX3_brokenCount 24 = .ok (.invokevirtual 56, 3) := by decide +kernel
theorem dX3_brokenCount_27 : decode cX3_brokenCount 27 = .ok (.ifCond .ne 6, 3) := by decide +kernel
theorem dX3_brokenCount_30 : decode cX3_brokenCount 30 = .ok (.iinc 1 1, 3) := by decide +kernel
theorem dX3_brokenCount_33 : decode cX3_brokenCount 33 = .ok (.iinc 2 1, 3) := by decide +kernel
theorem dX3_brokenCount_36 : decode cX3_brokenCount 36 = .ok (.goto (-32), 3) := by decide +kernel
theorem dX3_brokenCount_39 : decode cX3_brokenCount 39 = .ok (.iload_n 1, 1) := by decide +kernel
theorem dX3_brokenCount_40 : decode cX3_brokenCount 40 = .ok (.ireturn, 1) := by decide +kernel
theorem dX3_beginMarking_0 : decode cX3_beginMarking 0 = .ok (.aload_n 0, 1) := by decide +kernel
theorem dX3_beginMarking_1 : decode cX3_beginMarking 1 = .ok (.iconst 0, 1) := by decide +kernel
theorem dX3_beginMarking_2 : decode cX3_beginMarking 2 = .ok (.putfield 28, 3) := by decide +kernel
theorem dX3_beginMarking_5 : decode cX3_beginMarking 5 = .ok (.aload_n 0, 1) := by decide +kernel
theorem dX3_beginMarking_6 : decode cX3_beginMarking 6 = .ok (.iconst 0, 1) := by decide +kernel
theorem dX3_beginMarking_7 : decode cX3_beginMarking 7 = .ok (.putfield 32, 3) := by decide +kernel
theorem dX3_beginMarking_10 : decode cX3_beginMarking 10 = .ok (.return_, 1) := by decide +kernel
theorem dX3_undoMarking_0 : decode cX3_undoMarking 0 = .ok (.iconst 0, 1) := by decide +kernel
theorem dX3_undoMarking_1 : decode cX3_undoMarking 1 = .ok (.istore_n 1, 1) := by decide +kernel
theorem dX3_undoMarking_2 : decode cX3_undoMarking 2 = .ok (.iload_n 1, 1) := by decide +kernel
theorem dX3_undoMarking_3 : decode cX3_undoMarking 3 = .ok (.aload_n 0, 1) := by decide +kernel
theorem dX3_undoMarking_4 : decode cX3_undoMarking 4 = .ok (.getfield 28, 3) := by decide +kernel
theorem dX3_undoMarking_7 : decode cX3_undoMarking 7 = .ok (.if_icmp .ge 19, 3) := by decide +kernel
theorem dX3_undoMarking_10 : decode cX3_undoMarking 10 = .ok (.aload_n 0, 1) := by decide +kernel
theorem dX3_undoMarking_11 : decode cX3_undoMarking 11 = .ok (.aload_n 0, 1) := by decide +kernel
theorem dX3_undoMarking_12 : decode cX3_undoMarking 12 = .ok (.getfield 25, 3) := by decide +kernel
theorem dX3_undoMarking_15 : decode cX3_undoMarking 15 = .ok (.iload_n 1, 1) := by decide +kernel
theorem dX3_undoMarking_16 : decode cX3_undoMarking 16 = .ok (.iaload, 1) := by decide +kernel
theorem dX3_undoMarking_17 : decode cX3_undoMarking 17 = .ok (.invokevirtual 60, 3) := by decide +kernel
theorem dX3_undoMarking_20 : decode cX3_undoMarking 20 = .ok (.iinc 1 1, 3) := by decide +kernel
theorem dX3_undoMarking_23 : decode cX3_undoMarking 23 = .ok (.goto (-21), 3) := by decide +kernel
theorem dX3_undoMarking_26 : decode cX3_undoMarking 26 = .ok (.return_, 1) := by decide +kernel
theorem dX3_partOf_0 : decode cX3_partOf 0 = .ok (.aload_n 1, 1) := by decide +kernel
theorem dX3_partOf_1 : decode cX3_partOf 1 = .ok (.iload_n 2, 1) := by decide +kernel
theorem dX3_partOf_2 : decode cX3_partOf 2 = .ok (.iload_n 3, 1) := by decide +kernel
theorem dX3_partOf_3 : decode cX3_partOf 3 = .ok (.invokestatic 48, 3) := by decide +kernel
theorem dX3_partOf_6 : decode cX3_partOf 6 = .ok (.istore 4, 2) := by decide +kernel
theorem dX3_partOf_8 : decode cX3_partOf 8 = .ok (.aload_n 0, 1) := by decide +kernel
theorem dX3_partOf_9 : decode cX3_partOf 9 = .ok (.aload_n 1, 1) := by decide +kernel
theorem dX3_partOf_10 : decode cX3_partOf 10 = .ok (.iload_n 2, 1) := by decide +kernel
theorem dX3_partOf_11 : decode cX3_partOf 11 = .ok (.iload_n 3, 1) := by decide +kernel
theorem dX3_partOf_12 : decode cX3_partOf 12 = .ok (.iload 4, 2) := by decide +kernel
theorem dX3_partOf_14 : decode cX3_partOf 14 = .ok (.invokevirtual 64, 3) := by decide +kernel
theorem dX3_partOf_17 : decode cX3_partOf 17 = .ok (.istore 5, 2) := by decide +kernel
theorem dX3_partOf_19 : decode cX3_partOf 19 = .ok (.iload 5, 2) := by decide +kernel
theorem dX3_partOf_21 : decode cX3_partOf 21 = .ok (.iconst (-1), 1) := by decide +kernel
theorem dX3_partOf_22 : decode cX3_partOf 22 = .ok (.if_icmp .ne 15, 3) := by decide +kernel
theorem dX3_partOf_25 : decode cX3_partOf 25 = .ok (.aload_n 0, 1) := by decide +kernel
theorem dX3_partOf_26 : decode cX3_partOf 26 = .ok (.aload_n 1, 1) := by decide +kernel
theorem dX3_partOf_27 : decode cX3_partOf 27 = .ok (.iload_n 2, 1) := by decide +kernel
theorem dX3_partOf_28 : decode cX3_partOf 28 = .ok (.iload_n 3, 1) := by decide +kernel
theorem dX3_partOf_29 : decode cX3_partOf 29 = .ok (.iload 4, 2) := by decide +kernel
theorem dX3_partOf_31 : decode cX3_partOf 31 = .ok (.invokevirtual 68, 3) := by decide +kernel
theorem dX3_partOf_34 : decode cX3_partOf 34 = .ok (.goto 5, 3) := by decide +kernel
theorem dX3_partOf_37 : decode cX3_partOf 37 = .ok (.iload 5, 2) := by decide +kernel
theorem dX3_partOf_39 : decode cX3_partOf 39 = .ok (.ireturn, 1) := by decide +kernel
theorem dX3_findPart_0 : decode cX3_findPart 0 = .ok (.iconst 0, 1) := by decide +kernel
theorem dX3_findPart_1 : decode cX3_findPart 1 = .ok (.istore 5, 2) := by decide +kernel
theorem dX3_findPart_3 : decode cX3_findPart 3 = .ok (.iload 5, 2) := by decide +kernel
theorem dX3_findPart_5 : decode cX3_findPart 5 = .ok (.bipush 120, 2) := by decide +kernel
theorem dX3_findPart_7 : decode cX3_findPart 7 = .ok (.if_icmp .ge 50, 3) := by decide +kernel
theorem dX3_findPart_10 : decode cX3_findPart 10 = .ok (.aload_n 0, 1) := by decide +kernel
theorem dX3_findPart_11 : decode cX3_findPart 11 = .ok (.getfield 18, 3) := by decide +kernel
theorem dX3_findPart_14 : decode cX3_findPart 14 = .ok (.iload 5, 2) := by decide +kernel
theorem dX3_findPart_16 : decode cX3_findPart 16 = .ok (.iaload, 1) := by decide +kernel
theorem dX3_findPart_17 : decode cX3_findPart 17 = .ok (.iload_n 3, 1) := by decide +kernel
theorem dX3_findPart_18 : decode cX3_findPart 18 = .ok (.if_icmp .ne 33, 3) := by decide +kernel
theorem dX3_findPart_21 : decode cX3_findPart 21 = .ok (.aload_n 0, 1) := by decide +kernel
theorem dX3_findPart_22 : decode cX3_findPart 22 = .ok (.getfield 22, 3) := by decide +kernel
theorem dX3_findPart_25 : decode cX3_findPart 25 = .ok (.iload 5, 2) := by decide +kernel
theorem dX3_findPart_27 : decode cX3_findPart 27 = .ok (.iaload, 1) := by decide +kernel
theorem dX3_findPart_28 : decode cX3_findPart 28 = .ok (.iload 4, 2) := by decide +kernel
theorem dX3_findPart_30 : decode cX3_findPart 30 = .ok (.if_icmp .ne 21, 3) := by decide +kernel
theorem dX3_findPart_33 : decode cX3_findPart 33 = .ok (.aload_n 0, 1) := by decide +kernel
theorem dX3_findPart_34 : decode cX3_findPart 34 = .ok (.getfield 12, 3) := by decide +kernel
theorem dX3_findPart_37 : decode cX3_findPart 37 = .ok (.iload 5, 2) := by decide +kernel
theorem dX3_findPart_39 : decode cX3_findPart 39 = .ok (.aload_n 1, 1) := by decide +kernel
theorem dX3_findPart_40 : decode cX3_findPart 40 = .ok (.iload_n 2, 1) := by decide +kernel
theorem dX3_findPart_41 : decode cX3_findPart 41 = .ok (.iload_n 3, 1) := by decide +kernel
theorem dX3_findPart_42 : decode cX3_findPart 42 = .ok (.invokevirtual 71, 3) := by decide +kernel
theorem dX3_findPart_45 : decode cX3_findPart 45 = .ok (.ifCond .eq 6, 3) := by decide +kernel
theorem dX3_findPart_48 : decode cX3_findPart 48 = .ok (.iload 5, 2) := by decide +kernel
theorem dX3_findPart_50 : decode cX3_findPart 50 = .ok (.ireturn, 1) := by decide +kernel
theorem dX3_findPart_51 : decode cX3_findPart 51 = .ok (.iinc 5 1, 3) := by decide +kernel
theorem dX3_findPart_54 : decode cX3_findPart 54 = .ok (.goto (-51), 3) := by decide +kernel
theorem dX3_findPart_57 : decode cX3_findPart 57 = .ok (.iconst (-1), 1) := by decide +kernel
theorem dX3_findPart_58 : decode cX3_findPart 58 = .ok (.ireturn, 1) := by decide +kernel
theorem dX3_makePart_0 : decode cX3_makePart 0 = .ok (.aload_n 0, 1) := by decide +kernel
theorem dX3_makePart_1 : decode cX3_makePart 1 = .ok (.invokevirtual 75, 3) := by decide +kernel
theorem dX3_makePart_4 : decode cX3_makePart 4 = .ok (.istore 5, 2) := by decide +kernel
theorem dX3_makePart_6 : decode cX3_makePart 6 = .ok (.iload 5, 2) := by decide +kernel
theorem dX3_makePart_8 : decode cX3_makePart 8 = .ok (.iconst (-1), 1) := by decide +kernel
theorem dX3_makePart_9 : decode cX3_makePart 9 = .ok (.if_icmp .eq 15, 3) := by decide +kernel
theorem dX3_makePart_12 : decode cX3_makePart 12 = .ok (.aload_n 0, 1) := by decide +kernel
theorem dX3_makePart_13 : decode cX3_makePart 13 = .ok (.getfield 38, 3) := by decide +kernel
theorem dX3_makePart_16 : decode cX3_makePart 16 = .ok (.iload_n 3, 1) := by decide +kernel
theorem dX3_makePart_17 : decode cX3_makePart 17 = .ok (.iadd, 1) := by decide +kernel
theorem dX3_makePart_18 : decode cX3_makePart 18 = .ok (.sipush 2400, 3) := by decide +kernel
theorem dX3_makePart_21 : decode cX3_makePart 21 = .ok (.if_icmp .le 5, 3) := by decide +kernel
theorem dX3_makePart_24 : decode cX3_makePart 24 = .ok (.iconst (-1), 1) := by decide +kernel
theorem dX3_makePart_25 : decode cX3_makePart 25 = .ok (.ireturn, 1) := by decide +kernel
theorem dX3_makePart_26 : decode cX3_makePart 26 = .ok (.aload_n 0, 1) := by decide +kernel
theorem dX3_makePart_27 : decode cX3_makePart 27 = .ok (.getfield 12, 3) := by decide +kernel
theorem dX3_makePart_30 : decode cX3_makePart 30 = .ok (.iload 5, 2) := by decide +kernel
theorem dX3_makePart_32 : decode cX3_makePart 32 = .ok (.aload_n 1, 1) := by decide +kernel
theorem dX3_makePart_33 : decode cX3_makePart 33 = .ok (.iload_n 2, 1) := by decide +kernel
theorem dX3_makePart_34 : decode cX3_makePart 34 = .ok (.iload_n 3, 1) := by decide +kernel
theorem dX3_makePart_35 : decode cX3_makePart 35 = .ok (.invokevirtual 79, 3) := by decide +kernel
theorem dX3_makePart_38 : decode cX3_makePart 38 = .ok (.aload_n 0, 1) := by decide +kernel
theorem dX3_makePart_39 : decode cX3_makePart 39 = .ok (.getfield 18, 3) := by decide +kernel
theorem dX3_makePart_42 : decode cX3_makePart 42 = .ok (.iload 5, 2) := by decide +kernel
theorem dX3_makePart_44 : decode cX3_makePart 44 = .ok (.iload_n 3, 1) := by decide +kernel
theorem dX3_makePart_45 : decode cX3_makePart 45 = .ok (.iastore, 1) := by decide +kernel
theorem dX3_makePart_46 : decode cX3_makePart 46 = .ok (.aload_n 0, 1) := by decide +kernel
theorem dX3_makePart_47 : decode cX3_makePart 47 = .ok (.getfield 22, 3) := by decide +kernel
theorem dX3_makePart_50 : decode cX3_makePart 50 = .ok (.iload 5, 2) := by decide +kernel
theorem dX3_makePart_52 : decode cX3_makePart 52 = .ok (.iload 4, 2) := by decide +kernel
theorem dX3_makePart_54 : decode cX3_makePart 54 = .ok (.iastore, 1) := by decide +kernel
theorem dX3_makePart_55 : decode cX3_makePart 55 = .ok (.aload_n 0, 1) := by decide +kernel
theorem dX3_makePart_56 : decode cX3_makePart 56 = .ok (.dup, 1) := by decide +kernel
theorem dX3_makePart_57 : decode cX3_makePart 57 = .ok (.getfield 35, 3) := by decide +kernel
theorem dX3_makePart_60 : decode cX3_makePart 60 = .ok (.iconst 1, 1) := by decide +kernel
theorem dX3_makePart_61 : decode cX3_makePart 61 = .ok (.iadd, 1) := by decide +kernel
theorem dX3_makePart_62 : decode cX3_makePart 62 = .ok (.putfield 35, 3) := by decide +kernel
theorem dX3_makePart_65 : decode cX3_makePart 65 = .ok (.aload_n 0, 1) := by decide +kernel
theorem dX3_makePart_66 : decode cX3_makePart 66 = .ok (.dup, 1) := by decide +kernel
theorem dX3_makePart_67 : decode cX3_makePart 67 = .ok (.getfield 38, 3) := by decide +kernel
theorem dX3_makePart_70 : decode cX3_makePart 70 = .ok (.iload_n 3, 1) := by decide +kernel
theorem dX3_makePart_71 : decode cX3_makePart 71 = .ok (.iadd, 1) := by decide +kernel
theorem dX3_makePart_72 : decode cX3_makePart 72 = .ok (.putfield 38, 3) := by decide +kernel
theorem dX3_makePart_75 : decode cX3_makePart 75 = .ok (.aload_n 0, 1) := by decide +kernel
theorem dX3_makePart_76 : decode cX3_makePart 76 = .ok (.getfield 25, 3) := by decide +kernel
theorem dX3_makePart_79 : decode cX3_makePart 79 = .ok (.aload_n 0, 1) := by decide +kernel
theorem dX3_makePart_80 : decode cX3_makePart 80 = .ok (.getfield 28, 3) := by decide +kernel
theorem dX3_makePart_83 : decode cX3_makePart 83 = .ok (.iload 5, 2) := by decide +kernel
theorem dX3_makePart_85 : decode cX3_makePart 85 = .ok (.iastore, 1) := by decide +kernel
theorem dX3_makePart_86 : decode cX3_makePart 86 = .ok (.aload_n 0, 1) := by decide +kernel
theorem dX3_makePart_87 : decode cX3_makePart 87 = .ok (.dup, 1) := by decide +kernel
theorem dX3_makePart_88 : decode cX3_makePart 88 = .ok (.getfield 28, 3) := by decide +kernel
theorem dX3_makePart_91 : decode cX3_makePart 91 = .ok (.iconst 1, 1) := by decide +kernel
theorem dX3_makePart_92 : decode cX3_makePart 92 = .ok (.iadd, 1) := by decide +kernel
theorem dX3_makePart_93 : decode cX3_makePart 93 = .ok (.putfield 28, 3) := by decide +kernel
theorem dX3_makePart_96 : decode cX3_makePart 96 = .ok (.aload_n 0, 1) := by decide +kernel
theorem dX3_makePart_97 : decode cX3_makePart 97 = .ok (.dup, 1) := by decide +kernel
theorem dX3_makePart_98 : decode cX3_makePart 98 = .ok (.getfield 32, 3) := by decide +kernel
theorem dX3_makePart_101 : decode cX3_makePart 101 = .ok (.iload_n 3, 1) := by decide +kernel
theorem dX3_makePart_102 : decode cX3_makePart 102 = .ok (.iadd, 1) := by decide +kernel
theorem dX3_makePart_103 : decode cX3_makePart 103 = .ok (.putfield 32, 3) := by decide +kernel
theorem dX3_makePart_106 : decode cX3_makePart 106 = .ok (.iload 5, 2) := by decide +kernel
theorem dX3_makePart_108 : decode cX3_makePart 108 = .ok (.ireturn, 1) := by decide +kernel
theorem dX3_leastUnused_0 : decode cX3_leastUnused 0 = .ok (.iconst 0, 1) := by decide +kernel
theorem dX3_leastUnused_1 : decode cX3_leastUnused 1 = .ok (.istore_n 1, 1) := by decide +kernel
theorem dX3_leastUnused_2 : decode cX3_leastUnused 2 = .ok (.iload_n 1, 1) := by decide +kernel
theorem dX3_leastUnused_3 : decode cX3_leastUnused 3 = .ok (.bipush 120, 2) := by decide +kernel
theorem dX3_leastUnused_5 : decode cX3_leastUnused 5 = .ok (.if_icmp .ge 20, 3) := by decide +kernel
theorem dX3_leastUnused_8 : decode cX3_leastUnused 8 = .ok (.aload_n 0, 1) := by decide +kernel
theorem dX3_leastUnused_9 : decode cX3_leastUnused 9 = .ok (.getfield 18, 3) := by decide +kernel
theorem dX3_leastUnused_12 : decode cX3_leastUnused 12 = .ok (.iload_n 1, 1) := by decide +kernel
theorem dX3_leastUnused_13 : decode cX3_leastUnused 13 = .ok (.iaload, 1) := by decide +kernel
theorem dX3_leastUnused_14 : decode cX3_leastUnused 14 = .ok (.ifCond .ne 5, 3) := by decide +kernel
theorem dX3_leastUnused_17 : decode cX3_leastUnused 17 = .ok (.iload_n 1, 1) := by decide +kernel
theorem dX3_leastUnused_18 : decode cX3_leastUnused 18 = .ok (.ireturn, 1) := by decide +kernel
theorem dX3_leastUnused_19 : decode cX3_leastUnused 19 = .ok (.iinc 1 1, 3) := by decide +kernel
theorem dX3_leastUnused_22 : decode cX3_leastUnused 22 = .ok (.goto (-20), 3) := by decide +kernel
theorem dX3_leastUnused_25 : decode cX3_leastUnused 25 = .ok (.iconst (-1), 1) := by decide +kernel
theorem dX3_leastUnused_26 : decode cX3_leastUnused 26 = .ok (.ireturn, 1) := by decide +kernel
theorem dX3_takeAway_0 : decode cX3_takeAway 0 = .ok (.aload_n 0, 1) := by decide +kernel
theorem dX3_takeAway_1 : decode cX3_takeAway 1 = .ok (.dup, 1) := by decide +kernel
theorem dX3_takeAway_2 : decode cX3_takeAway 2 = .ok (.getfield 35, 3) := by decide +kernel
theorem dX3_takeAway_5 : decode cX3_takeAway 5 = .ok (.iconst 1, 1) := by decide +kernel
theorem dX3_takeAway_6 : decode cX3_takeAway 6 = .ok (.isub, 1) := by decide +kernel
theorem dX3_takeAway_7 : decode cX3_takeAway 7 = .ok (.putfield 35, 3) := by decide +kernel
theorem dX3_takeAway_10 : decode cX3_takeAway 10 = .ok (.aload_n 0, 1) := by decide +kernel
theorem dX3_takeAway_11 : decode cX3_takeAway 11 = .ok (.dup, 1) := by decide +kernel
theorem dX3_takeAway_12 : decode cX3_takeAway 12 = .ok (.getfield 38, 3) := by decide +kernel
theorem dX3_takeAway_15 : decode cX3_takeAway 15 = .ok (.aload_n 0, 1) := by decide +kernel
theorem dX3_takeAway_16 : decode cX3_takeAway 16 = .ok (.getfield 18, 3) := by decide +kernel
theorem dX3_takeAway_19 : decode cX3_takeAway 19 = .ok (.iload_n 1, 1) := by decide +kernel
theorem dX3_takeAway_20 : decode cX3_takeAway 20 = .ok (.iaload, 1) := by decide +kernel
theorem dX3_takeAway_21 : decode cX3_takeAway 21 = .ok (.isub, 1) := by decide +kernel
theorem dX3_takeAway_22 : decode cX3_takeAway 22 = .ok (.putfield 38, 3) := by decide +kernel
theorem dX3_takeAway_25 : decode cX3_takeAway 25 = .ok (.aload_n 0, 1) := by decide +kernel
theorem dX3_takeAway_26 : decode cX3_takeAway 26 = .ok (.getfield 18, 3) := by decide +kernel
theorem dX3_takeAway_29 : decode cX3_takeAway 29 = .ok (.iload_n 1, 1) := by decide +kernel
theorem dX3_takeAway_30 : decode cX3_takeAway 30 = .ok (.iconst 0, 1) := by decide +kernel
theorem dX3_takeAway_31 : decode cX3_takeAway 31 = .ok (.iastore, 1) := by decide +kernel
theorem dX3_takeAway_32 : decode cX3_takeAway 32 = .ok (.aload_n 0, 1) := by decide +kernel
theorem dX3_takeAway_33 : decode cX3_takeAway 33 = .ok (.getfield 12, 3) := by decide +kernel
theorem dX3_takeAway_36 : decode cX3_takeAway 36 = .ok (.getfield 41, 3) := by decide +kernel
theorem dX3_takeAway_39 : decode cX3_takeAway 39 = .ok (.iload_n 1, 1) := by decide +kernel
theorem dX3_takeAway_40 : decode cX3_takeAway 40 = .ok (.iconst 0, 1) := by decide +kernel
theorem dX3_takeAway_41 : decode cX3_takeAway 41 = .ok (.bastore, 1) := by decide +kernel
theorem dX3_takeAway_42 : decode cX3_takeAway 42 = .ok (.return_, 1) := by decide +kernel
theorem dX4_init_0 : decode cX4_init 0 = .ok (.aload_n 0, 1) := by decide +kernel
theorem dX4_init_1 : decode cX4_init 1 = .ok (.invokespecial 3, 3) := by decide +kernel
theorem dX4_init_4 : decode cX4_init 4 = .ok (.aload_n 0, 1) := by decide +kernel
theorem dX4_init_5 : decode cX4_init 5 = .ok (.iconst 4, 1) := by decide +kernel
theorem dX4_init_6 : decode cX4_init 6 = .ok (.anewarray 9, 3) := by decide +kernel
theorem dX4_init_9 : decode cX4_init 9 = .ok (.putfield 11, 3) := by decide +kernel
theorem dX4_init_12 : decode cX4_init 12 = .ok (.aload_n 0, 1) := by decide +kernel
theorem dX4_init_13 : decode cX4_init 13 = .ok (.iconst 4, 1) := by decide +kernel
theorem dX4_init_14 : decode cX4_init 14 = .ok (.anewarray 15, 3) := by decide +kernel
theorem dX4_init_17 : decode cX4_init 17 = .ok (.putfield 17, 3) := by decide +kernel
theorem dX4_init_20 : decode cX4_init 20 = .ok (.aload_n 0, 1) := by decide +kernel
theorem dX4_init_21 : decode cX4_init 21 = .ok (.new 21, 3) := by decide +kernel
theorem dX4_init_24 : decode cX4_init 24 = .ok (.dup, 1) := by decide +kernel
theorem dX4_init_25 : decode cX4_init 25 = .ok (.invokespecial 23, 3) := by decide +kernel
theorem dX4_init_28 : decode cX4_init 28 = .ok (.putfield 24, 3) := by decide +kernel
theorem dX4_init_31 : decode cX4_init 31 = .ok (.aload_n 0, 1) := by decide +kernel
theorem dX4_init_32 : decode cX4_init 32 = .ok (.bipush 12, 2) := by decide +kernel
theorem dX4_init_34 : decode cX4_init 34 = .ok (.anewarray 28, 3) := by decide +kernel
theorem dX4_init_37 : decode cX4_init 37 = .ok (.putfield 30, 3) := by decide +kernel
theorem dX4_init_40 : decode cX4_init 40 = .ok (.aload_n 0, 1) := by decide +kernel
theorem dX4_init_41 : decode cX4_init 41 = .ok (.sipush 1200, 3) := by decide +kernel
theorem dX4_init_44 : decode cX4_init 44 = .ok (.newarray .int, 2) := by decide +kernel
theorem dX4_init_46 : decode cX4_init 46 = .ok (.putfield 34, 3) := by decide +kernel
theorem dX4_init_49 : decode cX4_init 49 = .ok (.aload_n 0, 1) := by decide +kernel
theorem dX4_init_50 : decode cX4_init 50 = .ok (.bipush 120, 2) := by decide +kernel
theorem dX4_init_52 : decode cX4_init 52 = .ok (.newarray .boolean, 2) := by decide +kernel
theorem dX4_init_54 : decode cX4_init 54 = .ok (.putfield 38, 3) := by decide +kernel
theorem dX4_init_57 : decode cX4_init 57 = .ok (.aload_n 0, 1) := by decide +kernel
theorem dX4_init_58 : decode cX4_init 58 = .ok (.iconst 2, 1) := by decide +kernel
theorem dX4_init_59 : decode cX4_init 59 = .ok (.putfield 42, 3) := by decide +kernel
theorem dX4_init_62 : decode cX4_init 62 = .ok (.aload_n 0, 1) := by decide +kernel
theorem dX4_init_63 : decode cX4_init 63 = .ok (.iconst 0, 1) := by decide +kernel
theorem dX4_init_64 : decode cX4_init 64 = .ok (.putfield 46, 3) := by decide +kernel
theorem dX4_init_67 : decode cX4_init 67 = .ok (.aload_n 0, 1) := by decide +kernel
theorem dX4_init_68 : decode cX4_init 68 = .ok (.iconst 0, 1) := by decide +kernel
theorem dX4_init_69 : decode cX4_init 69 = .ok (.putfield 49, 3) := by decide +kernel
theorem dX4_init_72 : decode cX4_init 72 = .ok (.iconst 0, 1) := by decide +kernel
theorem dX4_init_73 : decode cX4_init 73 = .ok (.istore_n 1, 1) := by decide +kernel
theorem dX4_init_74 : decode cX4_init 74 = .ok (.iload_n 1, 1) := by decide +kernel
theorem dX4_init_75 : decode cX4_init 75 = .ok (.iconst 4, 1) := by decide +kernel
theorem dX4_init_76 : decode cX4_init 76 = .ok (.if_icmp .ge 35, 3) := by decide +kernel
theorem dX4_init_79 : decode cX4_init 79 = .ok (.aload_n 0, 1) := by decide +kernel
theorem dX4_init_80 : decode cX4_init 80 = .ok (.getfield 11, 3) := by decide +kernel
theorem dX4_init_83 : decode cX4_init 83 = .ok (.iload_n 1, 1) := by decide +kernel
theorem dX4_init_84 : decode cX4_init 84 = .ok (.new 9, 3) := by decide +kernel
theorem dX4_init_87 : decode cX4_init 87 = .ok (.dup, 1) := by decide +kernel
theorem dX4_init_88 : decode cX4_init 88 = .ok (.invokespecial 52, 3) := by decide +kernel
theorem dX4_init_91 : decode cX4_init 91 = .ok (.aastore, 1) := by decide +kernel
theorem dX4_init_92 : decode cX4_init 92 = .ok (.aload_n 0, 1) := by decide +kernel
theorem dX4_init_93 : decode cX4_init 93 = .ok (.getfield 17, 3) := by decide +kernel
theorem dX4_init_96 : decode cX4_init 96 = .ok (.iload_n 1, 1) := by decide +kernel
theorem dX4_init_97 : decode cX4_init 97 = .ok (.new 15, 3) := by decide +kernel
theorem dX4_init_100 : decode cX4_init 100 = .ok (.dup, 1) := by decide +kernel
theorem dX4_init_101 : decode cX4_init 101 = .ok (.invokespecial 53, 3) := by decide +kernel
theorem dX4_init_104 : decode cX4_init 104 = .ok (.aastore, 1) := by decide +kernel
theorem dX4_init_105 : decode cX4_init 105 = .ok (.iinc 1 1, 3) := by decide +kernel
theorem dX4_init_108 : decode cX4_init 108 = .ok (.goto (-34), 3) := by decide +kernel
theorem dX4_init_111 : decode cX4_init 111 = .ok (.iconst 0, 1) := by decide +kernel
theorem dX4_init_112 : decode cX4_init 112 = .ok (.istore_n 1, 1) := by decide +kernel
theorem dX4_init_113 : decode cX4_init 113 = .ok (.iload_n 1, 1) := by decide +kernel
theorem dX4_init_114 : decode cX4_init 114 = .ok (.bipush 12, 2) := by decide +kernel
theorem dX4_init_116 : decode cX4_init 116 = .ok (.if_icmp .ge 22, 3) := by decide +kernel
theorem dX4_init_119 : decode cX4_init 119 = .ok (.aload_n 0, 1) := by decide +kernel
theorem dX4_init_120 : decode cX4_init 120 = .ok (.getfield 30, 3) := by decide +kernel
theorem dX4_init_123 : decode cX4_init 123 = .ok (.iload_n 1, 1) := by decide +kernel
theorem dX4_init_124 : decode cX4_init 124 = .ok (.new 28, 3) := by decide +kernel
theorem dX4_init_127 : decode cX4_init 127 = .ok (.dup, 1) := by decide +kernel
theorem dX4_init_128 : decode cX4_init 128 = .ok (.invokespecial 54, 3) := by decide +kernel
theorem dX4_init_131 : decode cX4_init 131 = .ok (.aastore, 1) := by decide +kernel
theorem dX4_init_132 : decode cX4_init 132 = .ok (.iinc 1 1, 3) := by decide +kernel
theorem dX4_init_135 : decode cX4_init 135 = .ok (.goto (-22), 3) := by decide +kernel
theorem dX4_init_138 : decode cX4_init 138 = .ok (.return_, 1) := by decide +kernel
theorem dX4_insert_0 : decode cX4_insert 0 = .ok (.aload_n 0, 1) := by decide +kernel
end
section
theorem dX4_insert_1 : decode cX4_insert 1 = .ok (.iload_n 1, 1) := by decide +kernel
theorem dX4_insert_2 : decode cX4_insert 2 = .ok (.invokevirtual 55, 3) := by decide +kernel
theorem dX4_insert_5 : decode cX4_insert 5 = .ok (.ifCond .eq 13, 3) := by decide +kernel
theorem dX4_insert_8 : decode cX4_insert 8 = .ok (.iload_n 3, 1) := by decide +kernel
theorem dX4_insert_9 : decode cX4_insert 9 = .ok (.ifCond .lt 9, 3) := by decide +kernel
theorem dX4_insert_12 : decode cX4_insert 12 = .ok (.iload_n 3, 1) := by decide +kernel
theorem dX4_insert_13 : decode cX4_insert 13 = .ok (.bipush 8, 2) := by decide +kernel
theorem dX4_insert_15 : decode cX4_insert 15 = .ok (.if_icmp .le 6, 3) := by decide +kernel
theorem dX4_insert_18 : decode cX4_insert 18 = .ok (.bipush (-2), 2) := by decide +kernel
theorem dX4_insert_20 : decode cX4_insert 20 = .ok (.ireturn, 1) := by decide +kernel
theorem dX4_insert_21 : decode cX4_insert 21 = .ok (.aload_n 0, 1) := by decide +kernel
theorem dX4_insert_22 : decode cX4_insert 22 = .ok (.getfield 11, 3) := by decide +kernel
theorem dX4_insert_25 : decode cX4_insert 25 = .ok (.iload_n 1, 1) := by decide +kernel
theorem dX4_insert_26 : decode cX4_insert 26 = .ok (.aaload, 1) := by decide +kernel
theorem dX4_insert_27 : decode cX4_insert 27 = .ok (.astore 6, 2) := by decide +kernel
theorem dX4_insert_29 : decode cX4_insert 29 = .ok (.iload_n 2, 1) := by decide +kernel
theorem dX4_insert_30 : decode cX4_insert 30 = .ok (.ifCond .lt 12, 3) := by decide +kernel
theorem dX4_insert_33 : decode cX4_insert 33 = .ok (.iload_n 2, 1) := by decide +kernel
theorem dX4_insert_34 : decode cX4_insert 34 = .ok (.aload 6, 2) := by decide +kernel
theorem dX4_insert_36 : decode cX4_insert 36 = .ok (.getfield 59, 3) := by decide +kernel
theorem dX4_insert_39 : decode cX4_insert 39 = .ok (.if_icmp .le 6, 3) := by decide +kernel
theorem dX4_insert_42 : decode cX4_insert 42 = .ok (.bipush (-2), 2) := by decide +kernel
theorem dX4_insert_44 : decode cX4_insert 44 = .ok (.ireturn, 1) := by decide +kernel
theorem dX4_insert_45 : decode cX4_insert 45 = .ok (.aload 6, 2) := by decide +kernel
theorem dX4_insert_47 : decode cX4_insert 47 = .ok (.getfield 59, 3) := by decide +kernel
theorem dX4_insert_50 : decode cX4_insert 50 = .ok (.iload_n 3, 1) := by decide +kernel
theorem dX4_insert_51 : decode cX4_insert 51 = .ok (.iadd, 1) := by decide +kernel
theorem dX4_insert_52 : decode cX4_insert 52 = .ok (.sipush 300, 3) := by decide +kernel
theorem dX4_insert_55 : decode cX4_insert 55 = .ok (.if_icmp .le 6, 3) := by decide +kernel
theorem dX4_insert_58 : decode cX4_insert 58 = .ok (.bipush (-3), 2) := by decide +kernel
theorem dX4_insert_60 : decode cX4_insert 60 = .ok (.ireturn, 1) := by decide +kernel
theorem dX4_insert_61 : decode cX4_insert 61 = .ok (.aload 6, 2) := by decide +kernel
theorem dX4_insert_63 : decode cX4_insert 63 = .ok (.iload_n 2, 1) := by decide +kernel
theorem dX4_insert_64 : decode cX4_insert 64 = .ok (.iload_n 3, 1) := by decide +kernel
theorem dX4_insert_65 : decode cX4_insert 65 = .ok (.invokevirtual 62, 3) := by decide +kernel
theorem dX4_insert_68 : decode cX4_insert 68 = .ok (.iconst 0, 1) := by decide +kernel
theorem dX4_insert_69 : decode cX4_insert 69 = .ok (.istore 7, 2) := by decide +kernel
theorem dX4_insert_71 : decode cX4_insert 71 = .ok (.iload 7, 2) := by decide +kernel
theorem dX4_insert_73 : decode cX4_insert 73 = .ok (.iload_n 3, 1) := by decide +kernel
theorem dX4_insert_74 : decode cX4_insert 74 = .ok (.if_icmp .ge 36, 3) := by decide +kernel
theorem dX4_insert_77 : decode cX4_insert 77 = .ok (.aload 6, 2) := by decide +kernel
theorem dX4_insert_79 : decode cX4_insert 79 = .ok (.getfield 66, 3) := by decide +kernel
theorem dX4_insert_82 : decode cX4_insert 82 = .ok (.iload_n 2, 1) := by decide +kernel
theorem dX4_insert_83 : decode cX4_insert 83 = .ok (.iload 7, 2) := by decide +kernel
theorem dX4_insert_85 : decode cX4_insert 85 = .ok (.iadd, 1) := by decide +kernel
theorem dX4_insert_86 : decode cX4_insert 86 = .ok (.lload 4, 2) := by decide +kernel
theorem dX4_insert_88 : decode cX4_insert 88 = .ok (.bipush 8, 2) := by decide +kernel
theorem dX4_insert_90 : decode cX4_insert 90 = .ok (.iload_n 3, 1) := by decide +kernel
theorem dX4_insert_91 : decode cX4_insert 91 = .ok (.iconst 1, 1) := by decide +kernel
theorem dX4_insert_92 : decode cX4_insert 92 = .ok (.isub, 1) := by decide +kernel
theorem dX4_insert_93 : decode cX4_insert 93 = .ok (.iload 7, 2) := by decide +kernel
theorem dX4_insert_95 : decode cX4_insert 95 = .ok (.isub, 1) := by decide +kernel
theorem dX4_insert_96 : decode cX4_insert 96 = .ok (.imul, 1) := by decide +kernel
theorem dX4_insert_97 : decode cX4_insert 97 = .ok (.lushr, 1) := by decide +kernel
theorem dX4_insert_98 : decode cX4_insert 98 = .ok (.l2i, 1) := by decide +kernel
theorem dX4_insert_99 : decode cX4_insert 99 = .ok (.sipush 255, 3) := by decide +kernel
theorem dX4_insert_102 : decode cX4_insert 102 = .ok (.iand, 1) := by decide +kernel
theorem dX4_insert_103 : decode cX4_insert 103 = .ok (.iastore, 1) := by decide +kernel
theorem dX4_insert_104 : decode cX4_insert 104 = .ok (.iinc 7 1, 3) := by decide +kernel
theorem dX4_insert_107 : decode cX4_insert 107 = .ok (.goto (-36), 3) := by decide +kernel
theorem dX4_insert_110 : decode cX4_insert 110 = .ok (.aload 6, 2) := by decide +kernel
theorem dX4_insert_112 : decode cX4_insert 112 = .ok (.getfield 59, 3) := by decide +kernel
theorem dX4_insert_115 : decode cX4_insert 115 = .ok (.ireturn, 1) := by decide +kernel
theorem dX4_remove_0 : decode cX4_remove 0 = .ok (.aload_n 0, 1) := by decide +kernel
theorem dX4_remove_1 : decode cX4_remove 1 = .ok (.iload_n 1, 1) := by decide +kernel
theorem dX4_remove_2 : decode cX4_remove 2 = .ok (.invokevirtual 55, 3) := by decide +kernel
theorem dX4_remove_5 : decode cX4_remove 5 = .ok (.ifCond .eq 11, 3) := by decide +kernel
theorem dX4_remove_8 : decode cX4_remove 8 = .ok (.iload_n 2, 1) := by decide +kernel
theorem dX4_remove_9 : decode cX4_remove 9 = .ok (.ifCond .lt 7, 3) := by decide +kernel
theorem dX4_remove_12 : decode cX4_remove 12 = .ok (.iload_n 3, 1) := by decide +kernel
theorem dX4_remove_13 : decode cX4_remove 13 = .ok (.ifCond .ge 6, 3) := by decide +kernel
theorem dX4_remove_16 : decode cX4_remove 16 = .ok (.bipush (-2), 2) := by decide +kernel
theorem dX4_remove_18 : decode cX4_remove 18 = .ok (.ireturn, 1) := by decide +kernel
theorem dX4_remove_19 : decode cX4_remove 19 = .ok (.aload_n 0, 1) := by decide +kernel
theorem dX4_remove_20 : decode cX4_remove 20 = .ok (.getfield 11, 3) := by decide +kernel
theorem dX4_remove_23 : decode cX4_remove 23 = .ok (.iload_n 1, 1) := by decide +kernel
theorem dX4_remove_24 : decode cX4_remove 24 = .ok (.aaload, 1) := by decide +kernel
theorem dX4_remove_25 : decode cX4_remove 25 = .ok (.astore 4, 2) := by decide +kernel
theorem dX4_remove_27 : decode cX4_remove 27 = .ok (.iload_n 2, 1) := by decide +kernel
theorem dX4_remove_28 : decode cX4_remove 28 = .ok (.aload 4, 2) := by decide +kernel
theorem dX4_remove_30 : decode cX4_remove 30 = .ok (.getfield 59, 3) := by decide +kernel
theorem dX4_remove_33 : decode cX4_remove 33 = .ok (.if_icmp .gt 14, 3) := by decide +kernel
theorem dX4_remove_36 : decode cX4_remove 36 = .ok (.iload_n 3, 1) := by decide +kernel
theorem dX4_remove_37 : decode cX4_remove 37 = .ok (.aload 4, 2) := by decide +kernel
theorem dX4_remove_39 : decode cX4_remove 39 = .ok (.getfield 59, 3) := by decide +kernel
theorem dX4_remove_42 : decode cX4_remove 42 = .ok (.iload_n 2, 1) := by decide +kernel
theorem dX4_remove_43 : decode cX4_remove 43 = .ok (.isub, 1) := by decide +kernel
theorem dX4_remove_44 : decode cX4_remove 44 = .ok (.if_icmp .le 6, 3) := by decide +kernel
theorem dX4_remove_47 : decode cX4_remove 47 = .ok (.bipush (-2), 2) := by decide +kernel
theorem dX4_remove_49 : decode cX4_remove 49 = .ok (.ireturn, 1) := by decide +kernel
theorem dX4_remove_50 : decode cX4_remove 50 = .ok (.aload 4, 2) := by decide +kernel
theorem dX4_remove_52 : decode cX4_remove 52 = .ok (.iload_n 2, 1) := by decide +kernel
theorem dX4_remove_53 : decode cX4_remove 53 = .ok (.iload_n 3, 1) := by decide +kernel
theorem dX4_remove_54 : decode cX4_remove 54 = .ok (.invokevirtual 69, 3) := by decide +kernel
theorem dX4_remove_57 : decode cX4_remove 57 = .ok (.aload 4, 2) := by decide +kernel
theorem dX4_remove_59 : decode cX4_remove 59 = .ok (.getfield 59, 3) := by decide +kernel
theorem dX4_remove_62 : decode cX4_remove 62 = .ok (.ireturn, 1) := by decide +kernel
theorem dX4_extend_0 : decode cX4_extend 0 = .ok (.aload_n 0, 1) := by decide +kernel
theorem dX4_extend_1 : decode cX4_extend 1 = .ok (.iload_n 1, 1) := by decide +kernel
theorem dX4_extend_2 : decode cX4_extend 2 = .ok (.invokevirtual 55, 3) := by decide +kernel
theorem dX4_extend_5 : decode cX4_extend 5 = .ok (.ifCond .eq 14, 3) := by decide +kernel
theorem dX4_extend_8 : decode cX4_extend 8 = .ok (.iload_n 2, 1) := by decide +kernel
theorem dX4_extend_9 : decode cX4_extend 9 = .ok (.ifCond .lt 10, 3) := by decide +kernel
theorem dX4_extend_12 : decode cX4_extend 12 = .ok (.iload_n 2, 1) := by decide +kernel
theorem dX4_extend_13 : decode cX4_extend 13 = .ok (.sipush 300, 3) := by decide +kernel
theorem dX4_extend_16 : decode cX4_extend 16 = .ok (.if_icmp .le 6, 3) := by decide +kernel
theorem dX4_extend_19 : decode cX4_extend 19 = .ok (.bipush (-2), 2) := by decide +kernel
theorem dX4_extend_21 : decode cX4_extend 21 = .ok (.ireturn, 1) := by decide +kernel
theorem dX4_extend_22 : decode cX4_extend 22 = .ok (.aload_n 0, 1) := by decide +kernel
theorem dX4_extend_23 : decode cX4_extend 23 = .ok (.getfield 11, 3) := by decide +kernel
theorem dX4_extend_26 : decode cX4_extend 26 = .ok (.iload_n 1, 1) := by decide +kernel
theorem dX4_extend_27 : decode cX4_extend 27 = .ok (.aaload, 1) := by decide +kernel
theorem dX4_extend_28 : decode cX4_extend 28 = .ok (.astore 5, 2) := by decide +kernel
theorem dX4_extend_30 : decode cX4_extend 30 = .ok (.aload 5, 2) := by decide +kernel
theorem dX4_extend_32 : decode cX4_extend 32 = .ok (.getfield 59, 3) := by decide +kernel
theorem dX4_extend_35 : decode cX4_extend 35 = .ok (.iload_n 2, 1) := by decide +kernel
theorem dX4_extend_36 : decode cX4_extend 36 = .ok (.iadd, 1) := by decide +kernel
theorem dX4_extend_37 : decode cX4_extend 37 = .ok (.sipush 300, 3) := by decide +kernel
theorem dX4_extend_40 : decode cX4_extend 40 = .ok (.if_icmp .le 6, 3) := by decide +kernel
theorem dX4_extend_43 : decode cX4_extend 43 = .ok (.bipush (-3), 2) := by decide +kernel
theorem dX4_extend_45 : decode cX4_extend 45 = .ok (.ireturn, 1) := by decide +kernel
theorem dX4_extend_46 : decode cX4_extend 46 = .ok (.aload 5, 2) := by decide +kernel
theorem dX4_extend_48 : decode cX4_extend 48 = .ok (.getfield 59, 3) := by decide +kernel
theorem dX4_extend_51 : decode cX4_extend 51 = .ok (.istore 6, 2) := by decide +kernel
theorem dX4_extend_53 : decode cX4_extend 53 = .ok (.aload 5, 2) := by decide +kernel
theorem dX4_extend_55 : decode cX4_extend 55 = .ok (.iload 6, 2) := by decide +kernel
theorem dX4_extend_57 : decode cX4_extend 57 = .ok (.iload_n 2, 1) := by decide +kernel
theorem dX4_extend_58 : decode cX4_extend 58 = .ok (.invokevirtual 62, 3) := by decide +kernel
theorem dX4_extend_61 : decode cX4_extend 61 = .ok (.iconst 0, 1) := by decide +kernel
theorem dX4_extend_62 : decode cX4_extend 62 = .ok (.istore 7, 2) := by decide +kernel
theorem dX4_extend_64 : decode cX4_extend 64 = .ok (.iload 7, 2) := by decide +kernel
theorem dX4_extend_66 : decode cX4_extend 66 = .ok (.iload_n 2, 1) := by decide +kernel
theorem dX4_extend_67 : decode cX4_extend 67 = .ok (.if_icmp .ge 31, 3) := by decide +kernel
theorem dX4_extend_70 : decode cX4_extend 70 = .ok (.aload 5, 2) := by decide +kernel
theorem dX4_extend_72 : decode cX4_extend 72 = .ok (.getfield 66, 3) := by decide +kernel
theorem dX4_extend_75 : decode cX4_extend 75 = .ok (.iload 6, 2) := by decide +kernel
theorem dX4_extend_77 : decode cX4_extend 77 = .ok (.iload 7, 2) := by decide +kernel
theorem dX4_extend_79 : decode cX4_extend 79 = .ok (.iadd, 1) := by decide +kernel
theorem dX4_extend_80 : decode cX4_extend 80 = .ok (.iload_n 3, 1) := by decide +kernel
theorem dX4_extend_81 : decode cX4_extend 81 = .ok (.iload 7, 2) := by decide +kernel
theorem dX4_extend_83 : decode cX4_extend 83 = .ok (.iload 4, 2) := by decide +kernel
theorem dX4_extend_85 : decode cX4_extend 85 = .ok (.imul, 1) := by decide +kernel
theorem dX4_extend_86 : decode cX4_extend 86 = .ok (.iadd, 1) := by decide +kernel
theorem dX4_extend_87 : decode cX4_extend 87 = .ok (.sipush 255, 3) := by decide +kernel
theorem dX4_extend_90 : decode cX4_extend 90 = .ok (.iand, 1) := by decide +kernel
theorem dX4_extend_91 : decode cX4_extend 91 = .ok (.iastore, 1) := by decide +kernel
theorem dX4_extend_92 : decode cX4_extend 92 = .ok (.iinc 7 1, 3) := by decide +kernel
theorem dX4_extend_95 : decode cX4_extend 95 = .ok (.goto (-31), 3) := by decide +kernel
theorem dX4_extend_98 : decode cX4_extend 98 = .ok (.aload 5, 2) := by decide +kernel
theorem dX4_extend_100 : decode cX4_extend 100 = .ok (.getfield 59, 3) := by decide +kernel
theorem dX4_extend_103 : decode cX4_extend 103 = .ok (.ireturn, 1) := by decide +kernel
theorem dX4_state_0 : decode cX4_state 0 = .ok (.aload_n 0, 1) := by decide +kernel
theorem dX4_state_1 : decode cX4_state 1 = .ok (.iload_n 1, 1) := by decide +kernel
theorem dX4_state_2 : decode cX4_state 2 = .ok (.invokevirtual 55, 3) := by decide +kernel
theorem dX4_state_5 : decode cX4_state 5 = .ok (.ifCond .eq 20, 3) := by decide +kernel
theorem dX4_state_8 : decode cX4_state 8 = .ok (.iload_n 2, 1) := by decide +kernel
theorem dX4_state_9 : decode cX4_state 9 = .ok (.ifCond .lt 16, 3) := by decide +kernel
theorem dX4_state_12 : decode cX4_state 12 = .ok (.iload_n 2, 1) := by decide +kernel
theorem dX4_state_13 : decode cX4_state 13 = .ok (.aload_n 0, 1) := by decide +kernel
theorem dX4_state_14 : decode cX4_state 14 = .ok (.getfield 11, 3) := by decide +kernel
theorem dX4_state_17 : decode cX4_state 17 = .ok (.iload_n 1, 1) := by decide +kernel
theorem dX4_state_18 : decode cX4_state 18 = .ok (.aaload, 1) := by decide +kernel
theorem dX4_state_19 : decode cX4_state 19 = .ok (.getfield 59, 3) := by decide +kernel
theorem dX4_state_22 : decode cX4_state 22 = .ok (.if_icmp .lt 6, 3) := by decide +kernel
theorem dX4_state_25 : decode cX4_state 25 = .ok (.bipush (-2), 2) := by decide +kernel
theorem dX4_state_27 : decode cX4_state 27 = .ok (.ireturn, 1) := by decide +kernel
theorem dX4_state_28 : decode cX4_state 28 = .ok (.aload_n 0, 1) := by decide +kernel
theorem dX4_state_29 : decode cX4_state 29 = .ok (.getfield 11, 3) := by decide +kernel
theorem dX4_state_32 : decode cX4_state 32 = .ok (.iload_n 1, 1) := by decide +kernel
theorem dX4_state_33 : decode cX4_state 33 = .ok (.aaload, 1) := by decide +kernel
theorem dX4_state_34 : decode cX4_state 34 = .ok (.getfield 66, 3) := by decide +kernel
theorem dX4_state_37 : decode cX4_state 37 = .ok (.iload_n 2, 1) := by decide +kernel
theorem dX4_state_38 : decode cX4_state 38 = .ok (.iaload, 1) := by decide +kernel
theorem dX4_state_39 : decode cX4_state 39 = .ok (.ireturn, 1) := by decide +kernel
theorem dX4_chunk_0 : decode cX4_chunk 0 = .ok (.aload_n 0, 1) := by decide +kernel
theorem dX4_chunk_1 : decode cX4_chunk 1 = .ok (.iload_n 1, 1) := by decide +kernel
theorem dX4_chunk_2 : decode cX4_chunk 2 = .ok (.invokevirtual 55, 3) := by decide +kernel
theorem dX4_chunk_5 : decode cX4_chunk 5 = .ok (.ifCond .eq 8, 3) := by decide +kernel
theorem dX4_chunk_8 : decode cX4_chunk 8 = .ok (.iload_n 2, 1) := by decide +kernel
theorem dX4_chunk_9 : decode cX4_chunk 9 = .ok (.iconst (-1), 1) := by decide +kernel
theorem dX4_chunk_10 : decode cX4_chunk 10 = .ok (.if_icmp .ge 6, 3) := by decide +kernel
theorem dX4_chunk_13 : decode cX4_chunk 13 = .ok (.bipush (-2), 2) := by decide +kernel
theorem dX4_chunk_15 : decode cX4_chunk 15 = .ok (.ireturn, 1) := by decide +kernel
theorem dX4_chunk_16 : decode cX4_chunk 16 = .ok (.aload_n 0, 1) := by decide +kernel
theorem dX4_chunk_17 : decode cX4_chunk 17 = .ok (.getfield 11, 3) := by decide +kernel
theorem dX4_chunk_20 : decode cX4_chunk 20 = .ok (.iload_n 1, 1) := by decide +kernel
theorem dX4_chunk_21 : decode cX4_chunk 21 = .ok (.aaload, 1) := by decide +kernel
theorem dX4_chunk_22 : decode cX4_chunk 22 = .ok (.astore_n 3, 1) := by decide +kernel
theorem dX4_chunk_23 : decode cX4_chunk 23 = .ok (.aload_n 3, 1) := by decide +kernel
theorem dX4_chunk_24 : decode cX4_chunk 24 = .ok (.invokevirtual 72, 3) := by decide +kernel
theorem dX4_chunk_27 : decode cX4_chunk 27 = .ok (.istore 4, 2) := by decide +kernel
theorem dX4_chunk_29 : decode cX4_chunk 29 = .ok (.iload_n 2, 1) := by decide +kernel
theorem dX4_chunk_30 : decode cX4_chunk 30 = .ok (.iconst (-1), 1) := by decide +kernel
theorem dX4_chunk_31 : decode cX4_chunk 31 = .ok (.if_icmp .ne 6, 3) := by decide +kernel
theorem dX4_chunk_34 : decode cX4_chunk 34 = .ok (.iload 4, 2) := by decide +kernel
theorem dX4_chunk_36 : decode cX4_chunk 36 = .ok (.ireturn, 1) := by decide +kernel
theorem dX4_chunk_37 : decode cX4_chunk 37 = .ok (.iload_n 2, 1) := by decide +kernel
theorem dX4_chunk_38 : decode cX4_chunk 38 = .ok (.iload 4, 2) := by decide +kernel
theorem dX4_chunk_40 : decode cX4_chunk 40 = .ok (.if_icmp .ge 11, 3) := by decide +kernel
theorem dX4_chunk_43 : decode cX4_chunk 43 = .ok (.aload_n 3, 1) := by decide +kernel
theorem dX4_chunk_44 : decode cX4_chunk 44 = .ok (.iload_n 2, 1) := by decide +kernel
theorem dX4_chunk_45 : decode cX4_chunk 45 = .ok (.invokevirtual 76, 3) := by decide +kernel
theorem dX4_chunk_48 : decode cX4_chunk 48 = .ok (.goto 5, 3) := by decide +kernel
theorem dX4_chunk_51 : decode cX4_chunk 51 = .ok (.bipush (-2), 2) := by decide +kernel
theorem dX4_chunk_53 : decode cX4_chunk 53 = .ok (.ireturn, 1) := by decide +kernel
theorem dX4_rescale_0 : decode cX4_rescale 0 = .ok (.iload_n 1, 1) := by decide +kernel
theorem dX4_rescale_1 : decode cX4_rescale 1 = .ok (.iconst 1, 1) := by decide +kernel
theorem dX4_rescale_2 : decode cX4_rescale 2 = .ok (.if_icmp .lt 8, 3) := by decide +kernel
theorem dX4_rescale_5 : decode cX4_rescale 5 = .ok (.iload_n 1, 1) := by decide +kernel
theorem dX4_rescale_6 : decode cX4_rescale 6 = .ok (.iconst 4, 1) := by decide +kernel
theorem dX4_rescale_7 : decode cX4_rescale 7 = .ok (.if_icmp .le 6, 3) := by decide +kernel
theorem dX4_rescale_10 : decode cX4_rescale 10 = .ok (.bipush (-2), 2) := by decide +kernel
theorem dX4_rescale_12 : decode cX4_rescale 12 = .ok (.ireturn, 1) := by decide +kernel
theorem dX4_rescale_13 : decode cX4_rescale 13 = .ok (.aload_n 0, 1) := by decide +kernel
theorem dX4_rescale_14 : decode cX4_rescale 14 = .ok (.invokevirtual 80, 3) := by decide +kernel
theorem dX4_rescale_17 : decode cX4_rescale 17 = .ok (.istore_n 2, 1) := by decide +kernel
theorem dX4_rescale_18 : decode cX4_rescale 18 = .ok (.iconst 0, 1) := by decide +kernel
theorem dX4_rescale_19 : decode cX4_rescale 19 = .ok (.istore_n 3, 1) := by decide +kernel
theorem dX4_rescale_20 : decode cX4_rescale 20 = .ok (.iload_n 3, 1) := by decide +kernel
theorem dX4_rescale_21 : decode cX4_rescale 21 = .ok (.iload_n 1, 1) := by decide +kernel
theorem dX4_rescale_22 : decode cX4_rescale 22 = .ok (.if_icmp .ge 33, 3) := by decide +kernel
theorem dX4_rescale_25 : decode cX4_rescale 25 = .ok (.iload_n 2, 1) := by decide +kernel
theorem dX4_rescale_26 : decode cX4_rescale 26 = .ok (.iload_n 3, 1) := by decide +kernel
theorem dX4_rescale_27 : decode cX4_rescale 27 = .ok (.iconst 1, 1) := by decide +kernel
theorem dX4_rescale_28 : decode cX4_rescale 28 = .ok (.iadd, 1) := by decide +kernel
theorem dX4_rescale_29 : decode cX4_rescale 29 = .ok (.iload_n 1, 1) := by decide +kernel
theorem dX4_rescale_30 : decode cX4_rescale 30 = .ok (.invokestatic 83, 3) := by decide +kernel
theorem dX4_rescale_33 : decode cX4_rescale 33 = .ok (.iload_n 2, 1) := by decide +kernel
theorem dX4_rescale_34 : decode cX4_rescale 34 = .ok (.iload_n 3, 1) := by decide +kernel
theorem dX4_rescale_35 : decode cX4_rescale 35 = .ok (.iload_n 1, 1) := by decide +kernel
theorem dX4_rescale_36 : decode cX4_rescale 36 = .ok (.invokestatic 83, 3) := by decide +kernel
theorem dX4_rescale_39 : decode cX4_rescale 39 = .ok (.isub, 1) := by decide +kernel
theorem dX4_rescale_40 : decode cX4_rescale 40 = .ok (.sipush 300, 3) := by decide +kernel
theorem dX4_rescale_43 : decode cX4_rescale 43 = .ok (.if_icmp .le 6, 3) := by decide +kernel
theorem dX4_rescale_46 : decode cX4_rescale 46 = .ok (.bipush (-3), 2) := by decide +kernel
theorem dX4_rescale_48 : decode cX4_rescale 48 = .ok (.ireturn, 1) := by decide +kernel
theorem dX4_rescale_49 : decode cX4_rescale 49 = .ok (.iinc 3 1, 3) := by decide +kernel
theorem dX4_rescale_52 : decode cX4_rescale 52 = .ok (.goto (-32), 3) := by decide +kernel
theorem dX4_rescale_55 : decode cX4_rescale 55 = .ok (.aload_n 0, 1) := by decide +kernel
theorem dX4_rescale_56 : decode cX4_rescale 56 = .ok (.getfield 42, 3) := by decide +kernel
theorem dX4_rescale_59 : decode cX4_rescale 59 = .ok (.istore_n 3, 1) := by decide +kernel
theorem dX4_rescale_60 : decode cX4_rescale 60 = .ok (.aload_n 0, 1) := by decide +kernel
theorem dX4_rescale_61 : decode cX4_rescale 61 = .ok (.invokevirtual 87, 3) := by decide +kernel
theorem dX4_rescale_64 : decode cX4_rescale 64 = .ok (.aload_n 0, 1) := by decide +kernel
theorem dX4_rescale_65 : decode cX4_rescale 65 = .ok (.iload_n 1, 1) := by decide +kernel
theorem dX4_rescale_66 : decode cX4_rescale 66 = .ok (.invokevirtual 90, 3) := by decide +kernel
theorem dX4_rescale_69 : decode cX4_rescale 69 = .ok (.iconst 0, 1) := by decide +kernel
theorem dX4_rescale_70 : decode cX4_rescale 70 = .ok (.istore 4, 2) := by decide +kernel
theorem dX4_rescale_72 : decode cX4_rescale 72 = .ok (.iload 4, 2) := by decide +kernel
theorem dX4_rescale_74 : decode cX4_rescale 74 = .ok (.iload_n 1, 1) := by decide +kernel
theorem dX4_rescale_75 : decode cX4_rescale 75 = .ok (.if_icmp .ge 57, 3) := by decide +kernel
theorem dX4_rescale_78 : decode cX4_rescale 78 = .ok (.iload_n 2, 1) := by decide +kernel
theorem dX4_rescale_79 : decode cX4_rescale 79 = .ok (.iload 4, 2) := by decide +kernel
theorem dX4_rescale_81 : decode cX4_rescale 81 = .ok (.iload_n 1, 1) := by decide +kernel
theorem dX4_rescale_82 : decode cX4_rescale 82 = .ok (.invokestatic 83, 3) := by decide +kernel
theorem dX4_rescale_85 : decode cX4_rescale 85 = .ok (.istore 5, 2) := by decide +kernel
theorem dX4_rescale_87 : decode cX4_rescale 87 = .ok (.aload_n 0, 1) := by decide +kernel
theorem dX4_rescale_88 : decode cX4_rescale 88 = .ok (.getfield 11, 3) := by decide +kernel
theorem dX4_rescale_91 : decode cX4_rescale 91 = .ok (.iload 4, 2) := by decide +kernel
theorem dX4_rescale_93 : decode cX4_rescale 93 = .ok (.aaload, 1) := by decide +kernel
theorem dX4_rescale_94 : decode cX4_rescale 94 = .ok (.iconst 0, 1) := by decide +kernel
theorem dX4_rescale_95 : decode cX4_rescale 95 = .ok (.putfield 59, 3) := by decide +kernel
theorem dX4_rescale_98 : decode cX4_rescale 98 = .ok (.aload_n 0, 1) := by decide +kernel
theorem dX4_rescale_99 : decode cX4_rescale 99 = .ok (.getfield 11, 3) := by decide +kernel
theorem dX4_rescale_102 : decode cX4_rescale 102 = .ok (.iload 4, 2) := by decide +kernel
theorem dX4_rescale_104 : decode cX4_rescale 104 = .ok (.aaload, 1) := by decide +kernel
theorem dX4_rescale_105 : decode cX4_rescale 105 = .ok (.aload_n 0, 1) := by decide +kernel
theorem dX4_rescale_106 : decode cX4_rescale 106 = .ok (.getfield 34, 3) := by decide +kernel
theorem dX4_rescale_109 : decode cX4_rescale 109 = .ok (.iload 5, 2) := by decide +kernel
theorem dX4_rescale_111 : decode cX4_rescale 111 = .ok (.iload_n 2, 1) := by decide +kernel
theorem dX4_rescale_112 : decode cX4_rescale 112 = .ok (.iload 4, 2) := by decide +kernel
theorem dX4_rescale_114 : decode cX4_rescale 114 = .ok (.iconst 1, 1) := by decide +kernel
theorem dX4_rescale_115 : decode cX4_rescale 115 = .ok (.iadd, 1) := by decide +kernel
theorem dX4_rescale_116 : decode cX4_rescale 116 = .ok (.iload_n 1, 1) := by decide +kernel
theorem dX4_rescale_117 : decode cX4_rescale 117 = .ok (.invokestatic 83, 3) := by decide +kernel
theorem dX4_rescale_120 : decode cX4_rescale 120 = .ok (.iload 5, 2) := by decide +kernel
theorem dX4_rescale_122 : decode cX4_rescale 122 = .ok (.isub, 1) := by decide +kernel
theorem dX4_rescale_123 : decode cX4_rescale 123 = .ok (.invokevirtual 94, 3) := by decide +kernel
theorem dX4_rescale_126 : decode cX4_rescale 126 = .ok (.iinc 4 1, 3) := by decide +kernel
theorem dX4_rescale_129 : decode cX4_rescale 129 = .ok (.goto (-57), 3) := by decide +kernel
theorem dX4_rescale_132 : decode cX4_rescale 132 = .ok (.iload_n 3, 1) := by decide +kernel
theorem dX4_rescale_133 : decode cX4_rescale 133 = .ok (.ireturn, 1) := by decide +kernel
theorem dX4_mark_0 : decode cX4_mark 0 = .ok (.iload_n 1, 1) := by decide +kernel
theorem dX4_mark_1 : decode cX4_mark 1 = .ok (.ifCond .eq 11, 3) := by decide +kernel
theorem dX4_mark_4 : decode cX4_mark 4 = .ok (.iload_n 1, 1) := by decide +kernel
theorem dX4_mark_5 : decode cX4_mark 5 = .ok (.iconst 1, 1) := by decide +kernel
theorem dX4_mark_6 : decode cX4_mark 6 = .ok (.if_icmp .eq 6, 3) := by decide +kernel
theorem dX4_mark_9 : decode cX4_mark 9 = .ok (.bipush (-2), 2) := by decide +kernel
theorem dX4_mark_11 : decode cX4_mark 11 = .ok (.ireturn, 1) := by decide +kernel
theorem dX4_mark_12 : decode cX4_mark 12 = .ok (.aload_n 0, 1) := by decide +kernel
theorem dX4_mark_13 : decode cX4_mark 13 = .ok (.getfield 46, 3) := by decide +kernel
theorem dX4_mark_16 : decode cX4_mark 16 = .ok (.bipush 12, 2) := by decide +kernel
theorem dX4_mark_18 : decode cX4_mark 18 = .ok (.if_icmp .lt 6, 3) := by decide +kernel
theorem dX4_mark_21 : decode cX4_mark 21 = .ok (.bipush (-3), 2) := by decide +kernel
theorem dX4_mark_23 : decode cX4_mark 23 = .ok (.ireturn, 1) := by decide +kernel
theorem dX4_mark_24 : decode cX4_mark 24 = .ok (.aload_n 0, 1) := by decide +kernel
theorem dX4_mark_25 : decode cX4_mark 25 = .ok (.getfield 30, 3) := by decide +kernel
theorem dX4_mark_28 : decode cX4_mark 28 = .ok (.aload_n 0, 1) := by decide +kernel
theorem dX4_mark_29 : decode cX4_mark 29 = .ok (.getfield 46, 3) := by decide +kernel
theorem dX4_mark_32 : decode cX4_mark 32 = .ok (.aaload, 1) := by decide +kernel
theorem dX4_mark_33 : decode cX4_mark 33 = .ok (.astore_n 2, 1) := by decide +kernel
theorem dX4_mark_34 : decode cX4_mark 34 = .ok (.aload_n 2, 1) := by decide +kernel
theorem dX4_mark_35 : decode cX4_mark 35 = .ok (.aload_n 0, 1) := by decide +kernel
theorem dX4_mark_36 : decode cX4_mark 36 = .ok (.getfield 49, 3) := by decide +kernel
theorem dX4_mark_39 : decode cX4_mark 39 = .ok (.aload_n 0, 1) := by decide +kernel
theorem dX4_mark_40 : decode cX4_mark 40 = .ok (.getfield 42, 3) := by decide +kernel
theorem dX4_mark_43 : decode cX4_mark 43 = .ok (.invokevirtual 98, 3) := by decide +kernel
theorem dX4_mark_46 : decode cX4_mark 46 = .ok (.aload_n 0, 1) := by decide +kernel
theorem dX4_mark_47 : decode cX4_mark 47 = .ok (.aload_n 2, 1) := by decide +kernel
theorem dX4_mark_48 : decode cX4_mark 48 = .ok (.invokevirtual 101, 3) := by decide +kernel
theorem dX4_mark_51 : decode cX4_mark 51 = .ok (.ifCond .ne 6, 3) := by decide +kernel
theorem dX4_mark_54 : decode cX4_mark 54 = .ok (.bipush (-3), 2) := by decide +kernel
theorem dX4_mark_56 : decode cX4_mark 56 = .ok (.ireturn, 1) := by decide +kernel
theorem dX4_mark_57 : decode cX4_mark 57 = .ok (.aload_n 2, 1) := by decide +kernel
theorem dX4_mark_58 : decode cX4_mark 58 = .ok (.aload_n 0, 1) := by decide +kernel
theorem dX4_mark_59 : decode cX4_mark 59 = .ok (.getfield 24, 3) := by decide +kernel
theorem dX4_mark_62 : decode cX4_mark 62 = .ok (.getfield 105, 3) := by decide +kernel
theorem dX4_mark_65 : decode cX4_mark 65 = .ok (.putfield 108, 3) := by decide +kernel
theorem dX4_mark_68 : decode cX4_mark 68 = .ok (.aload_n 2, 1) := by decide +kernel
theorem dX4_mark_69 : decode cX4_mark 69 = .ok (.iload_n 1, 1) := by decide +kernel
theorem dX4_mark_70 : decode cX4_mark 70 = .ok (.iconst 1, 1) := by decide +kernel
theorem dX4_mark_71 : decode cX4_mark 71 = .ok (.if_icmp .ne 7, 3) := by decide +kernel
theorem dX4_mark_74 : decode cX4_mark 74 = .ok (.aconst_null, 1) := by decide +kernel
theorem dX4_mark_75 : decode cX4_mark 75 = .ok (.goto 7, 3) := by decide +kernel
theorem dX4_mark_78 : decode cX4_mark 78 = .ok (.aload_n 0, 1) := by decide +kernel
theorem dX4_mark_79 : decode cX4_mark 79 = .ok (.invokevirtual 111, 3) := by decide +kernel
theorem dX4_mark_82 : decode cX4_mark 82 = .ok (.invokevirtual 115, 3) := by decide +kernel
theorem dX4_mark_85 : decode cX4_mark 85 = .ok (.aload_n 0, 1) := by decide +kernel
theorem dX4_mark_86 : decode cX4_mark 86 = .ok (.aload_n 2, 1) := by decide +kernel
theorem dX4_mark_87 : decode cX4_mark 87 = .ok (.invokevirtual 119, 3) := by decide +kernel
theorem dX4_mark_90 : decode cX4_mark 90 = .ok (.aload_n 0, 1) := by decide +kernel
theorem dX4_mark_91 : decode cX4_mark 91 = .ok (.dup, 1) := by decide +kernel
theorem dX4_mark_92 : decode cX4_mark 92 = .ok (.getfield 46, 3) := by decide +kernel
theorem dX4_mark_95 : decode cX4_mark 95 = .ok (.iconst 1, 1) := by decide +kernel
theorem dX4_mark_96 : decode cX4_mark 96 = .ok (.iadd, 1) := by decide +kernel
theorem dX4_mark_97 : decode cX4_mark 97 = .ok (.putfield 46, 3) := by decide +kernel
theorem dX4_mark_100 : decode cX4_mark 100 = .ok (.aload_n 0, 1) := by decide +kernel
theorem dX4_mark_101 : decode cX4_mark 101 = .ok (.dup, 1) := by decide +kernel
theorem dX4_mark_102 : decode cX4_mark 102 = .ok (.getfield 49, 3) := by decide +kernel
theorem dX4_mark_105 : decode cX4_mark 105 = .ok (.iconst 1, 1) := by decide +kernel
theorem dX4_mark_106 : decode cX4_mark 106 = .ok (.iadd, 1) := by decide +kernel
theorem dX4_mark_107 : decode cX4_mark 107 = .ok (.putfield 49, 3) := by decide +kernel
theorem dX4_mark_110 : decode cX4_mark 110 = .ok (.aload_n 2, 1) := by decide +kernel
theorem dX4_mark_111 : decode cX4_mark 111 = .ok (.getfield 122, 3) := by decide +kernel
theorem dX4_mark_114 : decode cX4_mark 114 = .ok (.ireturn, 1) := by decide +kernel
theorem dX4_drop_0 : decode cX4_drop 0 = .ok (.aload_n 0, 1) := by decide +kernel
theorem dX4_drop_1 : decode cX4_drop 1 = .ok (.iload_n 1, 1) := by decide +kernel
theorem dX4_drop_2 : decode cX4_drop 2 = .ok (.invokevirtual 125, 3) := by decide +kernel
theorem dX4_drop_5 : decode cX4_drop 5 = .ok (.astore_n 2, 1) := by decide +kernel
theorem dX4_drop_6 : decode cX4_drop 6 = .ok (.aload_n 2, 1) := by decide +kernel
theorem dX4_drop_7 : decode cX4_drop 7 = .ok (.ifnonnull 6, 3) := by decide +kernel
theorem dX4_drop_10 : decode cX4_drop 10 = .ok (.bipush (-2), 2) := by decide +kernel
theorem dX4_drop_12 : decode cX4_drop 12 = .ok (.ireturn, 1) := by decide +kernel
theorem dX4_drop_13 : decode cX4_drop 13 = .ok (.aload_n 2, 1) := by decide +kernel
theorem dX4_drop_14 : decode cX4_drop 14 = .ok (.iconst 0, 1) := by decide +kernel
theorem dX4_drop_15 : decode cX4_drop 15 = .ok (.putfield 129, 3) := by decide +kernel
theorem dX4_drop_18 : decode cX4_drop 18 = .ok (.aload_n 0, 1) := by decide +kernel
theorem dX4_drop_19 : decode cX4_drop 19 = .ok (.invokevirtual 133, 3) := by decide +kernel
theorem dX4_drop_22 : decode cX4_drop 22 = .ok (.aload_n 0, 1) := by decide +kernel
theorem dX4_drop_23 : decode cX4_drop 23 = .ok (.invokevirtual 136, 3) := by decide +kernel
theorem dX4_drop_26 : decode cX4_drop 26 = .ok (.ireturn, 1) := by decide +kernel
theorem dX4_back_0 : decode cX4_back 0 = .ok (.iload_n 1, 1) := by decide +kernel
theorem dX4_back_1 : decode cX4_back 1 = .ok (.ifCond .lt 11, 3) := by decide +kernel
theorem dX4_back_4 : decode cX4_back 4 = .ok (.iload_n 1, 1) := by decide +kernel
theorem dX4_back_5 : decode cX4_back 5 = .ok (.aload_n 0, 1) := by decide +kernel
theorem dX4_back_6 : decode cX4_back 6 = .ok (.getfield 49, 3) := by decide +kernel
theorem dX4_back_9 : decode cX4_back 9 = .ok (.if_icmp .lt 6, 3) := by decide +kernel
theorem dX4_back_12 : decode cX4_back 12 = .ok (.bipush (-2), 2) := by decide +kernel
theorem dX4_back_14 : decode cX4_back 14 = .ok (.ireturn, 1) := by decide +kernel
theorem dX4_back_15 : decode cX4_back 15 = .ok (.aload_n 0, 1) := by decide +kernel
theorem dX4_back_16 : decode cX4_back 16 = .ok (.iload_n 1, 1) := by decide +kernel
theorem dX4_back_17 : decode cX4_back 17 = .ok (.invokevirtual 139, 3) := by decide +kernel
theorem dX4_back_20 : decode cX4_back 20 = .ok (.astore_n 2, 1) := by decide +kernel
theorem dX4_back_21 : decode cX4_back 21 = .ok (.aload_n 2, 1) := by decide +kernel
theorem dX4_back_22 : decode cX4_back 22 = .ok (.ifnonnull 5, 3) := by decide +kernel
theorem dX4_back_25 : decode cX4_back 25 = .ok (.iconst (-1), 1) := by decide +kernel
theorem dX4_back_26 : decode cX4_back 26 = .ok (.ireturn, 1) := by decide +kernel
theorem dX4_back_27 : decode cX4_back 27 = .ok (.aload_n 0, 1) := by decide +kernel
theorem dX4_back_28 : decode cX4_back 28 = .ok (.aload_n 2, 1) := by decide +kernel
theorem dX4_back_29 : decode cX4_back 29 = .ok (.getfield 142, 3) := by decide +kernel
theorem dX4_back_32 : decode cX4_back 32 = .ok (.invokevirtual 90, 3) := by decide +kernel
theorem dX4_back_35 : decode cX4_back 35 = .ok (.iconst 0, 1) := by decide +kernel
theorem dX4_back_36 : decode cX4_back 36 = .ok (.istore_n 3, 1) := by decide +kernel
theorem dX4_back_37 : decode cX4_back 37 = .ok (.iload_n 3, 1) := by decide +kernel
theorem dX4_back_38 : decode cX4_back 38 = .ok (.aload_n 2, 1) := by decide +kernel
theorem dX4_back_39 : decode cX4_back 39 = .ok (.getfield 142, 3) := by decide +kernel
theorem dX4_back_42 : decode cX4_back 42 = .ok (.if_icmp .ge 15, 3) := by decide +kernel
theorem dX4_back_45 : decode cX4_back 45 = .ok (.aload_n 0, 1) := by decide +kernel
theorem dX4_back_46 : decode cX4_back 46 = .ok (.aload_n 2, 1) := by decide +kernel
theorem dX4_back_47 : decode cX4_back 47 = .ok (.iload_n 3, 1) := by decide +kernel
theorem dX4_back_48 : decode cX4_back 48 = .ok (.invokevirtual 145, 3) := by decide +kernel
theorem dX4_back_51 : decode cX4_back 51 = .ok (.iinc 3 1, 3) := by decide +kernel
theorem dX4_back_54 : decode cX4_back 54 = .ok (.goto (-17), 3) := by decide +kernel
theorem dX4_back_57 : decode cX4_back 57 = .ok (.aload_n 2, 1) := by decide +kernel
theorem dX4_back_58 : decode cX4_back 58 = .ok (.getfield 122, 3) := by decide +kernel
theorem dX4_back_61 : decode cX4_back 61 = .ok (.ireturn, 1) := by decide +kernel
theorem dX4_usable_0 : decode cX4_usable 0 = .ok (.aload_n 0, 1) := by decide +kernel
theorem dX4_usable_1 : decode cX4_usable 1 = .ok (.iload_n 1, 1) := by decide +kernel
theorem dX4_usable_2 : decode cX4_usable 2 = .ok (.invokevirtual 125, 3) := by decide +kernel
theorem dX4_usable_5 : decode cX4_usable 5 = .ok (.astore_n 2, 1) := by decide +kernel
theorem dX4_usable_6 : decode cX4_usable 6 = .ok (.aload_n 2, 1) := by decide +kernel
theorem dX4_usable_7 : decode cX4_usable 7 = .ok (.ifnonnull 6, 3) := by decide +kernel
theorem dX4_usable_10 : decode cX4_usable 10 = .ok (.bipush (-2), 2) := by decide +kernel
theorem dX4_usable_12 : decode cX4_usable 12 = .ok (.ireturn, 1) := by decide +kernel
theorem dX4_usable_13 : decode cX4_usable 13 = .ok (.aload_n 0, 1) := by decide +kernel
theorem dX4_usable_14 : decode cX4_usable 14 = .ok (.aload_n 2, 1) := by decide +kernel
theorem dX4_usable_15 : decode cX4_usable 15 = .ok (.invokevirtual 149, 3) := by decide +kernel
theorem dX4_usable_18 : decode cX4_usable 18 = .ok (.ifCond .eq 7, 3) := by decide +kernel
theorem dX4_usable_21 : decode cX4_usable 21 = .ok (.iconst 1, 1) := by decide +kernel
theorem dX4_usable_22 : decode cX4_usable 22 = .ok (.goto 4, 3) := by decide +kernel
theorem dX4_usable_25 : decode cX4_usable 25 = .ok (.iconst 0, 1) := by decide +kernel
theorem dX4_usable_26 : decode cX4_usable 26 = .ok (.ireturn, 1) := by decide +kernel
theorem dX4_markTold_0 : decode cX4_markTold 0 = .ok (.aload_n 0, 1) := by decide +kernel
theorem dX4_markTold_1 : decode cX4_markTold 1 = .ok (.iload_n 1, 1) := by decide +kernel
theorem dX4_markTold_2 : decode cX4_markTold 2 = .ok (.invokevirtual 152, 3) := by decide +kernel
theorem dX4_markTold_5 : decode cX4_markTold 5 = .ok (.astore_n 3, 1) := by decide +kernel
theorem dX4_markTold_6 : decode cX4_markTold 6 = .ok (.aload_n 3, 1) := by decide +kernel
theorem dX4_markTold_7 : decode cX4_markTold 7 = .ok (.ifnonnull 6, 3) := by decide +kernel
theorem dX4_markTold_10 : decode cX4_markTold 10 = .ok (.bipush (-2), 2) := by decide +kernel
theorem dX4_markTold_12 : decode cX4_markTold 12 = .ok (.ireturn, 1) := by decide +kernel
theorem dX4_markTold_13 : decode cX4_markTold 13 = .ok (.iload_n 2, 1) := by decide +kernel
theorem dX4_markTold_14 : decode cX4_markTold 14 = .ok (.tableswitch 85 0 6 #[42, 55, 60, 65, 70, 75, 80], 42) := by decide +kernel
theorem dX4_markTold_56 : decode cX4_markTold 56 = .ok (.aload_n 3, 1) := by decide +kernel
theorem dX4_markTold_57 : decode cX4_markTold 57 = .ok (.getfield 129, 3) := by decide +kernel
theorem dX4_markTold_60 : decode cX4_markTold 60 = .ok (.ifCond .eq 7, 3) := by decide +kernel
theorem dX4_markTold_63 : decode cX4_markTold 63 = .ok (.iconst 1, 1) := by decide +kernel
theorem dX4_markTold_64 : decode cX4_markTold 64 = .ok (.goto 4, 3) := by decide +kernel
theorem dX4_markTold_67 : decode cX4_markTold 67 = .ok (.iconst 0, 1) := by decide +kernel
theorem dX4_markTold_68 : decode cX4_markTold 68 = .ok (.ireturn, 1) := by decide +kernel
theorem dX4_markTold_69 : decode cX4_markTold 69 = .ok (.aload_n 3, 1) := by decide +kernel
theorem dX4_markTold_70 : decode cX4_markTold 70 = .ok (.getfield 155, 3) := by decide +kernel
theorem dX4_markTold_73 : decode cX4_markTold 73 = .ok (.ireturn, 1) := by decide +kernel
theorem dX4_markTold_74 : decode cX4_markTold 74 = .ok (.aload_n 3, 1) := by decide +kernel
theorem dX4_markTold_75 : decode cX4_markTold 75 = .ok (.getfield 142, 3) := by decide +kernel
theorem dX4_markTold_78 : decode cX4_markTold 78 = .ok (.ireturn, 1) := by decide +kernel
theorem dX4_markTold_79 : decode cX4_markTold 79 = .ok (.aload_n 3, 1) := by decide +kernel
theorem dX4_markTold_80 : decode cX4_markTold 80 = .ok (.invokevirtual 158, 3) := by decide +kernel
theorem dX4_markTold_83 : decode cX4_markTold 83 = .ok (.ireturn, 1) := by decide +kernel
theorem dX4_markTold_84 : decode cX4_markTold 84 = .ok (.aload_n 3, 1) := by decide +kernel
theorem dX4_markTold_85 : decode cX4_markTold 85 = .ok (.getfield 161, 3) := by decide +kernel
theorem dX4_markTold_88 : decode cX4_markTold 88 = .ok (.ireturn, 1) := by decide +kernel
theorem dX4_markTold_89 : decode cX4_markTold 89 = .ok (.aload_n 3, 1) := by decide +kernel
theorem dX4_markTold_90 : decode cX4_markTold 90 = .ok (.getfield 164, 3) := by decide +kernel
theorem dX4_markTold_93 : decode cX4_markTold 93 = .ok (.ireturn, 1) := by decide +kernel
theorem dX4_markTold_94 : decode cX4_markTold 94 = .ok (.aload_n 3, 1) := by decide +kernel
theorem dX4_markTold_95 : decode cX4_markTold 95 = .ok (.getfield 108, 3) := by decide +kernel
theorem dX4_markTold_98 : decode cX4_markTold 98 = .ok (.ireturn, 1) := by decide +kernel
theorem dX4_markTold_99 : decode cX4_markTold 99 = .ok (.bipush (-2), 2) := by decide +kernel
theorem dX4_markTold_101 : decode cX4_markTold 101 = .ok (.ireturn, 1) := by decide +kernel
theorem dX4_list_0 : decode cX4_list 0 = .ok (.aload_n 0, 1) := by decide +kernel
theorem dX4_list_1 : decode cX4_list 1 = .ok (.iload_n 1, 1) := by decide +kernel
theorem dX4_list_2 : decode cX4_list 2 = .ok (.invokevirtual 125, 3) := by decide +kernel
theorem dX4_list_5 : decode cX4_list 5 = .ok (.astore 4, 2) := by decide +kernel
theorem dX4_list_7 : decode cX4_list 7 = .ok (.aload 4, 2) := by decide +kernel
theorem dX4_list_9 : decode cX4_list 9 = .ok (.ifnull 20, 3) := by decide +kernel
theorem dX4_list_12 : decode cX4_list 12 = .ok (.iload_n 2, 1) := by decide +kernel
theorem dX4_list_13 : decode cX4_list 13 = .ok (.ifCond .lt 16, 3) := by decide +kernel
theorem dX4_list_16 : decode cX4_list 16 = .ok (.iload_n 2, 1) := by decide +kernel
theorem dX4_list_17 : decode cX4_list 17 = .ok (.aload 4, 2) := by decide +kernel
theorem dX4_list_19 : decode cX4_list 19 = .ok (.getfield 142, 3) := by decide +kernel
theorem dX4_list_22 : decode cX4_list 22 = .ok (.if_icmp .ge 7, 3) := by decide +kernel
theorem dX4_list_25 : decode cX4_list 25 = .ok (.iload_n 3, 1) := by decide +kernel
theorem dX4_list_26 : decode cX4_list 26 = .ok (.ifCond .ge 6, 3) := by decide +kernel
theorem dX4_list_29 : decode cX4_list 29 = .ok (.bipush (-2), 2) := by decide +kernel
theorem dX4_list_31 : decode cX4_list 31 = .ok (.ireturn, 1) := by decide +kernel
theorem dX4_list_32 : decode cX4_list 32 = .ok (.iload_n 3, 1) := by decide +kernel
theorem dX4_list_33 : decode cX4_list 33 = .ok (.aload 4, 2) := by decide +kernel
theorem dX4_list_35 : decode cX4_list 35 = .ok (.getfield 167, 3) := by decide +kernel
theorem dX4_list_38 : decode cX4_list 38 = .ok (.iload_n 2, 1) := by decide +kernel
theorem dX4_list_39 : decode cX4_list 39 = .ok (.iaload, 1) := by decide +kernel
theorem dX4_list_40 : decode cX4_list 40 = .ok (.if_icmp .ge 15, 3) := by decide +kernel
theorem dX4_list_43 : decode cX4_list 43 = .ok (.aload 4, 2) := by decide +kernel
theorem dX4_list_45 : decode cX4_list 45 = .ok (.getfield 170, 3) := by decide +kernel
theorem dX4_list_48 : decode cX4_list 48 = .ok (.iload_n 2, 1) := by decide +kernel
theorem dX4_list_49 : decode cX4_list 49 = .ok (.aaload, 1) := by decide +kernel
theorem dX4_list_50 : decode cX4_list 50 = .ok (.iload_n 3, 1) := by decide +kernel
theorem dX4_list_51 : decode cX4_list 51 = .ok (.iaload, 1) := by decide +kernel
theorem dX4_list_52 : decode cX4_list 52 = .ok (.goto 4, 3) := by decide +kernel
theorem dX4_list_55 : decode cX4_list 55 = .ok (.iconst (-1), 1) := by decide +kernel
theorem dX4_list_56 : decode cX4_list 56 = .ok (.ireturn, 1) := by decide +kernel
theorem dX4_same_0 : decode cX4_same 0 = .ok (.aload_n 0, 1) := by decide +kernel
theorem dX4_same_1 : decode cX4_same 1 = .ok (.iload_n 1, 1) := by decide +kernel
theorem dX4_same_2 : decode cX4_same 2 = .ok (.invokevirtual 125, 3) := by decide +kernel
theorem dX4_same_5 : decode cX4_same 5 = .ok (.astore_n 3, 1) := by decide +kernel
theorem dX4_same_6 : decode cX4_same 6 = .ok (.aload_n 0, 1) := by decide +kernel
theorem dX4_same_7 : decode cX4_same 7 = .ok (.iload_n 2, 1) := by decide +kernel
theorem dX4_same_8 : decode cX4_same 8 = .ok (.invokevirtual 125, 3) := by decide +kernel
theorem dX4_same_11 : decode cX4_same 11 = .ok (.astore 4, 2) := by decide +kernel
theorem dX4_same_13 : decode cX4_same 13 = .ok (.aload_n 3, 1) := by decide +kernel
theorem dX4_same_14 : decode cX4_same 14 = .ok (.ifnull 21, 3) := by decide +kernel
theorem dX4_same_17 : decode cX4_same 17 = .ok (.aload 4, 2) := by decide +kernel
theorem dX4_same_19 : decode cX4_same 19 = .ok (.ifnull 16, 3) := by decide +kernel
theorem dX4_same_22 : decode cX4_same 22 = .ok (.aload_n 3, 1) := by decide +kernel
theorem dX4_same_23 : decode cX4_same 23 = .ok (.aload 4, 2) := by decide +kernel
theorem dX4_same_25 : decode cX4_same 25 = .ok (.invokevirtual 174, 3) := by decide +kernel
theorem dX4_same_28 : decode cX4_same 28 = .ok (.ifCond .eq 7, 3) := by decide +kernel
theorem dX4_same_31 : decode cX4_same 31 = .ok (.iconst 1, 1) := by decide +kernel
theorem dX4_same_32 : decode cX4_same 32 = .ok (.goto 4, 3) := by decide +kernel
theorem dX4_same_35 : decode cX4_same 35 = .ok (.iconst 0, 1) := by decide +kernel
theorem dX4_same_36 : decode cX4_same 36 = .ok (.ireturn, 1) := by decide +kernel
theorem dX4_partTold_0 : decode cX4_partTold 0 = .ok (.aload_n 0, 1) := by decide +kernel
theorem dX4_partTold_1 : decode cX4_partTold 1 = .ok (.getfield 24, 3) := by decide +kernel
theorem dX4_partTold_4 : decode cX4_partTold 4 = .ok (.iload_n 1, 1) := by decide +kernel
theorem dX4_partTold_5 : decode cX4_partTold 5 = .ok (.invokevirtual 177, 3) := by decide +kernel
theorem dX4_partTold_8 : decode cX4_partTold 8 = .ok (.ifCond .ne 6, 3) := by decide +kernel
theorem dX4_partTold_11 : decode cX4_partTold 11 = .ok (.bipush (-2), 2) := by decide +kernel
theorem dX4_partTold_13 : decode cX4_partTold 13 = .ok (.ireturn, 1) := by decide +kernel
theorem dX4_partTold_14 : decode cX4_partTold 14 = .ok (.iload_n 2, 1) := by decide +kernel
theorem dX4_partTold_15 : decode cX4_partTold 15 = .ok (.tableswitch 89 0 4 #[33, 43, 53, 59, 83], 33) := by decide +kernel
theorem dX4_partTold_48 : decode cX4_partTold 48 = .ok (.aload_n 0, 1) := by decide +kernel
theorem dX4_partTold_49 : decode cX4_partTold 49 = .ok (.getfield 24, 3) := by decide +kernel
theorem dX4_partTold_52 : decode cX4_partTold 52 = .ok (.getfield 180, 3) := by decide +kernel
theorem dX4_partTold_55 : decode cX4_partTold 55 = .ok (.iload_n 1, 1) := by decide +kernel
theorem dX4_partTold_56 : decode cX4_partTold 56 = .ok (.iaload, 1) := by decide +kernel
theorem dX4_partTold_57 : decode cX4_partTold 57 = .ok (.ireturn, 1) := by decide +kernel
theorem dX4_partTold_58 : decode cX4_partTold 58 = .ok (.aload_n 0, 1) := by decide +kernel
theorem dX4_partTold_59 : decode cX4_partTold 59 = .ok (.getfield 24, 3) := by decide +kernel
theorem dX4_partTold_62 : decode cX4_partTold 62 = .ok (.getfield 181, 3) := by decide +kernel
theorem dX4_partTold_65 : decode cX4_partTold 65 = .ok (.iload_n 1, 1) := by decide +kernel
theorem dX4_partTold_66 : decode cX4_partTold 66 = .ok (.iaload, 1) := by decide +kernel
theorem dX4_partTold_67 : decode cX4_partTold 67 = .ok (.ireturn, 1) := by decide +kernel
theorem dX4_partTold_68 : decode cX4_partTold 68 = .ok (.aload_n 0, 1) := by decide +kernel
theorem dX4_partTold_69 : decode cX4_partTold 69 = .ok (.iload_n 1, 1) := by decide +kernel
theorem dX4_partTold_70 : decode cX4_partTold 70 = .ok (.invokevirtual 184, 3) := by decide +kernel
theorem dX4_partTold_73 : decode cX4_partTold 73 = .ok (.ireturn, 1) := by decide +kernel
theorem dX4_partTold_74 : decode cX4_partTold 74 = .ok (.aload_n 0, 1) := by decide +kernel
theorem dX4_partTold_75 : decode cX4_partTold 75 = .ok (.getfield 24, 3) := by decide +kernel
theorem dX4_partTold_78 : decode cX4_partTold 78 = .ok (.iload_n 1, 1) := by decide +kernel
theorem dX4_partTold_79 : decode cX4_partTold 79 = .ok (.aload_n 0, 1) := by decide +kernel
theorem dX4_partTold_80 : decode cX4_partTold 80 = .ok (.getfield 24, 3) := by decide +kernel
theorem dX4_partTold_83 : decode cX4_partTold 83 = .ok (.getfield 187, 3) := by decide +kernel
theorem dX4_partTold_86 : decode cX4_partTold 86 = .ok (.invokevirtual 191, 3) := by decide +kernel
theorem dX4_partTold_89 : decode cX4_partTold 89 = .ok (.ifCond .eq 7, 3) := by decide +kernel
theorem dX4_partTold_92 : decode cX4_partTold 92 = .ok (.iconst 0, 1) := by decide +kernel
theorem dX4_partTold_93 : decode cX4_partTold 93 = .ok (.goto 4, 3) := by decide +kernel
theorem dX4_partTold_96 : decode cX4_partTold 96 = .ok (.iconst 1, 1) := by decide +kernel
theorem dX4_partTold_97 : decode cX4_partTold 97 = .ok (.ireturn, 1) := by decide +kernel
theorem dX4_partTold_98 : decode cX4_partTold 98 = .ok (.aload_n 0, 1) := by decide +kernel
theorem dX4_partTold_99 : decode cX4_partTold 99 = .ok (.iload_n 1, 1) := by decide +kernel
theorem dX4_partTold_100 : decode cX4_partTold 100 = .ok (.invokevirtual 195, 3) := by decide +kernel
theorem dX4_partTold_103 : decode cX4_partTold 103 = .ok (.ireturn, 1) := by decide +kernel
theorem dX4_partTold_104 : decode cX4_partTold 104 = .ok (.bipush (-2), 2) := by decide +kernel
theorem dX4_partTold_106 : decode cX4_partTold 106 = .ok (.ireturn, 1) := by decide +kernel
theorem dX4_partByte_0 : decode cX4_partByte 0 = .ok (.aload_n 0, 1) := by decide +kernel
theorem dX4_partByte_1 : decode cX4_partByte 1 = .ok (.iload_n 2, 1) := by decide +kernel
theorem dX4_partByte_2 : decode cX4_partByte 2 = .ok (.invokevirtual 198, 3) := by decide +kernel
theorem dX4_partByte_5 : decode cX4_partByte 5 = .ok (.astore 4, 2) := by decide +kernel
theorem dX4_partByte_7 : decode cX4_partByte 7 = .ok (.aload 4, 2) := by decide +kernel
theorem dX4_partByte_9 : decode cX4_partByte 9 = .ok (.ifnull 17, 3) := by decide +kernel
theorem dX4_partByte_12 : decode cX4_partByte 12 = .ok (.aload_n 0, 1) := by decide +kernel
theorem dX4_partByte_13 : decode cX4_partByte 13 = .ok (.getfield 24, 3) := by decide +kernel
theorem dX4_partByte_16 : decode cX4_partByte 16 = .ok (.iload_n 1, 1) := by decide +kernel
theorem dX4_partByte_17 : decode cX4_partByte 17 = .ok (.aload 4, 2) := by decide +kernel
theorem dX4_partByte_19 : decode cX4_partByte 19 = .ok (.iload_n 3, 1) := by decide +kernel
theorem dX4_partByte_20 : decode cX4_partByte 20 = .ok (.invokevirtual 202, 3) := by decide +kernel
theorem dX4_partByte_23 : decode cX4_partByte 23 = .ok (.ifCond .ne 6, 3) := by decide +kernel
theorem dX4_partByte_26 : decode cX4_partByte 26 = .ok (.bipush (-2), 2) := by decide +kernel
theorem dX4_partByte_28 : decode cX4_partByte 28 = .ok (.ireturn, 1) := by decide +kernel
theorem dX4_partByte_29 : decode cX4_partByte 29 = .ok (.aload 4, 2) := by decide +kernel
theorem dX4_partByte_31 : decode cX4_partByte 31 = .ok (.getfield 206, 3) := by decide +kernel
theorem dX4_partByte_34 : decode cX4_partByte 34 = .ok (.iload_n 1, 1) := by decide +kernel
theorem dX4_partByte_35 : decode cX4_partByte 35 = .ok (.bipush 32, 2) := by decide +kernel
theorem dX4_partByte_37 : decode cX4_partByte 37 = .ok (.imul, 1) := by decide +kernel
theorem dX4_partByte_38 : decode cX4_partByte 38 = .ok (.iload_n 3, 1) := by decide +kernel
theorem dX4_partByte_39 : decode cX4_partByte 39 = .ok (.iadd, 1) := by decide +kernel
theorem dX4_partByte_40 : decode cX4_partByte 40 = .ok (.iaload, 1) := by decide +kernel
theorem dX4_partByte_41 : decode cX4_partByte 41 = .ok (.ireturn, 1) := by decide +kernel
theorem dX4_alter_0 : decode cX4_alter 0 = .ok (.aload_n 0, 1) := by decide +kernel
theorem dX4_alter_1 : decode cX4_alter 1 = .ok (.iload_n 2, 1) := by decide +kernel
theorem dX4_alter_2 : decode cX4_alter 2 = .ok (.invokevirtual 198, 3) := by decide +kernel
theorem dX4_alter_5 : decode cX4_alter 5 = .ok (.astore 5, 2) := by decide +kernel
theorem dX4_alter_7 : decode cX4_alter 7 = .ok (.aload 5, 2) := by decide +kernel
theorem dX4_alter_9 : decode cX4_alter 9 = .ok (.ifnull 30, 3) := by decide +kernel
theorem dX4_alter_12 : decode cX4_alter 12 = .ok (.aload_n 0, 1) := by decide +kernel
theorem dX4_alter_13 : decode cX4_alter 13 = .ok (.getfield 24, 3) := by decide +kernel
theorem dX4_alter_16 : decode cX4_alter 16 = .ok (.iload_n 1, 1) := by decide +kernel
theorem dX4_alter_17 : decode cX4_alter 17 = .ok (.aload 5, 2) := by decide +kernel
theorem dX4_alter_19 : decode cX4_alter 19 = .ok (.iload_n 3, 1) := by decide +kernel
theorem dX4_alter_20 : decode cX4_alter 20 = .ok (.invokevirtual 202, 3) := by decide +kernel
theorem dX4_alter_23 : decode cX4_alter 23 = .ok (.ifCond .eq 16, 3) := by decide +kernel
theorem dX4_alter_26 : decode cX4_alter 26 = .ok (.iload 4, 2) := by decide +kernel
theorem dX4_alter_28 : decode cX4_alter 28 = .ok (.ifCond .lt 11, 3) := by decide +kernel
theorem dX4_alter_31 : decode cX4_alter 31 = .ok (.iload 4, 2) := by decide +kernel
theorem dX4_alter_33 : decode cX4_alter 33 = .ok (.sipush 255, 3) := by decide +kernel
theorem dX4_alter_36 : decode cX4_alter 36 = .ok (.if_icmp .le 6, 3) := by decide +kernel
theorem dX4_alter_39 : decode cX4_alter 39 = .ok (.bipush (-2), 2) := by decide +kernel
theorem dX4_alter_41 : decode cX4_alter 41 = .ok (.ireturn, 1) := by decide +kernel
theorem dX4_alter_42 : decode cX4_alter 42 = .ok (.aload 5, 2) := by decide +kernel
theorem dX4_alter_44 : decode cX4_alter 44 = .ok (.getfield 206, 3) := by decide +kernel
theorem dX4_alter_47 : decode cX4_alter 47 = .ok (.iload_n 1, 1) := by decide +kernel
theorem dX4_alter_48 : decode cX4_alter 48 = .ok (.bipush 32, 2) := by decide +kernel
theorem dX4_alter_50 : decode cX4_alter 50 = .ok (.imul, 1) := by decide +kernel
theorem dX4_alter_51 : decode cX4_alter 51 = .ok (.iload_n 3, 1) := by decide +kernel
theorem dX4_alter_52 : decode cX4_alter 52 = .ok (.iadd, 1) := by decide +kernel
theorem dX4_alter_53 : decode cX4_alter 53 = .ok (.dup2, 1) := by decide +kernel
theorem dX4_alter_54 : decode cX4_alter 54 = .ok (.iaload, 1) := by decide +kernel
theorem dX4_alter_55 : decode cX4_alter 55 = .ok (.iload 4, 2) := by decide +kernel
theorem dX4_alter_57 : decode cX4_alter 57 = .ok (.ixor, 1) := by decide +kernel
theorem dX4_alter_58 : decode cX4_alter 58 = .ok (.iastore, 1) := by decide +kernel
theorem dX4_alter_59 : decode cX4_alter 59 = .ok (.aload 5, 2) := by decide +kernel
theorem dX4_alter_61 : decode cX4_alter 61 = .ok (.getfield 206, 3) := by decide +kernel
theorem dX4_alter_64 : decode cX4_alter 64 = .ok (.iload_n 1, 1) := by decide +kernel
theorem dX4_alter_65 : decode cX4_alter 65 = .ok (.bipush 32, 2) := by decide +kernel
theorem dX4_alter_67 : decode cX4_alter 67 = .ok (.imul, 1) := by decide +kernel
theorem dX4_alter_68 : decode cX4_alter 68 = .ok (.iload_n 3, 1) := by decide +kernel
theorem dX4_alter_69 : decode cX4_alter 69 = .ok (.iadd, 1) := by decide +kernel
theorem dX4_alter_70 : decode cX4_alter 70 = .ok (.iaload, 1) := by decide +kernel
theorem dX4_alter_71 : decode cX4_alter 71 = .ok (.ireturn, 1) := by decide +kernel
theorem dX4_lose_0 : decode cX4_lose 0 = .ok (.aload_n 0, 1) := by decide +kernel
theorem dX4_lose_1 : decode cX4_lose 1 = .ok (.iload_n 2, 1) := by decide +kernel
theorem dX4_lose_2 : decode cX4_lose 2 = .ok (.invokevirtual 198, 3) := by decide +kernel
theorem dX4_lose_5 : decode cX4_lose 5 = .ok (.astore_n 3, 1) := by decide +kernel
theorem dX4_lose_6 : decode cX4_lose 6 = .ok (.aload_n 3, 1) := by decide +kernel
theorem dX4_lose_7 : decode cX4_lose 7 = .ok (.ifnull 23, 3) := by decide +kernel
theorem dX4_lose_10 : decode cX4_lose 10 = .ok (.aload_n 0, 1) := by decide +kernel
theorem dX4_lose_11 : decode cX4_lose 11 = .ok (.getfield 24, 3) := by decide +kernel
theorem dX4_lose_14 : decode cX4_lose 14 = .ok (.iload_n 1, 1) := by decide +kernel
theorem dX4_lose_15 : decode cX4_lose 15 = .ok (.invokevirtual 177, 3) := by decide +kernel
theorem dX4_lose_18 : decode cX4_lose 18 = .ok (.ifCond .eq 12, 3) := by decide +kernel
theorem dX4_lose_21 : decode cX4_lose 21 = .ok (.aload_n 3, 1) := by decide +kernel
theorem dX4_lose_22 : decode cX4_lose 22 = .ok (.getfield 207, 3) := by decide +kernel
theorem dX4_lose_25 : decode cX4_lose 25 = .ok (.iload_n 1, 1) := by decide +kernel
theorem dX4_lose_26 : decode cX4_lose 26 = .ok (.baload, 1) := by decide +kernel
theorem dX4_lose_27 : decode cX4_lose 27 = .ok (.ifCond .ne 6, 3) := by decide +kernel
theorem dX4_lose_30 : decode cX4_lose 30 = .ok (.bipush (-2), 2) := by decide +kernel
theorem dX4_lose_32 : decode cX4_lose 32 = .ok (.ireturn, 1) := by decide +kernel
theorem dX4_lose_33 : decode cX4_lose 33 = .ok (.aload_n 3, 1) := by decide +kernel
theorem dX4_lose_34 : decode cX4_lose 34 = .ok (.getfield 207, 3) := by decide +kernel
theorem dX4_lose_37 : decode cX4_lose 37 = .ok (.iload_n 1, 1) := by decide +kernel
theorem dX4_lose_38 : decode cX4_lose 38 = .ok (.iconst 0, 1) := by decide +kernel
theorem dX4_lose_39 : decode cX4_lose 39 = .ok (.bastore, 1) := by decide +kernel
theorem dX4_lose_40 : decode cX4_lose 40 = .ok (.iconst 1, 1) := by decide +kernel
theorem dX4_lose_41 : decode cX4_lose 41 = .ok (.ireturn, 1) := by decide +kernel
theorem dX4_told_0 : decode cX4_told 0 = .ok (.iload_n 1, 1) := by decide +kernel
theorem dX4_told_1 : decode cX4_told 1 = .ok (.tableswitch 105 0 8 #[51, 56, 61, 66, 74, 82, 87, 95, 100], 51) := by decide +kernel
theorem dX4_told_52 : decode cX4_told 52 = .ok (.aload_n 0, 1) := by decide +kernel
theorem dX4_told_53 : decode cX4_told 53 = .ok (.getfield 42, 3) := by decide +kernel
theorem dX4_told_56 : decode cX4_told 56 = .ok (.ireturn, 1) := by decide +kernel
theorem dX4_told_57 : decode cX4_told 57 = .ok (.aload_n 0, 1) := by decide +kernel
theorem dX4_told_58 : decode cX4_told 58 = .ok (.invokevirtual 210, 3) := by decide +kernel
theorem dX4_told_61 : decode cX4_told 61 = .ok (.ireturn, 1) := by decide +kernel
theorem dX4_told_62 : decode cX4_told 62 = .ok (.aload_n 0, 1) := by decide +kernel
theorem dX4_told_63 : decode cX4_told 63 = .ok (.getfield 46, 3) := by decide +kernel
theorem dX4_told_66 : decode cX4_told 66 = .ok (.ireturn, 1) := by decide +kernel
theorem dX4_told_67 : decode cX4_told 67 = .ok (.aload_n 0, 1) := by decide +kernel
theorem dX4_told_68 : decode cX4_told 68 = .ok (.getfield 24, 3) := by decide +kernel
theorem dX4_told_71 : decode cX4_told 71 = .ok (.getfield 213, 3) := by decide +kernel
theorem dX4_told_74 : decode cX4_told 74 = .ok (.ireturn, 1) := by decide +kernel
theorem dX4_told_75 : decode cX4_told 75 = .ok (.aload_n 0, 1) := by decide +kernel
theorem dX4_told_76 : decode cX4_told 76 = .ok (.getfield 24, 3) := by decide +kernel
theorem dX4_told_79 : decode cX4_told 79 = .ok (.getfield 216, 3) := by decide +kernel
theorem dX4_told_82 : decode cX4_told 82 = .ok (.ireturn, 1) := by decide +kernel
theorem dX4_told_83 : decode cX4_told 83 = .ok (.aload_n 0, 1) := by decide +kernel
theorem dX4_told_84 : decode cX4_told 84 = .ok (.getfield 49, 3) := by decide +kernel
theorem dX4_told_87 : decode cX4_told 87 = .ok (.ireturn, 1) := by decide +kernel
theorem dX4_told_88 : decode cX4_told 88 = .ok (.aload_n 0, 1) := by decide +kernel
theorem dX4_told_89 : decode cX4_told 89 = .ok (.getfield 24, 3) := by decide +kernel
theorem dX4_told_92 : decode cX4_told 92 = .ok (.invokevirtual 219, 3) := by decide +kernel
theorem dX4_told_95 : decode cX4_told 95 = .ok (.ireturn, 1) := by decide +kernel
theorem dX4_told_96 : decode cX4_told 96 = .ok (.aload_n 0, 1) := by decide +kernel
theorem dX4_told_97 : decode cX4_told 97 = .ok (.invokevirtual 222, 3) := by decide +kernel
theorem dX4_told_100 : decode cX4_told 100 = .ok (.ireturn, 1) := by decide +kernel
theorem dX4_told_101 : decode cX4_told 101 = .ok (.aload_n 0, 1) := by decide +kernel
theorem dX4_told_102 : decode cX4_told 102 = .ok (.invokevirtual 80, 3) := by decide +kernel
theorem dX4_told_105 : decode cX4_told 105 = .ok (.ireturn, 1) := by decide +kernel
theorem dX4_told_106 : decode cX4_told 106 = .ok (.bipush (-2), 2) := by decide +kernel
theorem dX4_told_108 : decode cX4_told 108 = .ok (.ireturn, 1) := by decide +kernel
theorem dX4_isTask_0 : decode cX4_isTask 0 = .ok (.iload_n 1, 1) := by decide +kernel
theorem dX4_isTask_1 : decode cX4_isTask 1 = .ok (.ifCond .lt 15, 3) := by decide +kernel
theorem dX4_isTask_4 : decode cX4_isTask 4 = .ok (.iload_n 1, 1) := by decide +kernel
theorem dX4_isTask_5 : decode cX4_isTask 5 = .ok (.aload_n 0, 1) := by decide +kernel
theorem dX4_isTask_6 : decode cX4_isTask 6 = .ok (.getfield 42, 3) := by decide +kernel
theorem dX4_isTask_9 : decode cX4_isTask 9 = .ok (.if_icmp .ge 7, 3) := by decide +kernel
theorem dX4_isTask_12 : decode cX4_isTask 12 = .ok (.iconst 1, 1) := by decide +kernel
theorem dX4_isTask_13 : decode cX4_isTask 13 = .ok (.goto 4, 3) := by decide +kernel
theorem dX4_isTask_16 : decode cX4_isTask 16 = .ok (.iconst 0, 1) := by decide +kernel
theorem dX4_isTask_17 : decode cX4_isTask 17 = .ok (.ireturn, 1) := by decide +kernel
theorem dX4_totalStateBytes_0 : decode cX4_totalStateBytes 0 = .ok (.iconst 0, 1) := by decide +kernel
theorem dX4_totalStateBytes_1 : decode cX4_totalStateBytes 1 = .ok (.istore_n 1, 1) := by decide +kernel
theorem dX4_totalStateBytes_2 : decode cX4_totalStateBytes 2 = .ok (.iconst 0, 1) := by decide +kernel
theorem dX4_totalStateBytes_3 : decode cX4_totalStateBytes 3 = .ok (.istore_n 2, 1) := by decide +kernel
theorem dX4_totalStateBytes_4 : decode cX4_totalStateBytes 4 = .ok (.iload_n 2, 1) := by decide +kernel
theorem dX4_totalStateBytes_5 : decode cX4_totalStateBytes 5 = .ok (.aload_n 0, 1) := by decide +kernel
theorem dX4_totalStateBytes_6 : decode cX4_totalStateBytes 6 = .ok (.getfield 42, 3) := by decide +kernel
theorem dX4_totalStateBytes_9 : decode cX4_totalStateBytes 9 = .ok (.if_icmp .ge 21, 3) := by decide +kernel
theorem dX4_totalStateBytes_12 : decode cX4_totalStateBytes 12 = .ok (.iload_n 1, 1) := by decide +kernel
theorem dX4_totalStateBytes_13 : decode cX4_totalStateBytes 13 = .ok (.aload_n 0, 1) := by decide +kernel
theorem dX4_totalStateBytes_14 : decode cX4_totalStateBytes 14 = .ok (.getfield 11, 3) := by decide +kernel
theorem dX4_totalStateBytes_17 : decode cX4_totalStateBytes 17 = .ok (.iload_n 2, 1) := by decide +kernel
theorem dX4_totalStateBytes_18 : decode cX4_totalStateBytes 18 = .ok (.aaload, 1) := by decide +kernel
theorem dX4_totalStateBytes_19 : decode cX4_totalStateBytes 19 = .ok (.getfield 59, 3) := by decide +kernel
theorem dX4_totalStateBytes_22 : decode cX4_totalStateBytes 22 = .ok (.iadd, 1) := by decide +kernel
theorem dX4_totalStateBytes_23 : decode cX4_totalStateBytes 23 = .ok (.istore_n 1, 1) := by decide +kernel
theorem dX4_totalStateBytes_24 : decode cX4_totalStateBytes 24 = .ok (.iinc 2 1, 3) := by decide +kernel
theorem dX4_totalStateBytes_27 : decode cX4_totalStateBytes 27 = .ok (.goto (-23), 3) := by decide +kernel
theorem dX4_totalStateBytes_30 : decode cX4_totalStateBytes 30 = .ok (.iload_n 1, 1) := by decide +kernel
theorem dX4_totalStateBytes_31 : decode cX4_totalStateBytes 31 = .ok (.ireturn, 1) := by decide +kernel
theorem dX4_joinStates_0 : decode cX4_joinStates 0 = .ok (.iconst 0, 1) := by decide +kernel
theorem dX4_joinStates_1 : decode cX4_joinStates 1 = .ok (.istore_n 1, 1) := by decide +kernel
theorem dX4_joinStates_2 : decode cX4_joinStates 2 = .ok (.iconst 0, 1) := by decide +kernel
theorem dX4_joinStates_3 : decode cX4_joinStates 3 = .ok (.istore_n 2, 1) := by decide +kernel
theorem dX4_joinStates_4 : decode cX4_joinStates 4 = .ok (.iload_n 2, 1) := by decide +kernel
theorem dX4_joinStates_5 : decode cX4_joinStates 5 = .ok (.aload_n 0, 1) := by decide +kernel
theorem dX4_joinStates_6 : decode cX4_joinStates 6 = .ok (.getfield 42, 3) := by decide +kernel
theorem dX4_joinStates_9 : decode cX4_joinStates 9 = .ok (.if_icmp .ge 48, 3) := by decide +kernel
theorem dX4_joinStates_12 : decode cX4_joinStates 12 = .ok (.aload_n 0, 1) := by decide +kernel
theorem dX4_joinStates_13 : decode cX4_joinStates 13 = .ok (.getfield 11, 3) := by decide +kernel
theorem dX4_joinStates_16 : decode cX4_joinStates 16 = .ok (.iload_n 2, 1) := by decide +kernel
theorem dX4_joinStates_17 : decode cX4_joinStates 17 = .ok (.aaload, 1) := by decide +kernel
theorem dX4_joinStates_18 : decode cX4_joinStates 18 = .ok (.getfield 66, 3) := by decide +kernel
theorem dX4_joinStates_21 : decode cX4_joinStates 21 = .ok (.iconst 0, 1) := by decide +kernel
theorem dX4_joinStates_22 : decode cX4_joinStates 22 = .ok (.aload_n 0, 1) := by decide +kernel
theorem dX4_joinStates_23 : decode cX4_joinStates 23 = .ok (.getfield 34, 3) := by decide +kernel
theorem dX4_joinStates_26 : decode cX4_joinStates 26 = .ok (.iload_n 1, 1) := by decide +kernel
theorem dX4_joinStates_27 : decode cX4_joinStates 27 = .ok (.aload_n 0, 1) := by decide +kernel
theorem dX4_joinStates_28 : decode cX4_joinStates 28 = .ok (.getfield 11, 3) := by decide +kernel
theorem dX4_joinStates_31 : decode cX4_joinStates 31 = .ok (.iload_n 2, 1) := by decide +kernel
theorem dX4_joinStates_32 : decode cX4_joinStates 32 = .ok (.aaload, 1) := by decide +kernel
theorem dX4_joinStates_33 : decode cX4_joinStates 33 = .ok (.getfield 59, 3) := by decide +kernel
theorem dX4_joinStates_36 : decode cX4_joinStates 36 = .ok (.invokestatic 225, 3) := by decide +kernel
theorem dX4_joinStates_39 : decode cX4_joinStates 39 = .ok (.iload_n 1, 1) := by decide +kernel
theorem dX4_joinStates_40 : decode cX4_joinStates 40 = .ok (.aload_n 0, 1) := by decide +kernel
theorem dX4_joinStates_41 : decode cX4_joinStates 41 = .ok (.getfield 11, 3) := by decide +kernel
theorem dX4_joinStates_44 : decode cX4_joinStates 44 = .ok (.iload_n 2, 1) := by decide +kernel
theorem dX4_joinStates_45 : decode cX4_joinStates 45 = .ok (.aaload, 1) := by decide +kernel
theorem dX4_joinStates_46 : decode cX4_joinStates 46 = .ok (.getfield 59, 3) := by decide +kernel
theorem dX4_joinStates_49 : decode cX4_joinStates 49 = .ok (.iadd, 1) := by decide +kernel
theorem dX4_joinStates_50 : decode cX4_joinStates 50 = .ok (.istore_n 1, 1) := by decide +kernel
theorem dX4_joinStates_51 : decode cX4_joinStates 51 = .ok (.iinc 2 1, 3) := by decide +kernel
theorem dX4_joinStates_54 : decode cX4_joinStates 54 = .ok (.goto (-50), 3) := by decide +kernel
theorem dX4_joinStates_57 : decode cX4_joinStates 57 = .ok (.return_, 1) := by decide +kernel
theorem dX4_becomeTasks_0 : decode cX4_becomeTasks 0 = .ok (.iload_n 1, 1) := by decide +kernel
theorem dX4_becomeTasks_1 : decode cX4_becomeTasks 1 = .ok (.istore_n 2, 1) := by decide +kernel
theorem dX4_becomeTasks_2 : decode cX4_becomeTasks 2 = .ok (.iload_n 2, 1) := by decide +kernel
theorem dX4_becomeTasks_3 : decode cX4_becomeTasks 3 = .ok (.aload_n 0, 1) := by decide +kernel
theorem dX4_becomeTasks_4 : decode cX4_becomeTasks 4 = .ok (.getfield 42, 3) := by decide +kernel
theorem dX4_becomeTasks_7 : decode cX4_becomeTasks 7 = .ok (.if_icmp .ge 18, 3) := by decide +kernel
theorem dX4_becomeTasks_10 : decode cX4_becomeTasks 10 = .ok (.aload_n 0, 1) := by decide +kernel
theorem dX4_becomeTasks_11 : decode cX4_becomeTasks 11 = .ok (.getfield 17, 3) := by decide +kernel
theorem dX4_becomeTasks_14 : decode cX4_becomeTasks 14 = .ok (.iload_n 2, 1) := by decide +kernel
theorem dX4_becomeTasks_15 : decode cX4_becomeTasks 15 = .ok (.aaload, 1) := by decide +kernel
theorem dX4_becomeTasks_16 : decode cX4_becomeTasks 16 = .ok (.invokevirtual 231, 3) := by decide +kernel
theorem dX4_becomeTasks_19 : decode cX4_becomeTasks 19 = .ok (.iinc 2 1, 3) := by decide +kernel
theorem dX4_becomeTasks_22 : decode cX4_becomeTasks 22 = .ok (.goto (-20), 3) := by decide +kernel
theorem dX4_becomeTasks_25 : decode cX4_becomeTasks 25 = .ok (.aload_n 0, 1) := by decide +kernel
theorem dX4_becomeTasks_26 : decode cX4_becomeTasks 26 = .ok (.iload_n 1, 1) := by decide +kernel
theorem dX4_becomeTasks_27 : decode cX4_becomeTasks 27 = .ok (.putfield 42, 3) := by decide +kernel
theorem dX4_becomeTasks_30 : decode cX4_becomeTasks 30 = .ok (.return_, 1) := by decide +kernel
theorem dX4_shareStart_0 : decode cX4_shareStart 0 = .ok (.iload_n 0, 1) := by decide +kernel
theorem dX4_shareStart_1 : decode cX4_shareStart 1 = .ok (.iload_n 1, 1) := by decide +kernel
theorem dX4_shareStart_2 : decode cX4_shareStart 2 = .ok (.imul, 1) := by decide +kernel
theorem dX4_shareStart_3 : decode cX4_shareStart 3 = .ok (.iload_n 2, 1) := by decide +kernel
theorem dX4_shareStart_4 : decode cX4_shareStart 4 = .ok (.idiv, 1) := by decide +kernel
theorem dX4_shareStart_5 : decode cX4_shareStart 5 = .ok (.ireturn, 1) := by decide +kernel
theorem dX4_storeStates_0 : decode cX4_storeStates 0 = .ok (.aload_n 0, 1) := by decide +kernel
theorem dX4_storeStates_1 : decode cX4_storeStates 1 = .ok (.getfield 24, 3) := by decide +kernel
theorem dX4_storeStates_4 : decode cX4_storeStates 4 = .ok (.invokevirtual 234, 3) := by decide +kernel
theorem dX4_storeStates_7 : decode cX4_storeStates 7 = .ok (.iconst 0, 1) := by decide +kernel
theorem dX4_storeStates_8 : decode cX4_storeStates 8 = .ok (.istore_n 2, 1) := by decide +kernel
theorem dX4_storeStates_9 : decode cX4_storeStates 9 = .ok (.iload_n 2, 1) := by decide +kernel
theorem dX4_storeStates_10 : decode cX4_storeStates 10 = .ok (.aload_n 0, 1) := by decide +kernel
theorem dX4_storeStates_11 : decode cX4_storeStates 11 = .ok (.getfield 42, 3) := by decide +kernel
theorem dX4_storeStates_14 : decode cX4_storeStates 14 = .ok (.if_icmp .ge 27, 3) := by decide +kernel
theorem dX4_storeStates_17 : decode cX4_storeStates 17 = .ok (.aload_n 0, 1) := by decide +kernel
theorem dX4_storeStates_18 : decode cX4_storeStates 18 = .ok (.aload_n 1, 1) := by decide +kernel
theorem dX4_storeStates_19 : decode cX4_storeStates 19 = .ok (.iload_n 2, 1) := by decide +kernel
theorem dX4_storeStates_20 : decode cX4_storeStates 20 = .ok (.invokevirtual 237, 3) := by decide +kernel
theorem dX4_storeStates_23 : decode cX4_storeStates 23 = .ok (.ifCond .ne 12, 3) := by decide +kernel
theorem dX4_storeStates_26 : decode cX4_storeStates 26 = .ok (.aload_n 0, 1) := by decide +kernel
theorem dX4_storeStates_27 : decode cX4_storeStates 27 = .ok (.getfield 24, 3) := by decide +kernel
theorem dX4_storeStates_30 : decode cX4_storeStates 30 = .ok (.invokevirtual 241, 3) := by decide +kernel
theorem dX4_storeStates_33 : decode cX4_storeStates 33 = .ok (.iconst 0, 1) := by decide +kernel
theorem dX4_storeStates_34 : decode cX4_storeStates 34 = .ok (.ireturn, 1) := by decide +kernel
theorem dX4_storeStates_35 : decode cX4_storeStates 35 = .ok (.iinc 2 1, 3) := by decide +kernel
theorem dX4_storeStates_38 : decode cX4_storeStates 38 = .ok (.goto (-29), 3) := by decide +kernel
theorem dX4_storeStates_41 : decode cX4_storeStates 41 = .ok (.iconst 1, 1) := by decide +kernel
theorem dX4_storeStates_42 : decode cX4_storeStates 42 = .ok (.ireturn, 1) := by decide +kernel
theorem dX4_storeState_0 : decode cX4_storeState 0 = .ok (.aload_n 0, 1) := by decide +kernel
theorem dX4_storeState_1 : decode cX4_storeState 1 = .ok (.getfield 11, 3) := by decide +kernel
theorem dX4_storeState_4 : decode cX4_storeState 4 = .ok (.iload_n 2, 1) := by decide +kernel
theorem dX4_storeState_5 : decode cX4_storeState 5 = .ok (.aaload, 1) := by decide +kernel
theorem dX4_storeState_6 : decode cX4_storeState 6 = .ok (.astore_n 3, 1) := by decide +kernel
theorem dX4_storeState_7 : decode cX4_storeState 7 = .ok (.aload_n 3, 1) := by decide +kernel
theorem dX4_storeState_8 : decode cX4_storeState 8 = .ok (.invokevirtual 72, 3) := by decide +kernel
theorem dX4_storeState_11 : decode cX4_storeState 11 = .ok (.istore 4, 2) := by decide +kernel
theorem dX4_storeState_13 : decode cX4_storeState 13 = .ok (.iconst 0, 1) := by decide +kernel
theorem dX4_storeState_14 : decode cX4_storeState 14 = .ok (.istore 5, 2) := by decide +kernel
theorem dX4_storeState_16 : decode cX4_storeState 16 = .ok (.iload 5, 2) := by decide +kernel
theorem dX4_storeState_18 : decode cX4_storeState 18 = .ok (.iload 4, 2) := by decide +kernel
theorem dX4_storeState_20 : decode cX4_storeState 20 = .ok (.if_icmp .ge 53, 3) := by decide +kernel
theorem dX4_storeState_23 : decode cX4_storeState 23 = .ok (.aload_n 0, 1) := by decide +kernel
theorem dX4_storeState_24 : decode cX4_storeState 24 = .ok (.getfield 24, 3) := by decide +kernel
theorem dX4_storeState_27 : decode cX4_storeState 27 = .ok (.aload_n 3, 1) := by decide +kernel
theorem dX4_storeState_28 : decode cX4_storeState 28 = .ok (.getfield 66, 3) := by decide +kernel
theorem dX4_storeState_31 : decode cX4_storeState 31 = .ok (.aload_n 3, 1) := by decide +kernel
theorem dX4_storeState_32 : decode cX4_storeState 32 = .ok (.iload 5, 2) := by decide +kernel
theorem dX4_storeState_34 : decode cX4_storeState 34 = .ok (.invokevirtual 244, 3) := by decide +kernel
theorem dX4_storeState_37 : decode cX4_storeState 37 = .ok (.aload_n 3, 1) := by decide +kernel
theorem dX4_storeState_38 : decode cX4_storeState 38 = .ok (.iload 5, 2) := by decide +kernel
theorem dX4_storeState_40 : decode cX4_storeState 40 = .ok (.invokevirtual 76, 3) := by decide +kernel
theorem dX4_storeState_43 : decode cX4_storeState 43 = .ok (.invokevirtual 247, 3) := by decide +kernel
theorem dX4_storeState_46 : decode cX4_storeState 46 = .ok (.istore 6, 2) := by decide +kernel
theorem dX4_storeState_48 : decode cX4_storeState 48 = .ok (.iload 6, 2) := by decide +kernel
theorem dX4_storeState_50 : decode cX4_storeState 50 = .ok (.iconst (-1), 1) := by decide +kernel
theorem dX4_storeState_51 : decode cX4_storeState 51 = .ok (.if_icmp .ne 5, 3) := by decide +kernel
theorem dX4_storeState_54 : decode cX4_storeState 54 = .ok (.iconst 0, 1) := by decide +kernel
theorem dX4_storeState_55 : decode cX4_storeState 55 = .ok (.ireturn, 1) := by decide +kernel
theorem dX4_storeState_56 : decode cX4_storeState 56 = .ok (.aload_n 1, 1) := by decide +kernel
theorem dX4_storeState_57 : decode cX4_storeState 57 = .ok (.getfield 170, 3) := by decide +kernel
theorem dX4_storeState_60 : decode cX4_storeState 60 = .ok (.iload_n 2, 1) := by decide +kernel
theorem dX4_storeState_61 : decode cX4_storeState 61 = .ok (.aaload, 1) := by decide +kernel
theorem dX4_storeState_62 : decode cX4_storeState 62 = .ok (.iload 5, 2) := by decide +kernel
theorem dX4_storeState_64 : decode cX4_storeState 64 = .ok (.iload 6, 2) := by decide +kernel
theorem dX4_storeState_66 : decode cX4_storeState 66 = .ok (.iastore, 1) := by decide +kernel
theorem dX4_storeState_67 : decode cX4_storeState 67 = .ok (.iinc 5 1, 3) := by decide +kernel
theorem dX4_storeState_70 : decode cX4_storeState 70 = .ok (.goto (-54), 3) := by decide +kernel
theorem dX4_storeState_73 : decode cX4_storeState 73 = .ok (.aload_n 1, 1) := by decide +kernel
theorem dX4_storeState_74 : decode cX4_storeState 74 = .ok (.getfield 167, 3) := by decide +kernel
theorem dX4_storeState_77 : decode cX4_storeState 77 = .ok (.iload_n 2, 1) := by decide +kernel
theorem dX4_storeState_78 : decode cX4_storeState 78 = .ok (.iload 4, 2) := by decide +kernel
theorem dX4_storeState_80 : decode cX4_storeState 80 = .ok (.iastore, 1) := by decide +kernel
theorem dX4_storeState_81 : decode cX4_storeState 81 = .ok (.aload_n 1, 1) := by decide +kernel
theorem dX4_storeState_82 : decode cX4_storeState 82 = .ok (.dup, 1) := by decide +kernel
theorem dX4_storeState_83 : decode cX4_storeState 83 = .ok (.getfield 164, 3) := by decide +kernel
theorem dX4_storeState_86 : decode cX4_storeState 86 = .ok (.aload_n 3, 1) := by decide +kernel
theorem dX4_storeState_87 : decode cX4_storeState 87 = .ok (.getfield 59, 3) := by decide +kernel
theorem dX4_storeState_90 : decode cX4_storeState 90 = .ok (.iadd, 1) := by decide +kernel
theorem dX4_storeState_91 : decode cX4_storeState 91 = .ok (.putfield 164, 3) := by decide +kernel
theorem dX4_storeState_94 : decode cX4_storeState 94 = .ok (.iconst 1, 1) := by decide +kernel
theorem dX4_storeState_95 : decode cX4_storeState 95 = .ok (.ireturn, 1) := by decide +kernel
theorem dX4_copyStates_0 : decode cX4_copyStates 0 = .ok (.iconst 0, 1) := by decide +kernel
theorem dX4_copyStates_1 : decode cX4_copyStates 1 = .ok (.istore_n 2, 1) := by decide +kernel
theorem dX4_copyStates_2 : decode cX4_copyStates 2 = .ok (.iload_n 2, 1) := by decide +kernel
theorem dX4_copyStates_3 : decode cX4_copyStates 3 = .ok (.aload_n 1, 1) := by decide +kernel
theorem dX4_copyStates_4 : decode cX4_copyStates 4 = .ok (.getfield 142, 3) := by decide +kernel
theorem dX4_copyStates_7 : decode cX4_copyStates 7 = .ok (.if_icmp .ge 86, 3) := by decide +kernel
theorem dX4_copyStates_10 : decode cX4_copyStates 10 = .ok (.iconst 0, 1) := by decide +kernel
theorem dX4_copyStates_11 : decode cX4_copyStates 11 = .ok (.istore_n 3, 1) := by decide +kernel
theorem dX4_copyStates_12 : decode cX4_copyStates 12 = .ok (.iconst 0, 1) := by decide +kernel
theorem dX4_copyStates_13 : decode cX4_copyStates 13 = .ok (.istore 4, 2) := by decide +kernel
theorem dX4_copyStates_15 : decode cX4_copyStates 15 = .ok (.iload 4, 2) := by decide +kernel
theorem dX4_copyStates_17 : decode cX4_copyStates 17 = .ok (.aload_n 1, 1) := by decide +kernel
theorem dX4_copyStates_18 : decode cX4_copyStates 18 = .ok (.getfield 167, 3) := by decide +kernel
theorem dX4_copyStates_21 : decode cX4_copyStates 21 = .ok (.iload_n 2, 1) := by decide +kernel
theorem dX4_copyStates_22 : decode cX4_copyStates 22 = .ok (.iaload, 1) := by decide +kernel
theorem dX4_copyStates_23 : decode cX4_copyStates 23 = .ok (.if_icmp .ge 64, 3) := by decide +kernel
theorem dX4_copyStates_26 : decode cX4_copyStates 26 = .ok (.aload_n 1, 1) := by decide +kernel
theorem dX4_copyStates_27 : decode cX4_copyStates 27 = .ok (.getfield 170, 3) := by decide +kernel
theorem dX4_copyStates_30 : decode cX4_copyStates 30 = .ok (.iload_n 2, 1) := by decide +kernel
theorem dX4_copyStates_31 : decode cX4_copyStates 31 = .ok (.aaload, 1) := by decide +kernel
theorem dX4_copyStates_32 : decode cX4_copyStates 32 = .ok (.iload 4, 2) := by decide +kernel
theorem dX4_copyStates_34 : decode cX4_copyStates 34 = .ok (.iaload, 1) := by decide +kernel
theorem dX4_copyStates_35 : decode cX4_copyStates 35 = .ok (.istore 5, 2) := by decide +kernel
theorem dX4_copyStates_37 : decode cX4_copyStates 37 = .ok (.aload_n 0, 1) := by decide +kernel
theorem dX4_copyStates_38 : decode cX4_copyStates 38 = .ok (.getfield 17, 3) := by decide +kernel
theorem dX4_copyStates_41 : decode cX4_copyStates 41 = .ok (.iload_n 2, 1) := by decide +kernel
theorem dX4_copyStates_42 : decode cX4_copyStates 42 = .ok (.aaload, 1) := by decide +kernel
theorem dX4_copyStates_43 : decode cX4_copyStates 43 = .ok (.iload 5, 2) := by decide +kernel
theorem dX4_copyStates_45 : decode cX4_copyStates 45 = .ok (.aload_n 0, 1) := by decide +kernel
theorem dX4_copyStates_46 : decode cX4_copyStates 46 = .ok (.getfield 11, 3) := by decide +kernel
theorem dX4_copyStates_49 : decode cX4_copyStates 49 = .ok (.iload_n 2, 1) := by decide +kernel
theorem dX4_copyStates_50 : decode cX4_copyStates 50 = .ok (.aaload, 1) := by decide +kernel
theorem dX4_copyStates_51 : decode cX4_copyStates 51 = .ok (.getfield 66, 3) := by decide +kernel
theorem dX4_copyStates_54 : decode cX4_copyStates 54 = .ok (.iload_n 3, 1) := by decide +kernel
theorem dX4_copyStates_55 : decode cX4_copyStates 55 = .ok (.aload_n 0, 1) := by decide +kernel
theorem dX4_copyStates_56 : decode cX4_copyStates 56 = .ok (.getfield 24, 3) := by decide +kernel
theorem dX4_copyStates_59 : decode cX4_copyStates 59 = .ok (.getfield 180, 3) := by decide +kernel
theorem dX4_copyStates_62 : decode cX4_copyStates 62 = .ok (.iload 5, 2) := by decide +kernel
theorem dX4_copyStates_64 : decode cX4_copyStates 64 = .ok (.iaload, 1) := by decide +kernel
theorem dX4_copyStates_65 : decode cX4_copyStates 65 = .ok (.invokevirtual 251, 3) := by decide +kernel
theorem dX4_copyStates_68 : decode cX4_copyStates 68 = .ok (.iload_n 3, 1) := by decide +kernel
theorem dX4_copyStates_69 : decode cX4_copyStates 69 = .ok (.aload_n 0, 1) := by decide +kernel
theorem dX4_copyStates_70 : decode cX4_copyStates 70 = .ok (.getfield 24, 3) := by decide +kernel
theorem dX4_copyStates_73 : decode cX4_copyStates 73 = .ok (.getfield 180, 3) := by decide +kernel
theorem dX4_copyStates_76 : decode cX4_copyStates 76 = .ok (.iload 5, 2) := by decide +kernel
theorem dX4_copyStates_78 : decode cX4_copyStates 78 = .ok (.iaload, 1) := by decide +kernel
theorem dX4_copyStates_79 : decode cX4_copyStates 79 = .ok (.iadd, 1) := by decide +kernel
theorem dX4_copyStates_80 : decode cX4_copyStates 80 = .ok (.istore_n 3, 1) := by decide +kernel
theorem dX4_copyStates_81 : decode cX4_copyStates 81 = .ok (.iinc 4 1, 3) := by decide +kernel
theorem dX4_copyStates_84 : decode cX4_copyStates 84 = .ok (.goto (-69), 3) := by decide +kernel
theorem dX4_copyStates_87 : decode cX4_copyStates 87 = .ok (.iinc 2 1, 3) := by decide +kernel
theorem dX4_copyStates_90 : decode cX4_copyStates 90 = .ok (.goto (-88), 3) := by decide +kernel
theorem dX4_copyStates_93 : decode cX4_copyStates 93 = .ok (.return_, 1) := by decide +kernel
theorem dX4_letGoUnheld_0 : decode cX4_letGoUnheld 0 = .ok (.aload_n 0, 1) := by decide +kernel
theorem dX4_letGoUnheld_1 : decode cX4_letGoUnheld 1 = .ok (.getfield 46, 3) := by decide +kernel
theorem dX4_letGoUnheld_4 : decode cX4_letGoUnheld 4 = .ok (.iconst 1, 1) := by decide +kernel
theorem dX4_letGoUnheld_5 : decode cX4_letGoUnheld 5 = .ok (.isub, 1) := by decide +kernel
theorem dX4_letGoUnheld_6 : decode cX4_letGoUnheld 6 = .ok (.istore_n 1, 1) := by decide +kernel
theorem dX4_letGoUnheld_7 : decode cX4_letGoUnheld 7 = .ok (.iload_n 1, 1) := by decide +kernel
theorem dX4_letGoUnheld_8 : decode cX4_letGoUnheld 8 = .ok (.ifCond .lt 42, 3) := by decide +kernel
theorem dX4_letGoUnheld_11 : decode cX4_letGoUnheld 11 = .ok (.aload_n 0, 1) := by decide +kernel
theorem dX4_letGoUnheld_12 : decode cX4_letGoUnheld 12 = .ok (.getfield 30, 3) := by decide +kernel
theorem dX4_letGoUnheld_15 : decode cX4_letGoUnheld 15 = .ok (.iload_n 1, 1) := by decide +kernel
theorem dX4_letGoUnheld_16 : decode cX4_letGoUnheld 16 = .ok (.aaload, 1) := by decide +kernel
theorem dX4_letGoUnheld_17 : decode cX4_letGoUnheld 17 = .ok (.getfield 129, 3) := by decide +kernel
theorem dX4_letGoUnheld_20 : decode cX4_letGoUnheld 20 = .ok (.ifCond .ne 24, 3) := by decide +kernel
theorem dX4_letGoUnheld_23 : decode cX4_letGoUnheld 23 = .ok (.aload_n 0, 1) := by decide +kernel
theorem dX4_letGoUnheld_24 : decode cX4_letGoUnheld 24 = .ok (.aload_n 0, 1) := by decide +kernel
theorem dX4_letGoUnheld_25 : decode cX4_letGoUnheld 25 = .ok (.getfield 30, 3) := by decide +kernel
theorem dX4_letGoUnheld_28 : decode cX4_letGoUnheld 28 = .ok (.iload_n 1, 1) := by decide +kernel
end
section
theorem dX4_letGoUnheld_29 : decode cX4_letGoUnheld 29 = .ok (.aaload, 1) := by decide +kernel
theorem dX4_letGoUnheld_30 : decode cX4_letGoUnheld 30 = .ok (.getfield 122, 3) := by decide +kernel
theorem dX4_letGoUnheld_33 : decode cX4_letGoUnheld 33 = .ok (.invokevirtual 255, 3) := by decide +kernel
theorem dX4_letGoUnheld_36 : decode cX4_letGoUnheld 36 = .ok (.ifCond .ne 8, 3) := by decide +kernel
theorem dX4_letGoUnheld_39 : decode cX4_letGoUnheld 39 = .ok (.aload_n 0, 1) := by decide +kernel
theorem dX4_letGoUnheld_40 : decode cX4_letGoUnheld 40 = .ok (.iload_n 1, 1) := by decide +kernel
theorem dX4_letGoUnheld_41 : decode cX4_letGoUnheld 41 = .ok (.invokevirtual 258, 3) := by decide +kernel
theorem dX4_letGoUnheld_44 : decode cX4_letGoUnheld 44 = .ok (.iinc 1 (-1), 3) := by decide +kernel
theorem dX4_letGoUnheld_47 : decode cX4_letGoUnheld 47 = .ok (.goto (-40), 3) := by decide +kernel
theorem dX4_letGoUnheld_50 : decode cX4_letGoUnheld 50 = .ok (.return_, 1) := by decide +kernel
theorem dX4_isBase_0 : decode cX4_isBase 0 = .ok (.iconst 0, 1) := by decide +kernel
theorem dX4_isBase_1 : decode cX4_isBase 1 = .ok (.istore_n 2, 1) := by decide +kernel
theorem dX4_isBase_2 : decode cX4_isBase 2 = .ok (.iload_n 2, 1) := by decide +kernel
theorem dX4_isBase_3 : decode cX4_isBase 3 = .ok (.aload_n 0, 1) := by decide +kernel
theorem dX4_isBase_4 : decode cX4_isBase 4 = .ok (.getfield 46, 3) := by decide +kernel
theorem dX4_isBase_7 : decode cX4_isBase 7 = .ok (.if_icmp .ge 24, 3) := by decide +kernel
theorem dX4_isBase_10 : decode cX4_isBase 10 = .ok (.aload_n 0, 1) := by decide +kernel
theorem dX4_isBase_11 : decode cX4_isBase 11 = .ok (.getfield 30, 3) := by decide +kernel
theorem dX4_isBase_14 : decode cX4_isBase 14 = .ok (.iload_n 2, 1) := by decide +kernel
theorem dX4_isBase_15 : decode cX4_isBase 15 = .ok (.aaload, 1) := by decide +kernel
theorem dX4_isBase_16 : decode cX4_isBase 16 = .ok (.getfield 155, 3) := by decide +kernel
theorem dX4_isBase_19 : decode cX4_isBase 19 = .ok (.iload_n 1, 1) := by decide +kernel
theorem dX4_isBase_20 : decode cX4_isBase 20 = .ok (.if_icmp .ne 5, 3) := by decide +kernel
theorem dX4_isBase_23 : decode cX4_isBase 23 = .ok (.iconst 1, 1) := by decide +kernel
theorem dX4_isBase_24 : decode cX4_isBase 24 = .ok (.ireturn, 1) := by decide +kernel
theorem dX4_isBase_25 : decode cX4_isBase 25 = .ok (.iinc 2 1, 3) := by decide +kernel
theorem dX4_isBase_28 : decode cX4_isBase 28 = .ok (.goto (-26), 3) := by decide +kernel
theorem dX4_isBase_31 : decode cX4_isBase 31 = .ok (.iconst 0, 1) := by decide +kernel
theorem dX4_isBase_32 : decode cX4_isBase 32 = .ok (.ireturn, 1) := by decide +kernel
theorem dX4_letGo_0 : decode cX4_letGo 0 = .ok (.aload_n 0, 1) := by decide +kernel
theorem dX4_letGo_1 : decode cX4_letGo 1 = .ok (.getfield 30, 3) := by decide +kernel
theorem dX4_letGo_4 : decode cX4_letGo 4 = .ok (.iload_n 1, 1) := by decide +kernel
theorem dX4_letGo_5 : decode cX4_letGo 5 = .ok (.aaload, 1) := by decide +kernel
theorem dX4_letGo_6 : decode cX4_letGo 6 = .ok (.astore_n 2, 1) := by decide +kernel
theorem dX4_letGo_7 : decode cX4_letGo 7 = .ok (.iload_n 1, 1) := by decide +kernel
theorem dX4_letGo_8 : decode cX4_letGo 8 = .ok (.istore_n 3, 1) := by decide +kernel
theorem dX4_letGo_9 : decode cX4_letGo 9 = .ok (.iload_n 3, 1) := by decide +kernel
theorem dX4_letGo_10 : decode cX4_letGo 10 = .ok (.iconst 1, 1) := by decide +kernel
theorem dX4_letGo_11 : decode cX4_letGo 11 = .ok (.iadd, 1) := by decide +kernel
theorem dX4_letGo_12 : decode cX4_letGo 12 = .ok (.aload_n 0, 1) := by decide +kernel
theorem dX4_letGo_13 : decode cX4_letGo 13 = .ok (.getfield 46, 3) := by decide +kernel
theorem dX4_letGo_16 : decode cX4_letGo 16 = .ok (.if_icmp .ge 23, 3) := by decide +kernel
theorem dX4_letGo_19 : decode cX4_letGo 19 = .ok (.aload_n 0, 1) := by decide +kernel
theorem dX4_letGo_20 : decode cX4_letGo 20 = .ok (.getfield 30, 3) := by decide +kernel
theorem dX4_letGo_23 : decode cX4_letGo 23 = .ok (.iload_n 3, 1) := by decide +kernel
theorem dX4_letGo_24 : decode cX4_letGo 24 = .ok (.aload_n 0, 1) := by decide +kernel
theorem dX4_letGo_25 : decode cX4_letGo 25 = .ok (.getfield 30, 3) := by decide +kernel
theorem dX4_letGo_28 : decode cX4_letGo 28 = .ok (.iload_n 3, 1) := by decide +kernel
theorem dX4_letGo_29 : decode cX4_letGo 29 = .ok (.iconst 1, 1) := by decide +kernel
theorem dX4_letGo_30 : decode cX4_letGo 30 = .ok (.iadd, 1) := by decide +kernel
theorem dX4_letGo_31 : decode cX4_letGo 31 = .ok (.aaload, 1) := by decide +kernel
theorem dX4_letGo_32 : decode cX4_letGo 32 = .ok (.aastore, 1) := by decide +kernel
theorem dX4_letGo_33 : decode cX4_letGo 33 = .ok (.iinc 3 1, 3) := by decide +kernel
theorem dX4_letGo_36 : decode cX4_letGo 36 = .ok (.goto (-27), 3) := by decide +kernel
theorem dX4_letGo_39 : decode cX4_letGo 39 = .ok (.aload_n 0, 1) := by decide +kernel
theorem dX4_letGo_40 : decode cX4_letGo 40 = .ok (.dup, 1) := by decide +kernel
theorem dX4_letGo_41 : decode cX4_letGo 41 = .ok (.getfield 46, 3) := by decide +kernel
theorem dX4_letGo_44 : decode cX4_letGo 44 = .ok (.iconst 1, 1) := by decide +kernel
theorem dX4_letGo_45 : decode cX4_letGo 45 = .ok (.isub, 1) := by decide +kernel
theorem dX4_letGo_46 : decode cX4_letGo 46 = .ok (.putfield 46, 3) := by decide +kernel
theorem dX4_letGo_49 : decode cX4_letGo 49 = .ok (.aload_n 0, 1) := by decide +kernel
theorem dX4_letGo_50 : decode cX4_letGo 50 = .ok (.getfield 30, 3) := by decide +kernel
theorem dX4_letGo_53 : decode cX4_letGo 53 = .ok (.aload_n 0, 1) := by decide +kernel
theorem dX4_letGo_54 : decode cX4_letGo 54 = .ok (.getfield 46, 3) := by decide +kernel
theorem dX4_letGo_57 : decode cX4_letGo 57 = .ok (.aload_n 2, 1) := by decide +kernel
theorem dX4_letGo_58 : decode cX4_letGo 58 = .ok (.aastore, 1) := by decide +kernel
theorem dX4_letGo_59 : decode cX4_letGo 59 = .ok (.return_, 1) := by decide +kernel
theorem dX4_freeUnnamed_0 : decode cX4_freeUnnamed 0 = .ok (.aload_n 0, 1) := by decide +kernel
theorem dX4_freeUnnamed_1 : decode cX4_freeUnnamed 1 = .ok (.invokevirtual 261, 3) := by decide +kernel
theorem dX4_freeUnnamed_4 : decode cX4_freeUnnamed 4 = .ok (.iconst 0, 1) := by decide +kernel
theorem dX4_freeUnnamed_5 : decode cX4_freeUnnamed 5 = .ok (.istore_n 1, 1) := by decide +kernel
theorem dX4_freeUnnamed_6 : decode cX4_freeUnnamed 6 = .ok (.iconst 0, 1) := by decide +kernel
theorem dX4_freeUnnamed_7 : decode cX4_freeUnnamed 7 = .ok (.istore_n 2, 1) := by decide +kernel
theorem dX4_freeUnnamed_8 : decode cX4_freeUnnamed 8 = .ok (.iload_n 2, 1) := by decide +kernel
theorem dX4_freeUnnamed_9 : decode cX4_freeUnnamed 9 = .ok (.bipush 120, 2) := by decide +kernel
theorem dX4_freeUnnamed_11 : decode cX4_freeUnnamed 11 = .ok (.if_icmp .ge 37, 3) := by decide +kernel
theorem dX4_freeUnnamed_14 : decode cX4_freeUnnamed 14 = .ok (.aload_n 0, 1) := by decide +kernel
theorem dX4_freeUnnamed_15 : decode cX4_freeUnnamed 15 = .ok (.getfield 24, 3) := by decide +kernel
theorem dX4_freeUnnamed_18 : decode cX4_freeUnnamed 18 = .ok (.iload_n 2, 1) := by decide +kernel
theorem dX4_freeUnnamed_19 : decode cX4_freeUnnamed 19 = .ok (.invokevirtual 177, 3) := by decide +kernel
theorem dX4_freeUnnamed_22 : decode cX4_freeUnnamed 22 = .ok (.ifCond .eq 20, 3) := by decide +kernel
theorem dX4_freeUnnamed_25 : decode cX4_freeUnnamed 25 = .ok (.aload_n 0, 1) := by decide +kernel
theorem dX4_freeUnnamed_26 : decode cX4_freeUnnamed 26 = .ok (.getfield 38, 3) := by decide +kernel
theorem dX4_freeUnnamed_29 : decode cX4_freeUnnamed 29 = .ok (.iload_n 2, 1) := by decide +kernel
theorem dX4_freeUnnamed_30 : decode cX4_freeUnnamed 30 = .ok (.baload, 1) := by decide +kernel
theorem dX4_freeUnnamed_31 : decode cX4_freeUnnamed 31 = .ok (.ifCond .ne 11, 3) := by decide +kernel
theorem dX4_freeUnnamed_34 : decode cX4_freeUnnamed 34 = .ok (.aload_n 0, 1) := by decide +kernel
theorem dX4_freeUnnamed_35 : decode cX4_freeUnnamed 35 = .ok (.iload_n 2, 1) := by decide +kernel
theorem dX4_freeUnnamed_36 : decode cX4_freeUnnamed 36 = .ok (.invokevirtual 264, 3) := by decide +kernel
theorem dX4_freeUnnamed_39 : decode cX4_freeUnnamed 39 = .ok (.iinc 1 1, 3) := by decide +kernel
theorem dX4_freeUnnamed_42 : decode cX4_freeUnnamed 42 = .ok (.iinc 2 1, 3) := by decide +kernel
theorem dX4_freeUnnamed_45 : decode cX4_freeUnnamed 45 = .ok (.goto (-37), 3) := by decide +kernel
theorem dX4_freeUnnamed_48 : decode cX4_freeUnnamed 48 = .ok (.iload_n 1, 1) := by decide +kernel
theorem dX4_freeUnnamed_49 : decode cX4_freeUnnamed 49 = .ok (.ireturn, 1) := by decide +kernel
theorem dX4_nameKeptParts_0 : decode cX4_nameKeptParts 0 = .ok (.iconst 0, 1) := by decide +kernel
theorem dX4_nameKeptParts_1 : decode cX4_nameKeptParts 1 = .ok (.istore_n 1, 1) := by decide +kernel
theorem dX4_nameKeptParts_2 : decode cX4_nameKeptParts 2 = .ok (.iload_n 1, 1) := by decide +kernel
theorem dX4_nameKeptParts_3 : decode cX4_nameKeptParts 3 = .ok (.bipush 120, 2) := by decide +kernel
theorem dX4_nameKeptParts_5 : decode cX4_nameKeptParts 5 = .ok (.if_icmp .ge 16, 3) := by decide +kernel
theorem dX4_nameKeptParts_8 : decode cX4_nameKeptParts 8 = .ok (.aload_n 0, 1) := by decide +kernel
theorem dX4_nameKeptParts_9 : decode cX4_nameKeptParts 9 = .ok (.getfield 38, 3) := by decide +kernel
theorem dX4_nameKeptParts_12 : decode cX4_nameKeptParts 12 = .ok (.iload_n 1, 1) := by decide +kernel
theorem dX4_nameKeptParts_13 : decode cX4_nameKeptParts 13 = .ok (.iconst 0, 1) := by decide +kernel
theorem dX4_nameKeptParts_14 : decode cX4_nameKeptParts 14 = .ok (.bastore, 1) := by decide +kernel
theorem dX4_nameKeptParts_15 : decode cX4_nameKeptParts 15 = .ok (.iinc 1 1, 3) := by decide +kernel
theorem dX4_nameKeptParts_18 : decode cX4_nameKeptParts 18 = .ok (.goto (-16), 3) := by decide +kernel
theorem dX4_nameKeptParts_21 : decode cX4_nameKeptParts 21 = .ok (.iconst 0, 1) := by decide +kernel
theorem dX4_nameKeptParts_22 : decode cX4_nameKeptParts 22 = .ok (.istore_n 1, 1) := by decide +kernel
theorem dX4_nameKeptParts_23 : decode cX4_nameKeptParts 23 = .ok (.iload_n 1, 1) := by decide +kernel
theorem dX4_nameKeptParts_24 : decode cX4_nameKeptParts 24 = .ok (.aload_n 0, 1) := by decide +kernel
theorem dX4_nameKeptParts_25 : decode cX4_nameKeptParts 25 = .ok (.getfield 46, 3) := by decide +kernel
theorem dX4_nameKeptParts_28 : decode cX4_nameKeptParts 28 = .ok (.if_icmp .ge 34, 3) := by decide +kernel
theorem dX4_nameKeptParts_31 : decode cX4_nameKeptParts 31 = .ok (.aload_n 0, 1) := by decide +kernel
theorem dX4_nameKeptParts_32 : decode cX4_nameKeptParts 32 = .ok (.getfield 30, 3) := by decide +kernel
theorem dX4_nameKeptParts_35 : decode cX4_nameKeptParts 35 = .ok (.iload_n 1, 1) := by decide +kernel
theorem dX4_nameKeptParts_36 : decode cX4_nameKeptParts 36 = .ok (.aaload, 1) := by decide +kernel
theorem dX4_nameKeptParts_37 : decode cX4_nameKeptParts 37 = .ok (.getfield 129, 3) := by decide +kernel
theorem dX4_nameKeptParts_40 : decode cX4_nameKeptParts 40 = .ok (.ifCond .eq 16, 3) := by decide +kernel
theorem dX4_nameKeptParts_43 : decode cX4_nameKeptParts 43 = .ok (.aload_n 0, 1) := by decide +kernel
theorem dX4_nameKeptParts_44 : decode cX4_nameKeptParts 44 = .ok (.getfield 30, 3) := by decide +kernel
theorem dX4_nameKeptParts_47 : decode cX4_nameKeptParts 47 = .ok (.iload_n 1, 1) := by decide +kernel
theorem dX4_nameKeptParts_48 : decode cX4_nameKeptParts 48 = .ok (.aaload, 1) := by decide +kernel
theorem dX4_nameKeptParts_49 : decode cX4_nameKeptParts 49 = .ok (.aload_n 0, 1) := by decide +kernel
theorem dX4_nameKeptParts_50 : decode cX4_nameKeptParts 50 = .ok (.getfield 38, 3) := by decide +kernel
theorem dX4_nameKeptParts_53 : decode cX4_nameKeptParts 53 = .ok (.invokevirtual 267, 3) := by decide +kernel
theorem dX4_nameKeptParts_56 : decode cX4_nameKeptParts 56 = .ok (.iinc 1 1, 3) := by decide +kernel
theorem dX4_nameKeptParts_59 : decode cX4_nameKeptParts 59 = .ok (.goto (-36), 3) := by decide +kernel
theorem dX4_nameKeptParts_62 : decode cX4_nameKeptParts 62 = .ok (.return_, 1) := by decide +kernel
theorem dX4_freePart_0 : decode cX4_freePart 0 = .ok (.aload_n 0, 1) := by decide +kernel
theorem dX4_freePart_1 : decode cX4_freePart 1 = .ok (.getfield 24, 3) := by decide +kernel
theorem dX4_freePart_4 : decode cX4_freePart 4 = .ok (.iload_n 1, 1) := by decide +kernel
theorem dX4_freePart_5 : decode cX4_freePart 5 = .ok (.invokevirtual 271, 3) := by decide +kernel
theorem dX4_freePart_8 : decode cX4_freePart 8 = .ok (.iconst 0, 1) := by decide +kernel
theorem dX4_freePart_9 : decode cX4_freePart 9 = .ok (.istore_n 2, 1) := by decide +kernel
theorem dX4_freePart_10 : decode cX4_freePart 10 = .ok (.iload_n 2, 1) := by decide +kernel
theorem dX4_freePart_11 : decode cX4_freePart 11 = .ok (.iconst 4, 1) := by decide +kernel
theorem dX4_freePart_12 : decode cX4_freePart 12 = .ok (.if_icmp .ge 21, 3) := by decide +kernel
theorem dX4_freePart_15 : decode cX4_freePart 15 = .ok (.aload_n 0, 1) := by decide +kernel
theorem dX4_freePart_16 : decode cX4_freePart 16 = .ok (.getfield 17, 3) := by decide +kernel
theorem dX4_freePart_19 : decode cX4_freePart 19 = .ok (.iload_n 2, 1) := by decide +kernel
theorem dX4_freePart_20 : decode cX4_freePart 20 = .ok (.aaload, 1) := by decide +kernel
theorem dX4_freePart_21 : decode cX4_freePart 21 = .ok (.getfield 207, 3) := by decide +kernel
theorem dX4_freePart_24 : decode cX4_freePart 24 = .ok (.iload_n 1, 1) := by decide +kernel
theorem dX4_freePart_25 : decode cX4_freePart 25 = .ok (.iconst 0, 1) := by decide +kernel
theorem dX4_freePart_26 : decode cX4_freePart 26 = .ok (.bastore, 1) := by decide +kernel
theorem dX4_freePart_27 : decode cX4_freePart 27 = .ok (.iinc 2 1, 3) := by decide +kernel
theorem dX4_freePart_30 : decode cX4_freePart 30 = .ok (.goto (-20), 3) := by decide +kernel
theorem dX4_freePart_33 : decode cX4_freePart 33 = .ok (.return_, 1) := by decide +kernel
theorem dX4_heldMark_0 : decode cX4_heldMark 0 = .ok (.iconst 0, 1) := by decide +kernel
theorem dX4_heldMark_1 : decode cX4_heldMark 1 = .ok (.istore_n 2, 1) := by decide +kernel
theorem dX4_heldMark_2 : decode cX4_heldMark 2 = .ok (.iload_n 2, 1) := by decide +kernel
theorem dX4_heldMark_3 : decode cX4_heldMark 3 = .ok (.aload_n 0, 1) := by decide +kernel
theorem dX4_heldMark_4 : decode cX4_heldMark 4 = .ok (.getfield 46, 3) := by decide +kernel
theorem dX4_heldMark_7 : decode cX4_heldMark 7 = .ok (.if_icmp .ge 29, 3) := by decide +kernel
theorem dX4_heldMark_10 : decode cX4_heldMark 10 = .ok (.aload_n 0, 1) := by decide +kernel
theorem dX4_heldMark_11 : decode cX4_heldMark 11 = .ok (.getfield 30, 3) := by decide +kernel
theorem dX4_heldMark_14 : decode cX4_heldMark 14 = .ok (.iload_n 2, 1) := by decide +kernel
theorem dX4_heldMark_15 : decode cX4_heldMark 15 = .ok (.aaload, 1) := by decide +kernel
theorem dX4_heldMark_16 : decode cX4_heldMark 16 = .ok (.getfield 122, 3) := by decide +kernel
theorem dX4_heldMark_19 : decode cX4_heldMark 19 = .ok (.iload_n 1, 1) := by decide +kernel
theorem dX4_heldMark_20 : decode cX4_heldMark 20 = .ok (.if_icmp .ne 10, 3) := by decide +kernel
theorem dX4_heldMark_23 : decode cX4_heldMark 23 = .ok (.aload_n 0, 1) := by decide +kernel
theorem dX4_heldMark_24 : decode cX4_heldMark 24 = .ok (.getfield 30, 3) := by decide +kernel
theorem dX4_heldMark_27 : decode cX4_heldMark 27 = .ok (.iload_n 2, 1) := by decide +kernel
theorem dX4_heldMark_28 : decode cX4_heldMark 28 = .ok (.aaload, 1) := by decide +kernel
theorem dX4_heldMark_29 : decode cX4_heldMark 29 = .ok (.areturn, 1) := by decide +kernel
theorem dX4_heldMark_30 : decode cX4_heldMark 30 = .ok (.iinc 2 1, 3) := by decide +kernel
theorem dX4_heldMark_33 : decode cX4_heldMark 33 = .ok (.goto (-31), 3) := by decide +kernel
theorem dX4_heldMark_36 : decode cX4_heldMark 36 = .ok (.aconst_null, 1) := by decide +kernel
theorem dX4_heldMark_37 : decode cX4_heldMark 37 = .ok (.areturn, 1) := by decide +kernel
theorem dX4_keptMark_0 : decode cX4_keptMark 0 = .ok (.aload_n 0, 1) := by decide +kernel
theorem dX4_keptMark_1 : decode cX4_keptMark 1 = .ok (.iload_n 1, 1) := by decide +kernel
theorem dX4_keptMark_2 : decode cX4_keptMark 2 = .ok (.invokevirtual 152, 3) := by decide +kernel
theorem dX4_keptMark_5 : decode cX4_keptMark 5 = .ok (.astore_n 2, 1) := by decide +kernel
theorem dX4_keptMark_6 : decode cX4_keptMark 6 = .ok (.aload_n 2, 1) := by decide +kernel
theorem dX4_keptMark_7 : decode cX4_keptMark 7 = .ok (.ifnull 14, 3) := by decide +kernel
theorem dX4_keptMark_10 : decode cX4_keptMark 10 = .ok (.aload_n 2, 1) := by decide +kernel
theorem dX4_keptMark_11 : decode cX4_keptMark 11 = .ok (.getfield 129, 3) := by decide +kernel
theorem dX4_keptMark_14 : decode cX4_keptMark 14 = .ok (.ifCond .eq 7, 3) := by decide +kernel
theorem dX4_keptMark_17 : decode cX4_keptMark 17 = .ok (.aload_n 2, 1) := by decide +kernel
theorem dX4_keptMark_18 : decode cX4_keptMark 18 = .ok (.goto 4, 3) := by decide +kernel
theorem dX4_keptMark_21 : decode cX4_keptMark 21 = .ok (.aconst_null, 1) := by decide +kernel
theorem dX4_keptMark_22 : decode cX4_keptMark 22 = .ok (.areturn, 1) := by decide +kernel
theorem dX4_latestKept_0 : decode cX4_latestKept 0 = .ok (.aload_n 0, 1) := by decide +kernel
theorem dX4_latestKept_1 : decode cX4_latestKept 1 = .ok (.getfield 46, 3) := by decide +kernel
theorem dX4_latestKept_4 : decode cX4_latestKept 4 = .ok (.iconst 1, 1) := by decide +kernel
theorem dX4_latestKept_5 : decode cX4_latestKept 5 = .ok (.isub, 1) := by decide +kernel
theorem dX4_latestKept_6 : decode cX4_latestKept 6 = .ok (.istore_n 1, 1) := by decide +kernel
theorem dX4_latestKept_7 : decode cX4_latestKept 7 = .ok (.iload_n 1, 1) := by decide +kernel
theorem dX4_latestKept_8 : decode cX4_latestKept 8 = .ok (.ifCond .lt 28, 3) := by decide +kernel
theorem dX4_latestKept_11 : decode cX4_latestKept 11 = .ok (.aload_n 0, 1) := by decide +kernel
theorem dX4_latestKept_12 : decode cX4_latestKept 12 = .ok (.getfield 30, 3) := by decide +kernel
theorem dX4_latestKept_15 : decode cX4_latestKept 15 = .ok (.iload_n 1, 1) := by decide +kernel
theorem dX4_latestKept_16 : decode cX4_latestKept 16 = .ok (.aaload, 1) := by decide +kernel
theorem dX4_latestKept_17 : decode cX4_latestKept 17 = .ok (.getfield 129, 3) := by decide +kernel
theorem dX4_latestKept_20 : decode cX4_latestKept 20 = .ok (.ifCond .eq 10, 3) := by decide +kernel
theorem dX4_latestKept_23 : decode cX4_latestKept 23 = .ok (.aload_n 0, 1) := by decide +kernel
theorem dX4_latestKept_24 : decode cX4_latestKept 24 = .ok (.getfield 30, 3) := by decide +kernel
theorem dX4_latestKept_27 : decode cX4_latestKept 27 = .ok (.iload_n 1, 1) := by decide +kernel
theorem dX4_latestKept_28 : decode cX4_latestKept 28 = .ok (.aaload, 1) := by decide +kernel
theorem dX4_latestKept_29 : decode cX4_latestKept 29 = .ok (.areturn, 1) := by decide +kernel
theorem dX4_latestKept_30 : decode cX4_latestKept 30 = .ok (.iinc 1 (-1), 3) := by decide +kernel
theorem dX4_latestKept_33 : decode cX4_latestKept 33 = .ok (.goto (-26), 3) := by decide +kernel
theorem dX4_latestKept_36 : decode cX4_latestKept 36 = .ok (.aconst_null, 1) := by decide +kernel
theorem dX4_latestKept_37 : decode cX4_latestKept 37 = .ok (.areturn, 1) := by decide +kernel
theorem dX4_latestUsable_0 : decode cX4_latestUsable 0 = .ok (.aload_n 0, 1) := by decide +kernel
theorem dX4_latestUsable_1 : decode cX4_latestUsable 1 = .ok (.getfield 46, 3) := by decide +kernel
theorem dX4_latestUsable_4 : decode cX4_latestUsable 4 = .ok (.iconst 1, 1) := by decide +kernel
theorem dX4_latestUsable_5 : decode cX4_latestUsable 5 = .ok (.isub, 1) := by decide +kernel
theorem dX4_latestUsable_6 : decode cX4_latestUsable 6 = .ok (.istore_n 2, 1) := by decide +kernel
theorem dX4_latestUsable_7 : decode cX4_latestUsable 7 = .ok (.iload_n 2, 1) := by decide +kernel
theorem dX4_latestUsable_8 : decode cX4_latestUsable 8 = .ok (.ifCond .lt 42, 3) := by decide +kernel
theorem dX4_latestUsable_11 : decode cX4_latestUsable 11 = .ok (.aload_n 0, 1) := by decide +kernel
theorem dX4_latestUsable_12 : decode cX4_latestUsable 12 = .ok (.getfield 30, 3) := by decide +kernel
theorem dX4_latestUsable_15 : decode cX4_latestUsable 15 = .ok (.iload_n 2, 1) := by decide +kernel
theorem dX4_latestUsable_16 : decode cX4_latestUsable 16 = .ok (.aaload, 1) := by decide +kernel
theorem dX4_latestUsable_17 : decode cX4_latestUsable 17 = .ok (.getfield 122, 3) := by decide +kernel
theorem dX4_latestUsable_20 : decode cX4_latestUsable 20 = .ok (.iload_n 1, 1) := by decide +kernel
theorem dX4_latestUsable_21 : decode cX4_latestUsable 21 = .ok (.if_icmp .gt 23, 3) := by decide +kernel
theorem dX4_latestUsable_24 : decode cX4_latestUsable 24 = .ok (.aload_n 0, 1) := by decide +kernel
theorem dX4_latestUsable_25 : decode cX4_latestUsable 25 = .ok (.aload_n 0, 1) := by decide +kernel
theorem dX4_latestUsable_26 : decode cX4_latestUsable 26 = .ok (.getfield 30, 3) := by decide +kernel
theorem dX4_latestUsable_29 : decode cX4_latestUsable 29 = .ok (.iload_n 2, 1) := by decide +kernel
theorem dX4_latestUsable_30 : decode cX4_latestUsable 30 = .ok (.aaload, 1) := by decide +kernel
theorem dX4_latestUsable_31 : decode cX4_latestUsable 31 = .ok (.invokevirtual 149, 3) := by decide +kernel
theorem dX4_latestUsable_34 : decode cX4_latestUsable 34 = .ok (.ifCond .eq 10, 3) := by decide +kernel
theorem dX4_latestUsable_37 : decode cX4_latestUsable 37 = .ok (.aload_n 0, 1) := by decide +kernel
theorem dX4_latestUsable_38 : decode cX4_latestUsable 38 = .ok (.getfield 30, 3) := by decide +kernel
theorem dX4_latestUsable_41 : decode cX4_latestUsable 41 = .ok (.iload_n 2, 1) := by decide +kernel
theorem dX4_latestUsable_42 : decode cX4_latestUsable 42 = .ok (.aaload, 1) := by decide +kernel
theorem dX4_latestUsable_43 : decode cX4_latestUsable 43 = .ok (.areturn, 1) := by decide +kernel
theorem dX4_latestUsable_44 : decode cX4_latestUsable 44 = .ok (.iinc 2 (-1), 3) := by decide +kernel
theorem dX4_latestUsable_47 : decode cX4_latestUsable 47 = .ok (.goto (-40), 3) := by decide +kernel
theorem dX4_latestUsable_50 : decode cX4_latestUsable 50 = .ok (.aconst_null, 1) := by decide +kernel
theorem dX4_latestUsable_51 : decode cX4_latestUsable 51 = .ok (.areturn, 1) := by decide +kernel
theorem dX4_keptCount_0 : decode cX4_keptCount 0 = .ok (.iconst 0, 1) := by decide +kernel
theorem dX4_keptCount_1 : decode cX4_keptCount 1 = .ok (.istore_n 1, 1) := by decide +kernel
theorem dX4_keptCount_2 : decode cX4_keptCount 2 = .ok (.iconst 0, 1) := by decide +kernel
theorem dX4_keptCount_3 : decode cX4_keptCount 3 = .ok (.istore_n 2, 1) := by decide +kernel
theorem dX4_keptCount_4 : decode cX4_keptCount 4 = .ok (.iload_n 2, 1) := by decide +kernel
theorem dX4_keptCount_5 : decode cX4_keptCount 5 = .ok (.aload_n 0, 1) := by decide +kernel
theorem dX4_keptCount_6 : decode cX4_keptCount 6 = .ok (.getfield 46, 3) := by decide +kernel
theorem dX4_keptCount_9 : decode cX4_keptCount 9 = .ok (.if_icmp .ge 24, 3) := by decide +kernel
theorem dX4_keptCount_12 : decode cX4_keptCount 12 = .ok (.aload_n 0, 1) := by decide +kernel
theorem dX4_keptCount_13 : decode cX4_keptCount 13 = .ok (.getfield 30, 3) := by decide +kernel
theorem dX4_keptCount_16 : decode cX4_keptCount 16 = .ok (.iload_n 2, 1) := by decide +kernel
theorem dX4_keptCount_17 : decode cX4_keptCount 17 = .ok (.aaload, 1) := by decide +kernel
theorem dX4_keptCount_18 : decode cX4_keptCount 18 = .ok (.getfield 129, 3) := by decide +kernel
theorem dX4_keptCount_21 : decode cX4_keptCount 21 = .ok (.ifCond .eq 6, 3) := by decide +kernel
theorem dX4_keptCount_24 : decode cX4_keptCount 24 = .ok (.iinc 1 1, 3) := by decide +kernel
theorem dX4_keptCount_27 : decode cX4_keptCount 27 = .ok (.iinc 2 1, 3) := by decide +kernel
theorem dX4_keptCount_30 : decode cX4_keptCount 30 = .ok (.goto (-26), 3) := by decide +kernel
theorem dX4_keptCount_33 : decode cX4_keptCount 33 = .ok (.iload_n 1, 1) := by decide +kernel
theorem dX4_keptCount_34 : decode cX4_keptCount 34 = .ok (.ireturn, 1) := by decide +kernel
theorem dX4_keptNaming_0 : decode cX4_keptNaming 0 = .ok (.iconst 0, 1) := by decide +kernel
theorem dX4_keptNaming_1 : decode cX4_keptNaming 1 = .ok (.istore_n 2, 1) := by decide +kernel
theorem dX4_keptNaming_2 : decode cX4_keptNaming 2 = .ok (.iconst 0, 1) := by decide +kernel
theorem dX4_keptNaming_3 : decode cX4_keptNaming 3 = .ok (.istore_n 3, 1) := by decide +kernel
theorem dX4_keptNaming_4 : decode cX4_keptNaming 4 = .ok (.iload_n 3, 1) := by decide +kernel
theorem dX4_keptNaming_5 : decode cX4_keptNaming 5 = .ok (.aload_n 0, 1) := by decide +kernel
theorem dX4_keptNaming_6 : decode cX4_keptNaming 6 = .ok (.getfield 46, 3) := by decide +kernel
theorem dX4_keptNaming_9 : decode cX4_keptNaming 9 = .ok (.if_icmp .ge 37, 3) := by decide +kernel
theorem dX4_keptNaming_12 : decode cX4_keptNaming 12 = .ok (.aload_n 0, 1) := by decide +kernel
theorem dX4_keptNaming_13 : decode cX4_keptNaming 13 = .ok (.getfield 30, 3) := by decide +kernel
theorem dX4_keptNaming_16 : decode cX4_keptNaming 16 = .ok (.iload_n 3, 1) := by decide +kernel
theorem dX4_keptNaming_17 : decode cX4_keptNaming 17 = .ok (.aaload, 1) := by decide +kernel
theorem dX4_keptNaming_18 : decode cX4_keptNaming 18 = .ok (.getfield 129, 3) := by decide +kernel
theorem dX4_keptNaming_21 : decode cX4_keptNaming 21 = .ok (.ifCond .eq 19, 3) := by decide +kernel
theorem dX4_keptNaming_24 : decode cX4_keptNaming 24 = .ok (.aload_n 0, 1) := by decide +kernel
theorem dX4_keptNaming_25 : decode cX4_keptNaming 25 = .ok (.getfield 30, 3) := by decide +kernel
theorem dX4_keptNaming_28 : decode cX4_keptNaming 28 = .ok (.iload_n 3, 1) := by decide +kernel
theorem dX4_keptNaming_29 : decode cX4_keptNaming 29 = .ok (.aaload, 1) := by decide +kernel
theorem dX4_keptNaming_30 : decode cX4_keptNaming 30 = .ok (.iload_n 1, 1) := by decide +kernel
theorem dX4_keptNaming_31 : decode cX4_keptNaming 31 = .ok (.invokevirtual 274, 3) := by decide +kernel
theorem dX4_keptNaming_34 : decode cX4_keptNaming 34 = .ok (.ifCond .eq 6, 3) := by decide +kernel
theorem dX4_keptNaming_37 : decode cX4_keptNaming 37 = .ok (.iinc 2 1, 3) := by decide +kernel
theorem dX4_keptNaming_40 : decode cX4_keptNaming 40 = .ok (.iinc 3 1, 3) := by decide +kernel
theorem dX4_keptNaming_43 : decode cX4_keptNaming 43 = .ok (.goto (-39), 3) := by decide +kernel
theorem dX4_keptNaming_46 : decode cX4_keptNaming 46 = .ok (.iload_n 2, 1) := by decide +kernel
theorem dX4_keptNaming_47 : decode cX4_keptNaming 47 = .ok (.ireturn, 1) := by decide +kernel
theorem dX4_isUsable_0 : decode cX4_isUsable 0 = .ok (.aload_n 1, 1) := by decide +kernel
theorem dX4_isUsable_1 : decode cX4_isUsable 1 = .ok (.getfield 129, 3) := by decide +kernel
theorem dX4_isUsable_4 : decode cX4_isUsable 4 = .ok (.ifCond .ne 5, 3) := by decide +kernel
theorem dX4_isUsable_7 : decode cX4_isUsable 7 = .ok (.iconst 0, 1) := by decide +kernel
theorem dX4_isUsable_8 : decode cX4_isUsable 8 = .ok (.ireturn, 1) := by decide +kernel
theorem dX4_isUsable_9 : decode cX4_isUsable 9 = .ok (.iconst 0, 1) := by decide +kernel
theorem dX4_isUsable_10 : decode cX4_isUsable 10 = .ok (.istore_n 2, 1) := by decide +kernel
theorem dX4_isUsable_11 : decode cX4_isUsable 11 = .ok (.iload_n 2, 1) := by decide +kernel
theorem dX4_isUsable_12 : decode cX4_isUsable 12 = .ok (.aload_n 1, 1) := by decide +kernel
theorem dX4_isUsable_13 : decode cX4_isUsable 13 = .ok (.getfield 142, 3) := by decide +kernel
theorem dX4_isUsable_16 : decode cX4_isUsable 16 = .ok (.if_icmp .ge 45, 3) := by decide +kernel
theorem dX4_isUsable_19 : decode cX4_isUsable 19 = .ok (.iconst 0, 1) := by decide +kernel
theorem dX4_isUsable_20 : decode cX4_isUsable 20 = .ok (.istore_n 3, 1) := by decide +kernel
theorem dX4_isUsable_21 : decode cX4_isUsable 21 = .ok (.iload_n 3, 1) := by decide +kernel
theorem dX4_isUsable_22 : decode cX4_isUsable 22 = .ok (.aload_n 1, 1) := by decide +kernel
theorem dX4_isUsable_23 : decode cX4_isUsable 23 = .ok (.getfield 167, 3) := by decide +kernel
theorem dX4_isUsable_26 : decode cX4_isUsable 26 = .ok (.iload_n 2, 1) := by decide +kernel
theorem dX4_isUsable_27 : decode cX4_isUsable 27 = .ok (.iaload, 1) := by decide +kernel
theorem dX4_isUsable_28 : decode cX4_isUsable 28 = .ok (.if_icmp .ge 27, 3) := by decide +kernel
theorem dX4_isUsable_31 : decode cX4_isUsable 31 = .ok (.aload_n 0, 1) := by decide +kernel
theorem dX4_isUsable_32 : decode cX4_isUsable 32 = .ok (.aload_n 1, 1) := by decide +kernel
theorem dX4_isUsable_33 : decode cX4_isUsable 33 = .ok (.getfield 170, 3) := by decide +kernel
theorem dX4_isUsable_36 : decode cX4_isUsable 36 = .ok (.iload_n 2, 1) := by decide +kernel
theorem dX4_isUsable_37 : decode cX4_isUsable 37 = .ok (.aaload, 1) := by decide +kernel
theorem dX4_isUsable_38 : decode cX4_isUsable 38 = .ok (.iload_n 3, 1) := by decide +kernel
theorem dX4_isUsable_39 : decode cX4_isUsable 39 = .ok (.iaload, 1) := by decide +kernel
theorem dX4_isUsable_40 : decode cX4_isUsable 40 = .ok (.iload_n 2, 1) := by decide +kernel
theorem dX4_isUsable_41 : decode cX4_isUsable 41 = .ok (.invokevirtual 277, 3) := by decide +kernel
theorem dX4_isUsable_44 : decode cX4_isUsable 44 = .ok (.ifCond .ne 5, 3) := by decide +kernel
theorem dX4_isUsable_47 : decode cX4_isUsable 47 = .ok (.iconst 0, 1) := by decide +kernel
theorem dX4_isUsable_48 : decode cX4_isUsable 48 = .ok (.ireturn, 1) := by decide +kernel
theorem dX4_isUsable_49 : decode cX4_isUsable 49 = .ok (.iinc 3 1, 3) := by decide +kernel
theorem dX4_isUsable_52 : decode cX4_isUsable 52 = .ok (.goto (-31), 3) := by decide +kernel
theorem dX4_isUsable_55 : decode cX4_isUsable 55 = .ok (.iinc 2 1, 3) := by decide +kernel
theorem dX4_isUsable_58 : decode cX4_isUsable 58 = .ok (.goto (-47), 3) := by decide +kernel
theorem dX4_isUsable_61 : decode cX4_isUsable 61 = .ok (.iconst 1, 1) := by decide +kernel
theorem dX4_isUsable_62 : decode cX4_isUsable 62 = .ok (.ireturn, 1) := by decide +kernel
theorem dX4_isReadable_0 : decode cX4_isReadable 0 = .ok (.aload_n 0, 1) := by decide +kernel
theorem dX4_isReadable_1 : decode cX4_isReadable 1 = .ok (.getfield 24, 3) := by decide +kernel
theorem dX4_isReadable_4 : decode cX4_isReadable 4 = .ok (.iload_n 1, 1) := by decide +kernel
theorem dX4_isReadable_5 : decode cX4_isReadable 5 = .ok (.aload_n 0, 1) := by decide +kernel
theorem dX4_isReadable_6 : decode cX4_isReadable 6 = .ok (.getfield 17, 3) := by decide +kernel
theorem dX4_isReadable_9 : decode cX4_isReadable 9 = .ok (.iload_n 2, 1) := by decide +kernel
theorem dX4_isReadable_10 : decode cX4_isReadable 10 = .ok (.aaload, 1) := by decide +kernel
theorem dX4_isReadable_11 : decode cX4_isReadable 11 = .ok (.invokevirtual 191, 3) := by decide +kernel
theorem dX4_isReadable_14 : decode cX4_isReadable 14 = .ok (.ifCond .ne 21, 3) := by decide +kernel
theorem dX4_isReadable_17 : decode cX4_isReadable 17 = .ok (.aload_n 0, 1) := by decide +kernel
theorem dX4_isReadable_18 : decode cX4_isReadable 18 = .ok (.getfield 24, 3) := by decide +kernel
theorem dX4_isReadable_21 : decode cX4_isReadable 21 = .ok (.iload_n 1, 1) := by decide +kernel
theorem dX4_isReadable_22 : decode cX4_isReadable 22 = .ok (.aload_n 0, 1) := by decide +kernel
theorem dX4_isReadable_23 : decode cX4_isReadable 23 = .ok (.getfield 24, 3) := by decide +kernel
theorem dX4_isReadable_26 : decode cX4_isReadable 26 = .ok (.getfield 187, 3) := by decide +kernel
theorem dX4_isReadable_29 : decode cX4_isReadable 29 = .ok (.invokevirtual 191, 3) := by decide +kernel
theorem dX4_isReadable_32 : decode cX4_isReadable 32 = .ok (.ifCond .eq 7, 3) := by decide +kernel
theorem dX4_isReadable_35 : decode cX4_isReadable 35 = .ok (.iconst 1, 1) := by decide +kernel
theorem dX4_isReadable_36 : decode cX4_isReadable 36 = .ok (.goto 4, 3) := by decide +kernel
theorem dX4_isReadable_39 : decode cX4_isReadable 39 = .ok (.iconst 0, 1) := by decide +kernel
theorem dX4_isReadable_40 : decode cX4_isReadable 40 = .ok (.ireturn, 1) := by decide +kernel
theorem dX4_readState_0 : decode cX4_readState 0 = .ok (.aload_n 0, 1) := by decide +kernel
theorem dX4_readState_1 : decode cX4_readState 1 = .ok (.getfield 11, 3) := by decide +kernel
theorem dX4_readState_4 : decode cX4_readState 4 = .ok (.iload_n 2, 1) := by decide +kernel
theorem dX4_readState_5 : decode cX4_readState 5 = .ok (.aaload, 1) := by decide +kernel
theorem dX4_readState_6 : decode cX4_readState 6 = .ok (.astore_n 3, 1) := by decide +kernel
theorem dX4_readState_7 : decode cX4_readState 7 = .ok (.aload_n 3, 1) := by decide +kernel
theorem dX4_readState_8 : decode cX4_readState 8 = .ok (.iconst 0, 1) := by decide +kernel
theorem dX4_readState_9 : decode cX4_readState 9 = .ok (.putfield 59, 3) := by decide +kernel
theorem dX4_readState_12 : decode cX4_readState 12 = .ok (.iconst 0, 1) := by decide +kernel
theorem dX4_readState_13 : decode cX4_readState 13 = .ok (.istore 4, 2) := by decide +kernel
theorem dX4_readState_15 : decode cX4_readState 15 = .ok (.iload 4, 2) := by decide +kernel
theorem dX4_readState_17 : decode cX4_readState 17 = .ok (.aload_n 1, 1) := by decide +kernel
theorem dX4_readState_18 : decode cX4_readState 18 = .ok (.getfield 167, 3) := by decide +kernel
theorem dX4_readState_21 : decode cX4_readState 21 = .ok (.iload_n 2, 1) := by decide +kernel
theorem dX4_readState_22 : decode cX4_readState 22 = .ok (.iaload, 1) := by decide +kernel
theorem dX4_readState_23 : decode cX4_readState 23 = .ok (.if_icmp .ge 55, 3) := by decide +kernel
theorem dX4_readState_26 : decode cX4_readState 26 = .ok (.aload_n 1, 1) := by decide +kernel
theorem dX4_readState_27 : decode cX4_readState 27 = .ok (.getfield 170, 3) := by decide +kernel
theorem dX4_readState_30 : decode cX4_readState 30 = .ok (.iload_n 2, 1) := by decide +kernel
theorem dX4_readState_31 : decode cX4_readState 31 = .ok (.aaload, 1) := by decide +kernel
theorem dX4_readState_32 : decode cX4_readState 32 = .ok (.iload 4, 2) := by decide +kernel
theorem dX4_readState_34 : decode cX4_readState 34 = .ok (.iaload, 1) := by decide +kernel
theorem dX4_readState_35 : decode cX4_readState 35 = .ok (.istore 5, 2) := by decide +kernel
theorem dX4_readState_37 : decode cX4_readState 37 = .ok (.aload_n 0, 1) := by decide +kernel
theorem dX4_readState_38 : decode cX4_readState 38 = .ok (.iload 5, 2) := by decide +kernel
theorem dX4_readState_40 : decode cX4_readState 40 = .ok (.iload_n 2, 1) := by decide +kernel
theorem dX4_readState_41 : decode cX4_readState 41 = .ok (.invokevirtual 281, 3) := by decide +kernel
theorem dX4_readState_44 : decode cX4_readState 44 = .ok (.aload_n 3, 1) := by decide +kernel
theorem dX4_readState_45 : decode cX4_readState 45 = .ok (.aload_n 0, 1) := by decide +kernel
theorem dX4_readState_46 : decode cX4_readState 46 = .ok (.getfield 17, 3) := by decide +kernel
theorem dX4_readState_49 : decode cX4_readState 49 = .ok (.iload_n 2, 1) := by decide +kernel
theorem dX4_readState_50 : decode cX4_readState 50 = .ok (.aaload, 1) := by decide +kernel
theorem dX4_readState_51 : decode cX4_readState 51 = .ok (.getfield 206, 3) := by decide +kernel
theorem dX4_readState_54 : decode cX4_readState 54 = .ok (.iload 5, 2) := by decide +kernel
theorem dX4_readState_56 : decode cX4_readState 56 = .ok (.bipush 32, 2) := by decide +kernel
theorem dX4_readState_58 : decode cX4_readState 58 = .ok (.imul, 1) := by decide +kernel
theorem dX4_readState_59 : decode cX4_readState 59 = .ok (.aload_n 0, 1) := by decide +kernel
theorem dX4_readState_60 : decode cX4_readState 60 = .ok (.getfield 24, 3) := by decide +kernel
theorem dX4_readState_63 : decode cX4_readState 63 = .ok (.getfield 180, 3) := by decide +kernel
theorem dX4_readState_66 : decode cX4_readState 66 = .ok (.iload 5, 2) := by decide +kernel
theorem dX4_readState_68 : decode cX4_readState 68 = .ok (.iaload, 1) := by decide +kernel
theorem dX4_readState_69 : decode cX4_readState 69 = .ok (.invokevirtual 94, 3) := by decide +kernel
theorem dX4_readState_72 : decode cX4_readState 72 = .ok (.iinc 4 1, 3) := by decide +kernel
theorem dX4_readState_75 : decode cX4_readState 75 = .ok (.goto (-60), 3) := by decide +kernel
theorem dX4_readState_78 : decode cX4_readState 78 = .ok (.return_, 1) := by decide +kernel
theorem dX4_readPart_0 : decode cX4_readPart 0 = .ok (.aload_n 0, 1) := by decide +kernel
theorem dX4_readPart_1 : decode cX4_readPart 1 = .ok (.getfield 24, 3) := by decide +kernel
theorem dX4_readPart_4 : decode cX4_readPart 4 = .ok (.iload_n 1, 1) := by decide +kernel
theorem dX4_readPart_5 : decode cX4_readPart 5 = .ok (.aload_n 0, 1) := by decide +kernel
theorem dX4_readPart_6 : decode cX4_readPart 6 = .ok (.getfield 17, 3) := by decide +kernel
theorem dX4_readPart_9 : decode cX4_readPart 9 = .ok (.iload_n 2, 1) := by decide +kernel
theorem dX4_readPart_10 : decode cX4_readPart 10 = .ok (.aaload, 1) := by decide +kernel
theorem dX4_readPart_11 : decode cX4_readPart 11 = .ok (.invokevirtual 191, 3) := by decide +kernel
theorem dX4_readPart_14 : decode cX4_readPart 14 = .ok (.ifCond .ne 36, 3) := by decide +kernel
theorem dX4_readPart_17 : decode cX4_readPart 17 = .ok (.aload_n 0, 1) := by decide +kernel
theorem dX4_readPart_18 : decode cX4_readPart 18 = .ok (.getfield 17, 3) := by decide +kernel
theorem dX4_readPart_21 : decode cX4_readPart 21 = .ok (.iload_n 2, 1) := by decide +kernel
theorem dX4_readPart_22 : decode cX4_readPart 22 = .ok (.aaload, 1) := by decide +kernel
theorem dX4_readPart_23 : decode cX4_readPart 23 = .ok (.iload_n 1, 1) := by decide +kernel
theorem dX4_readPart_24 : decode cX4_readPart 24 = .ok (.aload_n 0, 1) := by decide +kernel
theorem dX4_readPart_25 : decode cX4_readPart 25 = .ok (.getfield 24, 3) := by decide +kernel
theorem dX4_readPart_28 : decode cX4_readPart 28 = .ok (.getfield 187, 3) := by decide +kernel
theorem dX4_readPart_31 : decode cX4_readPart 31 = .ok (.getfield 206, 3) := by decide +kernel
theorem dX4_readPart_34 : decode cX4_readPart 34 = .ok (.iload_n 1, 1) := by decide +kernel
theorem dX4_readPart_35 : decode cX4_readPart 35 = .ok (.bipush 32, 2) := by decide +kernel
theorem dX4_readPart_37 : decode cX4_readPart 37 = .ok (.imul, 1) := by decide +kernel
theorem dX4_readPart_38 : decode cX4_readPart 38 = .ok (.aload_n 0, 1) := by decide +kernel
theorem dX4_readPart_39 : decode cX4_readPart 39 = .ok (.getfield 24, 3) := by decide +kernel
theorem dX4_readPart_42 : decode cX4_readPart 42 = .ok (.getfield 180, 3) := by decide +kernel
theorem dX4_readPart_45 : decode cX4_readPart 45 = .ok (.iload_n 1, 1) := by decide +kernel
theorem dX4_readPart_46 : decode cX4_readPart 46 = .ok (.iaload, 1) := by decide +kernel
theorem dX4_readPart_47 : decode cX4_readPart 47 = .ok (.invokevirtual 251, 3) := by decide +kernel
theorem dX4_readPart_50 : decode cX4_readPart 50 = .ok (.return_, 1) := by decide +kernel
theorem dX4_shelfOf_0 : decode cX4_shelfOf 0 = .ok (.iload_n 1, 1) := by decide +kernel
theorem dX4_shelfOf_1 : decode cX4_shelfOf 1 = .ok (.iconst (-1), 1) := by decide +kernel
theorem dX4_shelfOf_2 : decode cX4_shelfOf 2 = .ok (.if_icmp .ne 11, 3) := by decide +kernel
theorem dX4_shelfOf_5 : decode cX4_shelfOf 5 = .ok (.aload_n 0, 1) := by decide +kernel
theorem dX4_shelfOf_6 : decode cX4_shelfOf 6 = .ok (.getfield 24, 3) := by decide +kernel
theorem dX4_shelfOf_9 : decode cX4_shelfOf 9 = .ok (.getfield 187, 3) := by decide +kernel
theorem dX4_shelfOf_12 : decode cX4_shelfOf 12 = .ok (.areturn, 1) := by decide +kernel
theorem dX4_shelfOf_13 : decode cX4_shelfOf 13 = .ok (.aload_n 0, 1) := by decide +kernel
theorem dX4_shelfOf_14 : decode cX4_shelfOf 14 = .ok (.iload_n 1, 1) := by decide +kernel
theorem dX4_shelfOf_15 : decode cX4_shelfOf 15 = .ok (.invokevirtual 55, 3) := by decide +kernel
theorem dX4_shelfOf_18 : decode cX4_shelfOf 18 = .ok (.ifCond .eq 12, 3) := by decide +kernel
theorem dX4_shelfOf_21 : decode cX4_shelfOf 21 = .ok (.aload_n 0, 1) := by decide +kernel
theorem dX4_shelfOf_22 : decode cX4_shelfOf 22 = .ok (.getfield 17, 3) := by decide +kernel
theorem dX4_shelfOf_25 : decode cX4_shelfOf 25 = .ok (.iload_n 1, 1) := by decide +kernel
theorem dX4_shelfOf_26 : decode cX4_shelfOf 26 = .ok (.aaload, 1) := by decide +kernel
theorem dX4_shelfOf_27 : decode cX4_shelfOf 27 = .ok (.goto 4, 3) := by decide +kernel
theorem dX4_shelfOf_30 : decode cX4_shelfOf 30 = .ok (.aconst_null, 1) := by decide +kernel
theorem dX4_shelfOf_31 : decode cX4_shelfOf 31 = .ok (.areturn, 1) := by decide +kernel
theorem dX4_copyCount_0 : decode cX4_copyCount 0 = .ok (.iconst 0, 1) := by decide +kernel
theorem dX4_copyCount_1 : decode cX4_copyCount 1 = .ok (.istore_n 2, 1) := by decide +kernel
theorem dX4_copyCount_2 : decode cX4_copyCount 2 = .ok (.iconst 0, 1) := by decide +kernel
theorem dX4_copyCount_3 : decode cX4_copyCount 3 = .ok (.istore_n 3, 1) := by decide +kernel
theorem dX4_copyCount_4 : decode cX4_copyCount 4 = .ok (.iload_n 3, 1) := by decide +kernel
theorem dX4_copyCount_5 : decode cX4_copyCount 5 = .ok (.aload_n 0, 1) := by decide +kernel
theorem dX4_copyCount_6 : decode cX4_copyCount 6 = .ok (.getfield 42, 3) := by decide +kernel
theorem dX4_copyCount_9 : decode cX4_copyCount 9 = .ok (.if_icmp .ge 26, 3) := by decide +kernel
theorem dX4_copyCount_12 : decode cX4_copyCount 12 = .ok (.aload_n 0, 1) := by decide +kernel
theorem dX4_copyCount_13 : decode cX4_copyCount 13 = .ok (.getfield 17, 3) := by decide +kernel
theorem dX4_copyCount_16 : decode cX4_copyCount 16 = .ok (.iload_n 3, 1) := by decide +kernel
theorem dX4_copyCount_17 : decode cX4_copyCount 17 = .ok (.aaload, 1) := by decide +kernel
theorem dX4_copyCount_18 : decode cX4_copyCount 18 = .ok (.getfield 207, 3) := by decide +kernel
theorem dX4_copyCount_21 : decode cX4_copyCount 21 = .ok (.iload_n 1, 1) := by decide +kernel
theorem dX4_copyCount_22 : decode cX4_copyCount 22 = .ok (.baload, 1) := by decide +kernel
theorem dX4_copyCount_23 : decode cX4_copyCount 23 = .ok (.ifCond .eq 6, 3) := by decide +kernel
theorem dX4_copyCount_26 : decode cX4_copyCount 26 = .ok (.iinc 2 1, 3) := by decide +kernel
theorem dX4_copyCount_29 : decode cX4_copyCount 29 = .ok (.iinc 3 1, 3) := by decide +kernel
theorem dX4_copyCount_32 : decode cX4_copyCount 32 = .ok (.goto (-28), 3) := by decide +kernel
theorem dX4_copyCount_35 : decode cX4_copyCount 35 = .ok (.iload_n 2, 1) := by decide +kernel
theorem dX4_copyCount_36 : decode cX4_copyCount 36 = .ok (.ireturn, 1) := by decide +kernel
theorem dX4_allCopies_0 : decode cX4_allCopies 0 = .ok (.iconst 0, 1) := by decide +kernel
theorem dX4_allCopies_1 : decode cX4_allCopies 1 = .ok (.istore_n 1, 1) := by decide +kernel
theorem dX4_allCopies_2 : decode cX4_allCopies 2 = .ok (.iconst 0, 1) := by decide +kernel
theorem dX4_allCopies_3 : decode cX4_allCopies 3 = .ok (.istore_n 2, 1) := by decide +kernel
theorem dX4_allCopies_4 : decode cX4_allCopies 4 = .ok (.iload_n 2, 1) := by decide +kernel
theorem dX4_allCopies_5 : decode cX4_allCopies 5 = .ok (.bipush 120, 2) := by decide +kernel
theorem dX4_allCopies_7 : decode cX4_allCopies 7 = .ok (.if_icmp .ge 17, 3) := by decide +kernel
theorem dX4_allCopies_10 : decode cX4_allCopies 10 = .ok (.iload_n 1, 1) := by decide +kernel
theorem dX4_allCopies_11 : decode cX4_allCopies 11 = .ok (.aload_n 0, 1) := by decide +kernel
theorem dX4_allCopies_12 : decode cX4_allCopies 12 = .ok (.iload_n 2, 1) := by decide +kernel
theorem dX4_allCopies_13 : decode cX4_allCopies 13 = .ok (.invokevirtual 195, 3) := by decide +kernel
theorem dX4_allCopies_16 : decode cX4_allCopies 16 = .ok (.iadd, 1) := by decide +kernel
theorem dX4_allCopies_17 : decode cX4_allCopies 17 = .ok (.istore_n 1, 1) := by decide +kernel
theorem dX4_allCopies_18 : decode cX4_allCopies 18 = .ok (.iinc 2 1, 3) := by decide +kernel
theorem dX4_allCopies_21 : decode cX4_allCopies 21 = .ok (.goto (-17), 3) := by decide +kernel
theorem dX4_allCopies_24 : decode cX4_allCopies 24 = .ok (.iload_n 1, 1) := by decide +kernel
theorem dX4_allCopies_25 : decode cX4_allCopies 25 = .ok (.ireturn, 1) := by decide +kernel
theorem dX4_digestOf_0 : decode cX4_digestOf 0 = .ok (.iconst 1, 1) := by decide +kernel
theorem dX4_digestOf_1 : decode cX4_digestOf 1 = .ok (.istore_n 3, 1) := by decide +kernel
theorem dX4_digestOf_2 : decode cX4_digestOf 2 = .ok (.iconst 0, 1) := by decide +kernel
theorem dX4_digestOf_3 : decode cX4_digestOf 3 = .ok (.istore 4, 2) := by decide +kernel
theorem dX4_digestOf_5 : decode cX4_digestOf 5 = .ok (.iload 4, 2) := by decide +kernel
theorem dX4_digestOf_7 : decode cX4_digestOf 7 = .ok (.iload_n 2, 1) := by decide +kernel
theorem dX4_digestOf_8 : decode cX4_digestOf 8 = .ok (.if_icmp .ge 24, 3) := by decide +kernel
theorem dX4_digestOf_11 : decode cX4_digestOf 11 = .ok (.bipush 31, 2) := by decide +kernel
theorem dX4_digestOf_13 : decode cX4_digestOf 13 = .ok (.iload_n 3, 1) := by decide +kernel
theorem dX4_digestOf_14 : decode cX4_digestOf 14 = .ok (.imul, 1) := by decide +kernel
theorem dX4_digestOf_15 : decode cX4_digestOf 15 = .ok (.aload_n 0, 1) := by decide +kernel
theorem dX4_digestOf_16 : decode cX4_digestOf 16 = .ok (.iload_n 1, 1) := by decide +kernel
theorem dX4_digestOf_17 : decode cX4_digestOf 17 = .ok (.iload 4, 2) := by decide +kernel
theorem dX4_digestOf_19 : decode cX4_digestOf 19 = .ok (.iadd, 1) := by decide +kernel
theorem dX4_digestOf_20 : decode cX4_digestOf 20 = .ok (.iaload, 1) := by decide +kernel
theorem dX4_digestOf_21 : decode cX4_digestOf 21 = .ok (.iadd, 1) := by decide +kernel
theorem dX4_digestOf_22 : decode cX4_digestOf 22 = .ok (.bipush 61, 2) := by decide +kernel
theorem dX4_digestOf_24 : decode cX4_digestOf 24 = .ok (.irem, 1) := by decide +kernel
theorem dX4_digestOf_25 : decode cX4_digestOf 25 = .ok (.istore_n 3, 1) := by decide +kernel
theorem dX4_digestOf_26 : decode cX4_digestOf 26 = .ok (.iinc 4 1, 3) := by decide +kernel
theorem dX4_digestOf_29 : decode cX4_digestOf 29 = .ok (.goto (-24), 3) := by decide +kernel
theorem dX4_digestOf_32 : decode cX4_digestOf 32 = .ok (.iload_n 3, 1) := by decide +kernel
theorem dX4_digestOf_33 : decode cX4_digestOf 33 = .ok (.ireturn, 1) := by decide +kernel
theorem dX5_init_0 : decode cX5_init 0 = .ok (.aload_n 0, 1) := by decide +kernel
theorem dX5_init_1 : decode cX5_init 1 = .ok (.invokespecial 1, 3) := by decide +kernel
theorem dX5_init_4 : decode cX5_init 4 = .ok (.aload_n 0, 1) := by decide +kernel
theorem dX5_init_5 : decode cX5_init 5 = .ok (.iconst 2, 1) := by decide +kernel
theorem dX5_init_6 : decode cX5_init 6 = .ok (.putfield 7, 3) := by decide +kernel
theorem dX5_init_9 : decode cX5_init 9 = .ok (.aload_n 0, 1) := by decide +kernel
theorem dX5_init_10 : decode cX5_init 10 = .ok (.iconst 4, 1) := by decide +kernel
theorem dX5_init_11 : decode cX5_init 11 = .ok (.newarray .int, 2) := by decide +kernel
theorem dX5_init_13 : decode cX5_init 13 = .ok (.putfield 13, 3) := by decide +kernel
theorem dX5_init_16 : decode cX5_init 16 = .ok (.aload_n 0, 1) := by decide +kernel
theorem dX5_init_17 : decode cX5_init 17 = .ok (.sipush 1200, 3) := by decide +kernel
theorem dX5_init_20 : decode cX5_init 20 = .ok (.newarray .int, 2) := by decide +kernel
theorem dX5_init_22 : decode cX5_init 22 = .ok (.putfield 17, 3) := by decide +kernel
theorem dX5_init_25 : decode cX5_init 25 = .ok (.aload_n 0, 1) := by decide +kernel
theorem dX5_init_26 : decode cX5_init 26 = .ok (.sipush 1200, 3) := by decide +kernel
theorem dX5_init_29 : decode cX5_init 29 = .ok (.newarray .int, 2) := by decide +kernel
theorem dX5_init_31 : decode cX5_init 31 = .ok (.putfield 20, 3) := by decide +kernel
theorem dX5_init_34 : decode cX5_init 34 = .ok (.aload_n 0, 1) := by decide +kernel
theorem dX5_init_35 : decode cX5_init 35 = .ok (.bipush 120, 2) := by decide +kernel
theorem dX5_init_37 : decode cX5_init 37 = .ok (.newarray .int, 2) := by decide +kernel
theorem dX5_init_39 : decode cX5_init 39 = .ok (.putfield 23, 3) := by decide +kernel
theorem dX5_init_42 : decode cX5_init 42 = .ok (.aload_n 0, 1) := by decide +kernel
theorem dX5_init_43 : decode cX5_init 43 = .ok (.bipush 120, 2) := by decide +kernel
theorem dX5_init_45 : decode cX5_init 45 = .ok (.newarray .int, 2) := by decide +kernel
theorem dX5_init_47 : decode cX5_init 47 = .ok (.putfield 26, 3) := by decide +kernel
theorem dX5_init_50 : decode cX5_init 50 = .ok (.aload_n 0, 1) := by decide +kernel
theorem dX5_init_51 : decode cX5_init 51 = .ok (.bipush 120, 2) := by decide +kernel
theorem dX5_init_53 : decode cX5_init 53 = .ok (.newarray .boolean, 2) := by decide +kernel
theorem dX5_init_55 : decode cX5_init 55 = .ok (.putfield 29, 3) := by decide +kernel
theorem dX5_init_58 : decode cX5_init 58 = .ok (.aload_n 0, 1) := by decide +kernel
theorem dX5_init_59 : decode cX5_init 59 = .ok (.sipush 3840, 3) := by decide +kernel
theorem dX5_init_62 : decode cX5_init 62 = .ok (.newarray .int, 2) := by decide +kernel
theorem dX5_init_64 : decode cX5_init 64 = .ok (.putfield 33, 3) := by decide +kernel
theorem dX5_init_67 : decode cX5_init 67 = .ok (.aload_n 0, 1) := by decide +kernel
theorem dX5_init_68 : decode cX5_init 68 = .ok (.sipush 480, 3) := by decide +kernel
theorem dX5_init_71 : decode cX5_init 71 = .ok (.newarray .boolean, 2) := by decide +kernel
theorem dX5_init_73 : decode cX5_init 73 = .ok (.putfield 36, 3) := by decide +kernel
theorem dX5_init_76 : decode cX5_init 76 = .ok (.aload_n 0, 1) := by decide +kernel
theorem dX5_init_77 : decode cX5_init 77 = .ok (.sipush 15360, 3) := by decide +kernel
theorem dX5_init_80 : decode cX5_init 80 = .ok (.newarray .int, 2) := by decide +kernel
theorem dX5_init_82 : decode cX5_init 82 = .ok (.putfield 39, 3) := by decide +kernel
theorem dX5_init_85 : decode cX5_init 85 = .ok (.aload_n 0, 1) := by decide +kernel
theorem dX5_init_86 : decode cX5_init 86 = .ok (.bipush 12, 2) := by decide +kernel
theorem dX5_init_88 : decode cX5_init 88 = .ok (.newarray .int, 2) := by decide +kernel
theorem dX5_init_90 : decode cX5_init 90 = .ok (.putfield 42, 3) := by decide +kernel
theorem dX5_init_93 : decode cX5_init 93 = .ok (.aload_n 0, 1) := by decide +kernel
theorem dX5_init_94 : decode cX5_init 94 = .ok (.bipush 12, 2) := by decide +kernel
theorem dX5_init_96 : decode cX5_init 96 = .ok (.newarray .boolean, 2) := by decide +kernel
theorem dX5_init_98 : decode cX5_init 98 = .ok (.putfield 45, 3) := by decide +kernel
theorem dX5_init_101 : decode cX5_init 101 = .ok (.aload_n 0, 1) := by decide +kernel
theorem dX5_init_102 : decode cX5_init 102 = .ok (.bipush 12, 2) := by decide +kernel
theorem dX5_init_104 : decode cX5_init 104 = .ok (.newarray .int, 2) := by decide +kernel
theorem dX5_init_106 : decode cX5_init 106 = .ok (.putfield 48, 3) := by decide +kernel
theorem dX5_init_109 : decode cX5_init 109 = .ok (.aload_n 0, 1) := by decide +kernel
theorem dX5_init_110 : decode cX5_init 110 = .ok (.bipush 12, 2) := by decide +kernel
theorem dX5_init_112 : decode cX5_init 112 = .ok (.newarray .int, 2) := by decide +kernel
theorem dX5_init_114 : decode cX5_init 114 = .ok (.putfield 51, 3) := by decide +kernel
theorem dX5_init_117 : decode cX5_init 117 = .ok (.aload_n 0, 1) := by decide +kernel
theorem dX5_init_118 : decode cX5_init 118 = .ok (.bipush 48, 2) := by decide +kernel
theorem dX5_init_120 : decode cX5_init 120 = .ok (.newarray .int, 2) := by decide +kernel
theorem dX5_init_122 : decode cX5_init 122 = .ok (.putfield 54, 3) := by decide +kernel
theorem dX5_init_125 : decode cX5_init 125 = .ok (.aload_n 0, 1) := by decide +kernel
theorem dX5_init_126 : decode cX5_init 126 = .ok (.sipush 3840, 3) := by decide +kernel
theorem dX5_init_129 : decode cX5_init 129 = .ok (.newarray .int, 2) := by decide +kernel
theorem dX5_init_131 : decode cX5_init 131 = .ok (.putfield 57, 3) := by decide +kernel
theorem dX5_init_134 : decode cX5_init 134 = .ok (.aload_n 0, 1) := by decide +kernel
theorem dX5_init_135 : decode cX5_init 135 = .ok (.bipush 12, 2) := by decide +kernel
theorem dX5_init_137 : decode cX5_init 137 = .ok (.newarray .int, 2) := by decide +kernel
theorem dX5_init_139 : decode cX5_init 139 = .ok (.putfield 60, 3) := by decide +kernel
theorem dX5_init_142 : decode cX5_init 142 = .ok (.aload_n 0, 1) := by decide +kernel
theorem dX5_init_143 : decode cX5_init 143 = .ok (.bipush 12, 2) := by decide +kernel
theorem dX5_init_145 : decode cX5_init 145 = .ok (.newarray .int, 2) := by decide +kernel
theorem dX5_init_147 : decode cX5_init 147 = .ok (.putfield 63, 3) := by decide +kernel
theorem dX5_init_150 : decode cX5_init 150 = .ok (.aload_n 0, 1) := by decide +kernel
theorem dX5_init_151 : decode cX5_init 151 = .ok (.bipush 12, 2) := by decide +kernel
theorem dX5_init_153 : decode cX5_init 153 = .ok (.newarray .int, 2) := by decide +kernel
theorem dX5_init_155 : decode cX5_init 155 = .ok (.putfield 66, 3) := by decide +kernel
theorem dX5_init_158 : decode cX5_init 158 = .ok (.aload_n 0, 1) := by decide +kernel
theorem dX5_init_159 : decode cX5_init 159 = .ok (.bipush 120, 2) := by decide +kernel
theorem dX5_init_161 : decode cX5_init 161 = .ok (.newarray .boolean, 2) := by decide +kernel
theorem dX5_init_163 : decode cX5_init 163 = .ok (.putfield 69, 3) := by decide +kernel
theorem dX5_init_166 : decode cX5_init 166 = .ok (.iconst 0, 1) := by decide +kernel
theorem dX5_init_167 : decode cX5_init 167 = .ok (.istore_n 1, 1) := by decide +kernel
theorem dX5_init_168 : decode cX5_init 168 = .ok (.iload_n 1, 1) := by decide +kernel
theorem dX5_init_169 : decode cX5_init 169 = .ok (.bipush 12, 2) := by decide +kernel
theorem dX5_init_171 : decode cX5_init 171 = .ok (.if_icmp .ge 16, 3) := by decide +kernel
theorem dX5_init_174 : decode cX5_init 174 = .ok (.aload_n 0, 1) := by decide +kernel
theorem dX5_init_175 : decode cX5_init 175 = .ok (.getfield 42, 3) := by decide +kernel
theorem dX5_init_178 : decode cX5_init 178 = .ok (.iload_n 1, 1) := by decide +kernel
theorem dX5_init_179 : decode cX5_init 179 = .ok (.iconst (-1), 1) := by decide +kernel
theorem dX5_init_180 : decode cX5_init 180 = .ok (.iastore, 1) := by decide +kernel
theorem dX5_init_181 : decode cX5_init 181 = .ok (.iinc 1 1, 3) := by decide +kernel
theorem dX5_init_184 : decode cX5_init 184 = .ok (.goto (-16), 3) := by decide +kernel
theorem dX5_init_187 : decode cX5_init 187 = .ok (.return_, 1) := by decide +kernel
theorem dX5_in_0 : decode cX5_in 0 = .ok (.iload_n 0, 1) := by decide +kernel
theorem dX5_in_1 : decode cX5_in 1 = .ok (.iload_n 1, 1) := by decide +kernel
theorem dX5_in_2 : decode cX5_in 2 = .ok (.if_icmp .lt 12, 3) := by decide +kernel
theorem dX5_in_5 : decode cX5_in 5 = .ok (.iload_n 0, 1) := by decide +kernel
theorem dX5_in_6 : decode cX5_in 6 = .ok (.iload_n 2, 1) := by decide +kernel
theorem dX5_in_7 : decode cX5_in 7 = .ok (.if_icmp .gt 7, 3) := by decide +kernel
theorem dX5_in_10 : decode cX5_in 10 = .ok (.iconst 1, 1) := by decide +kernel
theorem dX5_in_11 : decode cX5_in 11 = .ok (.goto 4, 3) := by decide +kernel
theorem dX5_in_14 : decode cX5_in 14 = .ok (.iconst 0, 1) := by decide +kernel
theorem dX5_in_15 : decode cX5_in 15 = .ok (.ireturn, 1) := by decide +kernel
theorem dX5_isTask_0 : decode cX5_isTask 0 = .ok (.iload_n 1, 1) := by decide +kernel
theorem dX5_isTask_1 : decode cX5_isTask 1 = .ok (.iconst 0, 1) := by decide +kernel
theorem dX5_isTask_2 : decode cX5_isTask 2 = .ok (.aload_n 0, 1) := by decide +kernel
theorem dX5_isTask_3 : decode cX5_isTask 3 = .ok (.getfield 7, 3) := by decide +kernel
theorem dX5_isTask_6 : decode cX5_isTask 6 = .ok (.iconst 1, 1) := by decide +kernel
theorem dX5_isTask_7 : decode cX5_isTask 7 = .ok (.isub, 1) := by decide +kernel
theorem dX5_isTask_8 : decode cX5_isTask 8 = .ok (.invokestatic 72, 3) := by decide +kernel
theorem dX5_isTask_11 : decode cX5_isTask 11 = .ok (.ireturn, 1) := by decide +kernel
theorem dX5_insert_0 : decode cX5_insert 0 = .ok (.aload_n 0, 1) := by decide +kernel
theorem dX5_insert_1 : decode cX5_insert 1 = .ok (.iload_n 1, 1) := by decide +kernel
theorem dX5_insert_2 : decode cX5_insert 2 = .ok (.invokevirtual 76, 3) := by decide +kernel
theorem dX5_insert_5 : decode cX5_insert 5 = .ok (.ifCond .eq 27, 3) := by decide +kernel
theorem dX5_insert_8 : decode cX5_insert 8 = .ok (.iload_n 2, 1) := by decide +kernel
theorem dX5_insert_9 : decode cX5_insert 9 = .ok (.iconst 0, 1) := by decide +kernel
theorem dX5_insert_10 : decode cX5_insert 10 = .ok (.aload_n 0, 1) := by decide +kernel
theorem dX5_insert_11 : decode cX5_insert 11 = .ok (.getfield 13, 3) := by decide +kernel
theorem dX5_insert_14 : decode cX5_insert 14 = .ok (.iload_n 1, 1) := by decide +kernel
theorem dX5_insert_15 : decode cX5_insert 15 = .ok (.iaload, 1) := by decide +kernel
theorem dX5_insert_16 : decode cX5_insert 16 = .ok (.invokestatic 72, 3) := by decide +kernel
theorem dX5_insert_19 : decode cX5_insert 19 = .ok (.ifCond .eq 13, 3) := by decide +kernel
theorem dX5_insert_22 : decode cX5_insert 22 = .ok (.iload_n 3, 1) := by decide +kernel
theorem dX5_insert_23 : decode cX5_insert 23 = .ok (.iconst 0, 1) := by decide +kernel
theorem dX5_insert_24 : decode cX5_insert 24 = .ok (.bipush 8, 2) := by decide +kernel
theorem dX5_insert_26 : decode cX5_insert 26 = .ok (.invokestatic 72, 3) := by decide +kernel
theorem dX5_insert_29 : decode cX5_insert 29 = .ok (.ifCond .ne 6, 3) := by decide +kernel
theorem dX5_insert_32 : decode cX5_insert 32 = .ok (.bipush (-2), 2) := by decide +kernel
theorem dX5_insert_34 : decode cX5_insert 34 = .ok (.ireturn, 1) := by decide +kernel
theorem dX5_insert_35 : decode cX5_insert 35 = .ok (.aload_n 0, 1) := by decide +kernel
theorem dX5_insert_36 : decode cX5_insert 36 = .ok (.getfield 13, 3) := by decide +kernel
theorem dX5_insert_39 : decode cX5_insert 39 = .ok (.iload_n 1, 1) := by decide +kernel
theorem dX5_insert_40 : decode cX5_insert 40 = .ok (.iaload, 1) := by decide +kernel
theorem dX5_insert_41 : decode cX5_insert 41 = .ok (.iload_n 3, 1) := by decide +kernel
theorem dX5_insert_42 : decode cX5_insert 42 = .ok (.iadd, 1) := by decide +kernel
theorem dX5_insert_43 : decode cX5_insert 43 = .ok (.sipush 300, 3) := by decide +kernel
theorem dX5_insert_46 : decode cX5_insert 46 = .ok (.if_icmp .le 6, 3) := by decide +kernel
theorem dX5_insert_49 : decode cX5_insert 49 = .ok (.bipush (-3), 2) := by decide +kernel
theorem dX5_insert_51 : decode cX5_insert 51 = .ok (.ireturn, 1) := by decide +kernel
theorem dX5_insert_52 : decode cX5_insert 52 = .ok (.sipush 300, 3) := by decide +kernel
theorem dX5_insert_55 : decode cX5_insert 55 = .ok (.iload_n 1, 1) := by decide +kernel
theorem dX5_insert_56 : decode cX5_insert 56 = .ok (.imul, 1) := by decide +kernel
theorem dX5_insert_57 : decode cX5_insert 57 = .ok (.istore 6, 2) := by decide +kernel
theorem dX5_insert_59 : decode cX5_insert 59 = .ok (.aload_n 0, 1) := by decide +kernel
theorem dX5_insert_60 : decode cX5_insert 60 = .ok (.getfield 13, 3) := by decide +kernel
theorem dX5_insert_63 : decode cX5_insert 63 = .ok (.iload_n 1, 1) := by decide +kernel
theorem dX5_insert_64 : decode cX5_insert 64 = .ok (.iaload, 1) := by decide +kernel
theorem dX5_insert_65 : decode cX5_insert 65 = .ok (.iconst 1, 1) := by decide +kernel
theorem dX5_insert_66 : decode cX5_insert 66 = .ok (.isub, 1) := by decide +kernel
theorem dX5_insert_67 : decode cX5_insert 67 = .ok (.istore 7, 2) := by decide +kernel
theorem dX5_insert_69 : decode cX5_insert 69 = .ok (.iload 7, 2) := by decide +kernel
theorem dX5_insert_71 : decode cX5_insert 71 = .ok (.iload_n 2, 1) := by decide +kernel
theorem dX5_insert_72 : decode cX5_insert 72 = .ok (.if_icmp .lt 31, 3) := by decide +kernel
theorem dX5_insert_75 : decode cX5_insert 75 = .ok (.aload_n 0, 1) := by decide +kernel
theorem dX5_insert_76 : decode cX5_insert 76 = .ok (.getfield 17, 3) := by decide +kernel
theorem dX5_insert_79 : decode cX5_insert 79 = .ok (.iload 6, 2) := by decide +kernel
theorem dX5_insert_81 : decode cX5_insert 81 = .ok (.iload 7, 2) := by decide +kernel
theorem dX5_insert_83 : decode cX5_insert 83 = .ok (.iadd, 1) := by decide +kernel
theorem dX5_insert_84 : decode cX5_insert 84 = .ok (.iload_n 3, 1) := by decide +kernel
theorem dX5_insert_85 : decode cX5_insert 85 = .ok (.iadd, 1) := by decide +kernel
theorem dX5_insert_86 : decode cX5_insert 86 = .ok (.aload_n 0, 1) := by decide +kernel
theorem dX5_insert_87 : decode cX5_insert 87 = .ok (.getfield 17, 3) := by decide +kernel
theorem dX5_insert_90 : decode cX5_insert 90 = .ok (.iload 6, 2) := by decide +kernel
theorem dX5_insert_92 : decode cX5_insert 92 = .ok (.iload 7, 2) := by decide +kernel
theorem dX5_insert_94 : decode cX5_insert 94 = .ok (.iadd, 1) := by decide +kernel
theorem dX5_insert_95 : decode cX5_insert 95 = .ok (.iaload, 1) := by decide +kernel
theorem dX5_insert_96 : decode cX5_insert 96 = .ok (.iastore, 1) := by decide +kernel
theorem dX5_insert_97 : decode cX5_insert 97 = .ok (.iinc 7 (-1), 3) := by decide +kernel
theorem dX5_insert_100 : decode cX5_insert 100 = .ok (.goto (-31), 3) := by decide +kernel
theorem dX5_insert_103 : decode cX5_insert 103 = .ok (.iconst 0, 1) := by decide +kernel
theorem dX5_insert_104 : decode cX5_insert 104 = .ok (.istore 7, 2) := by decide +kernel
theorem dX5_insert_106 : decode cX5_insert 106 = .ok (.iload 7, 2) := by decide +kernel
theorem dX5_insert_108 : decode cX5_insert 108 = .ok (.iload_n 3, 1) := by decide +kernel
theorem dX5_insert_109 : decode cX5_insert 109 = .ok (.if_icmp .ge 38, 3) := by decide +kernel
theorem dX5_insert_112 : decode cX5_insert 112 = .ok (.aload_n 0, 1) := by decide +kernel
theorem dX5_insert_113 : decode cX5_insert 113 = .ok (.getfield 17, 3) := by decide +kernel
theorem dX5_insert_116 : decode cX5_insert 116 = .ok (.iload 6, 2) := by decide +kernel
theorem dX5_insert_118 : decode cX5_insert 118 = .ok (.iload_n 2, 1) := by decide +kernel
theorem dX5_insert_119 : decode cX5_insert 119 = .ok (.iadd, 1) := by decide +kernel
theorem dX5_insert_120 : decode cX5_insert 120 = .ok (.iload 7, 2) := by decide +kernel
theorem dX5_insert_122 : decode cX5_insert 122 = .ok (.iadd, 1) := by decide +kernel
theorem dX5_insert_123 : decode cX5_insert 123 = .ok (.lload 4, 2) := by decide +kernel
theorem dX5_insert_125 : decode cX5_insert 125 = .ok (.bipush 8, 2) := by decide +kernel
theorem dX5_insert_127 : decode cX5_insert 127 = .ok (.iload_n 3, 1) := by decide +kernel
theorem dX5_insert_128 : decode cX5_insert 128 = .ok (.iconst 1, 1) := by decide +kernel
theorem dX5_insert_129 : decode cX5_insert 129 = .ok (.isub, 1) := by decide +kernel
theorem dX5_insert_130 : decode cX5_insert 130 = .ok (.iload 7, 2) := by decide +kernel
theorem dX5_insert_132 : decode cX5_insert 132 = .ok (.isub, 1) := by decide +kernel
theorem dX5_insert_133 : decode cX5_insert 133 = .ok (.imul, 1) := by decide +kernel
theorem dX5_insert_134 : decode cX5_insert 134 = .ok (.lushr, 1) := by decide +kernel
theorem dX5_insert_135 : decode cX5_insert 135 = .ok (.ldc2_w 80, 3) := by decide +kernel
theorem dX5_insert_138 : decode cX5_insert 138 = .ok (.land, 1) := by decide +kernel
theorem dX5_insert_139 : decode cX5_insert 139 = .ok (.l2i, 1) := by decide +kernel
theorem dX5_insert_140 : decode cX5_insert 140 = .ok (.iastore, 1) := by decide +kernel
theorem dX5_insert_141 : decode cX5_insert 141 = .ok (.iinc 7 1, 3) := by decide +kernel
theorem dX5_insert_144 : decode cX5_insert 144 = .ok (.goto (-38), 3) := by decide +kernel
theorem dX5_insert_147 : decode cX5_insert 147 = .ok (.aload_n 0, 1) := by decide +kernel
theorem dX5_insert_148 : decode cX5_insert 148 = .ok (.getfield 13, 3) := by decide +kernel
theorem dX5_insert_151 : decode cX5_insert 151 = .ok (.iload_n 1, 1) := by decide +kernel
theorem dX5_insert_152 : decode cX5_insert 152 = .ok (.dup2, 1) := by decide +kernel
theorem dX5_insert_153 : decode cX5_insert 153 = .ok (.iaload, 1) := by decide +kernel
theorem dX5_insert_154 : decode cX5_insert 154 = .ok (.iload_n 3, 1) := by decide +kernel
theorem dX5_insert_155 : decode cX5_insert 155 = .ok (.iadd, 1) := by decide +kernel
theorem dX5_insert_156 : decode cX5_insert 156 = .ok (.iastore, 1) := by decide +kernel
theorem dX5_insert_157 : decode cX5_insert 157 = .ok (.aload_n 0, 1) := by decide +kernel
theorem dX5_insert_158 : decode cX5_insert 158 = .ok (.getfield 13, 3) := by decide +kernel
theorem dX5_insert_161 : decode cX5_insert 161 = .ok (.iload_n 1, 1) := by decide +kernel
theorem dX5_insert_162 : decode cX5_insert 162 = .ok (.iaload, 1) := by decide +kernel
theorem dX5_insert_163 : decode cX5_insert 163 = .ok (.ireturn, 1) := by decide +kernel
theorem dX5_remove_0 : decode cX5_remove 0 = .ok (.aload_n 0, 1) := by decide +kernel
theorem dX5_remove_1 : decode cX5_remove 1 = .ok (.iload_n 1, 1) := by decide +kernel
theorem dX5_remove_2 : decode cX5_remove 2 = .ok (.invokevirtual 76, 3) := by decide +kernel
theorem dX5_remove_5 : decode cX5_remove 5 = .ok (.ifCond .eq 33, 3) := by decide +kernel
theorem dX5_remove_8 : decode cX5_remove 8 = .ok (.iload_n 2, 1) := by decide +kernel
theorem dX5_remove_9 : decode cX5_remove 9 = .ok (.ifCond .lt 29, 3) := by decide +kernel
theorem dX5_remove_12 : decode cX5_remove 12 = .ok (.iload_n 3, 1) := by decide +kernel
theorem dX5_remove_13 : decode cX5_remove 13 = .ok (.ifCond .lt 25, 3) := by decide +kernel
theorem dX5_remove_16 : decode cX5_remove 16 = .ok (.iload_n 2, 1) := by decide +kernel
theorem dX5_remove_17 : decode cX5_remove 17 = .ok (.aload_n 0, 1) := by decide +kernel
theorem dX5_remove_18 : decode cX5_remove 18 = .ok (.getfield 13, 3) := by decide +kernel
theorem dX5_remove_21 : decode cX5_remove 21 = .ok (.iload_n 1, 1) := by decide +kernel
theorem dX5_remove_22 : decode cX5_remove 22 = .ok (.iaload, 1) := by decide +kernel
theorem dX5_remove_23 : decode cX5_remove 23 = .ok (.if_icmp .gt 15, 3) := by decide +kernel
theorem dX5_remove_26 : decode cX5_remove 26 = .ok (.iload_n 3, 1) := by decide +kernel
theorem dX5_remove_27 : decode cX5_remove 27 = .ok (.aload_n 0, 1) := by decide +kernel
theorem dX5_remove_28 : decode cX5_remove 28 = .ok (.getfield 13, 3) := by decide +kernel
theorem dX5_remove_31 : decode cX5_remove 31 = .ok (.iload_n 1, 1) := by decide +kernel
theorem dX5_remove_32 : decode cX5_remove 32 = .ok (.iaload, 1) := by decide +kernel
theorem dX5_remove_33 : decode cX5_remove 33 = .ok (.iload_n 2, 1) := by decide +kernel
theorem dX5_remove_34 : decode cX5_remove 34 = .ok (.isub, 1) := by decide +kernel
theorem dX5_remove_35 : decode cX5_remove 35 = .ok (.if_icmp .le 6, 3) := by decide +kernel
theorem dX5_remove_38 : decode cX5_remove 38 = .ok (.bipush (-2), 2) := by decide +kernel
theorem dX5_remove_40 : decode cX5_remove 40 = .ok (.ireturn, 1) := by decide +kernel
theorem dX5_remove_41 : decode cX5_remove 41 = .ok (.sipush 300, 3) := by decide +kernel
theorem dX5_remove_44 : decode cX5_remove 44 = .ok (.iload_n 1, 1) := by decide +kernel
theorem dX5_remove_45 : decode cX5_remove 45 = .ok (.imul, 1) := by decide +kernel
theorem dX5_remove_46 : decode cX5_remove 46 = .ok (.istore 4, 2) := by decide +kernel
theorem dX5_remove_48 : decode cX5_remove 48 = .ok (.iload_n 2, 1) := by decide +kernel
theorem dX5_remove_49 : decode cX5_remove 49 = .ok (.iload_n 3, 1) := by decide +kernel
theorem dX5_remove_50 : decode cX5_remove 50 = .ok (.iadd, 1) := by decide +kernel
theorem dX5_remove_51 : decode cX5_remove 51 = .ok (.istore 5, 2) := by decide +kernel
theorem dX5_remove_53 : decode cX5_remove 53 = .ok (.iload 5, 2) := by decide +kernel
theorem dX5_remove_55 : decode cX5_remove 55 = .ok (.aload_n 0, 1) := by decide +kernel
theorem dX5_remove_56 : decode cX5_remove 56 = .ok (.getfield 13, 3) := by decide +kernel
theorem dX5_remove_59 : decode cX5_remove 59 = .ok (.iload_n 1, 1) := by decide +kernel
theorem dX5_remove_60 : decode cX5_remove 60 = .ok (.iaload, 1) := by decide +kernel
theorem dX5_remove_61 : decode cX5_remove 61 = .ok (.if_icmp .ge 31, 3) := by decide +kernel
theorem dX5_remove_64 : decode cX5_remove 64 = .ok (.aload_n 0, 1) := by decide +kernel
theorem dX5_remove_65 : decode cX5_remove 65 = .ok (.getfield 17, 3) := by decide +kernel
theorem dX5_remove_68 : decode cX5_remove 68 = .ok (.iload 4, 2) := by decide +kernel
theorem dX5_remove_70 : decode cX5_remove 70 = .ok (.iload 5, 2) := by decide +kernel
theorem dX5_remove_72 : decode cX5_remove 72 = .ok (.iadd, 1) := by decide +kernel
theorem dX5_remove_73 : decode cX5_remove 73 = .ok (.iload_n 3, 1) := by decide +kernel
theorem dX5_remove_74 : decode cX5_remove 74 = .ok (.isub, 1) := by decide +kernel
theorem dX5_remove_75 : decode cX5_remove 75 = .ok (.aload_n 0, 1) := by decide +kernel
theorem dX5_remove_76 : decode cX5_remove 76 = .ok (.getfield 17, 3) := by decide +kernel
theorem dX5_remove_79 : decode cX5_remove 79 = .ok (.iload 4, 2) := by decide +kernel
theorem dX5_remove_81 : decode cX5_remove 81 = .ok (.iload 5, 2) := by decide +kernel
theorem dX5_remove_83 : decode cX5_remove 83 = .ok (.iadd, 1) := by decide +kernel
theorem dX5_remove_84 : decode cX5_remove 84 = .ok (.iaload, 1) := by decide +kernel
theorem dX5_remove_85 : decode cX5_remove 85 = .ok (.iastore, 1) := by decide +kernel
theorem dX5_remove_86 : decode cX5_remove 86 = .ok (.iinc 5 1, 3) := by decide +kernel
theorem dX5_remove_89 : decode cX5_remove 89 = .ok (.goto (-36), 3) := by decide +kernel
theorem dX5_remove_92 : decode cX5_remove 92 = .ok (.aload_n 0, 1) := by decide +kernel
theorem dX5_remove_93 : decode cX5_remove 93 = .ok (.getfield 13, 3) := by decide +kernel
theorem dX5_remove_96 : decode cX5_remove 96 = .ok (.iload_n 1, 1) := by decide +kernel
theorem dX5_remove_97 : decode cX5_remove 97 = .ok (.dup2, 1) := by decide +kernel
theorem dX5_remove_98 : decode cX5_remove 98 = .ok (.iaload, 1) := by decide +kernel
theorem dX5_remove_99 : decode cX5_remove 99 = .ok (.iload_n 3, 1) := by decide +kernel
theorem dX5_remove_100 : decode cX5_remove 100 = .ok (.isub, 1) := by decide +kernel
theorem dX5_remove_101 : decode cX5_remove 101 = .ok (.iastore, 1) := by decide +kernel
theorem dX5_remove_102 : decode cX5_remove 102 = .ok (.aload_n 0, 1) := by decide +kernel
theorem dX5_remove_103 : decode cX5_remove 103 = .ok (.getfield 13, 3) := by decide +kernel
theorem dX5_remove_106 : decode cX5_remove 106 = .ok (.iload_n 1, 1) := by decide +kernel
theorem dX5_remove_107 : decode cX5_remove 107 = .ok (.iaload, 1) := by decide +kernel
theorem dX5_remove_108 : decode cX5_remove 108 = .ok (.ireturn, 1) := by decide +kernel
theorem dX5_extend_0 : decode cX5_extend 0 = .ok (.aload_n 0, 1) := by decide +kernel
theorem dX5_extend_1 : decode cX5_extend 1 = .ok (.iload_n 1, 1) := by decide +kernel
theorem dX5_extend_2 : decode cX5_extend 2 = .ok (.invokevirtual 76, 3) := by decide +kernel
theorem dX5_extend_5 : decode cX5_extend 5 = .ok (.ifCond .eq 14, 3) := by decide +kernel
theorem dX5_extend_8 : decode cX5_extend 8 = .ok (.iload_n 2, 1) := by decide +kernel
theorem dX5_extend_9 : decode cX5_extend 9 = .ok (.iconst 0, 1) := by decide +kernel
theorem dX5_extend_10 : decode cX5_extend 10 = .ok (.sipush 300, 3) := by decide +kernel
theorem dX5_extend_13 : decode cX5_extend 13 = .ok (.invokestatic 72, 3) := by decide +kernel
theorem dX5_extend_16 : decode cX5_extend 16 = .ok (.ifCond .ne 6, 3) := by decide +kernel
theorem dX5_extend_19 : decode cX5_extend 19 = .ok (.bipush (-2), 2) := by decide +kernel
theorem dX5_extend_21 : decode cX5_extend 21 = .ok (.ireturn, 1) := by decide +kernel
theorem dX5_extend_22 : decode cX5_extend 22 = .ok (.aload_n 0, 1) := by decide +kernel
theorem dX5_extend_23 : decode cX5_extend 23 = .ok (.getfield 13, 3) := by decide +kernel
theorem dX5_extend_26 : decode cX5_extend 26 = .ok (.iload_n 1, 1) := by decide +kernel
theorem dX5_extend_27 : decode cX5_extend 27 = .ok (.iaload, 1) := by decide +kernel
theorem dX5_extend_28 : decode cX5_extend 28 = .ok (.iload_n 2, 1) := by decide +kernel
theorem dX5_extend_29 : decode cX5_extend 29 = .ok (.iadd, 1) := by decide +kernel
theorem dX5_extend_30 : decode cX5_extend 30 = .ok (.sipush 300, 3) := by decide +kernel
theorem dX5_extend_33 : decode cX5_extend 33 = .ok (.if_icmp .le 6, 3) := by decide +kernel
theorem dX5_extend_36 : decode cX5_extend 36 = .ok (.bipush (-3), 2) := by decide +kernel
theorem dX5_extend_38 : decode cX5_extend 38 = .ok (.ireturn, 1) := by decide +kernel
theorem dX5_extend_39 : decode cX5_extend 39 = .ok (.iconst 0, 1) := by decide +kernel
theorem dX5_extend_40 : decode cX5_extend 40 = .ok (.istore 5, 2) := by decide +kernel
theorem dX5_extend_42 : decode cX5_extend 42 = .ok (.iload 5, 2) := by decide +kernel
theorem dX5_extend_44 : decode cX5_extend 44 = .ok (.iload_n 2, 1) := by decide +kernel
theorem dX5_extend_45 : decode cX5_extend 45 = .ok (.if_icmp .ge 40, 3) := by decide +kernel
theorem dX5_extend_48 : decode cX5_extend 48 = .ok (.aload_n 0, 1) := by decide +kernel
theorem dX5_extend_49 : decode cX5_extend 49 = .ok (.getfield 17, 3) := by decide +kernel
theorem dX5_extend_52 : decode cX5_extend 52 = .ok (.sipush 300, 3) := by decide +kernel
theorem dX5_extend_55 : decode cX5_extend 55 = .ok (.iload_n 1, 1) := by decide +kernel
theorem dX5_extend_56 : decode cX5_extend 56 = .ok (.imul, 1) := by decide +kernel
theorem dX5_extend_57 : decode cX5_extend 57 = .ok (.aload_n 0, 1) := by decide +kernel
theorem dX5_extend_58 : decode cX5_extend 58 = .ok (.getfield 13, 3) := by decide +kernel
theorem dX5_extend_61 : decode cX5_extend 61 = .ok (.iload_n 1, 1) := by decide +kernel
theorem dX5_extend_62 : decode cX5_extend 62 = .ok (.iaload, 1) := by decide +kernel
theorem dX5_extend_63 : decode cX5_extend 63 = .ok (.iadd, 1) := by decide +kernel
theorem dX5_extend_64 : decode cX5_extend 64 = .ok (.iload 5, 2) := by decide +kernel
theorem dX5_extend_66 : decode cX5_extend 66 = .ok (.iadd, 1) := by decide +kernel
theorem dX5_extend_67 : decode cX5_extend 67 = .ok (.iload_n 3, 1) := by decide +kernel
theorem dX5_extend_68 : decode cX5_extend 68 = .ok (.iload 5, 2) := by decide +kernel
theorem dX5_extend_70 : decode cX5_extend 70 = .ok (.iload 4, 2) := by decide +kernel
theorem dX5_extend_72 : decode cX5_extend 72 = .ok (.imul, 1) := by decide +kernel
theorem dX5_extend_73 : decode cX5_extend 73 = .ok (.iadd, 1) := by decide +kernel
theorem dX5_extend_74 : decode cX5_extend 74 = .ok (.sipush 255, 3) := by decide +kernel
theorem dX5_extend_77 : decode cX5_extend 77 = .ok (.iand, 1) := by decide +kernel
theorem dX5_extend_78 : decode cX5_extend 78 = .ok (.iastore, 1) := by decide +kernel
theorem dX5_extend_79 : decode cX5_extend 79 = .ok (.iinc 5 1, 3) := by decide +kernel
theorem dX5_extend_82 : decode cX5_extend 82 = .ok (.goto (-40), 3) := by decide +kernel
theorem dX5_extend_85 : decode cX5_extend 85 = .ok (.aload_n 0, 1) := by decide +kernel
theorem dX5_extend_86 : decode cX5_extend 86 = .ok (.getfield 13, 3) := by decide +kernel
theorem dX5_extend_89 : decode cX5_extend 89 = .ok (.iload_n 1, 1) := by decide +kernel
theorem dX5_extend_90 : decode cX5_extend 90 = .ok (.dup2, 1) := by decide +kernel
theorem dX5_extend_91 : decode cX5_extend 91 = .ok (.iaload, 1) := by decide +kernel
theorem dX5_extend_92 : decode cX5_extend 92 = .ok (.iload_n 2, 1) := by decide +kernel
theorem dX5_extend_93 : decode cX5_extend 93 = .ok (.iadd, 1) := by decide +kernel
theorem dX5_extend_94 : decode cX5_extend 94 = .ok (.iastore, 1) := by decide +kernel
theorem dX5_extend_95 : decode cX5_extend 95 = .ok (.aload_n 0, 1) := by decide +kernel
theorem dX5_extend_96 : decode cX5_extend 96 = .ok (.getfield 13, 3) := by decide +kernel
theorem dX5_extend_99 : decode cX5_extend 99 = .ok (.iload_n 1, 1) := by decide +kernel
theorem dX5_extend_100 : decode cX5_extend 100 = .ok (.iaload, 1) := by decide +kernel
theorem dX5_extend_101 : decode cX5_extend 101 = .ok (.ireturn, 1) := by decide +kernel
theorem dX5_state_0 : decode cX5_state 0 = .ok (.aload_n 0, 1) := by decide +kernel
theorem dX5_state_1 : decode cX5_state 1 = .ok (.iload_n 1, 1) := by decide +kernel
theorem dX5_state_2 : decode cX5_state 2 = .ok (.invokevirtual 76, 3) := by decide +kernel
theorem dX5_state_5 : decode cX5_state 5 = .ok (.ifCond .eq 34, 3) := by decide +kernel
theorem dX5_state_8 : decode cX5_state 8 = .ok (.iload_n 2, 1) := by decide +kernel
theorem dX5_state_9 : decode cX5_state 9 = .ok (.iconst 0, 1) := by decide +kernel
theorem dX5_state_10 : decode cX5_state 10 = .ok (.aload_n 0, 1) := by decide +kernel
theorem dX5_state_11 : decode cX5_state 11 = .ok (.getfield 13, 3) := by decide +kernel
theorem dX5_state_14 : decode cX5_state 14 = .ok (.iload_n 1, 1) := by decide +kernel
theorem dX5_state_15 : decode cX5_state 15 = .ok (.iaload, 1) := by decide +kernel
theorem dX5_state_16 : decode cX5_state 16 = .ok (.iconst 1, 1) := by decide +kernel
theorem dX5_state_17 : decode cX5_state 17 = .ok (.isub, 1) := by decide +kernel
theorem dX5_state_18 : decode cX5_state 18 = .ok (.invokestatic 72, 3) := by decide +kernel
theorem dX5_state_21 : decode cX5_state 21 = .ok (.ifCond .eq 18, 3) := by decide +kernel
theorem dX5_state_24 : decode cX5_state 24 = .ok (.aload_n 0, 1) := by decide +kernel
theorem dX5_state_25 : decode cX5_state 25 = .ok (.getfield 17, 3) := by decide +kernel
theorem dX5_state_28 : decode cX5_state 28 = .ok (.sipush 300, 3) := by decide +kernel
theorem dX5_state_31 : decode cX5_state 31 = .ok (.iload_n 1, 1) := by decide +kernel
theorem dX5_state_32 : decode cX5_state 32 = .ok (.imul, 1) := by decide +kernel
theorem dX5_state_33 : decode cX5_state 33 = .ok (.iload_n 2, 1) := by decide +kernel
theorem dX5_state_34 : decode cX5_state 34 = .ok (.iadd, 1) := by decide +kernel
theorem dX5_state_35 : decode cX5_state 35 = .ok (.iaload, 1) := by decide +kernel
theorem dX5_state_36 : decode cX5_state 36 = .ok (.goto 5, 3) := by decide +kernel
theorem dX5_state_39 : decode cX5_state 39 = .ok (.bipush (-2), 2) := by decide +kernel
theorem dX5_state_41 : decode cX5_state 41 = .ok (.ireturn, 1) := by decide +kernel
theorem dX5_chunkFrom_0 : decode cX5_chunkFrom 0 = .ok (.iconst 0, 1) := by decide +kernel
theorem dX5_chunkFrom_1 : decode cX5_chunkFrom 1 = .ok (.istore_n 3, 1) := by decide +kernel
theorem dX5_chunkFrom_2 : decode cX5_chunkFrom 2 = .ok (.iconst 1, 1) := by decide +kernel
theorem dX5_chunkFrom_3 : decode cX5_chunkFrom 3 = .ok (.istore 4, 2) := by decide +kernel
theorem dX5_chunkFrom_5 : decode cX5_chunkFrom 5 = .ok (.iload 4, 2) := by decide +kernel
theorem dX5_chunkFrom_7 : decode cX5_chunkFrom 7 = .ok (.ifCond .eq 104, 3) := by decide +kernel
theorem dX5_chunkFrom_10 : decode cX5_chunkFrom 10 = .ok (.iinc 3 1, 3) := by decide +kernel
theorem dX5_chunkFrom_13 : decode cX5_chunkFrom 13 = .ok (.sipush 300, 3) := by decide +kernel
theorem dX5_chunkFrom_16 : decode cX5_chunkFrom 16 = .ok (.iload_n 1, 1) := by decide +kernel
theorem dX5_chunkFrom_17 : decode cX5_chunkFrom 17 = .ok (.imul, 1) := by decide +kernel
theorem dX5_chunkFrom_18 : decode cX5_chunkFrom 18 = .ok (.iload_n 2, 1) := by decide +kernel
theorem dX5_chunkFrom_19 : decode cX5_chunkFrom 19 = .ok (.iadd, 1) := by decide +kernel
theorem dX5_chunkFrom_20 : decode cX5_chunkFrom 20 = .ok (.iload_n 3, 1) := by decide +kernel
theorem dX5_chunkFrom_21 : decode cX5_chunkFrom 21 = .ok (.iadd, 1) := by decide +kernel
theorem dX5_chunkFrom_22 : decode cX5_chunkFrom 22 = .ok (.iconst 1, 1) := by decide +kernel
theorem dX5_chunkFrom_23 : decode cX5_chunkFrom 23 = .ok (.isub, 1) := by decide +kernel
theorem dX5_chunkFrom_24 : decode cX5_chunkFrom 24 = .ok (.istore 5, 2) := by decide +kernel
theorem dX5_chunkFrom_26 : decode cX5_chunkFrom 26 = .ok (.iload_n 3, 1) := by decide +kernel
theorem dX5_chunkFrom_27 : decode cX5_chunkFrom 27 = .ok (.iconst 4, 1) := by decide +kernel
theorem dX5_chunkFrom_28 : decode cX5_chunkFrom 28 = .ok (.if_icmp .lt 47, 3) := by decide +kernel
theorem dX5_chunkFrom_31 : decode cX5_chunkFrom 31 = .ok (.iconst 3, 1) := by decide +kernel
theorem dX5_chunkFrom_32 : decode cX5_chunkFrom 32 = .ok (.aload_n 0, 1) := by decide +kernel
theorem dX5_chunkFrom_33 : decode cX5_chunkFrom 33 = .ok (.getfield 17, 3) := by decide +kernel
theorem dX5_chunkFrom_36 : decode cX5_chunkFrom 36 = .ok (.iload 5, 2) := by decide +kernel
theorem dX5_chunkFrom_38 : decode cX5_chunkFrom 38 = .ok (.iconst 2, 1) := by decide +kernel
theorem dX5_chunkFrom_39 : decode cX5_chunkFrom 39 = .ok (.isub, 1) := by decide +kernel
theorem dX5_chunkFrom_40 : decode cX5_chunkFrom 40 = .ok (.iaload, 1) := by decide +kernel
theorem dX5_chunkFrom_41 : decode cX5_chunkFrom 41 = .ok (.imul, 1) := by decide +kernel
theorem dX5_chunkFrom_42 : decode cX5_chunkFrom 42 = .ok (.iconst 5, 1) := by decide +kernel
theorem dX5_chunkFrom_43 : decode cX5_chunkFrom 43 = .ok (.aload_n 0, 1) := by decide +kernel
theorem dX5_chunkFrom_44 : decode cX5_chunkFrom 44 = .ok (.getfield 17, 3) := by decide +kernel
theorem dX5_chunkFrom_47 : decode cX5_chunkFrom 47 = .ok (.iload 5, 2) := by decide +kernel
theorem dX5_chunkFrom_49 : decode cX5_chunkFrom 49 = .ok (.iconst 1, 1) := by decide +kernel
theorem dX5_chunkFrom_50 : decode cX5_chunkFrom 50 = .ok (.isub, 1) := by decide +kernel
theorem dX5_chunkFrom_51 : decode cX5_chunkFrom 51 = .ok (.iaload, 1) := by decide +kernel
theorem dX5_chunkFrom_52 : decode cX5_chunkFrom 52 = .ok (.imul, 1) := by decide +kernel
theorem dX5_chunkFrom_53 : decode cX5_chunkFrom 53 = .ok (.iadd, 1) := by decide +kernel
theorem dX5_chunkFrom_54 : decode cX5_chunkFrom 54 = .ok (.bipush 7, 2) := by decide +kernel
theorem dX5_chunkFrom_56 : decode cX5_chunkFrom 56 = .ok (.aload_n 0, 1) := by decide +kernel
theorem dX5_chunkFrom_57 : decode cX5_chunkFrom 57 = .ok (.getfield 17, 3) := by decide +kernel
theorem dX5_chunkFrom_60 : decode cX5_chunkFrom 60 = .ok (.iload 5, 2) := by decide +kernel
theorem dX5_chunkFrom_62 : decode cX5_chunkFrom 62 = .ok (.iaload, 1) := by decide +kernel
theorem dX5_chunkFrom_63 : decode cX5_chunkFrom 63 = .ok (.imul, 1) := by decide +kernel
theorem dX5_chunkFrom_64 : decode cX5_chunkFrom 64 = .ok (.iadd, 1) := by decide +kernel
theorem dX5_chunkFrom_65 : decode cX5_chunkFrom 65 = .ok (.bipush 11, 2) := by decide +kernel
theorem dX5_chunkFrom_67 : decode cX5_chunkFrom 67 = .ok (.irem, 1) := by decide +kernel
end
section
theorem dX5_chunkFrom_68 : decode cX5_chunkFrom 68 = .ok (.ifCond .ne 7, 3) := by decide +kernel
theorem dX5_chunkFrom_71 : decode cX5_chunkFrom 71 = .ok (.iconst 1, 1) := by decide +kernel
theorem dX5_chunkFrom_72 : decode cX5_chunkFrom 72 = .ok (.goto 4, 3) := by decide +kernel
theorem dX5_chunkFrom_75 : decode cX5_chunkFrom 75 = .ok (.iconst 0, 1) := by decide +kernel
theorem dX5_chunkFrom_76 : decode cX5_chunkFrom 76 = .ok (.istore 6, 2) := by decide +kernel
theorem dX5_chunkFrom_78 : decode cX5_chunkFrom 78 = .ok (.iload_n 3, 1) := by decide +kernel
theorem dX5_chunkFrom_79 : decode cX5_chunkFrom 79 = .ok (.bipush 32, 2) := by decide +kernel
theorem dX5_chunkFrom_81 : decode cX5_chunkFrom 81 = .ok (.if_icmp .ge 24, 3) := by decide +kernel
theorem dX5_chunkFrom_84 : decode cX5_chunkFrom 84 = .ok (.iload 6, 2) := by decide +kernel
theorem dX5_chunkFrom_86 : decode cX5_chunkFrom 86 = .ok (.ifCond .ne 19, 3) := by decide +kernel
theorem dX5_chunkFrom_89 : decode cX5_chunkFrom 89 = .ok (.iload_n 2, 1) := by decide +kernel
theorem dX5_chunkFrom_90 : decode cX5_chunkFrom 90 = .ok (.iload_n 3, 1) := by decide +kernel
theorem dX5_chunkFrom_91 : decode cX5_chunkFrom 91 = .ok (.iadd, 1) := by decide +kernel
theorem dX5_chunkFrom_92 : decode cX5_chunkFrom 92 = .ok (.aload_n 0, 1) := by decide +kernel
theorem dX5_chunkFrom_93 : decode cX5_chunkFrom 93 = .ok (.getfield 13, 3) := by decide +kernel
theorem dX5_chunkFrom_96 : decode cX5_chunkFrom 96 = .ok (.iload_n 1, 1) := by decide +kernel
theorem dX5_chunkFrom_97 : decode cX5_chunkFrom 97 = .ok (.iaload, 1) := by decide +kernel
theorem dX5_chunkFrom_98 : decode cX5_chunkFrom 98 = .ok (.if_icmp .ge 7, 3) := by decide +kernel
theorem dX5_chunkFrom_101 : decode cX5_chunkFrom 101 = .ok (.iconst 1, 1) := by decide +kernel
theorem dX5_chunkFrom_102 : decode cX5_chunkFrom 102 = .ok (.goto 4, 3) := by decide +kernel
theorem dX5_chunkFrom_105 : decode cX5_chunkFrom 105 = .ok (.iconst 0, 1) := by decide +kernel
theorem dX5_chunkFrom_106 : decode cX5_chunkFrom 106 = .ok (.istore 4, 2) := by decide +kernel
theorem dX5_chunkFrom_108 : decode cX5_chunkFrom 108 = .ok (.goto (-103), 3) := by decide +kernel
theorem dX5_chunkFrom_111 : decode cX5_chunkFrom 111 = .ok (.iload_n 3, 1) := by decide +kernel
theorem dX5_chunkFrom_112 : decode cX5_chunkFrom 112 = .ok (.ireturn, 1) := by decide +kernel
theorem dX5_chunk_0 : decode cX5_chunk 0 = .ok (.aload_n 0, 1) := by decide +kernel
theorem dX5_chunk_1 : decode cX5_chunk 1 = .ok (.iload_n 1, 1) := by decide +kernel
theorem dX5_chunk_2 : decode cX5_chunk 2 = .ok (.invokevirtual 76, 3) := by decide +kernel
theorem dX5_chunk_5 : decode cX5_chunk 5 = .ok (.ifCond .eq 8, 3) := by decide +kernel
theorem dX5_chunk_8 : decode cX5_chunk 8 = .ok (.iload_n 2, 1) := by decide +kernel
theorem dX5_chunk_9 : decode cX5_chunk 9 = .ok (.iconst (-1), 1) := by decide +kernel
theorem dX5_chunk_10 : decode cX5_chunk 10 = .ok (.if_icmp .ge 6, 3) := by decide +kernel
theorem dX5_chunk_13 : decode cX5_chunk 13 = .ok (.bipush (-2), 2) := by decide +kernel
theorem dX5_chunk_15 : decode cX5_chunk 15 = .ok (.ireturn, 1) := by decide +kernel
theorem dX5_chunk_16 : decode cX5_chunk 16 = .ok (.iconst 0, 1) := by decide +kernel
theorem dX5_chunk_17 : decode cX5_chunk 17 = .ok (.istore_n 3, 1) := by decide +kernel
theorem dX5_chunk_18 : decode cX5_chunk 18 = .ok (.iconst 0, 1) := by decide +kernel
theorem dX5_chunk_19 : decode cX5_chunk 19 = .ok (.istore 4, 2) := by decide +kernel
theorem dX5_chunk_21 : decode cX5_chunk 21 = .ok (.iload 4, 2) := by decide +kernel
theorem dX5_chunk_23 : decode cX5_chunk 23 = .ok (.aload_n 0, 1) := by decide +kernel
theorem dX5_chunk_24 : decode cX5_chunk 24 = .ok (.getfield 13, 3) := by decide +kernel
theorem dX5_chunk_27 : decode cX5_chunk 27 = .ok (.iload_n 1, 1) := by decide +kernel
theorem dX5_chunk_28 : decode cX5_chunk 28 = .ok (.iaload, 1) := by decide +kernel
theorem dX5_chunk_29 : decode cX5_chunk 29 = .ok (.if_icmp .ge 33, 3) := by decide +kernel
theorem dX5_chunk_32 : decode cX5_chunk 32 = .ok (.aload_n 0, 1) := by decide +kernel
theorem dX5_chunk_33 : decode cX5_chunk 33 = .ok (.iload_n 1, 1) := by decide +kernel
theorem dX5_chunk_34 : decode cX5_chunk 34 = .ok (.iload 4, 2) := by decide +kernel
theorem dX5_chunk_36 : decode cX5_chunk 36 = .ok (.invokevirtual 82, 3) := by decide +kernel
theorem dX5_chunk_39 : decode cX5_chunk 39 = .ok (.istore 5, 2) := by decide +kernel
theorem dX5_chunk_41 : decode cX5_chunk 41 = .ok (.iload_n 3, 1) := by decide +kernel
theorem dX5_chunk_42 : decode cX5_chunk 42 = .ok (.iload_n 2, 1) := by decide +kernel
theorem dX5_chunk_43 : decode cX5_chunk 43 = .ok (.if_icmp .ne 6, 3) := by decide +kernel
theorem dX5_chunk_46 : decode cX5_chunk 46 = .ok (.iload 5, 2) := by decide +kernel
theorem dX5_chunk_48 : decode cX5_chunk 48 = .ok (.ireturn, 1) := by decide +kernel
theorem dX5_chunk_49 : decode cX5_chunk 49 = .ok (.iload 4, 2) := by decide +kernel
theorem dX5_chunk_51 : decode cX5_chunk 51 = .ok (.iload 5, 2) := by decide +kernel
theorem dX5_chunk_53 : decode cX5_chunk 53 = .ok (.iadd, 1) := by decide +kernel
theorem dX5_chunk_54 : decode cX5_chunk 54 = .ok (.istore 4, 2) := by decide +kernel
theorem dX5_chunk_56 : decode cX5_chunk 56 = .ok (.iinc 3 1, 3) := by decide +kernel
theorem dX5_chunk_59 : decode cX5_chunk 59 = .ok (.goto (-38), 3) := by decide +kernel
theorem dX5_chunk_62 : decode cX5_chunk 62 = .ok (.iload_n 2, 1) := by decide +kernel
theorem dX5_chunk_63 : decode cX5_chunk 63 = .ok (.iconst (-1), 1) := by decide +kernel
theorem dX5_chunk_64 : decode cX5_chunk 64 = .ok (.if_icmp .ne 7, 3) := by decide +kernel
theorem dX5_chunk_67 : decode cX5_chunk 67 = .ok (.iload_n 3, 1) := by decide +kernel
theorem dX5_chunk_68 : decode cX5_chunk 68 = .ok (.goto 5, 3) := by decide +kernel
theorem dX5_chunk_71 : decode cX5_chunk 71 = .ok (.bipush (-2), 2) := by decide +kernel
theorem dX5_chunk_73 : decode cX5_chunk 73 = .ok (.ireturn, 1) := by decide +kernel
theorem dX5_rescale_0 : decode cX5_rescale 0 = .ok (.iload_n 1, 1) := by decide +kernel
theorem dX5_rescale_1 : decode cX5_rescale 1 = .ok (.iconst 1, 1) := by decide +kernel
theorem dX5_rescale_2 : decode cX5_rescale 2 = .ok (.iconst 4, 1) := by decide +kernel
theorem dX5_rescale_3 : decode cX5_rescale 3 = .ok (.invokestatic 72, 3) := by decide +kernel
theorem dX5_rescale_6 : decode cX5_rescale 6 = .ok (.ifCond .ne 6, 3) := by decide +kernel
theorem dX5_rescale_9 : decode cX5_rescale 9 = .ok (.bipush (-2), 2) := by decide +kernel
theorem dX5_rescale_11 : decode cX5_rescale 11 = .ok (.ireturn, 1) := by decide +kernel
theorem dX5_rescale_12 : decode cX5_rescale 12 = .ok (.iconst 0, 1) := by decide +kernel
theorem dX5_rescale_13 : decode cX5_rescale 13 = .ok (.istore_n 2, 1) := by decide +kernel
theorem dX5_rescale_14 : decode cX5_rescale 14 = .ok (.iconst 0, 1) := by decide +kernel
theorem dX5_rescale_15 : decode cX5_rescale 15 = .ok (.istore_n 3, 1) := by decide +kernel
theorem dX5_rescale_16 : decode cX5_rescale 16 = .ok (.iload_n 3, 1) := by decide +kernel
theorem dX5_rescale_17 : decode cX5_rescale 17 = .ok (.aload_n 0, 1) := by decide +kernel
theorem dX5_rescale_18 : decode cX5_rescale 18 = .ok (.getfield 7, 3) := by decide +kernel
theorem dX5_rescale_21 : decode cX5_rescale 21 = .ok (.if_icmp .ge 51, 3) := by decide +kernel
theorem dX5_rescale_24 : decode cX5_rescale 24 = .ok (.iconst 0, 1) := by decide +kernel
theorem dX5_rescale_25 : decode cX5_rescale 25 = .ok (.istore 4, 2) := by decide +kernel
theorem dX5_rescale_27 : decode cX5_rescale 27 = .ok (.iload 4, 2) := by decide +kernel
theorem dX5_rescale_29 : decode cX5_rescale 29 = .ok (.aload_n 0, 1) := by decide +kernel
theorem dX5_rescale_30 : decode cX5_rescale 30 = .ok (.getfield 13, 3) := by decide +kernel
theorem dX5_rescale_33 : decode cX5_rescale 33 = .ok (.iload_n 3, 1) := by decide +kernel
theorem dX5_rescale_34 : decode cX5_rescale 34 = .ok (.iaload, 1) := by decide +kernel
theorem dX5_rescale_35 : decode cX5_rescale 35 = .ok (.if_icmp .ge 31, 3) := by decide +kernel
theorem dX5_rescale_38 : decode cX5_rescale 38 = .ok (.aload_n 0, 1) := by decide +kernel
theorem dX5_rescale_39 : decode cX5_rescale 39 = .ok (.getfield 20, 3) := by decide +kernel
theorem dX5_rescale_42 : decode cX5_rescale 42 = .ok (.iload_n 2, 1) := by decide +kernel
theorem dX5_rescale_43 : decode cX5_rescale 43 = .ok (.aload_n 0, 1) := by decide +kernel
theorem dX5_rescale_44 : decode cX5_rescale 44 = .ok (.getfield 17, 3) := by decide +kernel
theorem dX5_rescale_47 : decode cX5_rescale 47 = .ok (.sipush 300, 3) := by decide +kernel
theorem dX5_rescale_50 : decode cX5_rescale 50 = .ok (.iload_n 3, 1) := by decide +kernel
theorem dX5_rescale_51 : decode cX5_rescale 51 = .ok (.imul, 1) := by decide +kernel
theorem dX5_rescale_52 : decode cX5_rescale 52 = .ok (.iload 4, 2) := by decide +kernel
theorem dX5_rescale_54 : decode cX5_rescale 54 = .ok (.iadd, 1) := by decide +kernel
theorem dX5_rescale_55 : decode cX5_rescale 55 = .ok (.iaload, 1) := by decide +kernel
theorem dX5_rescale_56 : decode cX5_rescale 56 = .ok (.iastore, 1) := by decide +kernel
theorem dX5_rescale_57 : decode cX5_rescale 57 = .ok (.iinc 2 1, 3) := by decide +kernel
theorem dX5_rescale_60 : decode cX5_rescale 60 = .ok (.iinc 4 1, 3) := by decide +kernel
theorem dX5_rescale_63 : decode cX5_rescale 63 = .ok (.goto (-36), 3) := by decide +kernel
theorem dX5_rescale_66 : decode cX5_rescale 66 = .ok (.iinc 3 1, 3) := by decide +kernel
theorem dX5_rescale_69 : decode cX5_rescale 69 = .ok (.goto (-53), 3) := by decide +kernel
theorem dX5_rescale_72 : decode cX5_rescale 72 = .ok (.iconst 0, 1) := by decide +kernel
theorem dX5_rescale_73 : decode cX5_rescale 73 = .ok (.istore_n 3, 1) := by decide +kernel
theorem dX5_rescale_74 : decode cX5_rescale 74 = .ok (.iload_n 3, 1) := by decide +kernel
theorem dX5_rescale_75 : decode cX5_rescale 75 = .ok (.iload_n 1, 1) := by decide +kernel
theorem dX5_rescale_76 : decode cX5_rescale 76 = .ok (.if_icmp .ge 31, 3) := by decide +kernel
theorem dX5_rescale_79 : decode cX5_rescale 79 = .ok (.iload_n 2, 1) := by decide +kernel
theorem dX5_rescale_80 : decode cX5_rescale 80 = .ok (.iload_n 3, 1) := by decide +kernel
theorem dX5_rescale_81 : decode cX5_rescale 81 = .ok (.iconst 1, 1) := by decide +kernel
theorem dX5_rescale_82 : decode cX5_rescale 82 = .ok (.iadd, 1) := by decide +kernel
theorem dX5_rescale_83 : decode cX5_rescale 83 = .ok (.imul, 1) := by decide +kernel
theorem dX5_rescale_84 : decode cX5_rescale 84 = .ok (.iload_n 1, 1) := by decide +kernel
theorem dX5_rescale_85 : decode cX5_rescale 85 = .ok (.idiv, 1) := by decide +kernel
theorem dX5_rescale_86 : decode cX5_rescale 86 = .ok (.iload_n 2, 1) := by decide +kernel
theorem dX5_rescale_87 : decode cX5_rescale 87 = .ok (.iload_n 3, 1) := by decide +kernel
theorem dX5_rescale_88 : decode cX5_rescale 88 = .ok (.imul, 1) := by decide +kernel
theorem dX5_rescale_89 : decode cX5_rescale 89 = .ok (.iload_n 1, 1) := by decide +kernel
theorem dX5_rescale_90 : decode cX5_rescale 90 = .ok (.idiv, 1) := by decide +kernel
theorem dX5_rescale_91 : decode cX5_rescale 91 = .ok (.isub, 1) := by decide +kernel
theorem dX5_rescale_92 : decode cX5_rescale 92 = .ok (.sipush 300, 3) := by decide +kernel
theorem dX5_rescale_95 : decode cX5_rescale 95 = .ok (.if_icmp .le 6, 3) := by decide +kernel
theorem dX5_rescale_98 : decode cX5_rescale 98 = .ok (.bipush (-3), 2) := by decide +kernel
theorem dX5_rescale_100 : decode cX5_rescale 100 = .ok (.ireturn, 1) := by decide +kernel
theorem dX5_rescale_101 : decode cX5_rescale 101 = .ok (.iinc 3 1, 3) := by decide +kernel
theorem dX5_rescale_104 : decode cX5_rescale 104 = .ok (.goto (-30), 3) := by decide +kernel
theorem dX5_rescale_107 : decode cX5_rescale 107 = .ok (.iconst 0, 1) := by decide +kernel
theorem dX5_rescale_108 : decode cX5_rescale 108 = .ok (.istore_n 3, 1) := by decide +kernel
theorem dX5_rescale_109 : decode cX5_rescale 109 = .ok (.iload_n 3, 1) := by decide +kernel
theorem dX5_rescale_110 : decode cX5_rescale 110 = .ok (.iload_n 1, 1) := by decide +kernel
theorem dX5_rescale_111 : decode cX5_rescale 111 = .ok (.if_icmp .ge 75, 3) := by decide +kernel
theorem dX5_rescale_114 : decode cX5_rescale 114 = .ok (.iload_n 2, 1) := by decide +kernel
theorem dX5_rescale_115 : decode cX5_rescale 115 = .ok (.iload_n 3, 1) := by decide +kernel
theorem dX5_rescale_116 : decode cX5_rescale 116 = .ok (.imul, 1) := by decide +kernel
theorem dX5_rescale_117 : decode cX5_rescale 117 = .ok (.iload_n 1, 1) := by decide +kernel
theorem dX5_rescale_118 : decode cX5_rescale 118 = .ok (.idiv, 1) := by decide +kernel
theorem dX5_rescale_119 : decode cX5_rescale 119 = .ok (.istore 4, 2) := by decide +kernel
theorem dX5_rescale_121 : decode cX5_rescale 121 = .ok (.aload_n 0, 1) := by decide +kernel
theorem dX5_rescale_122 : decode cX5_rescale 122 = .ok (.getfield 13, 3) := by decide +kernel
theorem dX5_rescale_125 : decode cX5_rescale 125 = .ok (.iload_n 3, 1) := by decide +kernel
theorem dX5_rescale_126 : decode cX5_rescale 126 = .ok (.iload_n 2, 1) := by decide +kernel
theorem dX5_rescale_127 : decode cX5_rescale 127 = .ok (.iload_n 3, 1) := by decide +kernel
theorem dX5_rescale_128 : decode cX5_rescale 128 = .ok (.iconst 1, 1) := by decide +kernel
theorem dX5_rescale_129 : decode cX5_rescale 129 = .ok (.iadd, 1) := by decide +kernel
theorem dX5_rescale_130 : decode cX5_rescale 130 = .ok (.imul, 1) := by decide +kernel
theorem dX5_rescale_131 : decode cX5_rescale 131 = .ok (.iload_n 1, 1) := by decide +kernel
theorem dX5_rescale_132 : decode cX5_rescale 132 = .ok (.idiv, 1) := by decide +kernel
theorem dX5_rescale_133 : decode cX5_rescale 133 = .ok (.iload 4, 2) := by decide +kernel
theorem dX5_rescale_135 : decode cX5_rescale 135 = .ok (.isub, 1) := by decide +kernel
theorem dX5_rescale_136 : decode cX5_rescale 136 = .ok (.iastore, 1) := by decide +kernel
theorem dX5_rescale_137 : decode cX5_rescale 137 = .ok (.iconst 0, 1) := by decide +kernel
theorem dX5_rescale_138 : decode cX5_rescale 138 = .ok (.istore 5, 2) := by decide +kernel
theorem dX5_rescale_140 : decode cX5_rescale 140 = .ok (.iload 5, 2) := by decide +kernel
theorem dX5_rescale_142 : decode cX5_rescale 142 = .ok (.aload_n 0, 1) := by decide +kernel
theorem dX5_rescale_143 : decode cX5_rescale 143 = .ok (.getfield 13, 3) := by decide +kernel
theorem dX5_rescale_146 : decode cX5_rescale 146 = .ok (.iload_n 3, 1) := by decide +kernel
theorem dX5_rescale_147 : decode cX5_rescale 147 = .ok (.iaload, 1) := by decide +kernel
theorem dX5_rescale_148 : decode cX5_rescale 148 = .ok (.if_icmp .ge 32, 3) := by decide +kernel
theorem dX5_rescale_151 : decode cX5_rescale 151 = .ok (.aload_n 0, 1) := by decide +kernel
theorem dX5_rescale_152 : decode cX5_rescale 152 = .ok (.getfield 17, 3) := by decide +kernel
theorem dX5_rescale_155 : decode cX5_rescale 155 = .ok (.sipush 300, 3) := by decide +kernel
theorem dX5_rescale_158 : decode cX5_rescale 158 = .ok (.iload_n 3, 1) := by decide +kernel
theorem dX5_rescale_159 : decode cX5_rescale 159 = .ok (.imul, 1) := by decide +kernel
theorem dX5_rescale_160 : decode cX5_rescale 160 = .ok (.iload 5, 2) := by decide +kernel
theorem dX5_rescale_162 : decode cX5_rescale 162 = .ok (.iadd, 1) := by decide +kernel
theorem dX5_rescale_163 : decode cX5_rescale 163 = .ok (.aload_n 0, 1) := by decide +kernel
theorem dX5_rescale_164 : decode cX5_rescale 164 = .ok (.getfield 20, 3) := by decide +kernel
theorem dX5_rescale_167 : decode cX5_rescale 167 = .ok (.iload 4, 2) := by decide +kernel
theorem dX5_rescale_169 : decode cX5_rescale 169 = .ok (.iload 5, 2) := by decide +kernel
theorem dX5_rescale_171 : decode cX5_rescale 171 = .ok (.iadd, 1) := by decide +kernel
theorem dX5_rescale_172 : decode cX5_rescale 172 = .ok (.iaload, 1) := by decide +kernel
theorem dX5_rescale_173 : decode cX5_rescale 173 = .ok (.iastore, 1) := by decide +kernel
theorem dX5_rescale_174 : decode cX5_rescale 174 = .ok (.iinc 5 1, 3) := by decide +kernel
theorem dX5_rescale_177 : decode cX5_rescale 177 = .ok (.goto (-37), 3) := by decide +kernel
theorem dX5_rescale_180 : decode cX5_rescale 180 = .ok (.iinc 3 1, 3) := by decide +kernel
theorem dX5_rescale_183 : decode cX5_rescale 183 = .ok (.goto (-74), 3) := by decide +kernel
theorem dX5_rescale_186 : decode cX5_rescale 186 = .ok (.aload_n 0, 1) := by decide +kernel
theorem dX5_rescale_187 : decode cX5_rescale 187 = .ok (.getfield 7, 3) := by decide +kernel
theorem dX5_rescale_190 : decode cX5_rescale 190 = .ok (.istore_n 3, 1) := by decide +kernel
theorem dX5_rescale_191 : decode cX5_rescale 191 = .ok (.aload_n 0, 1) := by decide +kernel
theorem dX5_rescale_192 : decode cX5_rescale 192 = .ok (.iload_n 1, 1) := by decide +kernel
theorem dX5_rescale_193 : decode cX5_rescale 193 = .ok (.invokevirtual 86, 3) := by decide +kernel
theorem dX5_rescale_196 : decode cX5_rescale 196 = .ok (.iload_n 3, 1) := by decide +kernel
theorem dX5_rescale_197 : decode cX5_rescale 197 = .ok (.ireturn, 1) := by decide +kernel
theorem dX5_become_0 : decode cX5_become 0 = .ok (.aload_n 0, 1) := by decide +kernel
theorem dX5_become_1 : decode cX5_become 1 = .ok (.iload_n 1, 1) := by decide +kernel
theorem dX5_become_2 : decode cX5_become 2 = .ok (.putfield 7, 3) := by decide +kernel
theorem dX5_become_5 : decode cX5_become 5 = .ok (.iload_n 1, 1) := by decide +kernel
theorem dX5_become_6 : decode cX5_become 6 = .ok (.istore_n 2, 1) := by decide +kernel
theorem dX5_become_7 : decode cX5_become 7 = .ok (.iload_n 2, 1) := by decide +kernel
theorem dX5_become_8 : decode cX5_become 8 = .ok (.iconst 4, 1) := by decide +kernel
theorem dX5_become_9 : decode cX5_become 9 = .ok (.if_icmp .ge 42, 3) := by decide +kernel
theorem dX5_become_12 : decode cX5_become 12 = .ok (.aload_n 0, 1) := by decide +kernel
theorem dX5_become_13 : decode cX5_become 13 = .ok (.getfield 13, 3) := by decide +kernel
theorem dX5_become_16 : decode cX5_become 16 = .ok (.iload_n 2, 1) := by decide +kernel
theorem dX5_become_17 : decode cX5_become 17 = .ok (.iconst 0, 1) := by decide +kernel
theorem dX5_become_18 : decode cX5_become 18 = .ok (.iastore, 1) := by decide +kernel
theorem dX5_become_19 : decode cX5_become 19 = .ok (.iconst 0, 1) := by decide +kernel
theorem dX5_become_20 : decode cX5_become 20 = .ok (.istore_n 3, 1) := by decide +kernel
theorem dX5_become_21 : decode cX5_become 21 = .ok (.iload_n 3, 1) := by decide +kernel
theorem dX5_become_22 : decode cX5_become 22 = .ok (.bipush 120, 2) := by decide +kernel
theorem dX5_become_24 : decode cX5_become 24 = .ok (.if_icmp .ge 21, 3) := by decide +kernel
theorem dX5_become_27 : decode cX5_become 27 = .ok (.aload_n 0, 1) := by decide +kernel
theorem dX5_become_28 : decode cX5_become 28 = .ok (.getfield 36, 3) := by decide +kernel
theorem dX5_become_31 : decode cX5_become 31 = .ok (.bipush 120, 2) := by decide +kernel
theorem dX5_become_33 : decode cX5_become 33 = .ok (.iload_n 2, 1) := by decide +kernel
theorem dX5_become_34 : decode cX5_become 34 = .ok (.imul, 1) := by decide +kernel
theorem dX5_become_35 : decode cX5_become 35 = .ok (.iload_n 3, 1) := by decide +kernel
theorem dX5_become_36 : decode cX5_become 36 = .ok (.iadd, 1) := by decide +kernel
theorem dX5_become_37 : decode cX5_become 37 = .ok (.iconst 0, 1) := by decide +kernel
theorem dX5_become_38 : decode cX5_become 38 = .ok (.bastore, 1) := by decide +kernel
theorem dX5_become_39 : decode cX5_become 39 = .ok (.iinc 3 1, 3) := by decide +kernel
theorem dX5_become_42 : decode cX5_become 42 = .ok (.goto (-21), 3) := by decide +kernel
theorem dX5_become_45 : decode cX5_become 45 = .ok (.iinc 2 1, 3) := by decide +kernel
theorem dX5_become_48 : decode cX5_become 48 = .ok (.goto (-41), 3) := by decide +kernel
theorem dX5_become_51 : decode cX5_become 51 = .ok (.return_, 1) := by decide +kernel
theorem dX5_isPart_0 : decode cX5_isPart 0 = .ok (.iload_n 1, 1) := by decide +kernel
theorem dX5_isPart_1 : decode cX5_isPart 1 = .ok (.iconst 0, 1) := by decide +kernel
theorem dX5_isPart_2 : decode cX5_isPart 2 = .ok (.bipush 119, 2) := by decide +kernel
theorem dX5_isPart_4 : decode cX5_isPart 4 = .ok (.invokestatic 72, 3) := by decide +kernel
theorem dX5_isPart_7 : decode cX5_isPart 7 = .ok (.ifCond .eq 16, 3) := by decide +kernel
theorem dX5_isPart_10 : decode cX5_isPart 10 = .ok (.aload_n 0, 1) := by decide +kernel
theorem dX5_isPart_11 : decode cX5_isPart 11 = .ok (.getfield 23, 3) := by decide +kernel
theorem dX5_isPart_14 : decode cX5_isPart 14 = .ok (.iload_n 1, 1) := by decide +kernel
theorem dX5_isPart_15 : decode cX5_isPart 15 = .ok (.iaload, 1) := by decide +kernel
theorem dX5_isPart_16 : decode cX5_isPart 16 = .ok (.ifCond .le 7, 3) := by decide +kernel
theorem dX5_isPart_19 : decode cX5_isPart 19 = .ok (.iconst 1, 1) := by decide +kernel
theorem dX5_isPart_20 : decode cX5_isPart 20 = .ok (.goto 4, 3) := by decide +kernel
theorem dX5_isPart_23 : decode cX5_isPart 23 = .ok (.iconst 0, 1) := by decide +kernel
theorem dX5_isPart_24 : decode cX5_isPart 24 = .ok (.ireturn, 1) := by decide +kernel
theorem dX5_isBroken_0 : decode cX5_isBroken 0 = .ok (.iconst 1, 1) := by decide +kernel
theorem dX5_isBroken_1 : decode cX5_isBroken 1 = .ok (.istore_n 2, 1) := by decide +kernel
theorem dX5_isBroken_2 : decode cX5_isBroken 2 = .ok (.iconst 0, 1) := by decide +kernel
theorem dX5_isBroken_3 : decode cX5_isBroken 3 = .ok (.istore_n 3, 1) := by decide +kernel
theorem dX5_isBroken_4 : decode cX5_isBroken 4 = .ok (.iload_n 3, 1) := by decide +kernel
theorem dX5_isBroken_5 : decode cX5_isBroken 5 = .ok (.aload_n 0, 1) := by decide +kernel
theorem dX5_isBroken_6 : decode cX5_isBroken 6 = .ok (.getfield 23, 3) := by decide +kernel
theorem dX5_isBroken_9 : decode cX5_isBroken 9 = .ok (.iload_n 1, 1) := by decide +kernel
theorem dX5_isBroken_10 : decode cX5_isBroken 10 = .ok (.iaload, 1) := by decide +kernel
theorem dX5_isBroken_11 : decode cX5_isBroken 11 = .ok (.if_icmp .ge 29, 3) := by decide +kernel
theorem dX5_isBroken_14 : decode cX5_isBroken 14 = .ok (.bipush 31, 2) := by decide +kernel
theorem dX5_isBroken_16 : decode cX5_isBroken 16 = .ok (.iload_n 2, 1) := by decide +kernel
theorem dX5_isBroken_17 : decode cX5_isBroken 17 = .ok (.imul, 1) := by decide +kernel
theorem dX5_isBroken_18 : decode cX5_isBroken 18 = .ok (.aload_n 0, 1) := by decide +kernel
theorem dX5_isBroken_19 : decode cX5_isBroken 19 = .ok (.getfield 33, 3) := by decide +kernel
theorem dX5_isBroken_22 : decode cX5_isBroken 22 = .ok (.bipush 32, 2) := by decide +kernel
theorem dX5_isBroken_24 : decode cX5_isBroken 24 = .ok (.iload_n 1, 1) := by decide +kernel
theorem dX5_isBroken_25 : decode cX5_isBroken 25 = .ok (.imul, 1) := by decide +kernel
theorem dX5_isBroken_26 : decode cX5_isBroken 26 = .ok (.iload_n 3, 1) := by decide +kernel
theorem dX5_isBroken_27 : decode cX5_isBroken 27 = .ok (.iadd, 1) := by decide +kernel
theorem dX5_isBroken_28 : decode cX5_isBroken 28 = .ok (.iaload, 1) := by decide +kernel
theorem dX5_isBroken_29 : decode cX5_isBroken 29 = .ok (.iadd, 1) := by decide +kernel
theorem dX5_isBroken_30 : decode cX5_isBroken 30 = .ok (.bipush 61, 2) := by decide +kernel
theorem dX5_isBroken_32 : decode cX5_isBroken 32 = .ok (.irem, 1) := by decide +kernel
theorem dX5_isBroken_33 : decode cX5_isBroken 33 = .ok (.istore_n 2, 1) := by decide +kernel
theorem dX5_isBroken_34 : decode cX5_isBroken 34 = .ok (.iinc 3 1, 3) := by decide +kernel
theorem dX5_isBroken_37 : decode cX5_isBroken 37 = .ok (.goto (-33), 3) := by decide +kernel
theorem dX5_isBroken_40 : decode cX5_isBroken 40 = .ok (.aload_n 0, 1) := by decide +kernel
theorem dX5_isBroken_41 : decode cX5_isBroken 41 = .ok (.getfield 29, 3) := by decide +kernel
theorem dX5_isBroken_44 : decode cX5_isBroken 44 = .ok (.iload_n 1, 1) := by decide +kernel
theorem dX5_isBroken_45 : decode cX5_isBroken 45 = .ok (.baload, 1) := by decide +kernel
theorem dX5_isBroken_46 : decode cX5_isBroken 46 = .ok (.ifCond .ne 13, 3) := by decide +kernel
theorem dX5_isBroken_49 : decode cX5_isBroken 49 = .ok (.iload_n 2, 1) := by decide +kernel
theorem dX5_isBroken_50 : decode cX5_isBroken 50 = .ok (.aload_n 0, 1) := by decide +kernel
theorem dX5_isBroken_51 : decode cX5_isBroken 51 = .ok (.getfield 26, 3) := by decide +kernel
theorem dX5_isBroken_54 : decode cX5_isBroken 54 = .ok (.iload_n 1, 1) := by decide +kernel
theorem dX5_isBroken_55 : decode cX5_isBroken 55 = .ok (.iaload, 1) := by decide +kernel
theorem dX5_isBroken_56 : decode cX5_isBroken 56 = .ok (.if_icmp .eq 7, 3) := by decide +kernel
theorem dX5_isBroken_59 : decode cX5_isBroken 59 = .ok (.iconst 1, 1) := by decide +kernel
theorem dX5_isBroken_60 : decode cX5_isBroken 60 = .ok (.goto 4, 3) := by decide +kernel
theorem dX5_isBroken_63 : decode cX5_isBroken 63 = .ok (.iconst 0, 1) := by decide +kernel
theorem dX5_isBroken_64 : decode cX5_isBroken 64 = .ok (.ireturn, 1) := by decide +kernel
theorem dX5_isGoodCopy_0 : decode cX5_isGoodCopy 0 = .ok (.iconst 1, 1) := by decide +kernel
theorem dX5_isGoodCopy_1 : decode cX5_isGoodCopy 1 = .ok (.istore_n 3, 1) := by decide +kernel
theorem dX5_isGoodCopy_2 : decode cX5_isGoodCopy 2 = .ok (.iconst 0, 1) := by decide +kernel
theorem dX5_isGoodCopy_3 : decode cX5_isGoodCopy 3 = .ok (.istore 4, 2) := by decide +kernel
theorem dX5_isGoodCopy_5 : decode cX5_isGoodCopy 5 = .ok (.iload 4, 2) := by decide +kernel
theorem dX5_isGoodCopy_7 : decode cX5_isGoodCopy 7 = .ok (.aload_n 0, 1) := by decide +kernel
theorem dX5_isGoodCopy_8 : decode cX5_isGoodCopy 8 = .ok (.getfield 23, 3) := by decide +kernel
theorem dX5_isGoodCopy_11 : decode cX5_isGoodCopy 11 = .ok (.iload_n 2, 1) := by decide +kernel
theorem dX5_isGoodCopy_12 : decode cX5_isGoodCopy 12 = .ok (.iaload, 1) := by decide +kernel
theorem dX5_isGoodCopy_13 : decode cX5_isGoodCopy 13 = .ok (.if_icmp .ge 35, 3) := by decide +kernel
theorem dX5_isGoodCopy_16 : decode cX5_isGoodCopy 16 = .ok (.bipush 31, 2) := by decide +kernel
theorem dX5_isGoodCopy_18 : decode cX5_isGoodCopy 18 = .ok (.iload_n 3, 1) := by decide +kernel
theorem dX5_isGoodCopy_19 : decode cX5_isGoodCopy 19 = .ok (.imul, 1) := by decide +kernel
theorem dX5_isGoodCopy_20 : decode cX5_isGoodCopy 20 = .ok (.aload_n 0, 1) := by decide +kernel
theorem dX5_isGoodCopy_21 : decode cX5_isGoodCopy 21 = .ok (.getfield 39, 3) := by decide +kernel
theorem dX5_isGoodCopy_24 : decode cX5_isGoodCopy 24 = .ok (.bipush 32, 2) := by decide +kernel
theorem dX5_isGoodCopy_26 : decode cX5_isGoodCopy 26 = .ok (.bipush 120, 2) := by decide +kernel
theorem dX5_isGoodCopy_28 : decode cX5_isGoodCopy 28 = .ok (.iload_n 1, 1) := by decide +kernel
theorem dX5_isGoodCopy_29 : decode cX5_isGoodCopy 29 = .ok (.imul, 1) := by decide +kernel
theorem dX5_isGoodCopy_30 : decode cX5_isGoodCopy 30 = .ok (.iload_n 2, 1) := by decide +kernel
theorem dX5_isGoodCopy_31 : decode cX5_isGoodCopy 31 = .ok (.iadd, 1) := by decide +kernel
theorem dX5_isGoodCopy_32 : decode cX5_isGoodCopy 32 = .ok (.imul, 1) := by decide +kernel
theorem dX5_isGoodCopy_33 : decode cX5_isGoodCopy 33 = .ok (.iload 4, 2) := by decide +kernel
theorem dX5_isGoodCopy_35 : decode cX5_isGoodCopy 35 = .ok (.iadd, 1) := by decide +kernel
theorem dX5_isGoodCopy_36 : decode cX5_isGoodCopy 36 = .ok (.iaload, 1) := by decide +kernel
theorem dX5_isGoodCopy_37 : decode cX5_isGoodCopy 37 = .ok (.iadd, 1) := by decide +kernel
theorem dX5_isGoodCopy_38 : decode cX5_isGoodCopy 38 = .ok (.bipush 61, 2) := by decide +kernel
theorem dX5_isGoodCopy_40 : decode cX5_isGoodCopy 40 = .ok (.irem, 1) := by decide +kernel
theorem dX5_isGoodCopy_41 : decode cX5_isGoodCopy 41 = .ok (.istore_n 3, 1) := by decide +kernel
theorem dX5_isGoodCopy_42 : decode cX5_isGoodCopy 42 = .ok (.iinc 4 1, 3) := by decide +kernel
theorem dX5_isGoodCopy_45 : decode cX5_isGoodCopy 45 = .ok (.goto (-40), 3) := by decide +kernel
theorem dX5_isGoodCopy_48 : decode cX5_isGoodCopy 48 = .ok (.aload_n 0, 1) := by decide +kernel
theorem dX5_isGoodCopy_49 : decode cX5_isGoodCopy 49 = .ok (.getfield 36, 3) := by decide +kernel
theorem dX5_isGoodCopy_52 : decode cX5_isGoodCopy 52 = .ok (.bipush 120, 2) := by decide +kernel
theorem dX5_isGoodCopy_54 : decode cX5_isGoodCopy 54 = .ok (.iload_n 1, 1) := by decide +kernel
theorem dX5_isGoodCopy_55 : decode cX5_isGoodCopy 55 = .ok (.imul, 1) := by decide +kernel
theorem dX5_isGoodCopy_56 : decode cX5_isGoodCopy 56 = .ok (.iload_n 2, 1) := by decide +kernel
theorem dX5_isGoodCopy_57 : decode cX5_isGoodCopy 57 = .ok (.iadd, 1) := by decide +kernel
theorem dX5_isGoodCopy_58 : decode cX5_isGoodCopy 58 = .ok (.baload, 1) := by decide +kernel
theorem dX5_isGoodCopy_59 : decode cX5_isGoodCopy 59 = .ok (.ifCond .eq 17, 3) := by decide +kernel
theorem dX5_isGoodCopy_62 : decode cX5_isGoodCopy 62 = .ok (.iload_n 3, 1) := by decide +kernel
theorem dX5_isGoodCopy_63 : decode cX5_isGoodCopy 63 = .ok (.aload_n 0, 1) := by decide +kernel
theorem dX5_isGoodCopy_64 : decode cX5_isGoodCopy 64 = .ok (.getfield 26, 3) := by decide +kernel
theorem dX5_isGoodCopy_67 : decode cX5_isGoodCopy 67 = .ok (.iload_n 2, 1) := by decide +kernel
theorem dX5_isGoodCopy_68 : decode cX5_isGoodCopy 68 = .ok (.iaload, 1) := by decide +kernel
theorem dX5_isGoodCopy_69 : decode cX5_isGoodCopy 69 = .ok (.if_icmp .ne 7, 3) := by decide +kernel
theorem dX5_isGoodCopy_72 : decode cX5_isGoodCopy 72 = .ok (.iconst 1, 1) := by decide +kernel
theorem dX5_isGoodCopy_73 : decode cX5_isGoodCopy 73 = .ok (.goto 4, 3) := by decide +kernel
theorem dX5_isGoodCopy_76 : decode cX5_isGoodCopy 76 = .ok (.iconst 0, 1) := by decide +kernel
theorem dX5_isGoodCopy_77 : decode cX5_isGoodCopy 77 = .ok (.ireturn, 1) := by decide +kernel
theorem dX5_isReadable_0 : decode cX5_isReadable 0 = .ok (.aload_n 0, 1) := by decide +kernel
theorem dX5_isReadable_1 : decode cX5_isReadable 1 = .ok (.iload_n 2, 1) := by decide +kernel
theorem dX5_isReadable_2 : decode cX5_isReadable 2 = .ok (.invokevirtual 90, 3) := by decide +kernel
theorem dX5_isReadable_5 : decode cX5_isReadable 5 = .ok (.ifCond .eq 24, 3) := by decide +kernel
theorem dX5_isReadable_8 : decode cX5_isReadable 8 = .ok (.aload_n 0, 1) := by decide +kernel
theorem dX5_isReadable_9 : decode cX5_isReadable 9 = .ok (.iload_n 1, 1) := by decide +kernel
theorem dX5_isReadable_10 : decode cX5_isReadable 10 = .ok (.iload_n 2, 1) := by decide +kernel
theorem dX5_isReadable_11 : decode cX5_isReadable 11 = .ok (.invokevirtual 93, 3) := by decide +kernel
theorem dX5_isReadable_14 : decode cX5_isReadable 14 = .ok (.ifCond .ne 11, 3) := by decide +kernel
theorem dX5_isReadable_17 : decode cX5_isReadable 17 = .ok (.aload_n 0, 1) := by decide +kernel
theorem dX5_isReadable_18 : decode cX5_isReadable 18 = .ok (.iload_n 2, 1) := by decide +kernel
theorem dX5_isReadable_19 : decode cX5_isReadable 19 = .ok (.invokevirtual 97, 3) := by decide +kernel
theorem dX5_isReadable_22 : decode cX5_isReadable 22 = .ok (.ifCond .ne 7, 3) := by decide +kernel
theorem dX5_isReadable_25 : decode cX5_isReadable 25 = .ok (.iconst 1, 1) := by decide +kernel
theorem dX5_isReadable_26 : decode cX5_isReadable 26 = .ok (.goto 4, 3) := by decide +kernel
theorem dX5_isReadable_29 : decode cX5_isReadable 29 = .ok (.iconst 0, 1) := by decide +kernel
theorem dX5_isReadable_30 : decode cX5_isReadable 30 = .ok (.ireturn, 1) := by decide +kernel
theorem dX5_hasPart_0 : decode cX5_hasPart 0 = .ok (.iconst 0, 1) := by decide +kernel
theorem dX5_hasPart_1 : decode cX5_hasPart 1 = .ok (.istore_n 3, 1) := by decide +kernel
theorem dX5_hasPart_2 : decode cX5_hasPart 2 = .ok (.iconst 0, 1) := by decide +kernel
theorem dX5_hasPart_3 : decode cX5_hasPart 3 = .ok (.istore 4, 2) := by decide +kernel
theorem dX5_hasPart_5 : decode cX5_hasPart 5 = .ok (.iload 4, 2) := by decide +kernel
theorem dX5_hasPart_7 : decode cX5_hasPart 7 = .ok (.aload_n 0, 1) := by decide +kernel
theorem dX5_hasPart_8 : decode cX5_hasPart 8 = .ok (.getfield 51, 3) := by decide +kernel
theorem dX5_hasPart_11 : decode cX5_hasPart 11 = .ok (.iload_n 1, 1) := by decide +kernel
theorem dX5_hasPart_12 : decode cX5_hasPart 12 = .ok (.iaload, 1) := by decide +kernel
theorem dX5_hasPart_13 : decode cX5_hasPart 13 = .ok (.if_icmp .ge 65, 3) := by decide +kernel
theorem dX5_hasPart_16 : decode cX5_hasPart 16 = .ok (.iconst 0, 1) := by decide +kernel
theorem dX5_hasPart_17 : decode cX5_hasPart 17 = .ok (.istore 5, 2) := by decide +kernel
theorem dX5_hasPart_19 : decode cX5_hasPart 19 = .ok (.iload 5, 2) := by decide +kernel
theorem dX5_hasPart_21 : decode cX5_hasPart 21 = .ok (.aload_n 0, 1) := by decide +kernel
theorem dX5_hasPart_22 : decode cX5_hasPart 22 = .ok (.getfield 54, 3) := by decide +kernel
theorem dX5_hasPart_25 : decode cX5_hasPart 25 = .ok (.iconst 4, 1) := by decide +kernel
theorem dX5_hasPart_26 : decode cX5_hasPart 26 = .ok (.iload_n 1, 1) := by decide +kernel
theorem dX5_hasPart_27 : decode cX5_hasPart 27 = .ok (.imul, 1) := by decide +kernel
theorem dX5_hasPart_28 : decode cX5_hasPart 28 = .ok (.iload 4, 2) := by decide +kernel
theorem dX5_hasPart_30 : decode cX5_hasPart 30 = .ok (.iadd, 1) := by decide +kernel
theorem dX5_hasPart_31 : decode cX5_hasPart 31 = .ok (.iaload, 1) := by decide +kernel
theorem dX5_hasPart_32 : decode cX5_hasPart 32 = .ok (.if_icmp .ge 40, 3) := by decide +kernel
theorem dX5_hasPart_35 : decode cX5_hasPart 35 = .ok (.iload_n 3, 1) := by decide +kernel
theorem dX5_hasPart_36 : decode cX5_hasPart 36 = .ok (.ifCond .ne 24, 3) := by decide +kernel
theorem dX5_hasPart_39 : decode cX5_hasPart 39 = .ok (.aload_n 0, 1) := by decide +kernel
theorem dX5_hasPart_40 : decode cX5_hasPart 40 = .ok (.getfield 57, 3) := by decide +kernel
theorem dX5_hasPart_43 : decode cX5_hasPart 43 = .ok (.bipush 80, 2) := by decide +kernel
theorem dX5_hasPart_45 : decode cX5_hasPart 45 = .ok (.iconst 4, 1) := by decide +kernel
theorem dX5_hasPart_46 : decode cX5_hasPart 46 = .ok (.iload_n 1, 1) := by decide +kernel
theorem dX5_hasPart_47 : decode cX5_hasPart 47 = .ok (.imul, 1) := by decide +kernel
theorem dX5_hasPart_48 : decode cX5_hasPart 48 = .ok (.iload 4, 2) := by decide +kernel
theorem dX5_hasPart_50 : decode cX5_hasPart 50 = .ok (.iadd, 1) := by decide +kernel
theorem dX5_hasPart_51 : decode cX5_hasPart 51 = .ok (.imul, 1) := by decide +kernel
theorem dX5_hasPart_52 : decode cX5_hasPart 52 = .ok (.iload 5, 2) := by decide +kernel
theorem dX5_hasPart_54 : decode cX5_hasPart 54 = .ok (.iadd, 1) := by decide +kernel
theorem dX5_hasPart_55 : decode cX5_hasPart 55 = .ok (.iaload, 1) := by decide +kernel
theorem dX5_hasPart_56 : decode cX5_hasPart 56 = .ok (.iload_n 2, 1) := by decide +kernel
theorem dX5_hasPart_57 : decode cX5_hasPart 57 = .ok (.if_icmp .ne 7, 3) := by decide +kernel
theorem dX5_hasPart_60 : decode cX5_hasPart 60 = .ok (.iconst 1, 1) := by decide +kernel
theorem dX5_hasPart_61 : decode cX5_hasPart 61 = .ok (.goto 4, 3) := by decide +kernel
theorem dX5_hasPart_64 : decode cX5_hasPart 64 = .ok (.iconst 0, 1) := by decide +kernel
theorem dX5_hasPart_65 : decode cX5_hasPart 65 = .ok (.istore_n 3, 1) := by decide +kernel
theorem dX5_hasPart_66 : decode cX5_hasPart 66 = .ok (.iinc 5 1, 3) := by decide +kernel
theorem dX5_hasPart_69 : decode cX5_hasPart 69 = .ok (.goto (-50), 3) := by decide +kernel
theorem dX5_hasPart_72 : decode cX5_hasPart 72 = .ok (.iinc 4 1, 3) := by decide +kernel
theorem dX5_hasPart_75 : decode cX5_hasPart 75 = .ok (.goto (-70), 3) := by decide +kernel
theorem dX5_hasPart_78 : decode cX5_hasPart 78 = .ok (.iload_n 3, 1) := by decide +kernel
theorem dX5_hasPart_79 : decode cX5_hasPart 79 = .ok (.ireturn, 1) := by decide +kernel
theorem dX5_partTold_0 : decode cX5_partTold 0 = .ok (.aload_n 0, 1) := by decide +kernel
theorem dX5_partTold_1 : decode cX5_partTold 1 = .ok (.iload_n 1, 1) := by decide +kernel
theorem dX5_partTold_2 : decode cX5_partTold 2 = .ok (.invokevirtual 90, 3) := by decide +kernel
theorem dX5_partTold_5 : decode cX5_partTold 5 = .ok (.ifCond .eq 12, 3) := by decide +kernel
theorem dX5_partTold_8 : decode cX5_partTold 8 = .ok (.iload_n 2, 1) := by decide +kernel
theorem dX5_partTold_9 : decode cX5_partTold 9 = .ok (.iconst 0, 1) := by decide +kernel
theorem dX5_partTold_10 : decode cX5_partTold 10 = .ok (.iconst 4, 1) := by decide +kernel
theorem dX5_partTold_11 : decode cX5_partTold 11 = .ok (.invokestatic 72, 3) := by decide +kernel
theorem dX5_partTold_14 : decode cX5_partTold 14 = .ok (.ifCond .ne 6, 3) := by decide +kernel
theorem dX5_partTold_17 : decode cX5_partTold 17 = .ok (.bipush (-2), 2) := by decide +kernel
theorem dX5_partTold_19 : decode cX5_partTold 19 = .ok (.ireturn, 1) := by decide +kernel
theorem dX5_partTold_20 : decode cX5_partTold 20 = .ok (.iconst 0, 1) := by decide +kernel
theorem dX5_partTold_21 : decode cX5_partTold 21 = .ok (.istore_n 3, 1) := by decide +kernel
theorem dX5_partTold_22 : decode cX5_partTold 22 = .ok (.iload_n 2, 1) := by decide +kernel
theorem dX5_partTold_23 : decode cX5_partTold 23 = .ok (.iconst 2, 1) := by decide +kernel
theorem dX5_partTold_24 : decode cX5_partTold 24 = .ok (.if_icmp .ne 61, 3) := by decide +kernel
theorem dX5_partTold_27 : decode cX5_partTold 27 = .ok (.iconst 0, 1) := by decide +kernel
theorem dX5_partTold_28 : decode cX5_partTold 28 = .ok (.istore 4, 2) := by decide +kernel
theorem dX5_partTold_30 : decode cX5_partTold 30 = .ok (.iload 4, 2) := by decide +kernel
theorem dX5_partTold_32 : decode cX5_partTold 32 = .ok (.bipush 12, 2) := by decide +kernel
theorem dX5_partTold_34 : decode cX5_partTold 34 = .ok (.if_icmp .ge 48, 3) := by decide +kernel
theorem dX5_partTold_37 : decode cX5_partTold 37 = .ok (.iload_n 3, 1) := by decide +kernel
theorem dX5_partTold_38 : decode cX5_partTold 38 = .ok (.aload_n 0, 1) := by decide +kernel
theorem dX5_partTold_39 : decode cX5_partTold 39 = .ok (.getfield 42, 3) := by decide +kernel
theorem dX5_partTold_42 : decode cX5_partTold 42 = .ok (.iload 4, 2) := by decide +kernel
theorem dX5_partTold_44 : decode cX5_partTold 44 = .ok (.iaload, 1) := by decide +kernel
theorem dX5_partTold_45 : decode cX5_partTold 45 = .ok (.iconst (-1), 1) := by decide +kernel
theorem dX5_partTold_46 : decode cX5_partTold 46 = .ok (.if_icmp .eq 27, 3) := by decide +kernel
theorem dX5_partTold_49 : decode cX5_partTold 49 = .ok (.aload_n 0, 1) := by decide +kernel
theorem dX5_partTold_50 : decode cX5_partTold 50 = .ok (.getfield 45, 3) := by decide +kernel
theorem dX5_partTold_53 : decode cX5_partTold 53 = .ok (.iload 4, 2) := by decide +kernel
theorem dX5_partTold_55 : decode cX5_partTold 55 = .ok (.baload, 1) := by decide +kernel
theorem dX5_partTold_56 : decode cX5_partTold 56 = .ok (.ifCond .eq 17, 3) := by decide +kernel
theorem dX5_partTold_59 : decode cX5_partTold 59 = .ok (.aload_n 0, 1) := by decide +kernel
theorem dX5_partTold_60 : decode cX5_partTold 60 = .ok (.iload 4, 2) := by decide +kernel
theorem dX5_partTold_62 : decode cX5_partTold 62 = .ok (.iload_n 1, 1) := by decide +kernel
theorem dX5_partTold_63 : decode cX5_partTold 63 = .ok (.invokevirtual 100, 3) := by decide +kernel
theorem dX5_partTold_66 : decode cX5_partTold 66 = .ok (.ifCond .eq 7, 3) := by decide +kernel
theorem dX5_partTold_69 : decode cX5_partTold 69 = .ok (.iconst 1, 1) := by decide +kernel
theorem dX5_partTold_70 : decode cX5_partTold 70 = .ok (.goto 4, 3) := by decide +kernel
theorem dX5_partTold_73 : decode cX5_partTold 73 = .ok (.iconst 0, 1) := by decide +kernel
theorem dX5_partTold_74 : decode cX5_partTold 74 = .ok (.iadd, 1) := by decide +kernel
theorem dX5_partTold_75 : decode cX5_partTold 75 = .ok (.istore_n 3, 1) := by decide +kernel
theorem dX5_partTold_76 : decode cX5_partTold 76 = .ok (.iinc 4 1, 3) := by decide +kernel
theorem dX5_partTold_79 : decode cX5_partTold 79 = .ok (.goto (-49), 3) := by decide +kernel
theorem dX5_partTold_82 : decode cX5_partTold 82 = .ok (.goto 46, 3) := by decide +kernel
theorem dX5_partTold_85 : decode cX5_partTold 85 = .ok (.iload_n 2, 1) := by decide +kernel
theorem dX5_partTold_86 : decode cX5_partTold 86 = .ok (.iconst 4, 1) := by decide +kernel
theorem dX5_partTold_87 : decode cX5_partTold 87 = .ok (.if_icmp .ne 41, 3) := by decide +kernel
theorem dX5_partTold_90 : decode cX5_partTold 90 = .ok (.iconst 0, 1) := by decide +kernel
theorem dX5_partTold_91 : decode cX5_partTold 91 = .ok (.istore 4, 2) := by decide +kernel
theorem dX5_partTold_93 : decode cX5_partTold 93 = .ok (.iload 4, 2) := by decide +kernel
theorem dX5_partTold_95 : decode cX5_partTold 95 = .ok (.iconst 4, 1) := by decide +kernel
theorem dX5_partTold_96 : decode cX5_partTold 96 = .ok (.if_icmp .ge 32, 3) := by decide +kernel
theorem dX5_partTold_99 : decode cX5_partTold 99 = .ok (.iload_n 3, 1) := by decide +kernel
theorem dX5_partTold_100 : decode cX5_partTold 100 = .ok (.aload_n 0, 1) := by decide +kernel
theorem dX5_partTold_101 : decode cX5_partTold 101 = .ok (.getfield 36, 3) := by decide +kernel
theorem dX5_partTold_104 : decode cX5_partTold 104 = .ok (.bipush 120, 2) := by decide +kernel
theorem dX5_partTold_106 : decode cX5_partTold 106 = .ok (.iload 4, 2) := by decide +kernel
theorem dX5_partTold_108 : decode cX5_partTold 108 = .ok (.imul, 1) := by decide +kernel
theorem dX5_partTold_109 : decode cX5_partTold 109 = .ok (.iload_n 1, 1) := by decide +kernel
theorem dX5_partTold_110 : decode cX5_partTold 110 = .ok (.iadd, 1) := by decide +kernel
theorem dX5_partTold_111 : decode cX5_partTold 111 = .ok (.baload, 1) := by decide +kernel
theorem dX5_partTold_112 : decode cX5_partTold 112 = .ok (.ifCond .eq 7, 3) := by decide +kernel
theorem dX5_partTold_115 : decode cX5_partTold 115 = .ok (.iconst 1, 1) := by decide +kernel
theorem dX5_partTold_116 : decode cX5_partTold 116 = .ok (.goto 4, 3) := by decide +kernel
theorem dX5_partTold_119 : decode cX5_partTold 119 = .ok (.iconst 0, 1) := by decide +kernel
theorem dX5_partTold_120 : decode cX5_partTold 120 = .ok (.iadd, 1) := by decide +kernel
theorem dX5_partTold_121 : decode cX5_partTold 121 = .ok (.istore_n 3, 1) := by decide +kernel
theorem dX5_partTold_122 : decode cX5_partTold 122 = .ok (.iinc 4 1, 3) := by decide +kernel
theorem dX5_partTold_125 : decode cX5_partTold 125 = .ok (.goto (-32), 3) := by decide +kernel
theorem dX5_partTold_128 : decode cX5_partTold 128 = .ok (.iload_n 2, 1) := by decide +kernel
theorem dX5_partTold_129 : decode cX5_partTold 129 = .ok (.ifCond .ne 12, 3) := by decide +kernel
theorem dX5_partTold_132 : decode cX5_partTold 132 = .ok (.aload_n 0, 1) := by decide +kernel
theorem dX5_partTold_133 : decode cX5_partTold 133 = .ok (.getfield 23, 3) := by decide +kernel
theorem dX5_partTold_136 : decode cX5_partTold 136 = .ok (.iload_n 1, 1) := by decide +kernel
theorem dX5_partTold_137 : decode cX5_partTold 137 = .ok (.iaload, 1) := by decide +kernel
theorem dX5_partTold_138 : decode cX5_partTold 138 = .ok (.goto 39, 3) := by decide +kernel
theorem dX5_partTold_141 : decode cX5_partTold 141 = .ok (.iload_n 2, 1) := by decide +kernel
theorem dX5_partTold_142 : decode cX5_partTold 142 = .ok (.iconst 1, 1) := by decide +kernel
theorem dX5_partTold_143 : decode cX5_partTold 143 = .ok (.if_icmp .ne 12, 3) := by decide +kernel
theorem dX5_partTold_146 : decode cX5_partTold 146 = .ok (.aload_n 0, 1) := by decide +kernel
theorem dX5_partTold_147 : decode cX5_partTold 147 = .ok (.getfield 26, 3) := by decide +kernel
theorem dX5_partTold_150 : decode cX5_partTold 150 = .ok (.iload_n 1, 1) := by decide +kernel
theorem dX5_partTold_151 : decode cX5_partTold 151 = .ok (.iaload, 1) := by decide +kernel
theorem dX5_partTold_152 : decode cX5_partTold 152 = .ok (.goto 25, 3) := by decide +kernel
theorem dX5_partTold_155 : decode cX5_partTold 155 = .ok (.iload_n 2, 1) := by decide +kernel
theorem dX5_partTold_156 : decode cX5_partTold 156 = .ok (.iconst 3, 1) := by decide +kernel
theorem dX5_partTold_157 : decode cX5_partTold 157 = .ok (.if_icmp .ne 19, 3) := by decide +kernel
theorem dX5_partTold_160 : decode cX5_partTold 160 = .ok (.aload_n 0, 1) := by decide +kernel
theorem dX5_partTold_161 : decode cX5_partTold 161 = .ok (.iload_n 1, 1) := by decide +kernel
theorem dX5_partTold_162 : decode cX5_partTold 162 = .ok (.invokevirtual 97, 3) := by decide +kernel
theorem dX5_partTold_165 : decode cX5_partTold 165 = .ok (.ifCond .eq 7, 3) := by decide +kernel
theorem dX5_partTold_168 : decode cX5_partTold 168 = .ok (.iconst 1, 1) := by decide +kernel
theorem dX5_partTold_169 : decode cX5_partTold 169 = .ok (.goto 8, 3) := by decide +kernel
theorem dX5_partTold_172 : decode cX5_partTold 172 = .ok (.iconst 0, 1) := by decide +kernel
theorem dX5_partTold_173 : decode cX5_partTold 173 = .ok (.goto 4, 3) := by decide +kernel
theorem dX5_partTold_176 : decode cX5_partTold 176 = .ok (.iload_n 3, 1) := by decide +kernel
theorem dX5_partTold_177 : decode cX5_partTold 177 = .ok (.ireturn, 1) := by decide +kernel
theorem dX5_isByte_0 : decode cX5_isByte 0 = .ok (.aload_n 0, 1) := by decide +kernel
theorem dX5_isByte_1 : decode cX5_isByte 1 = .ok (.iload_n 1, 1) := by decide +kernel
theorem dX5_isByte_2 : decode cX5_isByte 2 = .ok (.invokevirtual 90, 3) := by decide +kernel
theorem dX5_isByte_5 : decode cX5_isByte 5 = .ok (.ifCond .eq 62, 3) := by decide +kernel
theorem dX5_isByte_8 : decode cX5_isByte 8 = .ok (.iload_n 3, 1) := by decide +kernel
theorem dX5_isByte_9 : decode cX5_isByte 9 = .ok (.iconst 0, 1) := by decide +kernel
theorem dX5_isByte_10 : decode cX5_isByte 10 = .ok (.aload_n 0, 1) := by decide +kernel
theorem dX5_isByte_11 : decode cX5_isByte 11 = .ok (.getfield 23, 3) := by decide +kernel
theorem dX5_isByte_14 : decode cX5_isByte 14 = .ok (.iload_n 1, 1) := by decide +kernel
theorem dX5_isByte_15 : decode cX5_isByte 15 = .ok (.iaload, 1) := by decide +kernel
theorem dX5_isByte_16 : decode cX5_isByte 16 = .ok (.iconst 1, 1) := by decide +kernel
theorem dX5_isByte_17 : decode cX5_isByte 17 = .ok (.isub, 1) := by decide +kernel
theorem dX5_isByte_18 : decode cX5_isByte 18 = .ok (.invokestatic 72, 3) := by decide +kernel
theorem dX5_isByte_21 : decode cX5_isByte 21 = .ok (.ifCond .eq 46, 3) := by decide +kernel
theorem dX5_isByte_24 : decode cX5_isByte 24 = .ok (.iload_n 2, 1) := by decide +kernel
theorem dX5_isByte_25 : decode cX5_isByte 25 = .ok (.iconst (-1), 1) := by decide +kernel
theorem dX5_isByte_26 : decode cX5_isByte 26 = .ok (.if_icmp .ne 15, 3) := by decide +kernel
theorem dX5_isByte_29 : decode cX5_isByte 29 = .ok (.aload_n 0, 1) := by decide +kernel
theorem dX5_isByte_30 : decode cX5_isByte 30 = .ok (.getfield 29, 3) := by decide +kernel
theorem dX5_isByte_33 : decode cX5_isByte 33 = .ok (.iload_n 1, 1) := by decide +kernel
theorem dX5_isByte_34 : decode cX5_isByte 34 = .ok (.baload, 1) := by decide +kernel
theorem dX5_isByte_35 : decode cX5_isByte 35 = .ok (.ifCond .ne 32, 3) := by decide +kernel
theorem dX5_isByte_38 : decode cX5_isByte 38 = .ok (.goto 25, 3) := by decide +kernel
theorem dX5_isByte_41 : decode cX5_isByte 41 = .ok (.aload_n 0, 1) := by decide +kernel
theorem dX5_isByte_42 : decode cX5_isByte 42 = .ok (.iload_n 2, 1) := by decide +kernel
theorem dX5_isByte_43 : decode cX5_isByte 43 = .ok (.invokevirtual 76, 3) := by decide +kernel
theorem dX5_isByte_46 : decode cX5_isByte 46 = .ok (.ifCond .eq 21, 3) := by decide +kernel
theorem dX5_isByte_49 : decode cX5_isByte 49 = .ok (.aload_n 0, 1) := by decide +kernel
theorem dX5_isByte_50 : decode cX5_isByte 50 = .ok (.getfield 36, 3) := by decide +kernel
theorem dX5_isByte_53 : decode cX5_isByte 53 = .ok (.bipush 120, 2) := by decide +kernel
theorem dX5_isByte_55 : decode cX5_isByte 55 = .ok (.iload_n 2, 1) := by decide +kernel
theorem dX5_isByte_56 : decode cX5_isByte 56 = .ok (.imul, 1) := by decide +kernel
theorem dX5_isByte_57 : decode cX5_isByte 57 = .ok (.iload_n 1, 1) := by decide +kernel
theorem dX5_isByte_58 : decode cX5_isByte 58 = .ok (.iadd, 1) := by decide +kernel
theorem dX5_isByte_59 : decode cX5_isByte 59 = .ok (.baload, 1) := by decide +kernel
theorem dX5_isByte_60 : decode cX5_isByte 60 = .ok (.ifCond .eq 7, 3) := by decide +kernel
theorem dX5_isByte_63 : decode cX5_isByte 63 = .ok (.iconst 1, 1) := by decide +kernel
theorem dX5_isByte_64 : decode cX5_isByte 64 = .ok (.goto 4, 3) := by decide +kernel
theorem dX5_isByte_67 : decode cX5_isByte 67 = .ok (.iconst 0, 1) := by decide +kernel
theorem dX5_isByte_68 : decode cX5_isByte 68 = .ok (.ireturn, 1) := by decide +kernel
theorem dX5_partByte_0 : decode cX5_partByte 0 = .ok (.aload_n 0, 1) := by decide +kernel
theorem dX5_partByte_1 : decode cX5_partByte 1 = .ok (.iload_n 1, 1) := by decide +kernel
theorem dX5_partByte_2 : decode cX5_partByte 2 = .ok (.iload_n 2, 1) := by decide +kernel
theorem dX5_partByte_3 : decode cX5_partByte 3 = .ok (.iload_n 3, 1) := by decide +kernel
theorem dX5_partByte_4 : decode cX5_partByte 4 = .ok (.invokevirtual 103, 3) := by decide +kernel
theorem dX5_partByte_7 : decode cX5_partByte 7 = .ok (.ifCond .ne 6, 3) := by decide +kernel
theorem dX5_partByte_10 : decode cX5_partByte 10 = .ok (.bipush (-2), 2) := by decide +kernel
theorem dX5_partByte_12 : decode cX5_partByte 12 = .ok (.ireturn, 1) := by decide +kernel
theorem dX5_partByte_13 : decode cX5_partByte 13 = .ok (.iload_n 2, 1) := by decide +kernel
theorem dX5_partByte_14 : decode cX5_partByte 14 = .ok (.iconst (-1), 1) := by decide +kernel
theorem dX5_partByte_15 : decode cX5_partByte 15 = .ok (.if_icmp .ne 17, 3) := by decide +kernel
theorem dX5_partByte_18 : decode cX5_partByte 18 = .ok (.aload_n 0, 1) := by decide +kernel
theorem dX5_partByte_19 : decode cX5_partByte 19 = .ok (.getfield 33, 3) := by decide +kernel
theorem dX5_partByte_22 : decode cX5_partByte 22 = .ok (.bipush 32, 2) := by decide +kernel
theorem dX5_partByte_24 : decode cX5_partByte 24 = .ok (.iload_n 1, 1) := by decide +kernel
theorem dX5_partByte_25 : decode cX5_partByte 25 = .ok (.imul, 1) := by decide +kernel
theorem dX5_partByte_26 : decode cX5_partByte 26 = .ok (.iload_n 3, 1) := by decide +kernel
theorem dX5_partByte_27 : decode cX5_partByte 27 = .ok (.iadd, 1) := by decide +kernel
theorem dX5_partByte_28 : decode cX5_partByte 28 = .ok (.iaload, 1) := by decide +kernel
theorem dX5_partByte_29 : decode cX5_partByte 29 = .ok (.goto 19, 3) := by decide +kernel
theorem dX5_partByte_32 : decode cX5_partByte 32 = .ok (.aload_n 0, 1) := by decide +kernel
theorem dX5_partByte_33 : decode cX5_partByte 33 = .ok (.getfield 39, 3) := by decide +kernel
theorem dX5_partByte_36 : decode cX5_partByte 36 = .ok (.bipush 32, 2) := by decide +kernel
theorem dX5_partByte_38 : decode cX5_partByte 38 = .ok (.bipush 120, 2) := by decide +kernel
theorem dX5_partByte_40 : decode cX5_partByte 40 = .ok (.iload_n 2, 1) := by decide +kernel
theorem dX5_partByte_41 : decode cX5_partByte 41 = .ok (.imul, 1) := by decide +kernel
theorem dX5_partByte_42 : decode cX5_partByte 42 = .ok (.iload_n 1, 1) := by decide +kernel
theorem dX5_partByte_43 : decode cX5_partByte 43 = .ok (.iadd, 1) := by decide +kernel
theorem dX5_partByte_44 : decode cX5_partByte 44 = .ok (.imul, 1) := by decide +kernel
theorem dX5_partByte_45 : decode cX5_partByte 45 = .ok (.iload_n 3, 1) := by decide +kernel
theorem dX5_partByte_46 : decode cX5_partByte 46 = .ok (.iadd, 1) := by decide +kernel
theorem dX5_partByte_47 : decode cX5_partByte 47 = .ok (.iaload, 1) := by decide +kernel
theorem dX5_partByte_48 : decode cX5_partByte 48 = .ok (.ireturn, 1) := by decide +kernel
theorem dX5_alter_0 : decode cX5_alter 0 = .ok (.aload_n 0, 1) := by decide +kernel
theorem dX5_alter_1 : decode cX5_alter 1 = .ok (.iload_n 1, 1) := by decide +kernel
theorem dX5_alter_2 : decode cX5_alter 2 = .ok (.iload_n 2, 1) := by decide +kernel
theorem dX5_alter_3 : decode cX5_alter 3 = .ok (.iload_n 3, 1) := by decide +kernel
theorem dX5_alter_4 : decode cX5_alter 4 = .ok (.invokevirtual 103, 3) := by decide +kernel
theorem dX5_alter_7 : decode cX5_alter 7 = .ok (.ifCond .eq 15, 3) := by decide +kernel
theorem dX5_alter_10 : decode cX5_alter 10 = .ok (.iload 4, 2) := by decide +kernel
theorem dX5_alter_12 : decode cX5_alter 12 = .ok (.iconst 0, 1) := by decide +kernel
theorem dX5_alter_13 : decode cX5_alter 13 = .ok (.sipush 255, 3) := by decide +kernel
theorem dX5_alter_16 : decode cX5_alter 16 = .ok (.invokestatic 72, 3) := by decide +kernel
theorem dX5_alter_19 : decode cX5_alter 19 = .ok (.ifCond .ne 6, 3) := by decide +kernel
theorem dX5_alter_22 : decode cX5_alter 22 = .ok (.bipush (-2), 2) := by decide +kernel
theorem dX5_alter_24 : decode cX5_alter 24 = .ok (.ireturn, 1) := by decide +kernel
theorem dX5_alter_25 : decode cX5_alter 25 = .ok (.iload_n 2, 1) := by decide +kernel
theorem dX5_alter_26 : decode cX5_alter 26 = .ok (.iconst (-1), 1) := by decide +kernel
theorem dX5_alter_27 : decode cX5_alter 27 = .ok (.if_icmp .ne 22, 3) := by decide +kernel
theorem dX5_alter_30 : decode cX5_alter 30 = .ok (.aload_n 0, 1) := by decide +kernel
theorem dX5_alter_31 : decode cX5_alter 31 = .ok (.getfield 33, 3) := by decide +kernel
theorem dX5_alter_34 : decode cX5_alter 34 = .ok (.bipush 32, 2) := by decide +kernel
theorem dX5_alter_36 : decode cX5_alter 36 = .ok (.iload_n 1, 1) := by decide +kernel
theorem dX5_alter_37 : decode cX5_alter 37 = .ok (.imul, 1) := by decide +kernel
theorem dX5_alter_38 : decode cX5_alter 38 = .ok (.iload_n 3, 1) := by decide +kernel
theorem dX5_alter_39 : decode cX5_alter 39 = .ok (.iadd, 1) := by decide +kernel
theorem dX5_alter_40 : decode cX5_alter 40 = .ok (.dup2, 1) := by decide +kernel
theorem dX5_alter_41 : decode cX5_alter 41 = .ok (.iaload, 1) := by decide +kernel
theorem dX5_alter_42 : decode cX5_alter 42 = .ok (.iload 4, 2) := by decide +kernel
theorem dX5_alter_44 : decode cX5_alter 44 = .ok (.ixor, 1) := by decide +kernel
theorem dX5_alter_45 : decode cX5_alter 45 = .ok (.iastore, 1) := by decide +kernel
theorem dX5_alter_46 : decode cX5_alter 46 = .ok (.goto 24, 3) := by decide +kernel
theorem dX5_alter_49 : decode cX5_alter 49 = .ok (.aload_n 0, 1) := by decide +kernel
theorem dX5_alter_50 : decode cX5_alter 50 = .ok (.getfield 39, 3) := by decide +kernel
theorem dX5_alter_53 : decode cX5_alter 53 = .ok (.bipush 32, 2) := by decide +kernel
theorem dX5_alter_55 : decode cX5_alter 55 = .ok (.bipush 120, 2) := by decide +kernel
theorem dX5_alter_57 : decode cX5_alter 57 = .ok (.iload_n 2, 1) := by decide +kernel
theorem dX5_alter_58 : decode cX5_alter 58 = .ok (.imul, 1) := by decide +kernel
theorem dX5_alter_59 : decode cX5_alter 59 = .ok (.iload_n 1, 1) := by decide +kernel
theorem dX5_alter_60 : decode cX5_alter 60 = .ok (.iadd, 1) := by decide +kernel
theorem dX5_alter_61 : decode cX5_alter 61 = .ok (.imul, 1) := by decide +kernel
theorem dX5_alter_62 : decode cX5_alter 62 = .ok (.iload_n 3, 1) := by decide +kernel
theorem dX5_alter_63 : decode cX5_alter 63 = .ok (.iadd, 1) := by decide +kernel
theorem dX5_alter_64 : decode cX5_alter 64 = .ok (.dup2, 1) := by decide +kernel
theorem dX5_alter_65 : decode cX5_alter 65 = .ok (.iaload, 1) := by decide +kernel
theorem dX5_alter_66 : decode cX5_alter 66 = .ok (.iload 4, 2) := by decide +kernel
theorem dX5_alter_68 : decode cX5_alter 68 = .ok (.ixor, 1) := by decide +kernel
theorem dX5_alter_69 : decode cX5_alter 69 = .ok (.iastore, 1) := by decide +kernel
theorem dX5_alter_70 : decode cX5_alter 70 = .ok (.aload_n 0, 1) := by decide +kernel
theorem dX5_alter_71 : decode cX5_alter 71 = .ok (.iload_n 1, 1) := by decide +kernel
theorem dX5_alter_72 : decode cX5_alter 72 = .ok (.iload_n 2, 1) := by decide +kernel
theorem dX5_alter_73 : decode cX5_alter 73 = .ok (.iload_n 3, 1) := by decide +kernel
theorem dX5_alter_74 : decode cX5_alter 74 = .ok (.invokevirtual 106, 3) := by decide +kernel
theorem dX5_alter_77 : decode cX5_alter 77 = .ok (.ireturn, 1) := by decide +kernel
theorem dX5_lose_0 : decode cX5_lose 0 = .ok (.aload_n 0, 1) := by decide +kernel
theorem dX5_lose_1 : decode cX5_lose 1 = .ok (.iload_n 1, 1) := by decide +kernel
theorem dX5_lose_2 : decode cX5_lose 2 = .ok (.iload_n 2, 1) := by decide +kernel
theorem dX5_lose_3 : decode cX5_lose 3 = .ok (.iconst 0, 1) := by decide +kernel
theorem dX5_lose_4 : decode cX5_lose 4 = .ok (.invokevirtual 103, 3) := by decide +kernel
theorem dX5_lose_7 : decode cX5_lose 7 = .ok (.ifCond .ne 6, 3) := by decide +kernel
theorem dX5_lose_10 : decode cX5_lose 10 = .ok (.bipush (-2), 2) := by decide +kernel
theorem dX5_lose_12 : decode cX5_lose 12 = .ok (.ireturn, 1) := by decide +kernel
theorem dX5_lose_13 : decode cX5_lose 13 = .ok (.iload_n 2, 1) := by decide +kernel
theorem dX5_lose_14 : decode cX5_lose 14 = .ok (.iconst (-1), 1) := by decide +kernel
theorem dX5_lose_15 : decode cX5_lose 15 = .ok (.if_icmp .ne 13, 3) := by decide +kernel
theorem dX5_lose_18 : decode cX5_lose 18 = .ok (.aload_n 0, 1) := by decide +kernel
theorem dX5_lose_19 : decode cX5_lose 19 = .ok (.getfield 29, 3) := by decide +kernel
theorem dX5_lose_22 : decode cX5_lose 22 = .ok (.iload_n 1, 1) := by decide +kernel
theorem dX5_lose_23 : decode cX5_lose 23 = .ok (.iconst 1, 1) := by decide +kernel
theorem dX5_lose_24 : decode cX5_lose 24 = .ok (.bastore, 1) := by decide +kernel
theorem dX5_lose_25 : decode cX5_lose 25 = .ok (.goto 15, 3) := by decide +kernel
theorem dX5_lose_28 : decode cX5_lose 28 = .ok (.aload_n 0, 1) := by decide +kernel
theorem dX5_lose_29 : decode cX5_lose 29 = .ok (.getfield 36, 3) := by decide +kernel
theorem dX5_lose_32 : decode cX5_lose 32 = .ok (.bipush 120, 2) := by decide +kernel
theorem dX5_lose_34 : decode cX5_lose 34 = .ok (.iload_n 2, 1) := by decide +kernel
theorem dX5_lose_35 : decode cX5_lose 35 = .ok (.imul, 1) := by decide +kernel
theorem dX5_lose_36 : decode cX5_lose 36 = .ok (.iload_n 1, 1) := by decide +kernel
theorem dX5_lose_37 : decode cX5_lose 37 = .ok (.iadd, 1) := by decide +kernel
theorem dX5_lose_38 : decode cX5_lose 38 = .ok (.iconst 0, 1) := by decide +kernel
theorem dX5_lose_39 : decode cX5_lose 39 = .ok (.bastore, 1) := by decide +kernel
theorem dX5_lose_40 : decode cX5_lose 40 = .ok (.iconst 1, 1) := by decide +kernel
theorem dX5_lose_41 : decode cX5_lose 41 = .ok (.ireturn, 1) := by decide +kernel
theorem dX5_slotOf_0 : decode cX5_slotOf 0 = .ok (.iconst (-1), 1) := by decide +kernel
theorem dX5_slotOf_1 : decode cX5_slotOf 1 = .ok (.istore_n 2, 1) := by decide +kernel
theorem dX5_slotOf_2 : decode cX5_slotOf 2 = .ok (.iconst 0, 1) := by decide +kernel
theorem dX5_slotOf_3 : decode cX5_slotOf 3 = .ok (.istore_n 3, 1) := by decide +kernel
theorem dX5_slotOf_4 : decode cX5_slotOf 4 = .ok (.iload_n 3, 1) := by decide +kernel
theorem dX5_slotOf_5 : decode cX5_slotOf 5 = .ok (.bipush 12, 2) := by decide +kernel
theorem dX5_slotOf_7 : decode cX5_slotOf 7 = .ok (.if_icmp .ge 29, 3) := by decide +kernel
theorem dX5_slotOf_10 : decode cX5_slotOf 10 = .ok (.iload_n 1, 1) := by decide +kernel
theorem dX5_slotOf_11 : decode cX5_slotOf 11 = .ok (.ifCond .lt 17, 3) := by decide +kernel
theorem dX5_slotOf_14 : decode cX5_slotOf 14 = .ok (.aload_n 0, 1) := by decide +kernel
theorem dX5_slotOf_15 : decode cX5_slotOf 15 = .ok (.getfield 42, 3) := by decide +kernel
theorem dX5_slotOf_18 : decode cX5_slotOf 18 = .ok (.iload_n 3, 1) := by decide +kernel
theorem dX5_slotOf_19 : decode cX5_slotOf 19 = .ok (.iaload, 1) := by decide +kernel
theorem dX5_slotOf_20 : decode cX5_slotOf 20 = .ok (.iload_n 1, 1) := by decide +kernel
theorem dX5_slotOf_21 : decode cX5_slotOf 21 = .ok (.if_icmp .ne 7, 3) := by decide +kernel
theorem dX5_slotOf_24 : decode cX5_slotOf 24 = .ok (.iload_n 3, 1) := by decide +kernel
theorem dX5_slotOf_25 : decode cX5_slotOf 25 = .ok (.goto 4, 3) := by decide +kernel
theorem dX5_slotOf_28 : decode cX5_slotOf 28 = .ok (.iload_n 2, 1) := by decide +kernel
theorem dX5_slotOf_29 : decode cX5_slotOf 29 = .ok (.istore_n 2, 1) := by decide +kernel
theorem dX5_slotOf_30 : decode cX5_slotOf 30 = .ok (.iinc 3 1, 3) := by decide +kernel
theorem dX5_slotOf_33 : decode cX5_slotOf 33 = .ok (.goto (-29), 3) := by decide +kernel
theorem dX5_slotOf_36 : decode cX5_slotOf 36 = .ok (.iload_n 2, 1) := by decide +kernel
theorem dX5_slotOf_37 : decode cX5_slotOf 37 = .ok (.ireturn, 1) := by decide +kernel
theorem dX5_keptSlot_0 : decode cX5_keptSlot 0 = .ok (.aload_n 0, 1) := by decide +kernel
theorem dX5_keptSlot_1 : decode cX5_keptSlot 1 = .ok (.iload_n 1, 1) := by decide +kernel
theorem dX5_keptSlot_2 : decode cX5_keptSlot 2 = .ok (.invokevirtual 110, 3) := by decide +kernel
theorem dX5_keptSlot_5 : decode cX5_keptSlot 5 = .ok (.istore_n 2, 1) := by decide +kernel
theorem dX5_keptSlot_6 : decode cX5_keptSlot 6 = .ok (.iload_n 2, 1) := by decide +kernel
theorem dX5_keptSlot_7 : decode cX5_keptSlot 7 = .ok (.iconst (-1), 1) := by decide +kernel
theorem dX5_keptSlot_8 : decode cX5_keptSlot 8 = .ok (.if_icmp .eq 16, 3) := by decide +kernel
theorem dX5_keptSlot_11 : decode cX5_keptSlot 11 = .ok (.aload_n 0, 1) := by decide +kernel
theorem dX5_keptSlot_12 : decode cX5_keptSlot 12 = .ok (.getfield 45, 3) := by decide +kernel
theorem dX5_keptSlot_15 : decode cX5_keptSlot 15 = .ok (.iload_n 2, 1) := by decide +kernel
theorem dX5_keptSlot_16 : decode cX5_keptSlot 16 = .ok (.baload, 1) := by decide +kernel
theorem dX5_keptSlot_17 : decode cX5_keptSlot 17 = .ok (.ifCond .eq 7, 3) := by decide +kernel
theorem dX5_keptSlot_20 : decode cX5_keptSlot 20 = .ok (.iload_n 2, 1) := by decide +kernel
theorem dX5_keptSlot_21 : decode cX5_keptSlot 21 = .ok (.goto 4, 3) := by decide +kernel
theorem dX5_keptSlot_24 : decode cX5_keptSlot 24 = .ok (.iconst (-1), 1) := by decide +kernel
theorem dX5_keptSlot_25 : decode cX5_keptSlot 25 = .ok (.ireturn, 1) := by decide +kernel
theorem dX5_isChunk_0 : decode cX5_isChunk 0 = .ok (.aload_n 0, 1) := by decide +kernel
theorem dX5_isChunk_1 : decode cX5_isChunk 1 = .ok (.getfield 23, 3) := by decide +kernel
theorem dX5_isChunk_4 : decode cX5_isChunk 4 = .ok (.iload_n 1, 1) := by decide +kernel
theorem dX5_isChunk_5 : decode cX5_isChunk 5 = .ok (.iaload, 1) := by decide +kernel
theorem dX5_isChunk_6 : decode cX5_isChunk 6 = .ok (.iload 4, 2) := by decide +kernel
theorem dX5_isChunk_8 : decode cX5_isChunk 8 = .ok (.if_icmp .ne 15, 3) := by decide +kernel
theorem dX5_isChunk_11 : decode cX5_isChunk 11 = .ok (.aload_n 0, 1) := by decide +kernel
theorem dX5_isChunk_12 : decode cX5_isChunk 12 = .ok (.iload_n 1, 1) := by decide +kernel
theorem dX5_isChunk_13 : decode cX5_isChunk 13 = .ok (.invokevirtual 97, 3) := by decide +kernel
theorem dX5_isChunk_16 : decode cX5_isChunk 16 = .ok (.ifCond .ne 7, 3) := by decide +kernel
theorem dX5_isChunk_19 : decode cX5_isChunk 19 = .ok (.iconst 1, 1) := by decide +kernel
theorem dX5_isChunk_20 : decode cX5_isChunk 20 = .ok (.goto 4, 3) := by decide +kernel
theorem dX5_isChunk_23 : decode cX5_isChunk 23 = .ok (.iconst 0, 1) := by decide +kernel
theorem dX5_isChunk_24 : decode cX5_isChunk 24 = .ok (.istore 5, 2) := by decide +kernel
theorem dX5_isChunk_26 : decode cX5_isChunk 26 = .ok (.iconst 0, 1) := by decide +kernel
theorem dX5_isChunk_27 : decode cX5_isChunk 27 = .ok (.istore 6, 2) := by decide +kernel
theorem dX5_isChunk_29 : decode cX5_isChunk 29 = .ok (.iload 6, 2) := by decide +kernel
theorem dX5_isChunk_31 : decode cX5_isChunk 31 = .ok (.iload 4, 2) := by decide +kernel
theorem dX5_isChunk_33 : decode cX5_isChunk 33 = .ok (.if_icmp .ge 51, 3) := by decide +kernel
theorem dX5_isChunk_36 : decode cX5_isChunk 36 = .ok (.iload 5, 2) := by decide +kernel
theorem dX5_isChunk_38 : decode cX5_isChunk 38 = .ok (.ifCond .eq 46, 3) := by decide +kernel
theorem dX5_isChunk_41 : decode cX5_isChunk 41 = .ok (.aload_n 0, 1) := by decide +kernel
theorem dX5_isChunk_42 : decode cX5_isChunk 42 = .ok (.getfield 33, 3) := by decide +kernel
theorem dX5_isChunk_45 : decode cX5_isChunk 45 = .ok (.bipush 32, 2) := by decide +kernel
theorem dX5_isChunk_47 : decode cX5_isChunk 47 = .ok (.iload_n 1, 1) := by decide +kernel
theorem dX5_isChunk_48 : decode cX5_isChunk 48 = .ok (.imul, 1) := by decide +kernel
theorem dX5_isChunk_49 : decode cX5_isChunk 49 = .ok (.iload 6, 2) := by decide +kernel
theorem dX5_isChunk_51 : decode cX5_isChunk 51 = .ok (.iadd, 1) := by decide +kernel
theorem dX5_isChunk_52 : decode cX5_isChunk 52 = .ok (.iaload, 1) := by decide +kernel
theorem dX5_isChunk_53 : decode cX5_isChunk 53 = .ok (.aload_n 0, 1) := by decide +kernel
theorem dX5_isChunk_54 : decode cX5_isChunk 54 = .ok (.getfield 17, 3) := by decide +kernel
theorem dX5_isChunk_57 : decode cX5_isChunk 57 = .ok (.sipush 300, 3) := by decide +kernel
theorem dX5_isChunk_60 : decode cX5_isChunk 60 = .ok (.iload_n 2, 1) := by decide +kernel
theorem dX5_isChunk_61 : decode cX5_isChunk 61 = .ok (.imul, 1) := by decide +kernel
theorem dX5_isChunk_62 : decode cX5_isChunk 62 = .ok (.iload_n 3, 1) := by decide +kernel
theorem dX5_isChunk_63 : decode cX5_isChunk 63 = .ok (.iadd, 1) := by decide +kernel
theorem dX5_isChunk_64 : decode cX5_isChunk 64 = .ok (.iload 6, 2) := by decide +kernel
theorem dX5_isChunk_66 : decode cX5_isChunk 66 = .ok (.iadd, 1) := by decide +kernel
theorem dX5_isChunk_67 : decode cX5_isChunk 67 = .ok (.iaload, 1) := by decide +kernel
theorem dX5_isChunk_68 : decode cX5_isChunk 68 = .ok (.if_icmp .ne 7, 3) := by decide +kernel
theorem dX5_isChunk_71 : decode cX5_isChunk 71 = .ok (.iconst 1, 1) := by decide +kernel
theorem dX5_isChunk_72 : decode cX5_isChunk 72 = .ok (.goto 4, 3) := by decide +kernel
theorem dX5_isChunk_75 : decode cX5_isChunk 75 = .ok (.iconst 0, 1) := by decide +kernel
theorem dX5_isChunk_76 : decode cX5_isChunk 76 = .ok (.istore 5, 2) := by decide +kernel
theorem dX5_isChunk_78 : decode cX5_isChunk 78 = .ok (.iinc 6 1, 3) := by decide +kernel
theorem dX5_isChunk_81 : decode cX5_isChunk 81 = .ok (.goto (-52), 3) := by decide +kernel
theorem dX5_isChunk_84 : decode cX5_isChunk 84 = .ok (.iload 5, 2) := by decide +kernel
theorem dX5_isChunk_86 : decode cX5_isChunk 86 = .ok (.ireturn, 1) := by decide +kernel
theorem dX5_partFor_0 : decode cX5_partFor 0 = .ok (.iconst 0, 1) := by decide +kernel
theorem dX5_partFor_1 : decode cX5_partFor 1 = .ok (.istore 4, 2) := by decide +kernel
theorem dX5_partFor_3 : decode cX5_partFor 3 = .ok (.iload 4, 2) := by decide +kernel
theorem dX5_partFor_5 : decode cX5_partFor 5 = .ok (.bipush 120, 2) := by decide +kernel
theorem dX5_partFor_7 : decode cX5_partFor 7 = .ok (.if_icmp .ge 24, 3) := by decide +kernel
theorem dX5_partFor_10 : decode cX5_partFor 10 = .ok (.aload_n 0, 1) := by decide +kernel
theorem dX5_partFor_11 : decode cX5_partFor 11 = .ok (.iload 4, 2) := by decide +kernel
theorem dX5_partFor_13 : decode cX5_partFor 13 = .ok (.iload_n 1, 1) := by decide +kernel
theorem dX5_partFor_14 : decode cX5_partFor 14 = .ok (.iload_n 2, 1) := by decide +kernel
theorem dX5_partFor_15 : decode cX5_partFor 15 = .ok (.iload_n 3, 1) := by decide +kernel
theorem dX5_partFor_16 : decode cX5_partFor 16 = .ok (.invokevirtual 114, 3) := by decide +kernel
theorem dX5_partFor_19 : decode cX5_partFor 19 = .ok (.ifCond .eq 6, 3) := by decide +kernel
theorem dX5_partFor_22 : decode cX5_partFor 22 = .ok (.iload 4, 2) := by decide +kernel
theorem dX5_partFor_24 : decode cX5_partFor 24 = .ok (.ireturn, 1) := by decide +kernel
theorem dX5_partFor_25 : decode cX5_partFor 25 = .ok (.iinc 4 1, 3) := by decide +kernel
theorem dX5_partFor_28 : decode cX5_partFor 28 = .ok (.goto (-25), 3) := by decide +kernel
theorem dX5_partFor_31 : decode cX5_partFor 31 = .ok (.iconst 0, 1) := by decide +kernel
theorem dX5_partFor_32 : decode cX5_partFor 32 = .ok (.istore 4, 2) := by decide +kernel
theorem dX5_partFor_34 : decode cX5_partFor 34 = .ok (.iload 4, 2) := by decide +kernel
theorem dX5_partFor_36 : decode cX5_partFor 36 = .ok (.bipush 120, 2) := by decide +kernel
theorem dX5_partFor_38 : decode cX5_partFor 38 = .ok (.if_icmp .ge 19, 3) := by decide +kernel
theorem dX5_partFor_41 : decode cX5_partFor 41 = .ok (.aload_n 0, 1) := by decide +kernel
theorem dX5_partFor_42 : decode cX5_partFor 42 = .ok (.getfield 23, 3) := by decide +kernel
theorem dX5_partFor_45 : decode cX5_partFor 45 = .ok (.iload 4, 2) := by decide +kernel
theorem dX5_partFor_47 : decode cX5_partFor 47 = .ok (.iaload, 1) := by decide +kernel
theorem dX5_partFor_48 : decode cX5_partFor 48 = .ok (.ifCond .le 9, 3) := by decide +kernel
theorem dX5_partFor_51 : decode cX5_partFor 51 = .ok (.iinc 4 1, 3) := by decide +kernel
theorem dX5_partFor_54 : decode cX5_partFor 54 = .ok (.goto (-20), 3) := by decide +kernel
theorem dX5_partFor_57 : decode cX5_partFor 57 = .ok (.iload 4, 2) := by decide +kernel
theorem dX5_partFor_59 : decode cX5_partFor 59 = .ok (.bipush 120, 2) := by decide +kernel
theorem dX5_partFor_61 : decode cX5_partFor 61 = .ok (.if_icmp .ne 5, 3) := by decide +kernel
theorem dX5_partFor_64 : decode cX5_partFor 64 = .ok (.iconst (-1), 1) := by decide +kernel
theorem dX5_partFor_65 : decode cX5_partFor 65 = .ok (.ireturn, 1) := by decide +kernel
theorem dX5_partFor_66 : decode cX5_partFor 66 = .ok (.aload_n 0, 1) := by decide +kernel
theorem dX5_partFor_67 : decode cX5_partFor 67 = .ok (.getfield 23, 3) := by decide +kernel
theorem dX5_partFor_70 : decode cX5_partFor 70 = .ok (.iload 4, 2) := by decide +kernel
theorem dX5_partFor_72 : decode cX5_partFor 72 = .ok (.iload_n 3, 1) := by decide +kernel
theorem dX5_partFor_73 : decode cX5_partFor 73 = .ok (.iastore, 1) := by decide +kernel
theorem dX5_partFor_74 : decode cX5_partFor 74 = .ok (.aload_n 0, 1) := by decide +kernel
theorem dX5_partFor_75 : decode cX5_partFor 75 = .ok (.getfield 29, 3) := by decide +kernel
theorem dX5_partFor_78 : decode cX5_partFor 78 = .ok (.iload 4, 2) := by decide +kernel
theorem dX5_partFor_80 : decode cX5_partFor 80 = .ok (.iconst 0, 1) := by decide +kernel
theorem dX5_partFor_81 : decode cX5_partFor 81 = .ok (.bastore, 1) := by decide +kernel
theorem dX5_partFor_82 : decode cX5_partFor 82 = .ok (.iconst 1, 1) := by decide +kernel
theorem dX5_partFor_83 : decode cX5_partFor 83 = .ok (.istore 5, 2) := by decide +kernel
theorem dX5_partFor_85 : decode cX5_partFor 85 = .ok (.iconst 0, 1) := by decide +kernel
theorem dX5_partFor_86 : decode cX5_partFor 86 = .ok (.istore 6, 2) := by decide +kernel
theorem dX5_partFor_88 : decode cX5_partFor 88 = .ok (.iload 6, 2) := by decide +kernel
theorem dX5_partFor_90 : decode cX5_partFor 90 = .ok (.iload_n 3, 1) := by decide +kernel
theorem dX5_partFor_91 : decode cX5_partFor 91 = .ok (.if_icmp .ge 61, 3) := by decide +kernel
theorem dX5_partFor_94 : decode cX5_partFor 94 = .ok (.aload_n 0, 1) := by decide +kernel
theorem dX5_partFor_95 : decode cX5_partFor 95 = .ok (.getfield 33, 3) := by decide +kernel
theorem dX5_partFor_98 : decode cX5_partFor 98 = .ok (.bipush 32, 2) := by decide +kernel
theorem dX5_partFor_100 : decode cX5_partFor 100 = .ok (.iload 4, 2) := by decide +kernel
theorem dX5_partFor_102 : decode cX5_partFor 102 = .ok (.imul, 1) := by decide +kernel
theorem dX5_partFor_103 : decode cX5_partFor 103 = .ok (.iload 6, 2) := by decide +kernel
theorem dX5_partFor_105 : decode cX5_partFor 105 = .ok (.iadd, 1) := by decide +kernel
theorem dX5_partFor_106 : decode cX5_partFor 106 = .ok (.aload_n 0, 1) := by decide +kernel
theorem dX5_partFor_107 : decode cX5_partFor 107 = .ok (.getfield 17, 3) := by decide +kernel
theorem dX5_partFor_110 : decode cX5_partFor 110 = .ok (.sipush 300, 3) := by decide +kernel
theorem dX5_partFor_113 : decode cX5_partFor 113 = .ok (.iload_n 1, 1) := by decide +kernel
theorem dX5_partFor_114 : decode cX5_partFor 114 = .ok (.imul, 1) := by decide +kernel
theorem dX5_partFor_115 : decode cX5_partFor 115 = .ok (.iload_n 2, 1) := by decide +kernel
theorem dX5_partFor_116 : decode cX5_partFor 116 = .ok (.iadd, 1) := by decide +kernel
theorem dX5_partFor_117 : decode cX5_partFor 117 = .ok (.iload 6, 2) := by decide +kernel
theorem dX5_partFor_119 : decode cX5_partFor 119 = .ok (.iadd, 1) := by decide +kernel
theorem dX5_partFor_120 : decode cX5_partFor 120 = .ok (.iaload, 1) := by decide +kernel
theorem dX5_partFor_121 : decode cX5_partFor 121 = .ok (.iastore, 1) := by decide +kernel
theorem dX5_partFor_122 : decode cX5_partFor 122 = .ok (.bipush 31, 2) := by decide +kernel
theorem dX5_partFor_124 : decode cX5_partFor 124 = .ok (.iload 5, 2) := by decide +kernel
theorem dX5_partFor_126 : decode cX5_partFor 126 = .ok (.imul, 1) := by decide +kernel
theorem dX5_partFor_127 : decode cX5_partFor 127 = .ok (.aload_n 0, 1) := by decide +kernel
theorem dX5_partFor_128 : decode cX5_partFor 128 = .ok (.getfield 33, 3) := by decide +kernel
theorem dX5_partFor_131 : decode cX5_partFor 131 = .ok (.bipush 32, 2) := by decide +kernel
theorem dX5_partFor_133 : decode cX5_partFor 133 = .ok (.iload 4, 2) := by decide +kernel
theorem dX5_partFor_135 : decode cX5_partFor 135 = .ok (.imul, 1) := by decide +kernel
theorem dX5_partFor_136 : decode cX5_partFor 136 = .ok (.iload 6, 2) := by decide +kernel
theorem dX5_partFor_138 : decode cX5_partFor 138 = .ok (.iadd, 1) := by decide +kernel
theorem dX5_partFor_139 : decode cX5_partFor 139 = .ok (.iaload, 1) := by decide +kernel
theorem dX5_partFor_140 : decode cX5_partFor 140 = .ok (.iadd, 1) := by decide +kernel
theorem dX5_partFor_141 : decode cX5_partFor 141 = .ok (.bipush 61, 2) := by decide +kernel
theorem dX5_partFor_143 : decode cX5_partFor 143 = .ok (.irem, 1) := by decide +kernel
theorem dX5_partFor_144 : decode cX5_partFor 144 = .ok (.istore 5, 2) := by decide +kernel
theorem dX5_partFor_146 : decode cX5_partFor 146 = .ok (.iinc 6 1, 3) := by decide +kernel
theorem dX5_partFor_149 : decode cX5_partFor 149 = .ok (.goto (-61), 3) := by decide +kernel
theorem dX5_partFor_152 : decode cX5_partFor 152 = .ok (.aload_n 0, 1) := by decide +kernel
theorem dX5_partFor_153 : decode cX5_partFor 153 = .ok (.getfield 26, 3) := by decide +kernel
theorem dX5_partFor_156 : decode cX5_partFor 156 = .ok (.iload 4, 2) := by decide +kernel
theorem dX5_partFor_158 : decode cX5_partFor 158 = .ok (.iload 5, 2) := by decide +kernel
theorem dX5_partFor_160 : decode cX5_partFor 160 = .ok (.iastore, 1) := by decide +kernel
theorem dX5_partFor_161 : decode cX5_partFor 161 = .ok (.aload_n 0, 1) := by decide +kernel
theorem dX5_partFor_162 : decode cX5_partFor 162 = .ok (.getfield 69, 3) := by decide +kernel
theorem dX5_partFor_165 : decode cX5_partFor 165 = .ok (.iload 4, 2) := by decide +kernel
theorem dX5_partFor_167 : decode cX5_partFor 167 = .ok (.iconst 1, 1) := by decide +kernel
theorem dX5_partFor_168 : decode cX5_partFor 168 = .ok (.bastore, 1) := by decide +kernel
theorem dX5_partFor_169 : decode cX5_partFor 169 = .ok (.iload 4, 2) := by decide +kernel
theorem dX5_partFor_171 : decode cX5_partFor 171 = .ok (.ireturn, 1) := by decide +kernel
theorem dX5_allBytes_0 : decode cX5_allBytes 0 = .ok (.iconst 0, 1) := by decide +kernel
theorem dX5_allBytes_1 : decode cX5_allBytes 1 = .ok (.istore_n 1, 1) := by decide +kernel
theorem dX5_allBytes_2 : decode cX5_allBytes 2 = .ok (.iconst 0, 1) := by decide +kernel
theorem dX5_allBytes_3 : decode cX5_allBytes 3 = .ok (.istore_n 2, 1) := by decide +kernel
theorem dX5_allBytes_4 : decode cX5_allBytes 4 = .ok (.iload_n 2, 1) := by decide +kernel
theorem dX5_allBytes_5 : decode cX5_allBytes 5 = .ok (.bipush 120, 2) := by decide +kernel
theorem dX5_allBytes_7 : decode cX5_allBytes 7 = .ok (.if_icmp .ge 18, 3) := by decide +kernel
theorem dX5_allBytes_10 : decode cX5_allBytes 10 = .ok (.iload_n 1, 1) := by decide +kernel
theorem dX5_allBytes_11 : decode cX5_allBytes 11 = .ok (.aload_n 0, 1) := by decide +kernel
theorem dX5_allBytes_12 : decode cX5_allBytes 12 = .ok (.getfield 23, 3) := by decide +kernel
theorem dX5_allBytes_15 : decode cX5_allBytes 15 = .ok (.iload_n 2, 1) := by decide +kernel
theorem dX5_allBytes_16 : decode cX5_allBytes 16 = .ok (.iaload, 1) := by decide +kernel
theorem dX5_allBytes_17 : decode cX5_allBytes 17 = .ok (.iadd, 1) := by decide +kernel
theorem dX5_allBytes_18 : decode cX5_allBytes 18 = .ok (.istore_n 1, 1) := by decide +kernel
theorem dX5_allBytes_19 : decode cX5_allBytes 19 = .ok (.iinc 2 1, 3) := by decide +kernel
theorem dX5_allBytes_22 : decode cX5_allBytes 22 = .ok (.goto (-18), 3) := by decide +kernel
theorem dX5_allBytes_25 : decode cX5_allBytes 25 = .ok (.iload_n 1, 1) := by decide +kernel
theorem dX5_allBytes_26 : decode cX5_allBytes 26 = .ok (.ireturn, 1) := by decide +kernel
theorem dX5_held_0 : decode cX5_held 0 = .ok (.iconst 0, 1) := by decide +kernel
theorem dX5_held_1 : decode cX5_held 1 = .ok (.istore_n 1, 1) := by decide +kernel
theorem dX5_held_2 : decode cX5_held 2 = .ok (.iconst 0, 1) := by decide +kernel
theorem dX5_held_3 : decode cX5_held 3 = .ok (.istore_n 2, 1) := by decide +kernel
theorem dX5_held_4 : decode cX5_held 4 = .ok (.iload_n 2, 1) := by decide +kernel
theorem dX5_held_5 : decode cX5_held 5 = .ok (.bipush 12, 2) := by decide +kernel
theorem dX5_held_7 : decode cX5_held 7 = .ok (.if_icmp .ge 27, 3) := by decide +kernel
theorem dX5_held_10 : decode cX5_held 10 = .ok (.iload_n 1, 1) := by decide +kernel
theorem dX5_held_11 : decode cX5_held 11 = .ok (.aload_n 0, 1) := by decide +kernel
theorem dX5_held_12 : decode cX5_held 12 = .ok (.getfield 42, 3) := by decide +kernel
theorem dX5_held_15 : decode cX5_held 15 = .ok (.iload_n 2, 1) := by decide +kernel
theorem dX5_held_16 : decode cX5_held 16 = .ok (.iaload, 1) := by decide +kernel
theorem dX5_held_17 : decode cX5_held 17 = .ok (.iconst (-1), 1) := by decide +kernel
theorem dX5_held_18 : decode cX5_held 18 = .ok (.if_icmp .eq 7, 3) := by decide +kernel
theorem dX5_held_21 : decode cX5_held 21 = .ok (.iconst 1, 1) := by decide +kernel
theorem dX5_held_22 : decode cX5_held 22 = .ok (.goto 4, 3) := by decide +kernel
theorem dX5_held_25 : decode cX5_held 25 = .ok (.iconst 0, 1) := by decide +kernel
theorem dX5_held_26 : decode cX5_held 26 = .ok (.iadd, 1) := by decide +kernel
theorem dX5_held_27 : decode cX5_held 27 = .ok (.istore_n 1, 1) := by decide +kernel
theorem dX5_held_28 : decode cX5_held 28 = .ok (.iinc 2 1, 3) := by decide +kernel
theorem dX5_held_31 : decode cX5_held 31 = .ok (.goto (-27), 3) := by decide +kernel
theorem dX5_held_34 : decode cX5_held 34 = .ok (.iload_n 1, 1) := by decide +kernel
theorem dX5_held_35 : decode cX5_held 35 = .ok (.ireturn, 1) := by decide +kernel
theorem dX5_latest_0 : decode cX5_latest 0 = .ok (.iconst (-1), 1) := by decide +kernel
theorem dX5_latest_1 : decode cX5_latest 1 = .ok (.istore_n 2, 1) := by decide +kernel
theorem dX5_latest_2 : decode cX5_latest 2 = .ok (.iconst 0, 1) := by decide +kernel
theorem dX5_latest_3 : decode cX5_latest 3 = .ok (.istore_n 3, 1) := by decide +kernel
theorem dX5_latest_4 : decode cX5_latest 4 = .ok (.iload_n 3, 1) := by decide +kernel
theorem dX5_latest_5 : decode cX5_latest 5 = .ok (.bipush 12, 2) := by decide +kernel
theorem dX5_latest_7 : decode cX5_latest 7 = .ok (.if_icmp .ge 60, 3) := by decide +kernel
theorem dX5_latest_10 : decode cX5_latest 10 = .ok (.aload_n 0, 1) := by decide +kernel
theorem dX5_latest_11 : decode cX5_latest 11 = .ok (.getfield 42, 3) := by decide +kernel
theorem dX5_latest_14 : decode cX5_latest 14 = .ok (.iload_n 3, 1) := by decide +kernel
theorem dX5_latest_15 : decode cX5_latest 15 = .ok (.iaload, 1) := by decide +kernel
theorem dX5_latest_16 : decode cX5_latest 16 = .ok (.iconst (-1), 1) := by decide +kernel
theorem dX5_latest_17 : decode cX5_latest 17 = .ok (.if_icmp .eq 44, 3) := by decide +kernel
theorem dX5_latest_20 : decode cX5_latest 20 = .ok (.aload_n 0, 1) := by decide +kernel
theorem dX5_latest_21 : decode cX5_latest 21 = .ok (.getfield 45, 3) := by decide +kernel
theorem dX5_latest_24 : decode cX5_latest 24 = .ok (.iload_n 3, 1) := by decide +kernel
theorem dX5_latest_25 : decode cX5_latest 25 = .ok (.baload, 1) := by decide +kernel
theorem dX5_latest_26 : decode cX5_latest 26 = .ok (.ifCond .eq 35, 3) := by decide +kernel
theorem dX5_latest_29 : decode cX5_latest 29 = .ok (.aload_n 0, 1) := by decide +kernel
theorem dX5_latest_30 : decode cX5_latest 30 = .ok (.getfield 42, 3) := by decide +kernel
theorem dX5_latest_33 : decode cX5_latest 33 = .ok (.iload_n 3, 1) := by decide +kernel
theorem dX5_latest_34 : decode cX5_latest 34 = .ok (.iaload, 1) := by decide +kernel
theorem dX5_latest_35 : decode cX5_latest 35 = .ok (.iload_n 1, 1) := by decide +kernel
theorem dX5_latest_36 : decode cX5_latest 36 = .ok (.if_icmp .ge 25, 3) := by decide +kernel
theorem dX5_latest_39 : decode cX5_latest 39 = .ok (.iload_n 2, 1) := by decide +kernel
theorem dX5_latest_40 : decode cX5_latest 40 = .ok (.iconst (-1), 1) := by decide +kernel
theorem dX5_latest_41 : decode cX5_latest 41 = .ok (.if_icmp .eq 18, 3) := by decide +kernel
theorem dX5_latest_44 : decode cX5_latest 44 = .ok (.aload_n 0, 1) := by decide +kernel
theorem dX5_latest_45 : decode cX5_latest 45 = .ok (.getfield 42, 3) := by decide +kernel
theorem dX5_latest_48 : decode cX5_latest 48 = .ok (.iload_n 3, 1) := by decide +kernel
theorem dX5_latest_49 : decode cX5_latest 49 = .ok (.iaload, 1) := by decide +kernel
theorem dX5_latest_50 : decode cX5_latest 50 = .ok (.aload_n 0, 1) := by decide +kernel
end
section
theorem dX5_latest_51 : decode cX5_latest 51 = .ok (.getfield 42, 3) := by decide +kernel
theorem dX5_latest_54 : decode cX5_latest 54 = .ok (.iload_n 2, 1) := by decide +kernel
theorem dX5_latest_55 : decode cX5_latest 55 = .ok (.iaload, 1) := by decide +kernel
theorem dX5_latest_56 : decode cX5_latest 56 = .ok (.if_icmp .le 5, 3) := by decide +kernel
theorem dX5_latest_59 : decode cX5_latest 59 = .ok (.iload_n 3, 1) := by decide +kernel
theorem dX5_latest_60 : decode cX5_latest 60 = .ok (.istore_n 2, 1) := by decide +kernel
theorem dX5_latest_61 : decode cX5_latest 61 = .ok (.iinc 3 1, 3) := by decide +kernel
theorem dX5_latest_64 : decode cX5_latest 64 = .ok (.goto (-60), 3) := by decide +kernel
theorem dX5_latest_67 : decode cX5_latest 67 = .ok (.iload_n 2, 1) := by decide +kernel
theorem dX5_latest_68 : decode cX5_latest 68 = .ok (.ireturn, 1) := by decide +kernel
theorem dX5_mark_0 : decode cX5_mark 0 = .ok (.iload_n 1, 1) := by decide +kernel
theorem dX5_mark_1 : decode cX5_mark 1 = .ok (.iconst 0, 1) := by decide +kernel
theorem dX5_mark_2 : decode cX5_mark 2 = .ok (.iconst 1, 1) := by decide +kernel
theorem dX5_mark_3 : decode cX5_mark 3 = .ok (.invokestatic 72, 3) := by decide +kernel
theorem dX5_mark_6 : decode cX5_mark 6 = .ok (.ifCond .ne 6, 3) := by decide +kernel
theorem dX5_mark_9 : decode cX5_mark 9 = .ok (.bipush (-2), 2) := by decide +kernel
theorem dX5_mark_11 : decode cX5_mark 11 = .ok (.ireturn, 1) := by decide +kernel
theorem dX5_mark_12 : decode cX5_mark 12 = .ok (.aload_n 0, 1) := by decide +kernel
theorem dX5_mark_13 : decode cX5_mark 13 = .ok (.invokevirtual 118, 3) := by decide +kernel
theorem dX5_mark_16 : decode cX5_mark 16 = .ok (.bipush 12, 2) := by decide +kernel
theorem dX5_mark_18 : decode cX5_mark 18 = .ok (.if_icmp .ne 6, 3) := by decide +kernel
theorem dX5_mark_21 : decode cX5_mark 21 = .ok (.bipush (-3), 2) := by decide +kernel
theorem dX5_mark_23 : decode cX5_mark 23 = .ok (.ireturn, 1) := by decide +kernel
theorem dX5_mark_24 : decode cX5_mark 24 = .ok (.iconst 0, 1) := by decide +kernel
theorem dX5_mark_25 : decode cX5_mark 25 = .ok (.istore_n 2, 1) := by decide +kernel
theorem dX5_mark_26 : decode cX5_mark 26 = .ok (.aload_n 0, 1) := by decide +kernel
theorem dX5_mark_27 : decode cX5_mark 27 = .ok (.getfield 42, 3) := by decide +kernel
theorem dX5_mark_30 : decode cX5_mark 30 = .ok (.iload_n 2, 1) := by decide +kernel
theorem dX5_mark_31 : decode cX5_mark 31 = .ok (.iaload, 1) := by decide +kernel
theorem dX5_mark_32 : decode cX5_mark 32 = .ok (.iconst (-1), 1) := by decide +kernel
theorem dX5_mark_33 : decode cX5_mark 33 = .ok (.if_icmp .eq 9, 3) := by decide +kernel
theorem dX5_mark_36 : decode cX5_mark 36 = .ok (.iinc 2 1, 3) := by decide +kernel
theorem dX5_mark_39 : decode cX5_mark 39 = .ok (.goto (-13), 3) := by decide +kernel
theorem dX5_mark_42 : decode cX5_mark 42 = .ok (.iconst 0, 1) := by decide +kernel
theorem dX5_mark_43 : decode cX5_mark 43 = .ok (.istore_n 3, 1) := by decide +kernel
theorem dX5_mark_44 : decode cX5_mark 44 = .ok (.iload_n 3, 1) := by decide +kernel
theorem dX5_mark_45 : decode cX5_mark 45 = .ok (.bipush 120, 2) := by decide +kernel
theorem dX5_mark_47 : decode cX5_mark 47 = .ok (.if_icmp .ge 16, 3) := by decide +kernel
theorem dX5_mark_50 : decode cX5_mark 50 = .ok (.aload_n 0, 1) := by decide +kernel
theorem dX5_mark_51 : decode cX5_mark 51 = .ok (.getfield 69, 3) := by decide +kernel
theorem dX5_mark_54 : decode cX5_mark 54 = .ok (.iload_n 3, 1) := by decide +kernel
theorem dX5_mark_55 : decode cX5_mark 55 = .ok (.iconst 0, 1) := by decide +kernel
theorem dX5_mark_56 : decode cX5_mark 56 = .ok (.bastore, 1) := by decide +kernel
theorem dX5_mark_57 : decode cX5_mark 57 = .ok (.iinc 3 1, 3) := by decide +kernel
theorem dX5_mark_60 : decode cX5_mark 60 = .ok (.goto (-16), 3) := by decide +kernel
theorem dX5_mark_63 : decode cX5_mark 63 = .ok (.iconst 1, 1) := by decide +kernel
theorem dX5_mark_64 : decode cX5_mark 64 = .ok (.istore_n 3, 1) := by decide +kernel
theorem dX5_mark_65 : decode cX5_mark 65 = .ok (.iconst 0, 1) := by decide +kernel
theorem dX5_mark_66 : decode cX5_mark 66 = .ok (.istore 4, 2) := by decide +kernel
theorem dX5_mark_68 : decode cX5_mark 68 = .ok (.iconst 0, 1) := by decide +kernel
theorem dX5_mark_69 : decode cX5_mark 69 = .ok (.istore 5, 2) := by decide +kernel
theorem dX5_mark_71 : decode cX5_mark 71 = .ok (.iload 5, 2) := by decide +kernel
theorem dX5_mark_73 : decode cX5_mark 73 = .ok (.aload_n 0, 1) := by decide +kernel
theorem dX5_mark_74 : decode cX5_mark 74 = .ok (.getfield 7, 3) := by decide +kernel
theorem dX5_mark_77 : decode cX5_mark 77 = .ok (.if_icmp .ge 148, 3) := by decide +kernel
theorem dX5_mark_80 : decode cX5_mark 80 = .ok (.iload_n 3, 1) := by decide +kernel
theorem dX5_mark_81 : decode cX5_mark 81 = .ok (.ifCond .eq 144, 3) := by decide +kernel
theorem dX5_mark_84 : decode cX5_mark 84 = .ok (.iconst 0, 1) := by decide +kernel
theorem dX5_mark_85 : decode cX5_mark 85 = .ok (.istore 6, 2) := by decide +kernel
theorem dX5_mark_87 : decode cX5_mark 87 = .ok (.aload_n 0, 1) := by decide +kernel
theorem dX5_mark_88 : decode cX5_mark 88 = .ok (.getfield 54, 3) := by decide +kernel
theorem dX5_mark_91 : decode cX5_mark 91 = .ok (.iconst 4, 1) := by decide +kernel
theorem dX5_mark_92 : decode cX5_mark 92 = .ok (.iload_n 2, 1) := by decide +kernel
theorem dX5_mark_93 : decode cX5_mark 93 = .ok (.imul, 1) := by decide +kernel
theorem dX5_mark_94 : decode cX5_mark 94 = .ok (.iload 5, 2) := by decide +kernel
theorem dX5_mark_96 : decode cX5_mark 96 = .ok (.iadd, 1) := by decide +kernel
theorem dX5_mark_97 : decode cX5_mark 97 = .ok (.iconst 0, 1) := by decide +kernel
theorem dX5_mark_98 : decode cX5_mark 98 = .ok (.iastore, 1) := by decide +kernel
theorem dX5_mark_99 : decode cX5_mark 99 = .ok (.iload 6, 2) := by decide +kernel
theorem dX5_mark_101 : decode cX5_mark 101 = .ok (.aload_n 0, 1) := by decide +kernel
theorem dX5_mark_102 : decode cX5_mark 102 = .ok (.getfield 13, 3) := by decide +kernel
theorem dX5_mark_105 : decode cX5_mark 105 = .ok (.iload 5, 2) := by decide +kernel
theorem dX5_mark_107 : decode cX5_mark 107 = .ok (.iaload, 1) := by decide +kernel
theorem dX5_mark_108 : decode cX5_mark 108 = .ok (.if_icmp .ge 111, 3) := by decide +kernel
theorem dX5_mark_111 : decode cX5_mark 111 = .ok (.iload_n 3, 1) := by decide +kernel
theorem dX5_mark_112 : decode cX5_mark 112 = .ok (.ifCond .eq 107, 3) := by decide +kernel
theorem dX5_mark_115 : decode cX5_mark 115 = .ok (.aload_n 0, 1) := by decide +kernel
theorem dX5_mark_116 : decode cX5_mark 116 = .ok (.iload 5, 2) := by decide +kernel
theorem dX5_mark_118 : decode cX5_mark 118 = .ok (.iload 6, 2) := by decide +kernel
theorem dX5_mark_120 : decode cX5_mark 120 = .ok (.invokevirtual 82, 3) := by decide +kernel
theorem dX5_mark_123 : decode cX5_mark 123 = .ok (.istore 7, 2) := by decide +kernel
theorem dX5_mark_125 : decode cX5_mark 125 = .ok (.aload_n 0, 1) := by decide +kernel
theorem dX5_mark_126 : decode cX5_mark 126 = .ok (.iload 5, 2) := by decide +kernel
theorem dX5_mark_128 : decode cX5_mark 128 = .ok (.iload 6, 2) := by decide +kernel
theorem dX5_mark_130 : decode cX5_mark 130 = .ok (.iload 7, 2) := by decide +kernel
theorem dX5_mark_132 : decode cX5_mark 132 = .ok (.invokevirtual 122, 3) := by decide +kernel
theorem dX5_mark_135 : decode cX5_mark 135 = .ok (.istore 8, 2) := by decide +kernel
theorem dX5_mark_137 : decode cX5_mark 137 = .ok (.iload 8, 2) := by decide +kernel
theorem dX5_mark_139 : decode cX5_mark 139 = .ok (.iconst (-1), 1) := by decide +kernel
theorem dX5_mark_140 : decode cX5_mark 140 = .ok (.if_icmp .eq 17, 3) := by decide +kernel
theorem dX5_mark_143 : decode cX5_mark 143 = .ok (.aload_n 0, 1) := by decide +kernel
theorem dX5_mark_144 : decode cX5_mark 144 = .ok (.invokevirtual 125, 3) := by decide +kernel
theorem dX5_mark_147 : decode cX5_mark 147 = .ok (.sipush 2400, 3) := by decide +kernel
theorem dX5_mark_150 : decode cX5_mark 150 = .ok (.if_icmp .gt 7, 3) := by decide +kernel
theorem dX5_mark_153 : decode cX5_mark 153 = .ok (.iconst 1, 1) := by decide +kernel
theorem dX5_mark_154 : decode cX5_mark 154 = .ok (.goto 4, 3) := by decide +kernel
theorem dX5_mark_157 : decode cX5_mark 157 = .ok (.iconst 0, 1) := by decide +kernel
theorem dX5_mark_158 : decode cX5_mark 158 = .ok (.istore_n 3, 1) := by decide +kernel
theorem dX5_mark_159 : decode cX5_mark 159 = .ok (.aload_n 0, 1) := by decide +kernel
theorem dX5_mark_160 : decode cX5_mark 160 = .ok (.getfield 57, 3) := by decide +kernel
theorem dX5_mark_163 : decode cX5_mark 163 = .ok (.bipush 80, 2) := by decide +kernel
theorem dX5_mark_165 : decode cX5_mark 165 = .ok (.iconst 4, 1) := by decide +kernel
theorem dX5_mark_166 : decode cX5_mark 166 = .ok (.iload_n 2, 1) := by decide +kernel
theorem dX5_mark_167 : decode cX5_mark 167 = .ok (.imul, 1) := by decide +kernel
theorem dX5_mark_168 : decode cX5_mark 168 = .ok (.iload 5, 2) := by decide +kernel
theorem dX5_mark_170 : decode cX5_mark 170 = .ok (.iadd, 1) := by decide +kernel
theorem dX5_mark_171 : decode cX5_mark 171 = .ok (.imul, 1) := by decide +kernel
theorem dX5_mark_172 : decode cX5_mark 172 = .ok (.aload_n 0, 1) := by decide +kernel
theorem dX5_mark_173 : decode cX5_mark 173 = .ok (.getfield 54, 3) := by decide +kernel
theorem dX5_mark_176 : decode cX5_mark 176 = .ok (.iconst 4, 1) := by decide +kernel
theorem dX5_mark_177 : decode cX5_mark 177 = .ok (.iload_n 2, 1) := by decide +kernel
theorem dX5_mark_178 : decode cX5_mark 178 = .ok (.imul, 1) := by decide +kernel
theorem dX5_mark_179 : decode cX5_mark 179 = .ok (.iload 5, 2) := by decide +kernel
theorem dX5_mark_181 : decode cX5_mark 181 = .ok (.iadd, 1) := by decide +kernel
theorem dX5_mark_182 : decode cX5_mark 182 = .ok (.iaload, 1) := by decide +kernel
theorem dX5_mark_183 : decode cX5_mark 183 = .ok (.iadd, 1) := by decide +kernel
theorem dX5_mark_184 : decode cX5_mark 184 = .ok (.iload 8, 2) := by decide +kernel
theorem dX5_mark_186 : decode cX5_mark 186 = .ok (.iastore, 1) := by decide +kernel
theorem dX5_mark_187 : decode cX5_mark 187 = .ok (.aload_n 0, 1) := by decide +kernel
theorem dX5_mark_188 : decode cX5_mark 188 = .ok (.getfield 54, 3) := by decide +kernel
theorem dX5_mark_191 : decode cX5_mark 191 = .ok (.iconst 4, 1) := by decide +kernel
theorem dX5_mark_192 : decode cX5_mark 192 = .ok (.iload_n 2, 1) := by decide +kernel
theorem dX5_mark_193 : decode cX5_mark 193 = .ok (.imul, 1) := by decide +kernel
theorem dX5_mark_194 : decode cX5_mark 194 = .ok (.iload 5, 2) := by decide +kernel
theorem dX5_mark_196 : decode cX5_mark 196 = .ok (.iadd, 1) := by decide +kernel
theorem dX5_mark_197 : decode cX5_mark 197 = .ok (.dup2, 1) := by decide +kernel
theorem dX5_mark_198 : decode cX5_mark 198 = .ok (.iaload, 1) := by decide +kernel
theorem dX5_mark_199 : decode cX5_mark 199 = .ok (.iconst 1, 1) := by decide +kernel
theorem dX5_mark_200 : decode cX5_mark 200 = .ok (.iadd, 1) := by decide +kernel
theorem dX5_mark_201 : decode cX5_mark 201 = .ok (.iastore, 1) := by decide +kernel
theorem dX5_mark_202 : decode cX5_mark 202 = .ok (.iload 6, 2) := by decide +kernel
theorem dX5_mark_204 : decode cX5_mark 204 = .ok (.iload 7, 2) := by decide +kernel
theorem dX5_mark_206 : decode cX5_mark 206 = .ok (.iadd, 1) := by decide +kernel
theorem dX5_mark_207 : decode cX5_mark 207 = .ok (.istore 6, 2) := by decide +kernel
theorem dX5_mark_209 : decode cX5_mark 209 = .ok (.iload 4, 2) := by decide +kernel
theorem dX5_mark_211 : decode cX5_mark 211 = .ok (.iload 7, 2) := by decide +kernel
theorem dX5_mark_213 : decode cX5_mark 213 = .ok (.iadd, 1) := by decide +kernel
theorem dX5_mark_214 : decode cX5_mark 214 = .ok (.istore 4, 2) := by decide +kernel
theorem dX5_mark_216 : decode cX5_mark 216 = .ok (.goto (-117), 3) := by decide +kernel
theorem dX5_mark_219 : decode cX5_mark 219 = .ok (.iinc 5 1, 3) := by decide +kernel
theorem dX5_mark_222 : decode cX5_mark 222 = .ok (.goto (-151), 3) := by decide +kernel
theorem dX5_mark_225 : decode cX5_mark 225 = .ok (.iload_n 3, 1) := by decide +kernel
theorem dX5_mark_226 : decode cX5_mark 226 = .ok (.ifCond .ne 50, 3) := by decide +kernel
theorem dX5_mark_229 : decode cX5_mark 229 = .ok (.iconst 0, 1) := by decide +kernel
theorem dX5_mark_230 : decode cX5_mark 230 = .ok (.istore 5, 2) := by decide +kernel
theorem dX5_mark_232 : decode cX5_mark 232 = .ok (.iload 5, 2) := by decide +kernel
theorem dX5_mark_234 : decode cX5_mark 234 = .ok (.bipush 120, 2) := by decide +kernel
theorem dX5_mark_236 : decode cX5_mark 236 = .ok (.if_icmp .ge 37, 3) := by decide +kernel
theorem dX5_mark_239 : decode cX5_mark 239 = .ok (.aload_n 0, 1) := by decide +kernel
theorem dX5_mark_240 : decode cX5_mark 240 = .ok (.getfield 23, 3) := by decide +kernel
theorem dX5_mark_243 : decode cX5_mark 243 = .ok (.iload 5, 2) := by decide +kernel
theorem dX5_mark_245 : decode cX5_mark 245 = .ok (.aload_n 0, 1) := by decide +kernel
theorem dX5_mark_246 : decode cX5_mark 246 = .ok (.getfield 69, 3) := by decide +kernel
theorem dX5_mark_249 : decode cX5_mark 249 = .ok (.iload 5, 2) := by decide +kernel
theorem dX5_mark_251 : decode cX5_mark 251 = .ok (.baload, 1) := by decide +kernel
theorem dX5_mark_252 : decode cX5_mark 252 = .ok (.ifCond .eq 7, 3) := by decide +kernel
theorem dX5_mark_255 : decode cX5_mark 255 = .ok (.iconst 0, 1) := by decide +kernel
theorem dX5_mark_256 : decode cX5_mark 256 = .ok (.goto 10, 3) := by decide +kernel
theorem dX5_mark_259 : decode cX5_mark 259 = .ok (.aload_n 0, 1) := by decide +kernel
theorem dX5_mark_260 : decode cX5_mark 260 = .ok (.getfield 23, 3) := by decide +kernel
theorem dX5_mark_263 : decode cX5_mark 263 = .ok (.iload 5, 2) := by decide +kernel
theorem dX5_mark_265 : decode cX5_mark 265 = .ok (.iaload, 1) := by decide +kernel
theorem dX5_mark_266 : decode cX5_mark 266 = .ok (.iastore, 1) := by decide +kernel
theorem dX5_mark_267 : decode cX5_mark 267 = .ok (.iinc 5 1, 3) := by decide +kernel
theorem dX5_mark_270 : decode cX5_mark 270 = .ok (.goto (-38), 3) := by decide +kernel
theorem dX5_mark_273 : decode cX5_mark 273 = .ok (.bipush (-3), 2) := by decide +kernel
theorem dX5_mark_275 : decode cX5_mark 275 = .ok (.ireturn, 1) := by decide +kernel
theorem dX5_mark_276 : decode cX5_mark 276 = .ok (.iload_n 1, 1) := by decide +kernel
theorem dX5_mark_277 : decode cX5_mark 277 = .ok (.iconst 1, 1) := by decide +kernel
theorem dX5_mark_278 : decode cX5_mark 278 = .ok (.if_icmp .ne 7, 3) := by decide +kernel
theorem dX5_mark_281 : decode cX5_mark 281 = .ok (.iconst (-1), 1) := by decide +kernel
theorem dX5_mark_282 : decode cX5_mark 282 = .ok (.goto 11, 3) := by decide +kernel
theorem dX5_mark_285 : decode cX5_mark 285 = .ok (.aload_n 0, 1) := by decide +kernel
theorem dX5_mark_286 : decode cX5_mark 286 = .ok (.aload_n 0, 1) := by decide +kernel
theorem dX5_mark_287 : decode cX5_mark 287 = .ok (.getfield 128, 3) := by decide +kernel
theorem dX5_mark_290 : decode cX5_mark 290 = .ok (.invokevirtual 131, 3) := by decide +kernel
theorem dX5_mark_293 : decode cX5_mark 293 = .ok (.istore 5, 2) := by decide +kernel
theorem dX5_mark_295 : decode cX5_mark 295 = .ok (.aload_n 0, 1) := by decide +kernel
theorem dX5_mark_296 : decode cX5_mark 296 = .ok (.getfield 66, 3) := by decide +kernel
theorem dX5_mark_299 : decode cX5_mark 299 = .ok (.iload_n 2, 1) := by decide +kernel
theorem dX5_mark_300 : decode cX5_mark 300 = .ok (.iconst 0, 1) := by decide +kernel
theorem dX5_mark_301 : decode cX5_mark 301 = .ok (.iastore, 1) := by decide +kernel
theorem dX5_mark_302 : decode cX5_mark 302 = .ok (.iconst 0, 1) := by decide +kernel
theorem dX5_mark_303 : decode cX5_mark 303 = .ok (.istore 6, 2) := by decide +kernel
theorem dX5_mark_305 : decode cX5_mark 305 = .ok (.iload 6, 2) := by decide +kernel
theorem dX5_mark_307 : decode cX5_mark 307 = .ok (.bipush 120, 2) := by decide +kernel
theorem dX5_mark_309 : decode cX5_mark 309 = .ok (.if_icmp .ge 39, 3) := by decide +kernel
theorem dX5_mark_312 : decode cX5_mark 312 = .ok (.aload_n 0, 1) := by decide +kernel
theorem dX5_mark_313 : decode cX5_mark 313 = .ok (.getfield 66, 3) := by decide +kernel
theorem dX5_mark_316 : decode cX5_mark 316 = .ok (.iload_n 2, 1) := by decide +kernel
theorem dX5_mark_317 : decode cX5_mark 317 = .ok (.dup2, 1) := by decide +kernel
theorem dX5_mark_318 : decode cX5_mark 318 = .ok (.iaload, 1) := by decide +kernel
theorem dX5_mark_319 : decode cX5_mark 319 = .ok (.aload_n 0, 1) := by decide +kernel
theorem dX5_mark_320 : decode cX5_mark 320 = .ok (.getfield 69, 3) := by decide +kernel
theorem dX5_mark_323 : decode cX5_mark 323 = .ok (.iload 6, 2) := by decide +kernel
theorem dX5_mark_325 : decode cX5_mark 325 = .ok (.baload, 1) := by decide +kernel
theorem dX5_mark_326 : decode cX5_mark 326 = .ok (.ifCond .eq 13, 3) := by decide +kernel
theorem dX5_mark_329 : decode cX5_mark 329 = .ok (.aload_n 0, 1) := by decide +kernel
theorem dX5_mark_330 : decode cX5_mark 330 = .ok (.getfield 23, 3) := by decide +kernel
theorem dX5_mark_333 : decode cX5_mark 333 = .ok (.iload 6, 2) := by decide +kernel
theorem dX5_mark_335 : decode cX5_mark 335 = .ok (.iaload, 1) := by decide +kernel
theorem dX5_mark_336 : decode cX5_mark 336 = .ok (.goto 4, 3) := by decide +kernel
theorem dX5_mark_339 : decode cX5_mark 339 = .ok (.iconst 0, 1) := by decide +kernel
theorem dX5_mark_340 : decode cX5_mark 340 = .ok (.iadd, 1) := by decide +kernel
theorem dX5_mark_341 : decode cX5_mark 341 = .ok (.iastore, 1) := by decide +kernel
theorem dX5_mark_342 : decode cX5_mark 342 = .ok (.iinc 6 1, 3) := by decide +kernel
theorem dX5_mark_345 : decode cX5_mark 345 = .ok (.goto (-40), 3) := by decide +kernel
theorem dX5_mark_348 : decode cX5_mark 348 = .ok (.aload_n 0, 1) := by decide +kernel
theorem dX5_mark_349 : decode cX5_mark 349 = .ok (.getfield 63, 3) := by decide +kernel
theorem dX5_mark_352 : decode cX5_mark 352 = .ok (.iload_n 2, 1) := by decide +kernel
theorem dX5_mark_353 : decode cX5_mark 353 = .ok (.iload 4, 2) := by decide +kernel
theorem dX5_mark_355 : decode cX5_mark 355 = .ok (.iastore, 1) := by decide +kernel
theorem dX5_mark_356 : decode cX5_mark 356 = .ok (.aload_n 0, 1) := by decide +kernel
theorem dX5_mark_357 : decode cX5_mark 357 = .ok (.getfield 42, 3) := by decide +kernel
theorem dX5_mark_360 : decode cX5_mark 360 = .ok (.iload_n 2, 1) := by decide +kernel
theorem dX5_mark_361 : decode cX5_mark 361 = .ok (.aload_n 0, 1) := by decide +kernel
theorem dX5_mark_362 : decode cX5_mark 362 = .ok (.getfield 128, 3) := by decide +kernel
theorem dX5_mark_365 : decode cX5_mark 365 = .ok (.iastore, 1) := by decide +kernel
theorem dX5_mark_366 : decode cX5_mark 366 = .ok (.aload_n 0, 1) := by decide +kernel
theorem dX5_mark_367 : decode cX5_mark 367 = .ok (.dup, 1) := by decide +kernel
theorem dX5_mark_368 : decode cX5_mark 368 = .ok (.getfield 128, 3) := by decide +kernel
theorem dX5_mark_371 : decode cX5_mark 371 = .ok (.iconst 1, 1) := by decide +kernel
theorem dX5_mark_372 : decode cX5_mark 372 = .ok (.iadd, 1) := by decide +kernel
theorem dX5_mark_373 : decode cX5_mark 373 = .ok (.putfield 128, 3) := by decide +kernel
theorem dX5_mark_376 : decode cX5_mark 376 = .ok (.aload_n 0, 1) := by decide +kernel
theorem dX5_mark_377 : decode cX5_mark 377 = .ok (.getfield 45, 3) := by decide +kernel
theorem dX5_mark_380 : decode cX5_mark 380 = .ok (.iload_n 2, 1) := by decide +kernel
theorem dX5_mark_381 : decode cX5_mark 381 = .ok (.iconst 1, 1) := by decide +kernel
theorem dX5_mark_382 : decode cX5_mark 382 = .ok (.bastore, 1) := by decide +kernel
theorem dX5_mark_383 : decode cX5_mark 383 = .ok (.aload_n 0, 1) := by decide +kernel
theorem dX5_mark_384 : decode cX5_mark 384 = .ok (.getfield 51, 3) := by decide +kernel
theorem dX5_mark_387 : decode cX5_mark 387 = .ok (.iload_n 2, 1) := by decide +kernel
theorem dX5_mark_388 : decode cX5_mark 388 = .ok (.aload_n 0, 1) := by decide +kernel
theorem dX5_mark_389 : decode cX5_mark 389 = .ok (.getfield 7, 3) := by decide +kernel
theorem dX5_mark_392 : decode cX5_mark 392 = .ok (.iastore, 1) := by decide +kernel
theorem dX5_mark_393 : decode cX5_mark 393 = .ok (.aload_n 0, 1) := by decide +kernel
theorem dX5_mark_394 : decode cX5_mark 394 = .ok (.getfield 48, 3) := by decide +kernel
theorem dX5_mark_397 : decode cX5_mark 397 = .ok (.iload_n 2, 1) := by decide +kernel
theorem dX5_mark_398 : decode cX5_mark 398 = .ok (.iload 5, 2) := by decide +kernel
theorem dX5_mark_400 : decode cX5_mark 400 = .ok (.iconst (-1), 1) := by decide +kernel
theorem dX5_mark_401 : decode cX5_mark 401 = .ok (.if_icmp .ne 7, 3) := by decide +kernel
theorem dX5_mark_404 : decode cX5_mark 404 = .ok (.iconst (-1), 1) := by decide +kernel
theorem dX5_mark_405 : decode cX5_mark 405 = .ok (.goto 10, 3) := by decide +kernel
theorem dX5_mark_408 : decode cX5_mark 408 = .ok (.aload_n 0, 1) := by decide +kernel
theorem dX5_mark_409 : decode cX5_mark 409 = .ok (.getfield 42, 3) := by decide +kernel
theorem dX5_mark_412 : decode cX5_mark 412 = .ok (.iload 5, 2) := by decide +kernel
theorem dX5_mark_414 : decode cX5_mark 414 = .ok (.iaload, 1) := by decide +kernel
theorem dX5_mark_415 : decode cX5_mark 415 = .ok (.iastore, 1) := by decide +kernel
theorem dX5_mark_416 : decode cX5_mark 416 = .ok (.aload_n 0, 1) := by decide +kernel
theorem dX5_mark_417 : decode cX5_mark 417 = .ok (.getfield 60, 3) := by decide +kernel
theorem dX5_mark_420 : decode cX5_mark 420 = .ok (.iload_n 2, 1) := by decide +kernel
theorem dX5_mark_421 : decode cX5_mark 421 = .ok (.aload_n 0, 1) := by decide +kernel
theorem dX5_mark_422 : decode cX5_mark 422 = .ok (.iload_n 2, 1) := by decide +kernel
theorem dX5_mark_423 : decode cX5_mark 423 = .ok (.iload 5, 2) := by decide +kernel
theorem dX5_mark_425 : decode cX5_mark 425 = .ok (.invokevirtual 134, 3) := by decide +kernel
theorem dX5_mark_428 : decode cX5_mark 428 = .ok (.iastore, 1) := by decide +kernel
theorem dX5_mark_429 : decode cX5_mark 429 = .ok (.iconst 0, 1) := by decide +kernel
theorem dX5_mark_430 : decode cX5_mark 430 = .ok (.istore 6, 2) := by decide +kernel
theorem dX5_mark_432 : decode cX5_mark 432 = .ok (.iload 6, 2) := by decide +kernel
theorem dX5_mark_434 : decode cX5_mark 434 = .ok (.aload_n 0, 1) := by decide +kernel
theorem dX5_mark_435 : decode cX5_mark 435 = .ok (.getfield 7, 3) := by decide +kernel
theorem dX5_mark_438 : decode cX5_mark 438 = .ok (.if_icmp .ge 139, 3) := by decide +kernel
theorem dX5_mark_441 : decode cX5_mark 441 = .ok (.iconst 0, 1) := by decide +kernel
theorem dX5_mark_442 : decode cX5_mark 442 = .ok (.istore 7, 2) := by decide +kernel
theorem dX5_mark_444 : decode cX5_mark 444 = .ok (.iconst 0, 1) := by decide +kernel
theorem dX5_mark_445 : decode cX5_mark 445 = .ok (.istore 8, 2) := by decide +kernel
theorem dX5_mark_447 : decode cX5_mark 447 = .ok (.iload 8, 2) := by decide +kernel
theorem dX5_mark_449 : decode cX5_mark 449 = .ok (.aload_n 0, 1) := by decide +kernel
theorem dX5_mark_450 : decode cX5_mark 450 = .ok (.getfield 54, 3) := by decide +kernel
theorem dX5_mark_453 : decode cX5_mark 453 = .ok (.iconst 4, 1) := by decide +kernel
theorem dX5_mark_454 : decode cX5_mark 454 = .ok (.iload_n 2, 1) := by decide +kernel
theorem dX5_mark_455 : decode cX5_mark 455 = .ok (.imul, 1) := by decide +kernel
theorem dX5_mark_456 : decode cX5_mark 456 = .ok (.iload 6, 2) := by decide +kernel
theorem dX5_mark_458 : decode cX5_mark 458 = .ok (.iadd, 1) := by decide +kernel
theorem dX5_mark_459 : decode cX5_mark 459 = .ok (.iaload, 1) := by decide +kernel
theorem dX5_mark_460 : decode cX5_mark 460 = .ok (.if_icmp .ge 111, 3) := by decide +kernel
theorem dX5_mark_463 : decode cX5_mark 463 = .ok (.aload_n 0, 1) := by decide +kernel
theorem dX5_mark_464 : decode cX5_mark 464 = .ok (.getfield 57, 3) := by decide +kernel
theorem dX5_mark_467 : decode cX5_mark 467 = .ok (.bipush 80, 2) := by decide +kernel
theorem dX5_mark_469 : decode cX5_mark 469 = .ok (.iconst 4, 1) := by decide +kernel
theorem dX5_mark_470 : decode cX5_mark 470 = .ok (.iload_n 2, 1) := by decide +kernel
theorem dX5_mark_471 : decode cX5_mark 471 = .ok (.imul, 1) := by decide +kernel
theorem dX5_mark_472 : decode cX5_mark 472 = .ok (.iload 6, 2) := by decide +kernel
theorem dX5_mark_474 : decode cX5_mark 474 = .ok (.iadd, 1) := by decide +kernel
theorem dX5_mark_475 : decode cX5_mark 475 = .ok (.imul, 1) := by decide +kernel
theorem dX5_mark_476 : decode cX5_mark 476 = .ok (.iload 8, 2) := by decide +kernel
theorem dX5_mark_478 : decode cX5_mark 478 = .ok (.iadd, 1) := by decide +kernel
theorem dX5_mark_479 : decode cX5_mark 479 = .ok (.iaload, 1) := by decide +kernel
theorem dX5_mark_480 : decode cX5_mark 480 = .ok (.istore 9, 2) := by decide +kernel
theorem dX5_mark_482 : decode cX5_mark 482 = .ok (.aload_n 0, 1) := by decide +kernel
theorem dX5_mark_483 : decode cX5_mark 483 = .ok (.getfield 36, 3) := by decide +kernel
theorem dX5_mark_486 : decode cX5_mark 486 = .ok (.bipush 120, 2) := by decide +kernel
theorem dX5_mark_488 : decode cX5_mark 488 = .ok (.iload 6, 2) := by decide +kernel
theorem dX5_mark_490 : decode cX5_mark 490 = .ok (.imul, 1) := by decide +kernel
theorem dX5_mark_491 : decode cX5_mark 491 = .ok (.iload 9, 2) := by decide +kernel
theorem dX5_mark_493 : decode cX5_mark 493 = .ok (.iadd, 1) := by decide +kernel
theorem dX5_mark_494 : decode cX5_mark 494 = .ok (.iconst 1, 1) := by decide +kernel
theorem dX5_mark_495 : decode cX5_mark 495 = .ok (.bastore, 1) := by decide +kernel
theorem dX5_mark_496 : decode cX5_mark 496 = .ok (.iconst 0, 1) := by decide +kernel
theorem dX5_mark_497 : decode cX5_mark 497 = .ok (.istore 10, 2) := by decide +kernel
theorem dX5_mark_499 : decode cX5_mark 499 = .ok (.iload 10, 2) := by decide +kernel
theorem dX5_mark_501 : decode cX5_mark 501 = .ok (.aload_n 0, 1) := by decide +kernel
theorem dX5_mark_502 : decode cX5_mark 502 = .ok (.getfield 23, 3) := by decide +kernel
theorem dX5_mark_505 : decode cX5_mark 505 = .ok (.iload 9, 2) := by decide +kernel
theorem dX5_mark_507 : decode cX5_mark 507 = .ok (.iaload, 1) := by decide +kernel
theorem dX5_mark_508 : decode cX5_mark 508 = .ok (.if_icmp .ge 45, 3) := by decide +kernel
theorem dX5_mark_511 : decode cX5_mark 511 = .ok (.aload_n 0, 1) := by decide +kernel
theorem dX5_mark_512 : decode cX5_mark 512 = .ok (.getfield 39, 3) := by decide +kernel
theorem dX5_mark_515 : decode cX5_mark 515 = .ok (.bipush 32, 2) := by decide +kernel
theorem dX5_mark_517 : decode cX5_mark 517 = .ok (.bipush 120, 2) := by decide +kernel
theorem dX5_mark_519 : decode cX5_mark 519 = .ok (.iload 6, 2) := by decide +kernel
theorem dX5_mark_521 : decode cX5_mark 521 = .ok (.imul, 1) := by decide +kernel
theorem dX5_mark_522 : decode cX5_mark 522 = .ok (.iload 9, 2) := by decide +kernel
theorem dX5_mark_524 : decode cX5_mark 524 = .ok (.iadd, 1) := by decide +kernel
theorem dX5_mark_525 : decode cX5_mark 525 = .ok (.imul, 1) := by decide +kernel
theorem dX5_mark_526 : decode cX5_mark 526 = .ok (.iload 10, 2) := by decide +kernel
theorem dX5_mark_528 : decode cX5_mark 528 = .ok (.iadd, 1) := by decide +kernel
theorem dX5_mark_529 : decode cX5_mark 529 = .ok (.aload_n 0, 1) := by decide +kernel
theorem dX5_mark_530 : decode cX5_mark 530 = .ok (.getfield 17, 3) := by decide +kernel
theorem dX5_mark_533 : decode cX5_mark 533 = .ok (.sipush 300, 3) := by decide +kernel
theorem dX5_mark_536 : decode cX5_mark 536 = .ok (.iload 6, 2) := by decide +kernel
theorem dX5_mark_538 : decode cX5_mark 538 = .ok (.imul, 1) := by decide +kernel
theorem dX5_mark_539 : decode cX5_mark 539 = .ok (.iload 7, 2) := by decide +kernel
theorem dX5_mark_541 : decode cX5_mark 541 = .ok (.iadd, 1) := by decide +kernel
theorem dX5_mark_542 : decode cX5_mark 542 = .ok (.iload 10, 2) := by decide +kernel
theorem dX5_mark_544 : decode cX5_mark 544 = .ok (.iadd, 1) := by decide +kernel
theorem dX5_mark_545 : decode cX5_mark 545 = .ok (.iaload, 1) := by decide +kernel
theorem dX5_mark_546 : decode cX5_mark 546 = .ok (.iastore, 1) := by decide +kernel
theorem dX5_mark_547 : decode cX5_mark 547 = .ok (.iinc 10 1, 3) := by decide +kernel
theorem dX5_mark_550 : decode cX5_mark 550 = .ok (.goto (-51), 3) := by decide +kernel
theorem dX5_mark_553 : decode cX5_mark 553 = .ok (.iload 7, 2) := by decide +kernel
theorem dX5_mark_555 : decode cX5_mark 555 = .ok (.aload_n 0, 1) := by decide +kernel
theorem dX5_mark_556 : decode cX5_mark 556 = .ok (.getfield 23, 3) := by decide +kernel
theorem dX5_mark_559 : decode cX5_mark 559 = .ok (.iload 9, 2) := by decide +kernel
theorem dX5_mark_561 : decode cX5_mark 561 = .ok (.iaload, 1) := by decide +kernel
theorem dX5_mark_562 : decode cX5_mark 562 = .ok (.iadd, 1) := by decide +kernel
theorem dX5_mark_563 : decode cX5_mark 563 = .ok (.istore 7, 2) := by decide +kernel
theorem dX5_mark_565 : decode cX5_mark 565 = .ok (.iinc 8 1, 3) := by decide +kernel
theorem dX5_mark_568 : decode cX5_mark 568 = .ok (.goto (-121), 3) := by decide +kernel
theorem dX5_mark_571 : decode cX5_mark 571 = .ok (.iinc 6 1, 3) := by decide +kernel
theorem dX5_mark_574 : decode cX5_mark 574 = .ok (.goto (-142), 3) := by decide +kernel
theorem dX5_mark_577 : decode cX5_mark 577 = .ok (.aload_n 0, 1) := by decide +kernel
theorem dX5_mark_578 : decode cX5_mark 578 = .ok (.getfield 42, 3) := by decide +kernel
theorem dX5_mark_581 : decode cX5_mark 581 = .ok (.iload_n 2, 1) := by decide +kernel
theorem dX5_mark_582 : decode cX5_mark 582 = .ok (.iaload, 1) := by decide +kernel
theorem dX5_mark_583 : decode cX5_mark 583 = .ok (.ireturn, 1) := by decide +kernel
theorem dX5_tells_0 : decode cX5_tells 0 = .ok (.iconst 0, 1) := by decide +kernel
theorem dX5_tells_1 : decode cX5_tells 1 = .ok (.istore_n 3, 1) := by decide +kernel
theorem dX5_tells_2 : decode cX5_tells 2 = .ok (.iconst 0, 1) := by decide +kernel
theorem dX5_tells_3 : decode cX5_tells 3 = .ok (.istore 4, 2) := by decide +kernel
theorem dX5_tells_5 : decode cX5_tells 5 = .ok (.iload 4, 2) := by decide +kernel
theorem dX5_tells_7 : decode cX5_tells 7 = .ok (.aload_n 0, 1) := by decide +kernel
theorem dX5_tells_8 : decode cX5_tells 8 = .ok (.getfield 51, 3) := by decide +kernel
theorem dX5_tells_11 : decode cX5_tells 11 = .ok (.iload_n 1, 1) := by decide +kernel
theorem dX5_tells_12 : decode cX5_tells 12 = .ok (.iaload, 1) := by decide +kernel
theorem dX5_tells_13 : decode cX5_tells 13 = .ok (.if_icmp .ge 196, 3) := by decide +kernel
theorem dX5_tells_16 : decode cX5_tells 16 = .ok (.aload_n 0, 1) := by decide +kernel
theorem dX5_tells_17 : decode cX5_tells 17 = .ok (.getfield 54, 3) := by decide +kernel
theorem dX5_tells_20 : decode cX5_tells 20 = .ok (.iconst 4, 1) := by decide +kernel
theorem dX5_tells_21 : decode cX5_tells 21 = .ok (.iload_n 1, 1) := by decide +kernel
theorem dX5_tells_22 : decode cX5_tells 22 = .ok (.imul, 1) := by decide +kernel
theorem dX5_tells_23 : decode cX5_tells 23 = .ok (.iload 4, 2) := by decide +kernel
theorem dX5_tells_25 : decode cX5_tells 25 = .ok (.iadd, 1) := by decide +kernel
theorem dX5_tells_26 : decode cX5_tells 26 = .ok (.iaload, 1) := by decide +kernel
theorem dX5_tells_27 : decode cX5_tells 27 = .ok (.istore 5, 2) := by decide +kernel
theorem dX5_tells_29 : decode cX5_tells 29 = .ok (.iconst 0, 1) := by decide +kernel
theorem dX5_tells_30 : decode cX5_tells 30 = .ok (.istore 6, 2) := by decide +kernel
theorem dX5_tells_32 : decode cX5_tells 32 = .ok (.iload_n 2, 1) := by decide +kernel
theorem dX5_tells_33 : decode cX5_tells 33 = .ok (.iconst (-1), 1) := by decide +kernel
theorem dX5_tells_34 : decode cX5_tells 34 = .ok (.if_icmp .eq 161, 3) := by decide +kernel
theorem dX5_tells_37 : decode cX5_tells 37 = .ok (.iload 4, 2) := by decide +kernel
theorem dX5_tells_39 : decode cX5_tells 39 = .ok (.aload_n 0, 1) := by decide +kernel
theorem dX5_tells_40 : decode cX5_tells 40 = .ok (.getfield 51, 3) := by decide +kernel
theorem dX5_tells_43 : decode cX5_tells 43 = .ok (.iload_n 2, 1) := by decide +kernel
theorem dX5_tells_44 : decode cX5_tells 44 = .ok (.iaload, 1) := by decide +kernel
theorem dX5_tells_45 : decode cX5_tells 45 = .ok (.if_icmp .ge 150, 3) := by decide +kernel
theorem dX5_tells_48 : decode cX5_tells 48 = .ok (.aload_n 0, 1) := by decide +kernel
theorem dX5_tells_49 : decode cX5_tells 49 = .ok (.getfield 54, 3) := by decide +kernel
theorem dX5_tells_52 : decode cX5_tells 52 = .ok (.iconst 4, 1) := by decide +kernel
theorem dX5_tells_53 : decode cX5_tells 53 = .ok (.iload_n 2, 1) := by decide +kernel
theorem dX5_tells_54 : decode cX5_tells 54 = .ok (.imul, 1) := by decide +kernel
theorem dX5_tells_55 : decode cX5_tells 55 = .ok (.iload 4, 2) := by decide +kernel
theorem dX5_tells_57 : decode cX5_tells 57 = .ok (.iadd, 1) := by decide +kernel
theorem dX5_tells_58 : decode cX5_tells 58 = .ok (.iaload, 1) := by decide +kernel
theorem dX5_tells_59 : decode cX5_tells 59 = .ok (.istore 7, 2) := by decide +kernel
theorem dX5_tells_61 : decode cX5_tells 61 = .ok (.bipush 80, 2) := by decide +kernel
theorem dX5_tells_63 : decode cX5_tells 63 = .ok (.iconst 4, 1) := by decide +kernel
theorem dX5_tells_64 : decode cX5_tells 64 = .ok (.iload_n 1, 1) := by decide +kernel
theorem dX5_tells_65 : decode cX5_tells 65 = .ok (.imul, 1) := by decide +kernel
theorem dX5_tells_66 : decode cX5_tells 66 = .ok (.iload 4, 2) := by decide +kernel
theorem dX5_tells_68 : decode cX5_tells 68 = .ok (.iadd, 1) := by decide +kernel
theorem dX5_tells_69 : decode cX5_tells 69 = .ok (.imul, 1) := by decide +kernel
theorem dX5_tells_70 : decode cX5_tells 70 = .ok (.istore 8, 2) := by decide +kernel
theorem dX5_tells_72 : decode cX5_tells 72 = .ok (.bipush 80, 2) := by decide +kernel
theorem dX5_tells_74 : decode cX5_tells 74 = .ok (.iconst 4, 1) := by decide +kernel
theorem dX5_tells_75 : decode cX5_tells 75 = .ok (.iload_n 2, 1) := by decide +kernel
theorem dX5_tells_76 : decode cX5_tells 76 = .ok (.imul, 1) := by decide +kernel
theorem dX5_tells_77 : decode cX5_tells 77 = .ok (.iload 4, 2) := by decide +kernel
theorem dX5_tells_79 : decode cX5_tells 79 = .ok (.iadd, 1) := by decide +kernel
theorem dX5_tells_80 : decode cX5_tells 80 = .ok (.imul, 1) := by decide +kernel
theorem dX5_tells_81 : decode cX5_tells 81 = .ok (.istore 9, 2) := by decide +kernel
theorem dX5_tells_83 : decode cX5_tells 83 = .ok (.iload 6, 2) := by decide +kernel
theorem dX5_tells_85 : decode cX5_tells 85 = .ok (.iload 5, 2) := by decide +kernel
theorem dX5_tells_87 : decode cX5_tells 87 = .ok (.if_icmp .ge 39, 3) := by decide +kernel
theorem dX5_tells_90 : decode cX5_tells 90 = .ok (.iload 6, 2) := by decide +kernel
theorem dX5_tells_92 : decode cX5_tells 92 = .ok (.iload 7, 2) := by decide +kernel
theorem dX5_tells_94 : decode cX5_tells 94 = .ok (.if_icmp .ge 32, 3) := by decide +kernel
theorem dX5_tells_97 : decode cX5_tells 97 = .ok (.aload_n 0, 1) := by decide +kernel
theorem dX5_tells_98 : decode cX5_tells 98 = .ok (.getfield 57, 3) := by decide +kernel
theorem dX5_tells_101 : decode cX5_tells 101 = .ok (.iload 8, 2) := by decide +kernel
theorem dX5_tells_103 : decode cX5_tells 103 = .ok (.iload 6, 2) := by decide +kernel
theorem dX5_tells_105 : decode cX5_tells 105 = .ok (.iadd, 1) := by decide +kernel
theorem dX5_tells_106 : decode cX5_tells 106 = .ok (.iaload, 1) := by decide +kernel
theorem dX5_tells_107 : decode cX5_tells 107 = .ok (.aload_n 0, 1) := by decide +kernel
theorem dX5_tells_108 : decode cX5_tells 108 = .ok (.getfield 57, 3) := by decide +kernel
theorem dX5_tells_111 : decode cX5_tells 111 = .ok (.iload 9, 2) := by decide +kernel
theorem dX5_tells_113 : decode cX5_tells 113 = .ok (.iload 6, 2) := by decide +kernel
theorem dX5_tells_115 : decode cX5_tells 115 = .ok (.iadd, 1) := by decide +kernel
theorem dX5_tells_116 : decode cX5_tells 116 = .ok (.iaload, 1) := by decide +kernel
theorem dX5_tells_117 : decode cX5_tells 117 = .ok (.if_icmp .ne 9, 3) := by decide +kernel
theorem dX5_tells_120 : decode cX5_tells 120 = .ok (.iinc 6 1, 3) := by decide +kernel
theorem dX5_tells_123 : decode cX5_tells 123 = .ok (.goto (-40), 3) := by decide +kernel
theorem dX5_tells_126 : decode cX5_tells 126 = .ok (.iconst 0, 1) := by decide +kernel
theorem dX5_tells_127 : decode cX5_tells 127 = .ok (.istore 10, 2) := by decide +kernel
theorem dX5_tells_129 : decode cX5_tells 129 = .ok (.iload 10, 2) := by decide +kernel
theorem dX5_tells_131 : decode cX5_tells 131 = .ok (.iload 5, 2) := by decide +kernel
theorem dX5_tells_133 : decode cX5_tells 133 = .ok (.iload 6, 2) := by decide +kernel
theorem dX5_tells_135 : decode cX5_tells 135 = .ok (.isub, 1) := by decide +kernel
theorem dX5_tells_136 : decode cX5_tells 136 = .ok (.if_icmp .ge 52, 3) := by decide +kernel
theorem dX5_tells_139 : decode cX5_tells 139 = .ok (.iload 10, 2) := by decide +kernel
theorem dX5_tells_141 : decode cX5_tells 141 = .ok (.iload 7, 2) := by decide +kernel
theorem dX5_tells_143 : decode cX5_tells 143 = .ok (.iload 6, 2) := by decide +kernel
theorem dX5_tells_145 : decode cX5_tells 145 = .ok (.isub, 1) := by decide +kernel
theorem dX5_tells_146 : decode cX5_tells 146 = .ok (.if_icmp .ge 42, 3) := by decide +kernel
theorem dX5_tells_149 : decode cX5_tells 149 = .ok (.aload_n 0, 1) := by decide +kernel
theorem dX5_tells_150 : decode cX5_tells 150 = .ok (.getfield 57, 3) := by decide +kernel
theorem dX5_tells_153 : decode cX5_tells 153 = .ok (.iload 8, 2) := by decide +kernel
theorem dX5_tells_155 : decode cX5_tells 155 = .ok (.iload 5, 2) := by decide +kernel
theorem dX5_tells_157 : decode cX5_tells 157 = .ok (.iadd, 1) := by decide +kernel
theorem dX5_tells_158 : decode cX5_tells 158 = .ok (.iconst 1, 1) := by decide +kernel
theorem dX5_tells_159 : decode cX5_tells 159 = .ok (.isub, 1) := by decide +kernel
theorem dX5_tells_160 : decode cX5_tells 160 = .ok (.iload 10, 2) := by decide +kernel
theorem dX5_tells_162 : decode cX5_tells 162 = .ok (.isub, 1) := by decide +kernel
theorem dX5_tells_163 : decode cX5_tells 163 = .ok (.iaload, 1) := by decide +kernel
theorem dX5_tells_164 : decode cX5_tells 164 = .ok (.aload_n 0, 1) := by decide +kernel
theorem dX5_tells_165 : decode cX5_tells 165 = .ok (.getfield 57, 3) := by decide +kernel
theorem dX5_tells_168 : decode cX5_tells 168 = .ok (.iload 9, 2) := by decide +kernel
theorem dX5_tells_170 : decode cX5_tells 170 = .ok (.iload 7, 2) := by decide +kernel
theorem dX5_tells_172 : decode cX5_tells 172 = .ok (.iadd, 1) := by decide +kernel
theorem dX5_tells_173 : decode cX5_tells 173 = .ok (.iconst 1, 1) := by decide +kernel
theorem dX5_tells_174 : decode cX5_tells 174 = .ok (.isub, 1) := by decide +kernel
theorem dX5_tells_175 : decode cX5_tells 175 = .ok (.iload 10, 2) := by decide +kernel
theorem dX5_tells_177 : decode cX5_tells 177 = .ok (.isub, 1) := by decide +kernel
theorem dX5_tells_178 : decode cX5_tells 178 = .ok (.iaload, 1) := by decide +kernel
theorem dX5_tells_179 : decode cX5_tells 179 = .ok (.if_icmp .ne 9, 3) := by decide +kernel
theorem dX5_tells_182 : decode cX5_tells 182 = .ok (.iinc 10 1, 3) := by decide +kernel
theorem dX5_tells_185 : decode cX5_tells 185 = .ok (.goto (-56), 3) := by decide +kernel
theorem dX5_tells_188 : decode cX5_tells 188 = .ok (.iload 6, 2) := by decide +kernel
theorem dX5_tells_190 : decode cX5_tells 190 = .ok (.iload 10, 2) := by decide +kernel
theorem dX5_tells_192 : decode cX5_tells 192 = .ok (.iadd, 1) := by decide +kernel
theorem dX5_tells_193 : decode cX5_tells 193 = .ok (.istore 6, 2) := by decide +kernel
theorem dX5_tells_195 : decode cX5_tells 195 = .ok (.iload_n 3, 1) := by decide +kernel
theorem dX5_tells_196 : decode cX5_tells 196 = .ok (.iload 5, 2) := by decide +kernel
theorem dX5_tells_198 : decode cX5_tells 198 = .ok (.iload 6, 2) := by decide +kernel
theorem dX5_tells_200 : decode cX5_tells 200 = .ok (.isub, 1) := by decide +kernel
theorem dX5_tells_201 : decode cX5_tells 201 = .ok (.iadd, 1) := by decide +kernel
theorem dX5_tells_202 : decode cX5_tells 202 = .ok (.istore_n 3, 1) := by decide +kernel
theorem dX5_tells_203 : decode cX5_tells 203 = .ok (.iinc 4 1, 3) := by decide +kernel
theorem dX5_tells_206 : decode cX5_tells 206 = .ok (.goto (-201), 3) := by decide +kernel
theorem dX5_tells_209 : decode cX5_tells 209 = .ok (.iload_n 3, 1) := by decide +kernel
theorem dX5_tells_210 : decode cX5_tells 210 = .ok (.ireturn, 1) := by decide +kernel
theorem dX5_drop_0 : decode cX5_drop 0 = .ok (.aload_n 0, 1) := by decide +kernel
theorem dX5_drop_1 : decode cX5_drop 1 = .ok (.iload_n 1, 1) := by decide +kernel
theorem dX5_drop_2 : decode cX5_drop 2 = .ok (.invokevirtual 137, 3) := by decide +kernel
theorem dX5_drop_5 : decode cX5_drop 5 = .ok (.istore_n 2, 1) := by decide +kernel
theorem dX5_drop_6 : decode cX5_drop 6 = .ok (.iload_n 2, 1) := by decide +kernel
theorem dX5_drop_7 : decode cX5_drop 7 = .ok (.iconst (-1), 1) := by decide +kernel
theorem dX5_drop_8 : decode cX5_drop 8 = .ok (.if_icmp .ne 6, 3) := by decide +kernel
theorem dX5_drop_11 : decode cX5_drop 11 = .ok (.bipush (-2), 2) := by decide +kernel
theorem dX5_drop_13 : decode cX5_drop 13 = .ok (.ireturn, 1) := by decide +kernel
theorem dX5_drop_14 : decode cX5_drop 14 = .ok (.aload_n 0, 1) := by decide +kernel
theorem dX5_drop_15 : decode cX5_drop 15 = .ok (.getfield 45, 3) := by decide +kernel
theorem dX5_drop_18 : decode cX5_drop 18 = .ok (.iload_n 2, 1) := by decide +kernel
theorem dX5_drop_19 : decode cX5_drop 19 = .ok (.iconst 0, 1) := by decide +kernel
theorem dX5_drop_20 : decode cX5_drop 20 = .ok (.bastore, 1) := by decide +kernel
theorem dX5_drop_21 : decode cX5_drop 21 = .ok (.iconst 0, 1) := by decide +kernel
theorem dX5_drop_22 : decode cX5_drop 22 = .ok (.istore_n 3, 1) := by decide +kernel
theorem dX5_drop_23 : decode cX5_drop 23 = .ok (.iconst 0, 1) := by decide +kernel
theorem dX5_drop_24 : decode cX5_drop 24 = .ok (.istore 4, 2) := by decide +kernel
theorem dX5_drop_26 : decode cX5_drop 26 = .ok (.iload 4, 2) := by decide +kernel
theorem dX5_drop_28 : decode cX5_drop 28 = .ok (.bipush 120, 2) := by decide +kernel
theorem dX5_drop_30 : decode cX5_drop 30 = .ok (.if_icmp .ge 127, 3) := by decide +kernel
theorem dX5_drop_33 : decode cX5_drop 33 = .ok (.iconst 0, 1) := by decide +kernel
theorem dX5_drop_34 : decode cX5_drop 34 = .ok (.istore 5, 2) := by decide +kernel
theorem dX5_drop_36 : decode cX5_drop 36 = .ok (.iconst 0, 1) := by decide +kernel
theorem dX5_drop_37 : decode cX5_drop 37 = .ok (.istore 6, 2) := by decide +kernel
theorem dX5_drop_39 : decode cX5_drop 39 = .ok (.iload 6, 2) := by decide +kernel
theorem dX5_drop_41 : decode cX5_drop 41 = .ok (.bipush 12, 2) := by decide +kernel
theorem dX5_drop_43 : decode cX5_drop 43 = .ok (.if_icmp .ge 53, 3) := by decide +kernel
theorem dX5_drop_46 : decode cX5_drop 46 = .ok (.iload 5, 2) := by decide +kernel
theorem dX5_drop_48 : decode cX5_drop 48 = .ok (.ifCond .ne 35, 3) := by decide +kernel
theorem dX5_drop_51 : decode cX5_drop 51 = .ok (.aload_n 0, 1) := by decide +kernel
theorem dX5_drop_52 : decode cX5_drop 52 = .ok (.getfield 42, 3) := by decide +kernel
theorem dX5_drop_55 : decode cX5_drop 55 = .ok (.iload 6, 2) := by decide +kernel
theorem dX5_drop_57 : decode cX5_drop 57 = .ok (.iaload, 1) := by decide +kernel
theorem dX5_drop_58 : decode cX5_drop 58 = .ok (.iconst (-1), 1) := by decide +kernel
theorem dX5_drop_59 : decode cX5_drop 59 = .ok (.if_icmp .eq 28, 3) := by decide +kernel
theorem dX5_drop_62 : decode cX5_drop 62 = .ok (.aload_n 0, 1) := by decide +kernel
theorem dX5_drop_63 : decode cX5_drop 63 = .ok (.getfield 45, 3) := by decide +kernel
theorem dX5_drop_66 : decode cX5_drop 66 = .ok (.iload 6, 2) := by decide +kernel
theorem dX5_drop_68 : decode cX5_drop 68 = .ok (.baload, 1) := by decide +kernel
theorem dX5_drop_69 : decode cX5_drop 69 = .ok (.ifCond .eq 18, 3) := by decide +kernel
theorem dX5_drop_72 : decode cX5_drop 72 = .ok (.aload_n 0, 1) := by decide +kernel
theorem dX5_drop_73 : decode cX5_drop 73 = .ok (.iload 6, 2) := by decide +kernel
theorem dX5_drop_75 : decode cX5_drop 75 = .ok (.iload 4, 2) := by decide +kernel
theorem dX5_drop_77 : decode cX5_drop 77 = .ok (.invokevirtual 100, 3) := by decide +kernel
theorem dX5_drop_80 : decode cX5_drop 80 = .ok (.ifCond .eq 7, 3) := by decide +kernel
theorem dX5_drop_83 : decode cX5_drop 83 = .ok (.iconst 1, 1) := by decide +kernel
theorem dX5_drop_84 : decode cX5_drop 84 = .ok (.goto 4, 3) := by decide +kernel
theorem dX5_drop_87 : decode cX5_drop 87 = .ok (.iconst 0, 1) := by decide +kernel
theorem dX5_drop_88 : decode cX5_drop 88 = .ok (.istore 5, 2) := by decide +kernel
theorem dX5_drop_90 : decode cX5_drop 90 = .ok (.iinc 6 1, 3) := by decide +kernel
theorem dX5_drop_93 : decode cX5_drop 93 = .ok (.goto (-54), 3) := by decide +kernel
theorem dX5_drop_96 : decode cX5_drop 96 = .ok (.aload_n 0, 1) := by decide +kernel
theorem dX5_drop_97 : decode cX5_drop 97 = .ok (.getfield 23, 3) := by decide +kernel
theorem dX5_drop_100 : decode cX5_drop 100 = .ok (.iload 4, 2) := by decide +kernel
theorem dX5_drop_102 : decode cX5_drop 102 = .ok (.iaload, 1) := by decide +kernel
theorem dX5_drop_103 : decode cX5_drop 103 = .ok (.ifCond .le 48, 3) := by decide +kernel
theorem dX5_drop_106 : decode cX5_drop 106 = .ok (.iload 5, 2) := by decide +kernel
theorem dX5_drop_108 : decode cX5_drop 108 = .ok (.ifCond .ne 43, 3) := by decide +kernel
theorem dX5_drop_111 : decode cX5_drop 111 = .ok (.iinc 3 1, 3) := by decide +kernel
theorem dX5_drop_114 : decode cX5_drop 114 = .ok (.aload_n 0, 1) := by decide +kernel
theorem dX5_drop_115 : decode cX5_drop 115 = .ok (.getfield 23, 3) := by decide +kernel
theorem dX5_drop_118 : decode cX5_drop 118 = .ok (.iload 4, 2) := by decide +kernel
theorem dX5_drop_120 : decode cX5_drop 120 = .ok (.iconst 0, 1) := by decide +kernel
theorem dX5_drop_121 : decode cX5_drop 121 = .ok (.iastore, 1) := by decide +kernel
theorem dX5_drop_122 : decode cX5_drop 122 = .ok (.iconst 0, 1) := by decide +kernel
theorem dX5_drop_123 : decode cX5_drop 123 = .ok (.istore 6, 2) := by decide +kernel
theorem dX5_drop_125 : decode cX5_drop 125 = .ok (.iload 6, 2) := by decide +kernel
theorem dX5_drop_127 : decode cX5_drop 127 = .ok (.iconst 4, 1) := by decide +kernel
theorem dX5_drop_128 : decode cX5_drop 128 = .ok (.if_icmp .ge 23, 3) := by decide +kernel
theorem dX5_drop_131 : decode cX5_drop 131 = .ok (.aload_n 0, 1) := by decide +kernel
theorem dX5_drop_132 : decode cX5_drop 132 = .ok (.getfield 36, 3) := by decide +kernel
theorem dX5_drop_135 : decode cX5_drop 135 = .ok (.bipush 120, 2) := by decide +kernel
theorem dX5_drop_137 : decode cX5_drop 137 = .ok (.iload 6, 2) := by decide +kernel
theorem dX5_drop_139 : decode cX5_drop 139 = .ok (.imul, 1) := by decide +kernel
theorem dX5_drop_140 : decode cX5_drop 140 = .ok (.iload 4, 2) := by decide +kernel
theorem dX5_drop_142 : decode cX5_drop 142 = .ok (.iadd, 1) := by decide +kernel
theorem dX5_drop_143 : decode cX5_drop 143 = .ok (.iconst 0, 1) := by decide +kernel
theorem dX5_drop_144 : decode cX5_drop 144 = .ok (.bastore, 1) := by decide +kernel
theorem dX5_drop_145 : decode cX5_drop 145 = .ok (.iinc 6 1, 3) := by decide +kernel
theorem dX5_drop_148 : decode cX5_drop 148 = .ok (.goto (-23), 3) := by decide +kernel
theorem dX5_drop_151 : decode cX5_drop 151 = .ok (.iinc 4 1, 3) := by decide +kernel
theorem dX5_drop_154 : decode cX5_drop 154 = .ok (.goto (-128), 3) := by decide +kernel
theorem dX5_drop_157 : decode cX5_drop 157 = .ok (.iconst 1, 1) := by decide +kernel
theorem dX5_drop_158 : decode cX5_drop 158 = .ok (.istore 4, 2) := by decide +kernel
theorem dX5_drop_160 : decode cX5_drop 160 = .ok (.iload 4, 2) := by decide +kernel
theorem dX5_drop_162 : decode cX5_drop 162 = .ok (.ifCond .eq 128, 3) := by decide +kernel
theorem dX5_drop_165 : decode cX5_drop 165 = .ok (.iconst 0, 1) := by decide +kernel
theorem dX5_drop_166 : decode cX5_drop 166 = .ok (.istore 4, 2) := by decide +kernel
theorem dX5_drop_168 : decode cX5_drop 168 = .ok (.iconst 0, 1) := by decide +kernel
theorem dX5_drop_169 : decode cX5_drop 169 = .ok (.istore 5, 2) := by decide +kernel
theorem dX5_drop_171 : decode cX5_drop 171 = .ok (.iload 5, 2) := by decide +kernel
theorem dX5_drop_173 : decode cX5_drop 173 = .ok (.bipush 12, 2) := by decide +kernel
theorem dX5_drop_175 : decode cX5_drop 175 = .ok (.if_icmp .ge 112, 3) := by decide +kernel
theorem dX5_drop_178 : decode cX5_drop 178 = .ok (.aload_n 0, 1) := by decide +kernel
theorem dX5_drop_179 : decode cX5_drop 179 = .ok (.getfield 45, 3) := by decide +kernel
theorem dX5_drop_182 : decode cX5_drop 182 = .ok (.iload 5, 2) := by decide +kernel
theorem dX5_drop_184 : decode cX5_drop 184 = .ok (.baload, 1) := by decide +kernel
theorem dX5_drop_185 : decode cX5_drop 185 = .ok (.istore 6, 2) := by decide +kernel
theorem dX5_drop_187 : decode cX5_drop 187 = .ok (.iconst 0, 1) := by decide +kernel
theorem dX5_drop_188 : decode cX5_drop 188 = .ok (.istore 7, 2) := by decide +kernel
theorem dX5_drop_190 : decode cX5_drop 190 = .ok (.iload 7, 2) := by decide +kernel
theorem dX5_drop_192 : decode cX5_drop 192 = .ok (.bipush 12, 2) := by decide +kernel
theorem dX5_drop_194 : decode cX5_drop 194 = .ok (.if_icmp .ge 60, 3) := by decide +kernel
theorem dX5_drop_197 : decode cX5_drop 197 = .ok (.iload 6, 2) := by decide +kernel
theorem dX5_drop_199 : decode cX5_drop 199 = .ok (.ifCond .ne 42, 3) := by decide +kernel
theorem dX5_drop_202 : decode cX5_drop 202 = .ok (.aload_n 0, 1) := by decide +kernel
theorem dX5_drop_203 : decode cX5_drop 203 = .ok (.getfield 42, 3) := by decide +kernel
theorem dX5_drop_206 : decode cX5_drop 206 = .ok (.iload 7, 2) := by decide +kernel
theorem dX5_drop_208 : decode cX5_drop 208 = .ok (.iaload, 1) := by decide +kernel
theorem dX5_drop_209 : decode cX5_drop 209 = .ok (.iconst (-1), 1) := by decide +kernel
theorem dX5_drop_210 : decode cX5_drop 210 = .ok (.if_icmp .eq 35, 3) := by decide +kernel
theorem dX5_drop_213 : decode cX5_drop 213 = .ok (.aload_n 0, 1) := by decide +kernel
theorem dX5_drop_214 : decode cX5_drop 214 = .ok (.getfield 42, 3) := by decide +kernel
theorem dX5_drop_217 : decode cX5_drop 217 = .ok (.iload 5, 2) := by decide +kernel
theorem dX5_drop_219 : decode cX5_drop 219 = .ok (.iaload, 1) := by decide +kernel
theorem dX5_drop_220 : decode cX5_drop 220 = .ok (.iconst (-1), 1) := by decide +kernel
theorem dX5_drop_221 : decode cX5_drop 221 = .ok (.if_icmp .eq 24, 3) := by decide +kernel
theorem dX5_drop_224 : decode cX5_drop 224 = .ok (.aload_n 0, 1) := by decide +kernel
theorem dX5_drop_225 : decode cX5_drop 225 = .ok (.getfield 48, 3) := by decide +kernel
theorem dX5_drop_228 : decode cX5_drop 228 = .ok (.iload 7, 2) := by decide +kernel
theorem dX5_drop_230 : decode cX5_drop 230 = .ok (.iaload, 1) := by decide +kernel
theorem dX5_drop_231 : decode cX5_drop 231 = .ok (.aload_n 0, 1) := by decide +kernel
theorem dX5_drop_232 : decode cX5_drop 232 = .ok (.getfield 42, 3) := by decide +kernel
theorem dX5_drop_235 : decode cX5_drop 235 = .ok (.iload 5, 2) := by decide +kernel
theorem dX5_drop_237 : decode cX5_drop 237 = .ok (.iaload, 1) := by decide +kernel
theorem dX5_drop_238 : decode cX5_drop 238 = .ok (.if_icmp .ne 7, 3) := by decide +kernel
theorem dX5_drop_241 : decode cX5_drop 241 = .ok (.iconst 1, 1) := by decide +kernel
theorem dX5_drop_242 : decode cX5_drop 242 = .ok (.goto 4, 3) := by decide +kernel
theorem dX5_drop_245 : decode cX5_drop 245 = .ok (.iconst 0, 1) := by decide +kernel
theorem dX5_drop_246 : decode cX5_drop 246 = .ok (.istore 6, 2) := by decide +kernel
theorem dX5_drop_248 : decode cX5_drop 248 = .ok (.iinc 7 1, 3) := by decide +kernel
theorem dX5_drop_251 : decode cX5_drop 251 = .ok (.goto (-61), 3) := by decide +kernel
theorem dX5_drop_254 : decode cX5_drop 254 = .ok (.aload_n 0, 1) := by decide +kernel
theorem dX5_drop_255 : decode cX5_drop 255 = .ok (.getfield 42, 3) := by decide +kernel
theorem dX5_drop_258 : decode cX5_drop 258 = .ok (.iload 5, 2) := by decide +kernel
theorem dX5_drop_260 : decode cX5_drop 260 = .ok (.iaload, 1) := by decide +kernel
theorem dX5_drop_261 : decode cX5_drop 261 = .ok (.iconst (-1), 1) := by decide +kernel
theorem dX5_drop_262 : decode cX5_drop 262 = .ok (.if_icmp .eq 19, 3) := by decide +kernel
theorem dX5_drop_265 : decode cX5_drop 265 = .ok (.iload 6, 2) := by decide +kernel
theorem dX5_drop_267 : decode cX5_drop 267 = .ok (.ifCond .ne 14, 3) := by decide +kernel
theorem dX5_drop_270 : decode cX5_drop 270 = .ok (.aload_n 0, 1) := by decide +kernel
theorem dX5_drop_271 : decode cX5_drop 271 = .ok (.getfield 42, 3) := by decide +kernel
theorem dX5_drop_274 : decode cX5_drop 274 = .ok (.iload 5, 2) := by decide +kernel
theorem dX5_drop_276 : decode cX5_drop 276 = .ok (.iconst (-1), 1) := by decide +kernel
theorem dX5_drop_277 : decode cX5_drop 277 = .ok (.iastore, 1) := by decide +kernel
theorem dX5_drop_278 : decode cX5_drop 278 = .ok (.iconst 1, 1) := by decide +kernel
theorem dX5_drop_279 : decode cX5_drop 279 = .ok (.istore 4, 2) := by decide +kernel
theorem dX5_drop_281 : decode cX5_drop 281 = .ok (.iinc 5 1, 3) := by decide +kernel
theorem dX5_drop_284 : decode cX5_drop 284 = .ok (.goto (-113), 3) := by decide +kernel
theorem dX5_drop_287 : decode cX5_drop 287 = .ok (.goto (-127), 3) := by decide +kernel
theorem dX5_drop_290 : decode cX5_drop 290 = .ok (.iload_n 3, 1) := by decide +kernel
theorem dX5_drop_291 : decode cX5_drop 291 = .ok (.ireturn, 1) := by decide +kernel
theorem dX5_isUsable_0 : decode cX5_isUsable 0 = .ok (.iconst 1, 1) := by decide +kernel
theorem dX5_isUsable_1 : decode cX5_isUsable 1 = .ok (.istore_n 2, 1) := by decide +kernel
theorem dX5_isUsable_2 : decode cX5_isUsable 2 = .ok (.iconst 0, 1) := by decide +kernel
theorem dX5_isUsable_3 : decode cX5_isUsable 3 = .ok (.istore_n 3, 1) := by decide +kernel
theorem dX5_isUsable_4 : decode cX5_isUsable 4 = .ok (.iload_n 3, 1) := by decide +kernel
theorem dX5_isUsable_5 : decode cX5_isUsable 5 = .ok (.aload_n 0, 1) := by decide +kernel
theorem dX5_isUsable_6 : decode cX5_isUsable 6 = .ok (.getfield 51, 3) := by decide +kernel
theorem dX5_isUsable_9 : decode cX5_isUsable 9 = .ok (.iload_n 1, 1) := by decide +kernel
theorem dX5_isUsable_10 : decode cX5_isUsable 10 = .ok (.iaload, 1) := by decide +kernel
theorem dX5_isUsable_11 : decode cX5_isUsable 11 = .ok (.if_icmp .ge 67, 3) := by decide +kernel
theorem dX5_isUsable_14 : decode cX5_isUsable 14 = .ok (.iconst 0, 1) := by decide +kernel
theorem dX5_isUsable_15 : decode cX5_isUsable 15 = .ok (.istore 4, 2) := by decide +kernel
theorem dX5_isUsable_17 : decode cX5_isUsable 17 = .ok (.iload 4, 2) := by decide +kernel
theorem dX5_isUsable_19 : decode cX5_isUsable 19 = .ok (.aload_n 0, 1) := by decide +kernel
theorem dX5_isUsable_20 : decode cX5_isUsable 20 = .ok (.getfield 54, 3) := by decide +kernel
theorem dX5_isUsable_23 : decode cX5_isUsable 23 = .ok (.iconst 4, 1) := by decide +kernel
theorem dX5_isUsable_24 : decode cX5_isUsable 24 = .ok (.iload_n 1, 1) := by decide +kernel
theorem dX5_isUsable_25 : decode cX5_isUsable 25 = .ok (.imul, 1) := by decide +kernel
theorem dX5_isUsable_26 : decode cX5_isUsable 26 = .ok (.iload_n 3, 1) := by decide +kernel
theorem dX5_isUsable_27 : decode cX5_isUsable 27 = .ok (.iadd, 1) := by decide +kernel
theorem dX5_isUsable_28 : decode cX5_isUsable 28 = .ok (.iaload, 1) := by decide +kernel
theorem dX5_isUsable_29 : decode cX5_isUsable 29 = .ok (.if_icmp .ge 43, 3) := by decide +kernel
theorem dX5_isUsable_32 : decode cX5_isUsable 32 = .ok (.iload_n 2, 1) := by decide +kernel
theorem dX5_isUsable_33 : decode cX5_isUsable 33 = .ok (.ifCond .eq 31, 3) := by decide +kernel
theorem dX5_isUsable_36 : decode cX5_isUsable 36 = .ok (.aload_n 0, 1) := by decide +kernel
theorem dX5_isUsable_37 : decode cX5_isUsable 37 = .ok (.iload_n 3, 1) := by decide +kernel
theorem dX5_isUsable_38 : decode cX5_isUsable 38 = .ok (.aload_n 0, 1) := by decide +kernel
theorem dX5_isUsable_39 : decode cX5_isUsable 39 = .ok (.getfield 57, 3) := by decide +kernel
theorem dX5_isUsable_42 : decode cX5_isUsable 42 = .ok (.bipush 80, 2) := by decide +kernel
theorem dX5_isUsable_44 : decode cX5_isUsable 44 = .ok (.iconst 4, 1) := by decide +kernel
theorem dX5_isUsable_45 : decode cX5_isUsable 45 = .ok (.iload_n 1, 1) := by decide +kernel
theorem dX5_isUsable_46 : decode cX5_isUsable 46 = .ok (.imul, 1) := by decide +kernel
theorem dX5_isUsable_47 : decode cX5_isUsable 47 = .ok (.iload_n 3, 1) := by decide +kernel
theorem dX5_isUsable_48 : decode cX5_isUsable 48 = .ok (.iadd, 1) := by decide +kernel
theorem dX5_isUsable_49 : decode cX5_isUsable 49 = .ok (.imul, 1) := by decide +kernel
theorem dX5_isUsable_50 : decode cX5_isUsable 50 = .ok (.iload 4, 2) := by decide +kernel
theorem dX5_isUsable_52 : decode cX5_isUsable 52 = .ok (.iadd, 1) := by decide +kernel
theorem dX5_isUsable_53 : decode cX5_isUsable 53 = .ok (.iaload, 1) := by decide +kernel
theorem dX5_isUsable_54 : decode cX5_isUsable 54 = .ok (.invokevirtual 140, 3) := by decide +kernel
theorem dX5_isUsable_57 : decode cX5_isUsable 57 = .ok (.ifCond .eq 7, 3) := by decide +kernel
theorem dX5_isUsable_60 : decode cX5_isUsable 60 = .ok (.iconst 1, 1) := by decide +kernel
theorem dX5_isUsable_61 : decode cX5_isUsable 61 = .ok (.goto 4, 3) := by decide +kernel
theorem dX5_isUsable_64 : decode cX5_isUsable 64 = .ok (.iconst 0, 1) := by decide +kernel
theorem dX5_isUsable_65 : decode cX5_isUsable 65 = .ok (.istore_n 2, 1) := by decide +kernel
theorem dX5_isUsable_66 : decode cX5_isUsable 66 = .ok (.iinc 4 1, 3) := by decide +kernel
theorem dX5_isUsable_69 : decode cX5_isUsable 69 = .ok (.goto (-52), 3) := by decide +kernel
theorem dX5_isUsable_72 : decode cX5_isUsable 72 = .ok (.iinc 3 1, 3) := by decide +kernel
theorem dX5_isUsable_75 : decode cX5_isUsable 75 = .ok (.goto (-71), 3) := by decide +kernel
theorem dX5_isUsable_78 : decode cX5_isUsable 78 = .ok (.iload_n 2, 1) := by decide +kernel
theorem dX5_isUsable_79 : decode cX5_isUsable 79 = .ok (.ireturn, 1) := by decide +kernel
theorem dX5_usable_0 : decode cX5_usable 0 = .ok (.aload_n 0, 1) := by decide +kernel
theorem dX5_usable_1 : decode cX5_usable 1 = .ok (.iload_n 1, 1) := by decide +kernel
theorem dX5_usable_2 : decode cX5_usable 2 = .ok (.invokevirtual 137, 3) := by decide +kernel
theorem dX5_usable_5 : decode cX5_usable 5 = .ok (.istore_n 2, 1) := by decide +kernel
theorem dX5_usable_6 : decode cX5_usable 6 = .ok (.iload_n 2, 1) := by decide +kernel
theorem dX5_usable_7 : decode cX5_usable 7 = .ok (.iconst (-1), 1) := by decide +kernel
theorem dX5_usable_8 : decode cX5_usable 8 = .ok (.if_icmp .ne 8, 3) := by decide +kernel
theorem dX5_usable_11 : decode cX5_usable 11 = .ok (.bipush (-2), 2) := by decide +kernel
theorem dX5_usable_13 : decode cX5_usable 13 = .ok (.goto 16, 3) := by decide +kernel
theorem dX5_usable_16 : decode cX5_usable 16 = .ok (.aload_n 0, 1) := by decide +kernel
theorem dX5_usable_17 : decode cX5_usable 17 = .ok (.iload_n 2, 1) := by decide +kernel
theorem dX5_usable_18 : decode cX5_usable 18 = .ok (.invokevirtual 143, 3) := by decide +kernel
theorem dX5_usable_21 : decode cX5_usable 21 = .ok (.ifCond .eq 7, 3) := by decide +kernel
theorem dX5_usable_24 : decode cX5_usable 24 = .ok (.iconst 1, 1) := by decide +kernel
theorem dX5_usable_25 : decode cX5_usable 25 = .ok (.goto 4, 3) := by decide +kernel
theorem dX5_usable_28 : decode cX5_usable 28 = .ok (.iconst 0, 1) := by decide +kernel
theorem dX5_usable_29 : decode cX5_usable 29 = .ok (.ireturn, 1) := by decide +kernel
theorem dX5_back_0 : decode cX5_back 0 = .ok (.iload_n 1, 1) := by decide +kernel
theorem dX5_back_1 : decode cX5_back 1 = .ok (.iconst 0, 1) := by decide +kernel
theorem dX5_back_2 : decode cX5_back 2 = .ok (.aload_n 0, 1) := by decide +kernel
theorem dX5_back_3 : decode cX5_back 3 = .ok (.getfield 128, 3) := by decide +kernel
theorem dX5_back_6 : decode cX5_back 6 = .ok (.iconst 1, 1) := by decide +kernel
theorem dX5_back_7 : decode cX5_back 7 = .ok (.isub, 1) := by decide +kernel
theorem dX5_back_8 : decode cX5_back 8 = .ok (.invokestatic 72, 3) := by decide +kernel
theorem dX5_back_11 : decode cX5_back 11 = .ok (.ifCond .ne 6, 3) := by decide +kernel
theorem dX5_back_14 : decode cX5_back 14 = .ok (.bipush (-2), 2) := by decide +kernel
theorem dX5_back_16 : decode cX5_back 16 = .ok (.ireturn, 1) := by decide +kernel
theorem dX5_back_17 : decode cX5_back 17 = .ok (.aload_n 0, 1) := by decide +kernel
theorem dX5_back_18 : decode cX5_back 18 = .ok (.iload_n 1, 1) := by decide +kernel
theorem dX5_back_19 : decode cX5_back 19 = .ok (.iconst 1, 1) := by decide +kernel
theorem dX5_back_20 : decode cX5_back 20 = .ok (.iadd, 1) := by decide +kernel
theorem dX5_back_21 : decode cX5_back 21 = .ok (.invokevirtual 131, 3) := by decide +kernel
theorem dX5_back_24 : decode cX5_back 24 = .ok (.istore_n 2, 1) := by decide +kernel
theorem dX5_back_25 : decode cX5_back 25 = .ok (.iload_n 2, 1) := by decide +kernel
theorem dX5_back_26 : decode cX5_back 26 = .ok (.iconst (-1), 1) := by decide +kernel
theorem dX5_back_27 : decode cX5_back 27 = .ok (.if_icmp .eq 25, 3) := by decide +kernel
theorem dX5_back_30 : decode cX5_back 30 = .ok (.aload_n 0, 1) := by decide +kernel
theorem dX5_back_31 : decode cX5_back 31 = .ok (.iload_n 2, 1) := by decide +kernel
theorem dX5_back_32 : decode cX5_back 32 = .ok (.invokevirtual 143, 3) := by decide +kernel
theorem dX5_back_35 : decode cX5_back 35 = .ok (.ifCond .ne 17, 3) := by decide +kernel
theorem dX5_back_38 : decode cX5_back 38 = .ok (.aload_n 0, 1) := by decide +kernel
theorem dX5_back_39 : decode cX5_back 39 = .ok (.aload_n 0, 1) := by decide +kernel
theorem dX5_back_40 : decode cX5_back 40 = .ok (.getfield 42, 3) := by decide +kernel
theorem dX5_back_43 : decode cX5_back 43 = .ok (.iload_n 2, 1) := by decide +kernel
theorem dX5_back_44 : decode cX5_back 44 = .ok (.iaload, 1) := by decide +kernel
theorem dX5_back_45 : decode cX5_back 45 = .ok (.invokevirtual 131, 3) := by decide +kernel
theorem dX5_back_48 : decode cX5_back 48 = .ok (.istore_n 2, 1) := by decide +kernel
theorem dX5_back_49 : decode cX5_back 49 = .ok (.goto (-24), 3) := by decide +kernel
theorem dX5_back_52 : decode cX5_back 52 = .ok (.iload_n 2, 1) := by decide +kernel
theorem dX5_back_53 : decode cX5_back 53 = .ok (.iconst (-1), 1) := by decide +kernel
theorem dX5_back_54 : decode cX5_back 54 = .ok (.if_icmp .ne 5, 3) := by decide +kernel
theorem dX5_back_57 : decode cX5_back 57 = .ok (.iconst (-1), 1) := by decide +kernel
theorem dX5_back_58 : decode cX5_back 58 = .ok (.ireturn, 1) := by decide +kernel
theorem dX5_back_59 : decode cX5_back 59 = .ok (.aload_n 0, 1) := by decide +kernel
theorem dX5_back_60 : decode cX5_back 60 = .ok (.aload_n 0, 1) := by decide +kernel
theorem dX5_back_61 : decode cX5_back 61 = .ok (.getfield 51, 3) := by decide +kernel
theorem dX5_back_64 : decode cX5_back 64 = .ok (.iload_n 2, 1) := by decide +kernel
theorem dX5_back_65 : decode cX5_back 65 = .ok (.iaload, 1) := by decide +kernel
theorem dX5_back_66 : decode cX5_back 66 = .ok (.invokevirtual 86, 3) := by decide +kernel
theorem dX5_back_69 : decode cX5_back 69 = .ok (.iconst 0, 1) := by decide +kernel
theorem dX5_back_70 : decode cX5_back 70 = .ok (.istore_n 3, 1) := by decide +kernel
theorem dX5_back_71 : decode cX5_back 71 = .ok (.iload_n 3, 1) := by decide +kernel
theorem dX5_back_72 : decode cX5_back 72 = .ok (.aload_n 0, 1) := by decide +kernel
theorem dX5_back_73 : decode cX5_back 73 = .ok (.getfield 7, 3) := by decide +kernel
theorem dX5_back_76 : decode cX5_back 76 = .ok (.if_icmp .ge 61, 3) := by decide +kernel
theorem dX5_back_79 : decode cX5_back 79 = .ok (.aload_n 0, 1) := by decide +kernel
theorem dX5_back_80 : decode cX5_back 80 = .ok (.getfield 13, 3) := by decide +kernel
theorem dX5_back_83 : decode cX5_back 83 = .ok (.iload_n 3, 1) := by decide +kernel
theorem dX5_back_84 : decode cX5_back 84 = .ok (.iconst 0, 1) := by decide +kernel
theorem dX5_back_85 : decode cX5_back 85 = .ok (.iastore, 1) := by decide +kernel
theorem dX5_back_86 : decode cX5_back 86 = .ok (.iconst 0, 1) := by decide +kernel
theorem dX5_back_87 : decode cX5_back 87 = .ok (.istore 4, 2) := by decide +kernel
theorem dX5_back_89 : decode cX5_back 89 = .ok (.iload 4, 2) := by decide +kernel
theorem dX5_back_91 : decode cX5_back 91 = .ok (.aload_n 0, 1) := by decide +kernel
theorem dX5_back_92 : decode cX5_back 92 = .ok (.getfield 54, 3) := by decide +kernel
theorem dX5_back_95 : decode cX5_back 95 = .ok (.iconst 4, 1) := by decide +kernel
theorem dX5_back_96 : decode cX5_back 96 = .ok (.iload_n 2, 1) := by decide +kernel
theorem dX5_back_97 : decode cX5_back 97 = .ok (.imul, 1) := by decide +kernel
theorem dX5_back_98 : decode cX5_back 98 = .ok (.iload_n 3, 1) := by decide +kernel
theorem dX5_back_99 : decode cX5_back 99 = .ok (.iadd, 1) := by decide +kernel
theorem dX5_back_100 : decode cX5_back 100 = .ok (.iaload, 1) := by decide +kernel
theorem dX5_back_101 : decode cX5_back 101 = .ok (.if_icmp .ge 30, 3) := by decide +kernel
theorem dX5_back_104 : decode cX5_back 104 = .ok (.aload_n 0, 1) := by decide +kernel
theorem dX5_back_105 : decode cX5_back 105 = .ok (.iload_n 3, 1) := by decide +kernel
theorem dX5_back_106 : decode cX5_back 106 = .ok (.aload_n 0, 1) := by decide +kernel
theorem dX5_back_107 : decode cX5_back 107 = .ok (.getfield 57, 3) := by decide +kernel
theorem dX5_back_110 : decode cX5_back 110 = .ok (.bipush 80, 2) := by decide +kernel
theorem dX5_back_112 : decode cX5_back 112 = .ok (.iconst 4, 1) := by decide +kernel
theorem dX5_back_113 : decode cX5_back 113 = .ok (.iload_n 2, 1) := by decide +kernel
theorem dX5_back_114 : decode cX5_back 114 = .ok (.imul, 1) := by decide +kernel
theorem dX5_back_115 : decode cX5_back 115 = .ok (.iload_n 3, 1) := by decide +kernel
theorem dX5_back_116 : decode cX5_back 116 = .ok (.iadd, 1) := by decide +kernel
theorem dX5_back_117 : decode cX5_back 117 = .ok (.imul, 1) := by decide +kernel
theorem dX5_back_118 : decode cX5_back 118 = .ok (.iload 4, 2) := by decide +kernel
theorem dX5_back_120 : decode cX5_back 120 = .ok (.iadd, 1) := by decide +kernel
theorem dX5_back_121 : decode cX5_back 121 = .ok (.iaload, 1) := by decide +kernel
theorem dX5_back_122 : decode cX5_back 122 = .ok (.invokevirtual 146, 3) := by decide +kernel
theorem dX5_back_125 : decode cX5_back 125 = .ok (.iinc 4 1, 3) := by decide +kernel
theorem dX5_back_128 : decode cX5_back 128 = .ok (.goto (-39), 3) := by decide +kernel
theorem dX5_back_131 : decode cX5_back 131 = .ok (.iinc 3 1, 3) := by decide +kernel
theorem dX5_back_134 : decode cX5_back 134 = .ok (.goto (-63), 3) := by decide +kernel
theorem dX5_back_137 : decode cX5_back 137 = .ok (.aload_n 0, 1) := by decide +kernel
theorem dX5_back_138 : decode cX5_back 138 = .ok (.getfield 42, 3) := by decide +kernel
theorem dX5_back_141 : decode cX5_back 141 = .ok (.iload_n 2, 1) := by decide +kernel
theorem dX5_back_142 : decode cX5_back 142 = .ok (.iaload, 1) := by decide +kernel
theorem dX5_back_143 : decode cX5_back 143 = .ok (.ireturn, 1) := by decide +kernel
theorem dX5_read_0 : decode cX5_read 0 = .ok (.bipush 32, 2) := by decide +kernel
theorem dX5_read_2 : decode cX5_read 2 = .ok (.bipush 120, 2) := by decide +kernel
theorem dX5_read_4 : decode cX5_read 4 = .ok (.iload_n 1, 1) := by decide +kernel
theorem dX5_read_5 : decode cX5_read 5 = .ok (.imul, 1) := by decide +kernel
theorem dX5_read_6 : decode cX5_read 6 = .ok (.iload_n 2, 1) := by decide +kernel
theorem dX5_read_7 : decode cX5_read 7 = .ok (.iadd, 1) := by decide +kernel
theorem dX5_read_8 : decode cX5_read 8 = .ok (.imul, 1) := by decide +kernel
theorem dX5_read_9 : decode cX5_read 9 = .ok (.istore_n 3, 1) := by decide +kernel
theorem dX5_read_10 : decode cX5_read 10 = .ok (.aload_n 0, 1) := by decide +kernel
theorem dX5_read_11 : decode cX5_read 11 = .ok (.iload_n 1, 1) := by decide +kernel
theorem dX5_read_12 : decode cX5_read 12 = .ok (.iload_n 2, 1) := by decide +kernel
theorem dX5_read_13 : decode cX5_read 13 = .ok (.invokevirtual 93, 3) := by decide +kernel
theorem dX5_read_16 : decode cX5_read 16 = .ok (.ifCond .ne 56, 3) := by decide +kernel
theorem dX5_read_19 : decode cX5_read 19 = .ok (.aload_n 0, 1) := by decide +kernel
theorem dX5_read_20 : decode cX5_read 20 = .ok (.getfield 36, 3) := by decide +kernel
theorem dX5_read_23 : decode cX5_read 23 = .ok (.bipush 120, 2) := by decide +kernel
theorem dX5_read_25 : decode cX5_read 25 = .ok (.iload_n 1, 1) := by decide +kernel
theorem dX5_read_26 : decode cX5_read 26 = .ok (.imul, 1) := by decide +kernel
theorem dX5_read_27 : decode cX5_read 27 = .ok (.iload_n 2, 1) := by decide +kernel
theorem dX5_read_28 : decode cX5_read 28 = .ok (.iadd, 1) := by decide +kernel
theorem dX5_read_29 : decode cX5_read 29 = .ok (.iconst 1, 1) := by decide +kernel
theorem dX5_read_30 : decode cX5_read 30 = .ok (.bastore, 1) := by decide +kernel
theorem dX5_read_31 : decode cX5_read 31 = .ok (.iconst 0, 1) := by decide +kernel
theorem dX5_read_32 : decode cX5_read 32 = .ok (.istore 4, 2) := by decide +kernel
theorem dX5_read_34 : decode cX5_read 34 = .ok (.iload 4, 2) := by decide +kernel
theorem dX5_read_36 : decode cX5_read 36 = .ok (.aload_n 0, 1) := by decide +kernel
theorem dX5_read_37 : decode cX5_read 37 = .ok (.getfield 23, 3) := by decide +kernel
theorem dX5_read_40 : decode cX5_read 40 = .ok (.iload_n 2, 1) := by decide +kernel
theorem dX5_read_41 : decode cX5_read 41 = .ok (.iaload, 1) := by decide +kernel
theorem dX5_read_42 : decode cX5_read 42 = .ok (.if_icmp .ge 30, 3) := by decide +kernel
theorem dX5_read_45 : decode cX5_read 45 = .ok (.aload_n 0, 1) := by decide +kernel
theorem dX5_read_46 : decode cX5_read 46 = .ok (.getfield 39, 3) := by decide +kernel
theorem dX5_read_49 : decode cX5_read 49 = .ok (.iload_n 3, 1) := by decide +kernel
theorem dX5_read_50 : decode cX5_read 50 = .ok (.iload 4, 2) := by decide +kernel
theorem dX5_read_52 : decode cX5_read 52 = .ok (.iadd, 1) := by decide +kernel
theorem dX5_read_53 : decode cX5_read 53 = .ok (.aload_n 0, 1) := by decide +kernel
theorem dX5_read_54 : decode cX5_read 54 = .ok (.getfield 33, 3) := by decide +kernel
theorem dX5_read_57 : decode cX5_read 57 = .ok (.bipush 32, 2) := by decide +kernel
theorem dX5_read_59 : decode cX5_read 59 = .ok (.iload_n 2, 1) := by decide +kernel
theorem dX5_read_60 : decode cX5_read 60 = .ok (.imul, 1) := by decide +kernel
theorem dX5_read_61 : decode cX5_read 61 = .ok (.iload 4, 2) := by decide +kernel
theorem dX5_read_63 : decode cX5_read 63 = .ok (.iadd, 1) := by decide +kernel
theorem dX5_read_64 : decode cX5_read 64 = .ok (.iaload, 1) := by decide +kernel
theorem dX5_read_65 : decode cX5_read 65 = .ok (.iastore, 1) := by decide +kernel
theorem dX5_read_66 : decode cX5_read 66 = .ok (.iinc 4 1, 3) := by decide +kernel
theorem dX5_read_69 : decode cX5_read 69 = .ok (.goto (-35), 3) := by decide +kernel
theorem dX5_read_72 : decode cX5_read 72 = .ok (.iconst 0, 1) := by decide +kernel
theorem dX5_read_73 : decode cX5_read 73 = .ok (.istore 4, 2) := by decide +kernel
theorem dX5_read_75 : decode cX5_read 75 = .ok (.iload 4, 2) := by decide +kernel
theorem dX5_read_77 : decode cX5_read 77 = .ok (.aload_n 0, 1) := by decide +kernel
theorem dX5_read_78 : decode cX5_read 78 = .ok (.getfield 23, 3) := by decide +kernel
theorem dX5_read_81 : decode cX5_read 81 = .ok (.iload_n 2, 1) := by decide +kernel
theorem dX5_read_82 : decode cX5_read 82 = .ok (.iaload, 1) := by decide +kernel
theorem dX5_read_83 : decode cX5_read 83 = .ok (.if_icmp .ge 38, 3) := by decide +kernel
theorem dX5_read_86 : decode cX5_read 86 = .ok (.aload_n 0, 1) := by decide +kernel
theorem dX5_read_87 : decode cX5_read 87 = .ok (.getfield 17, 3) := by decide +kernel
theorem dX5_read_90 : decode cX5_read 90 = .ok (.sipush 300, 3) := by decide +kernel
theorem dX5_read_93 : decode cX5_read 93 = .ok (.iload_n 1, 1) := by decide +kernel
theorem dX5_read_94 : decode cX5_read 94 = .ok (.imul, 1) := by decide +kernel
theorem dX5_read_95 : decode cX5_read 95 = .ok (.aload_n 0, 1) := by decide +kernel
theorem dX5_read_96 : decode cX5_read 96 = .ok (.getfield 13, 3) := by decide +kernel
theorem dX5_read_99 : decode cX5_read 99 = .ok (.iload_n 1, 1) := by decide +kernel
theorem dX5_read_100 : decode cX5_read 100 = .ok (.iaload, 1) := by decide +kernel
theorem dX5_read_101 : decode cX5_read 101 = .ok (.iadd, 1) := by decide +kernel
theorem dX5_read_102 : decode cX5_read 102 = .ok (.iload 4, 2) := by decide +kernel
theorem dX5_read_104 : decode cX5_read 104 = .ok (.iadd, 1) := by decide +kernel
theorem dX5_read_105 : decode cX5_read 105 = .ok (.aload_n 0, 1) := by decide +kernel
theorem dX5_read_106 : decode cX5_read 106 = .ok (.getfield 39, 3) := by decide +kernel
theorem dX5_read_109 : decode cX5_read 109 = .ok (.iload_n 3, 1) := by decide +kernel
theorem dX5_read_110 : decode cX5_read 110 = .ok (.iload 4, 2) := by decide +kernel
theorem dX5_read_112 : decode cX5_read 112 = .ok (.iadd, 1) := by decide +kernel
theorem dX5_read_113 : decode cX5_read 113 = .ok (.iaload, 1) := by decide +kernel
theorem dX5_read_114 : decode cX5_read 114 = .ok (.iastore, 1) := by decide +kernel
theorem dX5_read_115 : decode cX5_read 115 = .ok (.iinc 4 1, 3) := by decide +kernel
theorem dX5_read_118 : decode cX5_read 118 = .ok (.goto (-43), 3) := by decide +kernel
theorem dX5_read_121 : decode cX5_read 121 = .ok (.aload_n 0, 1) := by decide +kernel
theorem dX5_read_122 : decode cX5_read 122 = .ok (.getfield 13, 3) := by decide +kernel
theorem dX5_read_125 : decode cX5_read 125 = .ok (.iload_n 1, 1) := by decide +kernel
theorem dX5_read_126 : decode cX5_read 126 = .ok (.dup2, 1) := by decide +kernel
theorem dX5_read_127 : decode cX5_read 127 = .ok (.iaload, 1) := by decide +kernel
theorem dX5_read_128 : decode cX5_read 128 = .ok (.aload_n 0, 1) := by decide +kernel
theorem dX5_read_129 : decode cX5_read 129 = .ok (.getfield 23, 3) := by decide +kernel
theorem dX5_read_132 : decode cX5_read 132 = .ok (.iload_n 2, 1) := by decide +kernel
theorem dX5_read_133 : decode cX5_read 133 = .ok (.iaload, 1) := by decide +kernel
theorem dX5_read_134 : decode cX5_read 134 = .ok (.iadd, 1) := by decide +kernel
theorem dX5_read_135 : decode cX5_read 135 = .ok (.iastore, 1) := by decide +kernel
theorem dX5_read_136 : decode cX5_read 136 = .ok (.return_, 1) := by decide +kernel
theorem dX5_markTold_0 : decode cX5_markTold 0 = .ok (.aload_n 0, 1) := by decide +kernel
theorem dX5_markTold_1 : decode cX5_markTold 1 = .ok (.iload_n 1, 1) := by decide +kernel
theorem dX5_markTold_2 : decode cX5_markTold 2 = .ok (.invokevirtual 110, 3) := by decide +kernel
theorem dX5_markTold_5 : decode cX5_markTold 5 = .ok (.istore_n 3, 1) := by decide +kernel
theorem dX5_markTold_6 : decode cX5_markTold 6 = .ok (.iload_n 3, 1) := by decide +kernel
theorem dX5_markTold_7 : decode cX5_markTold 7 = .ok (.iconst (-1), 1) := by decide +kernel
theorem dX5_markTold_8 : decode cX5_markTold 8 = .ok (.if_icmp .eq 13, 3) := by decide +kernel
theorem dX5_markTold_11 : decode cX5_markTold 11 = .ok (.iload_n 2, 1) := by decide +kernel
theorem dX5_markTold_12 : decode cX5_markTold 12 = .ok (.iconst 0, 1) := by decide +kernel
theorem dX5_markTold_13 : decode cX5_markTold 13 = .ok (.bipush 6, 2) := by decide +kernel
theorem dX5_markTold_15 : decode cX5_markTold 15 = .ok (.invokestatic 72, 3) := by decide +kernel
theorem dX5_markTold_18 : decode cX5_markTold 18 = .ok (.ifCond .ne 6, 3) := by decide +kernel
theorem dX5_markTold_21 : decode cX5_markTold 21 = .ok (.bipush (-2), 2) := by decide +kernel
theorem dX5_markTold_23 : decode cX5_markTold 23 = .ok (.ireturn, 1) := by decide +kernel
theorem dX5_markTold_24 : decode cX5_markTold 24 = .ok (.iconst 0, 1) := by decide +kernel
theorem dX5_markTold_25 : decode cX5_markTold 25 = .ok (.istore 4, 2) := by decide +kernel
theorem dX5_markTold_27 : decode cX5_markTold 27 = .ok (.iconst 0, 1) := by decide +kernel
theorem dX5_markTold_28 : decode cX5_markTold 28 = .ok (.istore 5, 2) := by decide +kernel
theorem dX5_markTold_30 : decode cX5_markTold 30 = .ok (.iload 5, 2) := by decide +kernel
theorem dX5_markTold_32 : decode cX5_markTold 32 = .ok (.aload_n 0, 1) := by decide +kernel
theorem dX5_markTold_33 : decode cX5_markTold 33 = .ok (.getfield 51, 3) := by decide +kernel
theorem dX5_markTold_36 : decode cX5_markTold 36 = .ok (.iload_n 3, 1) := by decide +kernel
theorem dX5_markTold_37 : decode cX5_markTold 37 = .ok (.iaload, 1) := by decide +kernel
theorem dX5_markTold_38 : decode cX5_markTold 38 = .ok (.if_icmp .ge 25, 3) := by decide +kernel
theorem dX5_markTold_41 : decode cX5_markTold 41 = .ok (.iload 4, 2) := by decide +kernel
theorem dX5_markTold_43 : decode cX5_markTold 43 = .ok (.aload_n 0, 1) := by decide +kernel
theorem dX5_markTold_44 : decode cX5_markTold 44 = .ok (.getfield 54, 3) := by decide +kernel
theorem dX5_markTold_47 : decode cX5_markTold 47 = .ok (.iconst 4, 1) := by decide +kernel
theorem dX5_markTold_48 : decode cX5_markTold 48 = .ok (.iload_n 3, 1) := by decide +kernel
theorem dX5_markTold_49 : decode cX5_markTold 49 = .ok (.imul, 1) := by decide +kernel
theorem dX5_markTold_50 : decode cX5_markTold 50 = .ok (.iload 5, 2) := by decide +kernel
theorem dX5_markTold_52 : decode cX5_markTold 52 = .ok (.iadd, 1) := by decide +kernel
theorem dX5_markTold_53 : decode cX5_markTold 53 = .ok (.iaload, 1) := by decide +kernel
end
section
theorem dX5_markTold_54 : decode cX5_markTold 54 = .ok (.iadd, 1) := by decide +kernel
theorem dX5_markTold_55 : decode cX5_markTold 55 = .ok (.istore 4, 2) := by decide +kernel
theorem dX5_markTold_57 : decode cX5_markTold 57 = .ok (.iinc 5 1, 3) := by decide +kernel
theorem dX5_markTold_60 : decode cX5_markTold 60 = .ok (.goto (-30), 3) := by decide +kernel
theorem dX5_markTold_63 : decode cX5_markTold 63 = .ok (.iload_n 2, 1) := by decide +kernel
theorem dX5_markTold_64 : decode cX5_markTold 64 = .ok (.ifCond .ne 20, 3) := by decide +kernel
theorem dX5_markTold_67 : decode cX5_markTold 67 = .ok (.aload_n 0, 1) := by decide +kernel
theorem dX5_markTold_68 : decode cX5_markTold 68 = .ok (.getfield 45, 3) := by decide +kernel
theorem dX5_markTold_71 : decode cX5_markTold 71 = .ok (.iload_n 3, 1) := by decide +kernel
theorem dX5_markTold_72 : decode cX5_markTold 72 = .ok (.baload, 1) := by decide +kernel
theorem dX5_markTold_73 : decode cX5_markTold 73 = .ok (.ifCond .eq 7, 3) := by decide +kernel
theorem dX5_markTold_76 : decode cX5_markTold 76 = .ok (.iconst 1, 1) := by decide +kernel
theorem dX5_markTold_77 : decode cX5_markTold 77 = .ok (.goto 79, 3) := by decide +kernel
theorem dX5_markTold_80 : decode cX5_markTold 80 = .ok (.iconst 0, 1) := by decide +kernel
theorem dX5_markTold_81 : decode cX5_markTold 81 = .ok (.goto 75, 3) := by decide +kernel
theorem dX5_markTold_84 : decode cX5_markTold 84 = .ok (.iload_n 2, 1) := by decide +kernel
theorem dX5_markTold_85 : decode cX5_markTold 85 = .ok (.iconst 1, 1) := by decide +kernel
theorem dX5_markTold_86 : decode cX5_markTold 86 = .ok (.if_icmp .ne 12, 3) := by decide +kernel
theorem dX5_markTold_89 : decode cX5_markTold 89 = .ok (.aload_n 0, 1) := by decide +kernel
theorem dX5_markTold_90 : decode cX5_markTold 90 = .ok (.getfield 48, 3) := by decide +kernel
theorem dX5_markTold_93 : decode cX5_markTold 93 = .ok (.iload_n 3, 1) := by decide +kernel
theorem dX5_markTold_94 : decode cX5_markTold 94 = .ok (.iaload, 1) := by decide +kernel
theorem dX5_markTold_95 : decode cX5_markTold 95 = .ok (.goto 61, 3) := by decide +kernel
theorem dX5_markTold_98 : decode cX5_markTold 98 = .ok (.iload_n 2, 1) := by decide +kernel
theorem dX5_markTold_99 : decode cX5_markTold 99 = .ok (.iconst 2, 1) := by decide +kernel
theorem dX5_markTold_100 : decode cX5_markTold 100 = .ok (.if_icmp .ne 12, 3) := by decide +kernel
theorem dX5_markTold_103 : decode cX5_markTold 103 = .ok (.aload_n 0, 1) := by decide +kernel
theorem dX5_markTold_104 : decode cX5_markTold 104 = .ok (.getfield 51, 3) := by decide +kernel
theorem dX5_markTold_107 : decode cX5_markTold 107 = .ok (.iload_n 3, 1) := by decide +kernel
theorem dX5_markTold_108 : decode cX5_markTold 108 = .ok (.iaload, 1) := by decide +kernel
theorem dX5_markTold_109 : decode cX5_markTold 109 = .ok (.goto 47, 3) := by decide +kernel
theorem dX5_markTold_112 : decode cX5_markTold 112 = .ok (.iload_n 2, 1) := by decide +kernel
theorem dX5_markTold_113 : decode cX5_markTold 113 = .ok (.iconst 3, 1) := by decide +kernel
theorem dX5_markTold_114 : decode cX5_markTold 114 = .ok (.if_icmp .ne 8, 3) := by decide +kernel
theorem dX5_markTold_117 : decode cX5_markTold 117 = .ok (.iload 4, 2) := by decide +kernel
theorem dX5_markTold_119 : decode cX5_markTold 119 = .ok (.goto 37, 3) := by decide +kernel
theorem dX5_markTold_122 : decode cX5_markTold 122 = .ok (.iload_n 2, 1) := by decide +kernel
theorem dX5_markTold_123 : decode cX5_markTold 123 = .ok (.iconst 4, 1) := by decide +kernel
theorem dX5_markTold_124 : decode cX5_markTold 124 = .ok (.if_icmp .ne 12, 3) := by decide +kernel
theorem dX5_markTold_127 : decode cX5_markTold 127 = .ok (.aload_n 0, 1) := by decide +kernel
theorem dX5_markTold_128 : decode cX5_markTold 128 = .ok (.getfield 60, 3) := by decide +kernel
theorem dX5_markTold_131 : decode cX5_markTold 131 = .ok (.iload_n 3, 1) := by decide +kernel
theorem dX5_markTold_132 : decode cX5_markTold 132 = .ok (.iaload, 1) := by decide +kernel
theorem dX5_markTold_133 : decode cX5_markTold 133 = .ok (.goto 23, 3) := by decide +kernel
theorem dX5_markTold_136 : decode cX5_markTold 136 = .ok (.iload_n 2, 1) := by decide +kernel
theorem dX5_markTold_137 : decode cX5_markTold 137 = .ok (.iconst 5, 1) := by decide +kernel
theorem dX5_markTold_138 : decode cX5_markTold 138 = .ok (.if_icmp .ne 12, 3) := by decide +kernel
theorem dX5_markTold_141 : decode cX5_markTold 141 = .ok (.aload_n 0, 1) := by decide +kernel
theorem dX5_markTold_142 : decode cX5_markTold 142 = .ok (.getfield 63, 3) := by decide +kernel
theorem dX5_markTold_145 : decode cX5_markTold 145 = .ok (.iload_n 3, 1) := by decide +kernel
theorem dX5_markTold_146 : decode cX5_markTold 146 = .ok (.iaload, 1) := by decide +kernel
theorem dX5_markTold_147 : decode cX5_markTold 147 = .ok (.goto 9, 3) := by decide +kernel
theorem dX5_markTold_150 : decode cX5_markTold 150 = .ok (.aload_n 0, 1) := by decide +kernel
theorem dX5_markTold_151 : decode cX5_markTold 151 = .ok (.getfield 66, 3) := by decide +kernel
theorem dX5_markTold_154 : decode cX5_markTold 154 = .ok (.iload_n 3, 1) := by decide +kernel
theorem dX5_markTold_155 : decode cX5_markTold 155 = .ok (.iaload, 1) := by decide +kernel
theorem dX5_markTold_156 : decode cX5_markTold 156 = .ok (.ireturn, 1) := by decide +kernel
theorem dX5_list_0 : decode cX5_list 0 = .ok (.aload_n 0, 1) := by decide +kernel
theorem dX5_list_1 : decode cX5_list 1 = .ok (.iload_n 1, 1) := by decide +kernel
theorem dX5_list_2 : decode cX5_list 2 = .ok (.invokevirtual 137, 3) := by decide +kernel
theorem dX5_list_5 : decode cX5_list 5 = .ok (.istore 4, 2) := by decide +kernel
theorem dX5_list_7 : decode cX5_list 7 = .ok (.iload 4, 2) := by decide +kernel
theorem dX5_list_9 : decode cX5_list 9 = .ok (.iconst (-1), 1) := by decide +kernel
theorem dX5_list_10 : decode cX5_list 10 = .ok (.if_icmp .eq 24, 3) := by decide +kernel
theorem dX5_list_13 : decode cX5_list 13 = .ok (.iload_n 2, 1) := by decide +kernel
theorem dX5_list_14 : decode cX5_list 14 = .ok (.iconst 0, 1) := by decide +kernel
theorem dX5_list_15 : decode cX5_list 15 = .ok (.aload_n 0, 1) := by decide +kernel
theorem dX5_list_16 : decode cX5_list 16 = .ok (.getfield 51, 3) := by decide +kernel
theorem dX5_list_19 : decode cX5_list 19 = .ok (.iload 4, 2) := by decide +kernel
theorem dX5_list_21 : decode cX5_list 21 = .ok (.iaload, 1) := by decide +kernel
theorem dX5_list_22 : decode cX5_list 22 = .ok (.iconst 1, 1) := by decide +kernel
theorem dX5_list_23 : decode cX5_list 23 = .ok (.isub, 1) := by decide +kernel
theorem dX5_list_24 : decode cX5_list 24 = .ok (.invokestatic 72, 3) := by decide +kernel
theorem dX5_list_27 : decode cX5_list 27 = .ok (.ifCond .eq 7, 3) := by decide +kernel
theorem dX5_list_30 : decode cX5_list 30 = .ok (.iload_n 3, 1) := by decide +kernel
theorem dX5_list_31 : decode cX5_list 31 = .ok (.ifCond .ge 6, 3) := by decide +kernel
theorem dX5_list_34 : decode cX5_list 34 = .ok (.bipush (-2), 2) := by decide +kernel
theorem dX5_list_36 : decode cX5_list 36 = .ok (.ireturn, 1) := by decide +kernel
theorem dX5_list_37 : decode cX5_list 37 = .ok (.iload_n 3, 1) := by decide +kernel
theorem dX5_list_38 : decode cX5_list 38 = .ok (.aload_n 0, 1) := by decide +kernel
theorem dX5_list_39 : decode cX5_list 39 = .ok (.getfield 54, 3) := by decide +kernel
theorem dX5_list_42 : decode cX5_list 42 = .ok (.iconst 4, 1) := by decide +kernel
theorem dX5_list_43 : decode cX5_list 43 = .ok (.iload 4, 2) := by decide +kernel
theorem dX5_list_45 : decode cX5_list 45 = .ok (.imul, 1) := by decide +kernel
theorem dX5_list_46 : decode cX5_list 46 = .ok (.iload_n 2, 1) := by decide +kernel
theorem dX5_list_47 : decode cX5_list 47 = .ok (.iadd, 1) := by decide +kernel
theorem dX5_list_48 : decode cX5_list 48 = .ok (.iaload, 1) := by decide +kernel
theorem dX5_list_49 : decode cX5_list 49 = .ok (.if_icmp .ge 22, 3) := by decide +kernel
theorem dX5_list_52 : decode cX5_list 52 = .ok (.aload_n 0, 1) := by decide +kernel
theorem dX5_list_53 : decode cX5_list 53 = .ok (.getfield 57, 3) := by decide +kernel
theorem dX5_list_56 : decode cX5_list 56 = .ok (.bipush 80, 2) := by decide +kernel
theorem dX5_list_58 : decode cX5_list 58 = .ok (.iconst 4, 1) := by decide +kernel
theorem dX5_list_59 : decode cX5_list 59 = .ok (.iload 4, 2) := by decide +kernel
theorem dX5_list_61 : decode cX5_list 61 = .ok (.imul, 1) := by decide +kernel
theorem dX5_list_62 : decode cX5_list 62 = .ok (.iload_n 2, 1) := by decide +kernel
theorem dX5_list_63 : decode cX5_list 63 = .ok (.iadd, 1) := by decide +kernel
theorem dX5_list_64 : decode cX5_list 64 = .ok (.imul, 1) := by decide +kernel
theorem dX5_list_65 : decode cX5_list 65 = .ok (.iload_n 3, 1) := by decide +kernel
theorem dX5_list_66 : decode cX5_list 66 = .ok (.iadd, 1) := by decide +kernel
theorem dX5_list_67 : decode cX5_list 67 = .ok (.iaload, 1) := by decide +kernel
theorem dX5_list_68 : decode cX5_list 68 = .ok (.goto 4, 3) := by decide +kernel
theorem dX5_list_71 : decode cX5_list 71 = .ok (.iconst (-1), 1) := by decide +kernel
theorem dX5_list_72 : decode cX5_list 72 = .ok (.ireturn, 1) := by decide +kernel
theorem dX5_same_0 : decode cX5_same 0 = .ok (.aload_n 0, 1) := by decide +kernel
theorem dX5_same_1 : decode cX5_same 1 = .ok (.iload_n 1, 1) := by decide +kernel
theorem dX5_same_2 : decode cX5_same 2 = .ok (.invokevirtual 137, 3) := by decide +kernel
theorem dX5_same_5 : decode cX5_same 5 = .ok (.istore_n 3, 1) := by decide +kernel
theorem dX5_same_6 : decode cX5_same 6 = .ok (.aload_n 0, 1) := by decide +kernel
theorem dX5_same_7 : decode cX5_same 7 = .ok (.iload_n 2, 1) := by decide +kernel
theorem dX5_same_8 : decode cX5_same 8 = .ok (.invokevirtual 137, 3) := by decide +kernel
theorem dX5_same_11 : decode cX5_same 11 = .ok (.istore 4, 2) := by decide +kernel
theorem dX5_same_13 : decode cX5_same 13 = .ok (.iload_n 3, 1) := by decide +kernel
theorem dX5_same_14 : decode cX5_same 14 = .ok (.iconst (-1), 1) := by decide +kernel
theorem dX5_same_15 : decode cX5_same 15 = .ok (.if_icmp .eq 29, 3) := by decide +kernel
theorem dX5_same_18 : decode cX5_same 18 = .ok (.iload 4, 2) := by decide +kernel
theorem dX5_same_20 : decode cX5_same 20 = .ok (.iconst (-1), 1) := by decide +kernel
theorem dX5_same_21 : decode cX5_same 21 = .ok (.if_icmp .eq 23, 3) := by decide +kernel
theorem dX5_same_24 : decode cX5_same 24 = .ok (.aload_n 0, 1) := by decide +kernel
theorem dX5_same_25 : decode cX5_same 25 = .ok (.getfield 51, 3) := by decide +kernel
theorem dX5_same_28 : decode cX5_same 28 = .ok (.iload_n 3, 1) := by decide +kernel
theorem dX5_same_29 : decode cX5_same 29 = .ok (.iaload, 1) := by decide +kernel
theorem dX5_same_30 : decode cX5_same 30 = .ok (.aload_n 0, 1) := by decide +kernel
theorem dX5_same_31 : decode cX5_same 31 = .ok (.getfield 51, 3) := by decide +kernel
theorem dX5_same_34 : decode cX5_same 34 = .ok (.iload 4, 2) := by decide +kernel
theorem dX5_same_36 : decode cX5_same 36 = .ok (.iaload, 1) := by decide +kernel
theorem dX5_same_37 : decode cX5_same 37 = .ok (.if_icmp .ne 7, 3) := by decide +kernel
theorem dX5_same_40 : decode cX5_same 40 = .ok (.iconst 1, 1) := by decide +kernel
theorem dX5_same_41 : decode cX5_same 41 = .ok (.goto 4, 3) := by decide +kernel
theorem dX5_same_44 : decode cX5_same 44 = .ok (.iconst 0, 1) := by decide +kernel
theorem dX5_same_45 : decode cX5_same 45 = .ok (.istore 5, 2) := by decide +kernel
theorem dX5_same_47 : decode cX5_same 47 = .ok (.iconst 0, 1) := by decide +kernel
theorem dX5_same_48 : decode cX5_same 48 = .ok (.istore 6, 2) := by decide +kernel
theorem dX5_same_50 : decode cX5_same 50 = .ok (.iload 5, 2) := by decide +kernel
theorem dX5_same_52 : decode cX5_same 52 = .ok (.ifCond .eq 128, 3) := by decide +kernel
theorem dX5_same_55 : decode cX5_same 55 = .ok (.iload 6, 2) := by decide +kernel
theorem dX5_same_57 : decode cX5_same 57 = .ok (.aload_n 0, 1) := by decide +kernel
theorem dX5_same_58 : decode cX5_same 58 = .ok (.getfield 51, 3) := by decide +kernel
theorem dX5_same_61 : decode cX5_same 61 = .ok (.iload_n 3, 1) := by decide +kernel
theorem dX5_same_62 : decode cX5_same 62 = .ok (.iaload, 1) := by decide +kernel
theorem dX5_same_63 : decode cX5_same 63 = .ok (.if_icmp .ge 117, 3) := by decide +kernel
theorem dX5_same_66 : decode cX5_same 66 = .ok (.aload_n 0, 1) := by decide +kernel
theorem dX5_same_67 : decode cX5_same 67 = .ok (.getfield 54, 3) := by decide +kernel
theorem dX5_same_70 : decode cX5_same 70 = .ok (.iconst 4, 1) := by decide +kernel
theorem dX5_same_71 : decode cX5_same 71 = .ok (.iload_n 3, 1) := by decide +kernel
theorem dX5_same_72 : decode cX5_same 72 = .ok (.imul, 1) := by decide +kernel
theorem dX5_same_73 : decode cX5_same 73 = .ok (.iload 6, 2) := by decide +kernel
theorem dX5_same_75 : decode cX5_same 75 = .ok (.iadd, 1) := by decide +kernel
theorem dX5_same_76 : decode cX5_same 76 = .ok (.iaload, 1) := by decide +kernel
theorem dX5_same_77 : decode cX5_same 77 = .ok (.aload_n 0, 1) := by decide +kernel
theorem dX5_same_78 : decode cX5_same 78 = .ok (.getfield 54, 3) := by decide +kernel
theorem dX5_same_81 : decode cX5_same 81 = .ok (.iconst 4, 1) := by decide +kernel
theorem dX5_same_82 : decode cX5_same 82 = .ok (.iload 4, 2) := by decide +kernel
theorem dX5_same_84 : decode cX5_same 84 = .ok (.imul, 1) := by decide +kernel
theorem dX5_same_85 : decode cX5_same 85 = .ok (.iload 6, 2) := by decide +kernel
theorem dX5_same_87 : decode cX5_same 87 = .ok (.iadd, 1) := by decide +kernel
theorem dX5_same_88 : decode cX5_same 88 = .ok (.iaload, 1) := by decide +kernel
theorem dX5_same_89 : decode cX5_same 89 = .ok (.if_icmp .ne 7, 3) := by decide +kernel
theorem dX5_same_92 : decode cX5_same 92 = .ok (.iconst 1, 1) := by decide +kernel
theorem dX5_same_93 : decode cX5_same 93 = .ok (.goto 4, 3) := by decide +kernel
theorem dX5_same_96 : decode cX5_same 96 = .ok (.iconst 0, 1) := by decide +kernel
theorem dX5_same_97 : decode cX5_same 97 = .ok (.istore 5, 2) := by decide +kernel
theorem dX5_same_99 : decode cX5_same 99 = .ok (.iconst 0, 1) := by decide +kernel
theorem dX5_same_100 : decode cX5_same 100 = .ok (.istore 7, 2) := by decide +kernel
theorem dX5_same_102 : decode cX5_same 102 = .ok (.iload 5, 2) := by decide +kernel
theorem dX5_same_104 : decode cX5_same 104 = .ok (.ifCond .eq 70, 3) := by decide +kernel
theorem dX5_same_107 : decode cX5_same 107 = .ok (.iload 7, 2) := by decide +kernel
theorem dX5_same_109 : decode cX5_same 109 = .ok (.aload_n 0, 1) := by decide +kernel
theorem dX5_same_110 : decode cX5_same 110 = .ok (.getfield 54, 3) := by decide +kernel
theorem dX5_same_113 : decode cX5_same 113 = .ok (.iconst 4, 1) := by decide +kernel
theorem dX5_same_114 : decode cX5_same 114 = .ok (.iload_n 3, 1) := by decide +kernel
theorem dX5_same_115 : decode cX5_same 115 = .ok (.imul, 1) := by decide +kernel
theorem dX5_same_116 : decode cX5_same 116 = .ok (.iload 6, 2) := by decide +kernel
theorem dX5_same_118 : decode cX5_same 118 = .ok (.iadd, 1) := by decide +kernel
theorem dX5_same_119 : decode cX5_same 119 = .ok (.iaload, 1) := by decide +kernel
theorem dX5_same_120 : decode cX5_same 120 = .ok (.if_icmp .ge 54, 3) := by decide +kernel
theorem dX5_same_123 : decode cX5_same 123 = .ok (.aload_n 0, 1) := by decide +kernel
theorem dX5_same_124 : decode cX5_same 124 = .ok (.getfield 57, 3) := by decide +kernel
theorem dX5_same_127 : decode cX5_same 127 = .ok (.bipush 80, 2) := by decide +kernel
theorem dX5_same_129 : decode cX5_same 129 = .ok (.iconst 4, 1) := by decide +kernel
theorem dX5_same_130 : decode cX5_same 130 = .ok (.iload_n 3, 1) := by decide +kernel
theorem dX5_same_131 : decode cX5_same 131 = .ok (.imul, 1) := by decide +kernel
theorem dX5_same_132 : decode cX5_same 132 = .ok (.iload 6, 2) := by decide +kernel
theorem dX5_same_134 : decode cX5_same 134 = .ok (.iadd, 1) := by decide +kernel
theorem dX5_same_135 : decode cX5_same 135 = .ok (.imul, 1) := by decide +kernel
theorem dX5_same_136 : decode cX5_same 136 = .ok (.iload 7, 2) := by decide +kernel
theorem dX5_same_138 : decode cX5_same 138 = .ok (.iadd, 1) := by decide +kernel
theorem dX5_same_139 : decode cX5_same 139 = .ok (.iaload, 1) := by decide +kernel
theorem dX5_same_140 : decode cX5_same 140 = .ok (.aload_n 0, 1) := by decide +kernel
theorem dX5_same_141 : decode cX5_same 141 = .ok (.getfield 57, 3) := by decide +kernel
theorem dX5_same_144 : decode cX5_same 144 = .ok (.bipush 80, 2) := by decide +kernel
theorem dX5_same_146 : decode cX5_same 146 = .ok (.iconst 4, 1) := by decide +kernel
theorem dX5_same_147 : decode cX5_same 147 = .ok (.iload 4, 2) := by decide +kernel
theorem dX5_same_149 : decode cX5_same 149 = .ok (.imul, 1) := by decide +kernel
theorem dX5_same_150 : decode cX5_same 150 = .ok (.iload 6, 2) := by decide +kernel
theorem dX5_same_152 : decode cX5_same 152 = .ok (.iadd, 1) := by decide +kernel
theorem dX5_same_153 : decode cX5_same 153 = .ok (.imul, 1) := by decide +kernel
theorem dX5_same_154 : decode cX5_same 154 = .ok (.iload 7, 2) := by decide +kernel
theorem dX5_same_156 : decode cX5_same 156 = .ok (.iadd, 1) := by decide +kernel
theorem dX5_same_157 : decode cX5_same 157 = .ok (.iaload, 1) := by decide +kernel
theorem dX5_same_158 : decode cX5_same 158 = .ok (.if_icmp .ne 7, 3) := by decide +kernel
theorem dX5_same_161 : decode cX5_same 161 = .ok (.iconst 1, 1) := by decide +kernel
theorem dX5_same_162 : decode cX5_same 162 = .ok (.goto 4, 3) := by decide +kernel
theorem dX5_same_165 : decode cX5_same 165 = .ok (.iconst 0, 1) := by decide +kernel
theorem dX5_same_166 : decode cX5_same 166 = .ok (.istore 5, 2) := by decide +kernel
theorem dX5_same_168 : decode cX5_same 168 = .ok (.iinc 7 1, 3) := by decide +kernel
theorem dX5_same_171 : decode cX5_same 171 = .ok (.goto (-69), 3) := by decide +kernel
theorem dX5_same_174 : decode cX5_same 174 = .ok (.iinc 6 1, 3) := by decide +kernel
theorem dX5_same_177 : decode cX5_same 177 = .ok (.goto (-127), 3) := by decide +kernel
theorem dX5_same_180 : decode cX5_same 180 = .ok (.iload 5, 2) := by decide +kernel
theorem dX5_same_182 : decode cX5_same 182 = .ok (.ireturn, 1) := by decide +kernel
theorem dX5_told_0 : decode cX5_told 0 = .ok (.iconst 0, 1) := by decide +kernel
theorem dX5_told_1 : decode cX5_told 1 = .ok (.istore_n 2, 1) := by decide +kernel
theorem dX5_told_2 : decode cX5_told 2 = .ok (.iload_n 1, 1) := by decide +kernel
theorem dX5_told_3 : decode cX5_told 3 = .ok (.tableswitch 247 0 8 #[49, 54, 97, 102, 135, 140, 145, 186, 220], 49) := by decide +kernel
theorem dX5_told_52 : decode cX5_told 52 = .ok (.aload_n 0, 1) := by decide +kernel
theorem dX5_told_53 : decode cX5_told 53 = .ok (.getfield 7, 3) := by decide +kernel
theorem dX5_told_56 : decode cX5_told 56 = .ok (.ireturn, 1) := by decide +kernel
theorem dX5_told_57 : decode cX5_told 57 = .ok (.iconst 0, 1) := by decide +kernel
theorem dX5_told_58 : decode cX5_told 58 = .ok (.istore_n 3, 1) := by decide +kernel
theorem dX5_told_59 : decode cX5_told 59 = .ok (.iload_n 3, 1) := by decide +kernel
theorem dX5_told_60 : decode cX5_told 60 = .ok (.bipush 12, 2) := by decide +kernel
theorem dX5_told_62 : decode cX5_told 62 = .ok (.if_icmp .ge 36, 3) := by decide +kernel
theorem dX5_told_65 : decode cX5_told 65 = .ok (.iload_n 2, 1) := by decide +kernel
theorem dX5_told_66 : decode cX5_told 66 = .ok (.aload_n 0, 1) := by decide +kernel
theorem dX5_told_67 : decode cX5_told 67 = .ok (.getfield 42, 3) := by decide +kernel
theorem dX5_told_70 : decode cX5_told 70 = .ok (.iload_n 3, 1) := by decide +kernel
theorem dX5_told_71 : decode cX5_told 71 = .ok (.iaload, 1) := by decide +kernel
theorem dX5_told_72 : decode cX5_told 72 = .ok (.iconst (-1), 1) := by decide +kernel
theorem dX5_told_73 : decode cX5_told 73 = .ok (.if_icmp .eq 16, 3) := by decide +kernel
theorem dX5_told_76 : decode cX5_told 76 = .ok (.aload_n 0, 1) := by decide +kernel
theorem dX5_told_77 : decode cX5_told 77 = .ok (.getfield 45, 3) := by decide +kernel
theorem dX5_told_80 : decode cX5_told 80 = .ok (.iload_n 3, 1) := by decide +kernel
theorem dX5_told_81 : decode cX5_told 81 = .ok (.baload, 1) := by decide +kernel
theorem dX5_told_82 : decode cX5_told 82 = .ok (.ifCond .eq 7, 3) := by decide +kernel
theorem dX5_told_85 : decode cX5_told 85 = .ok (.iconst 1, 1) := by decide +kernel
theorem dX5_told_86 : decode cX5_told 86 = .ok (.goto 4, 3) := by decide +kernel
theorem dX5_told_89 : decode cX5_told 89 = .ok (.iconst 0, 1) := by decide +kernel
theorem dX5_told_90 : decode cX5_told 90 = .ok (.iadd, 1) := by decide +kernel
theorem dX5_told_91 : decode cX5_told 91 = .ok (.istore_n 2, 1) := by decide +kernel
theorem dX5_told_92 : decode cX5_told 92 = .ok (.iinc 3 1, 3) := by decide +kernel
theorem dX5_told_95 : decode cX5_told 95 = .ok (.goto (-36), 3) := by decide +kernel
theorem dX5_told_98 : decode cX5_told 98 = .ok (.iload_n 2, 1) := by decide +kernel
theorem dX5_told_99 : decode cX5_told 99 = .ok (.ireturn, 1) := by decide +kernel
theorem dX5_told_100 : decode cX5_told 100 = .ok (.aload_n 0, 1) := by decide +kernel
theorem dX5_told_101 : decode cX5_told 101 = .ok (.invokevirtual 118, 3) := by decide +kernel
theorem dX5_told_104 : decode cX5_told 104 = .ok (.ireturn, 1) := by decide +kernel
theorem dX5_told_105 : decode cX5_told 105 = .ok (.iconst 0, 1) := by decide +kernel
theorem dX5_told_106 : decode cX5_told 106 = .ok (.istore_n 3, 1) := by decide +kernel
theorem dX5_told_107 : decode cX5_told 107 = .ok (.iload_n 3, 1) := by decide +kernel
theorem dX5_told_108 : decode cX5_told 108 = .ok (.bipush 120, 2) := by decide +kernel
theorem dX5_told_110 : decode cX5_told 110 = .ok (.if_icmp .ge 26, 3) := by decide +kernel
theorem dX5_told_113 : decode cX5_told 113 = .ok (.iload_n 2, 1) := by decide +kernel
theorem dX5_told_114 : decode cX5_told 114 = .ok (.aload_n 0, 1) := by decide +kernel
theorem dX5_told_115 : decode cX5_told 115 = .ok (.getfield 23, 3) := by decide +kernel
theorem dX5_told_118 : decode cX5_told 118 = .ok (.iload_n 3, 1) := by decide +kernel
theorem dX5_told_119 : decode cX5_told 119 = .ok (.iaload, 1) := by decide +kernel
theorem dX5_told_120 : decode cX5_told 120 = .ok (.ifCond .le 7, 3) := by decide +kernel
theorem dX5_told_123 : decode cX5_told 123 = .ok (.iconst 1, 1) := by decide +kernel
theorem dX5_told_124 : decode cX5_told 124 = .ok (.goto 4, 3) := by decide +kernel
theorem dX5_told_127 : decode cX5_told 127 = .ok (.iconst 0, 1) := by decide +kernel
theorem dX5_told_128 : decode cX5_told 128 = .ok (.iadd, 1) := by decide +kernel
theorem dX5_told_129 : decode cX5_told 129 = .ok (.istore_n 2, 1) := by decide +kernel
theorem dX5_told_130 : decode cX5_told 130 = .ok (.iinc 3 1, 3) := by decide +kernel
theorem dX5_told_133 : decode cX5_told 133 = .ok (.goto (-26), 3) := by decide +kernel
theorem dX5_told_136 : decode cX5_told 136 = .ok (.iload_n 2, 1) := by decide +kernel
theorem dX5_told_137 : decode cX5_told 137 = .ok (.ireturn, 1) := by decide +kernel
theorem dX5_told_138 : decode cX5_told 138 = .ok (.aload_n 0, 1) := by decide +kernel
theorem dX5_told_139 : decode cX5_told 139 = .ok (.invokevirtual 125, 3) := by decide +kernel
theorem dX5_told_142 : decode cX5_told 142 = .ok (.ireturn, 1) := by decide +kernel
theorem dX5_told_143 : decode cX5_told 143 = .ok (.aload_n 0, 1) := by decide +kernel
theorem dX5_told_144 : decode cX5_told 144 = .ok (.getfield 128, 3) := by decide +kernel
theorem dX5_told_147 : decode cX5_told 147 = .ok (.ireturn, 1) := by decide +kernel
theorem dX5_told_148 : decode cX5_told 148 = .ok (.iconst 0, 1) := by decide +kernel
theorem dX5_told_149 : decode cX5_told 149 = .ok (.istore_n 3, 1) := by decide +kernel
theorem dX5_told_150 : decode cX5_told 150 = .ok (.iload_n 3, 1) := by decide +kernel
theorem dX5_told_151 : decode cX5_told 151 = .ok (.bipush 120, 2) := by decide +kernel
theorem dX5_told_153 : decode cX5_told 153 = .ok (.if_icmp .ge 34, 3) := by decide +kernel
theorem dX5_told_156 : decode cX5_told 156 = .ok (.iload_n 2, 1) := by decide +kernel
theorem dX5_told_157 : decode cX5_told 157 = .ok (.aload_n 0, 1) := by decide +kernel
theorem dX5_told_158 : decode cX5_told 158 = .ok (.getfield 23, 3) := by decide +kernel
theorem dX5_told_161 : decode cX5_told 161 = .ok (.iload_n 3, 1) := by decide +kernel
theorem dX5_told_162 : decode cX5_told 162 = .ok (.iaload, 1) := by decide +kernel
theorem dX5_told_163 : decode cX5_told 163 = .ok (.ifCond .le 15, 3) := by decide +kernel
theorem dX5_told_166 : decode cX5_told 166 = .ok (.aload_n 0, 1) := by decide +kernel
theorem dX5_told_167 : decode cX5_told 167 = .ok (.iload_n 3, 1) := by decide +kernel
theorem dX5_told_168 : decode cX5_told 168 = .ok (.invokevirtual 97, 3) := by decide +kernel
theorem dX5_told_171 : decode cX5_told 171 = .ok (.ifCond .eq 7, 3) := by decide +kernel
theorem dX5_told_174 : decode cX5_told 174 = .ok (.iconst 1, 1) := by decide +kernel
theorem dX5_told_175 : decode cX5_told 175 = .ok (.goto 4, 3) := by decide +kernel
theorem dX5_told_178 : decode cX5_told 178 = .ok (.iconst 0, 1) := by decide +kernel
theorem dX5_told_179 : decode cX5_told 179 = .ok (.iadd, 1) := by decide +kernel
theorem dX5_told_180 : decode cX5_told 180 = .ok (.istore_n 2, 1) := by decide +kernel
theorem dX5_told_181 : decode cX5_told 181 = .ok (.iinc 3 1, 3) := by decide +kernel
theorem dX5_told_184 : decode cX5_told 184 = .ok (.goto (-34), 3) := by decide +kernel
theorem dX5_told_187 : decode cX5_told 187 = .ok (.iload_n 2, 1) := by decide +kernel
theorem dX5_told_188 : decode cX5_told 188 = .ok (.ireturn, 1) := by decide +kernel
theorem dX5_told_189 : decode cX5_told 189 = .ok (.iconst 0, 1) := by decide +kernel
theorem dX5_told_190 : decode cX5_told 190 = .ok (.istore_n 3, 1) := by decide +kernel
theorem dX5_told_191 : decode cX5_told 191 = .ok (.iload_n 3, 1) := by decide +kernel
theorem dX5_told_192 : decode cX5_told 192 = .ok (.sipush 480, 3) := by decide +kernel
theorem dX5_told_195 : decode cX5_told 195 = .ok (.if_icmp .ge 26, 3) := by decide +kernel
theorem dX5_told_198 : decode cX5_told 198 = .ok (.iload_n 2, 1) := by decide +kernel
theorem dX5_told_199 : decode cX5_told 199 = .ok (.aload_n 0, 1) := by decide +kernel
theorem dX5_told_200 : decode cX5_told 200 = .ok (.getfield 36, 3) := by decide +kernel
theorem dX5_told_203 : decode cX5_told 203 = .ok (.iload_n 3, 1) := by decide +kernel
theorem dX5_told_204 : decode cX5_told 204 = .ok (.baload, 1) := by decide +kernel
theorem dX5_told_205 : decode cX5_told 205 = .ok (.ifCond .eq 7, 3) := by decide +kernel
theorem dX5_told_208 : decode cX5_told 208 = .ok (.iconst 1, 1) := by decide +kernel
theorem dX5_told_209 : decode cX5_told 209 = .ok (.goto 4, 3) := by decide +kernel
theorem dX5_told_212 : decode cX5_told 212 = .ok (.iconst 0, 1) := by decide +kernel
theorem dX5_told_213 : decode cX5_told 213 = .ok (.iadd, 1) := by decide +kernel
theorem dX5_told_214 : decode cX5_told 214 = .ok (.istore_n 2, 1) := by decide +kernel
theorem dX5_told_215 : decode cX5_told 215 = .ok (.iinc 3 1, 3) := by decide +kernel
theorem dX5_told_218 : decode cX5_told 218 = .ok (.goto (-27), 3) := by decide +kernel
theorem dX5_told_221 : decode cX5_told 221 = .ok (.iload_n 2, 1) := by decide +kernel
theorem dX5_told_222 : decode cX5_told 222 = .ok (.ireturn, 1) := by decide +kernel
theorem dX5_told_223 : decode cX5_told 223 = .ok (.iconst 0, 1) := by decide +kernel
theorem dX5_told_224 : decode cX5_told 224 = .ok (.istore_n 3, 1) := by decide +kernel
theorem dX5_told_225 : decode cX5_told 225 = .ok (.iload_n 3, 1) := by decide +kernel
theorem dX5_told_226 : decode cX5_told 226 = .ok (.aload_n 0, 1) := by decide +kernel
theorem dX5_told_227 : decode cX5_told 227 = .ok (.getfield 7, 3) := by decide +kernel
theorem dX5_told_230 : decode cX5_told 230 = .ok (.if_icmp .ge 18, 3) := by decide +kernel
theorem dX5_told_233 : decode cX5_told 233 = .ok (.iload_n 2, 1) := by decide +kernel
theorem dX5_told_234 : decode cX5_told 234 = .ok (.aload_n 0, 1) := by decide +kernel
theorem dX5_told_235 : decode cX5_told 235 = .ok (.getfield 13, 3) := by decide +kernel
theorem dX5_told_238 : decode cX5_told 238 = .ok (.iload_n 3, 1) := by decide +kernel
theorem dX5_told_239 : decode cX5_told 239 = .ok (.iaload, 1) := by decide +kernel
theorem dX5_told_240 : decode cX5_told 240 = .ok (.iadd, 1) := by decide +kernel
theorem dX5_told_241 : decode cX5_told 241 = .ok (.istore_n 2, 1) := by decide +kernel
theorem dX5_told_242 : decode cX5_told 242 = .ok (.iinc 3 1, 3) := by decide +kernel
theorem dX5_told_245 : decode cX5_told 245 = .ok (.goto (-20), 3) := by decide +kernel
theorem dX5_told_248 : decode cX5_told 248 = .ok (.iload_n 2, 1) := by decide +kernel
theorem dX5_told_249 : decode cX5_told 249 = .ok (.ireturn, 1) := by decide +kernel
theorem dX5_told_250 : decode cX5_told 250 = .ok (.bipush (-2), 2) := by decide +kernel
theorem dX5_told_252 : decode cX5_told 252 = .ok (.ireturn, 1) := by decide +kernel
theorem dJ9_min_7cf53_0 : decode cJ9_min_7cf53 0 = .ok (.iload_n 0, 1) := by decide +kernel
theorem dJ9_min_7cf53_1 : decode cJ9_min_7cf53 1 = .ok (.iload_n 1, 1) := by decide +kernel
theorem dJ9_min_7cf53_2 : decode cJ9_min_7cf53 2 = .ok (.if_icmp .gt 7, 3) := by decide +kernel
theorem dJ9_min_7cf53_5 : decode cJ9_min_7cf53 5 = .ok (.iload_n 0, 1) := by decide +kernel
theorem dJ9_min_7cf53_6 : decode cJ9_min_7cf53 6 = .ok (.goto 4, 3) := by decide +kernel
theorem dJ9_min_7cf53_9 : decode cJ9_min_7cf53 9 = .ok (.iload_n 1, 1) := by decide +kernel
theorem dJ9_min_7cf53_10 : decode cJ9_min_7cf53 10 = .ok (.ireturn, 1) := by decide +kernel
theorem dL_law_0 : decode cL_law 0 = .ok (.new 7, 3) := by decide +kernel
theorem dL_law_3 : decode cL_law 3 = .ok (.dup, 1) := by decide +kernel
theorem dL_law_4 : decode cL_law 4 = .ok (.invokespecial 9, 3) := by decide +kernel
theorem dL_law_7 : decode cL_law 7 = .ok (.astore_n 1, 1) := by decide +kernel
theorem dL_law_8 : decode cL_law 8 = .ok (.new 10, 3) := by decide +kernel
theorem dL_law_11 : decode cL_law 11 = .ok (.dup, 1) := by decide +kernel
theorem dL_law_12 : decode cL_law 12 = .ok (.invokespecial 12, 3) := by decide +kernel
theorem dL_law_15 : decode cL_law 15 = .ok (.astore_n 2, 1) := by decide +kernel
theorem dL_law_16 : decode cL_law 16 = .ok (.iconst 0, 1) := by decide +kernel
theorem dL_law_17 : decode cL_law 17 = .ok (.istore_n 3, 1) := by decide +kernel
theorem dL_law_18 : decode cL_law 18 = .ok (.iload_n 3, 1) := by decide +kernel
theorem dL_law_19 : decode cL_law 19 = .ok (.aload_n 0, 1) := by decide +kernel
theorem dL_law_20 : decode cL_law 20 = .ok (.arraylength, 1) := by decide +kernel
theorem dL_law_21 : decode cL_law 21 = .ok (.bipush 6, 2) := by decide +kernel
theorem dL_law_23 : decode cL_law 23 = .ok (.isub, 1) := by decide +kernel
theorem dL_law_24 : decode cL_law 24 = .ok (.if_icmp .gt 756, 3) := by decide +kernel
theorem dL_law_27 : decode cL_law 27 = .ok (.aload_n 0, 1) := by decide +kernel
theorem dL_law_28 : decode cL_law 28 = .ok (.iload_n 3, 1) := by decide +kernel
theorem dL_law_29 : decode cL_law 29 = .ok (.iaload, 1) := by decide +kernel
theorem dL_law_30 : decode cL_law 30 = .ok (.bipush 31, 2) := by decide +kernel
theorem dL_law_32 : decode cL_law 32 = .ok (.iand, 1) := by decide +kernel
theorem dL_law_33 : decode cL_law 33 = .ok (.tableswitch 741 0 17 #[87, 170, 213, 266, 299, 332, 355, 378, 401, 424, 447, 480, 523, 556, 589, 632, 685, 718], 87) := by decide +kernel
theorem dL_law_120 : decode cL_law 120 = .ok (.aload_n 1, 1) := by decide +kernel
theorem dL_law_121 : decode cL_law 121 = .ok (.aload_n 0, 1) := by decide +kernel
theorem dL_law_122 : decode cL_law 122 = .ok (.iload_n 3, 1) := by decide +kernel
theorem dL_law_123 : decode cL_law 123 = .ok (.iconst 1, 1) := by decide +kernel
theorem dL_law_124 : decode cL_law 124 = .ok (.iadd, 1) := by decide +kernel
theorem dL_law_125 : decode cL_law 125 = .ok (.iaload, 1) := by decide +kernel
theorem dL_law_126 : decode cL_law 126 = .ok (.aload_n 0, 1) := by decide +kernel
theorem dL_law_127 : decode cL_law 127 = .ok (.iload_n 3, 1) := by decide +kernel
theorem dL_law_128 : decode cL_law 128 = .ok (.iconst 2, 1) := by decide +kernel
theorem dL_law_129 : decode cL_law 129 = .ok (.iadd, 1) := by decide +kernel
theorem dL_law_130 : decode cL_law 130 = .ok (.iaload, 1) := by decide +kernel
theorem dL_law_131 : decode cL_law 131 = .ok (.aload_n 0, 1) := by decide +kernel
theorem dL_law_132 : decode cL_law 132 = .ok (.iload_n 3, 1) := by decide +kernel
theorem dL_law_133 : decode cL_law 133 = .ok (.iconst 3, 1) := by decide +kernel
theorem dL_law_134 : decode cL_law 134 = .ok (.iadd, 1) := by decide +kernel
theorem dL_law_135 : decode cL_law 135 = .ok (.iaload, 1) := by decide +kernel
theorem dL_law_136 : decode cL_law 136 = .ok (.aload_n 0, 1) := by decide +kernel
theorem dL_law_137 : decode cL_law 137 = .ok (.iload_n 3, 1) := by decide +kernel
theorem dL_law_138 : decode cL_law 138 = .ok (.iconst 4, 1) := by decide +kernel
theorem dL_law_139 : decode cL_law 139 = .ok (.iadd, 1) := by decide +kernel
theorem dL_law_140 : decode cL_law 140 = .ok (.iaload, 1) := by decide +kernel
theorem dL_law_141 : decode cL_law 141 = .ok (.i2l, 1) := by decide +kernel
theorem dL_law_142 : decode cL_law 142 = .ok (.bipush 32, 2) := by decide +kernel
theorem dL_law_144 : decode cL_law 144 = .ok (.lshl, 1) := by decide +kernel
theorem dL_law_145 : decode cL_law 145 = .ok (.aload_n 0, 1) := by decide +kernel
theorem dL_law_146 : decode cL_law 146 = .ok (.iload_n 3, 1) := by decide +kernel
theorem dL_law_147 : decode cL_law 147 = .ok (.iconst 5, 1) := by decide +kernel
theorem dL_law_148 : decode cL_law 148 = .ok (.iadd, 1) := by decide +kernel
theorem dL_law_149 : decode cL_law 149 = .ok (.iaload, 1) := by decide +kernel
theorem dL_law_150 : decode cL_law 150 = .ok (.i2l, 1) := by decide +kernel
theorem dL_law_151 : decode cL_law 151 = .ok (.ldc2_w 13, 3) := by decide +kernel
theorem dL_law_154 : decode cL_law 154 = .ok (.land, 1) := by decide +kernel
theorem dL_law_155 : decode cL_law 155 = .ok (.lor, 1) := by decide +kernel
theorem dL_law_156 : decode cL_law 156 = .ok (.invokevirtual 15, 3) := by decide +kernel
theorem dL_law_159 : decode cL_law 159 = .ok (.aload_n 2, 1) := by decide +kernel
theorem dL_law_160 : decode cL_law 160 = .ok (.aload_n 0, 1) := by decide +kernel
theorem dL_law_161 : decode cL_law 161 = .ok (.iload_n 3, 1) := by decide +kernel
theorem dL_law_162 : decode cL_law 162 = .ok (.iconst 1, 1) := by decide +kernel
theorem dL_law_163 : decode cL_law 163 = .ok (.iadd, 1) := by decide +kernel
theorem dL_law_164 : decode cL_law 164 = .ok (.iaload, 1) := by decide +kernel
theorem dL_law_165 : decode cL_law 165 = .ok (.aload_n 0, 1) := by decide +kernel
theorem dL_law_166 : decode cL_law 166 = .ok (.iload_n 3, 1) := by decide +kernel
theorem dL_law_167 : decode cL_law 167 = .ok (.iconst 2, 1) := by decide +kernel
theorem dL_law_168 : decode cL_law 168 = .ok (.iadd, 1) := by decide +kernel
theorem dL_law_169 : decode cL_law 169 = .ok (.iaload, 1) := by decide +kernel
theorem dL_law_170 : decode cL_law 170 = .ok (.aload_n 0, 1) := by decide +kernel
theorem dL_law_171 : decode cL_law 171 = .ok (.iload_n 3, 1) := by decide +kernel
theorem dL_law_172 : decode cL_law 172 = .ok (.iconst 3, 1) := by decide +kernel
theorem dL_law_173 : decode cL_law 173 = .ok (.iadd, 1) := by decide +kernel
theorem dL_law_174 : decode cL_law 174 = .ok (.iaload, 1) := by decide +kernel
theorem dL_law_175 : decode cL_law 175 = .ok (.aload_n 0, 1) := by decide +kernel
theorem dL_law_176 : decode cL_law 176 = .ok (.iload_n 3, 1) := by decide +kernel
theorem dL_law_177 : decode cL_law 177 = .ok (.iconst 4, 1) := by decide +kernel
theorem dL_law_178 : decode cL_law 178 = .ok (.iadd, 1) := by decide +kernel
theorem dL_law_179 : decode cL_law 179 = .ok (.iaload, 1) := by decide +kernel
theorem dL_law_180 : decode cL_law 180 = .ok (.i2l, 1) := by decide +kernel
theorem dL_law_181 : decode cL_law 181 = .ok (.bipush 32, 2) := by decide +kernel
theorem dL_law_183 : decode cL_law 183 = .ok (.lshl, 1) := by decide +kernel
theorem dL_law_184 : decode cL_law 184 = .ok (.aload_n 0, 1) := by decide +kernel
theorem dL_law_185 : decode cL_law 185 = .ok (.iload_n 3, 1) := by decide +kernel
theorem dL_law_186 : decode cL_law 186 = .ok (.iconst 5, 1) := by decide +kernel
theorem dL_law_187 : decode cL_law 187 = .ok (.iadd, 1) := by decide +kernel
theorem dL_law_188 : decode cL_law 188 = .ok (.iaload, 1) := by decide +kernel
theorem dL_law_189 : decode cL_law 189 = .ok (.i2l, 1) := by decide +kernel
theorem dL_law_190 : decode cL_law 190 = .ok (.ldc2_w 13, 3) := by decide +kernel
theorem dL_law_193 : decode cL_law 193 = .ok (.land, 1) := by decide +kernel
theorem dL_law_194 : decode cL_law 194 = .ok (.lor, 1) := by decide +kernel
theorem dL_law_195 : decode cL_law 195 = .ok (.invokevirtual 19, 3) := by decide +kernel
theorem dL_law_198 : decode cL_law 198 = .ok (.if_icmp .eq 576, 3) := by decide +kernel
theorem dL_law_201 : decode cL_law 201 = .ok (.iconst 0, 1) := by decide +kernel
theorem dL_law_202 : decode cL_law 202 = .ok (.ireturn, 1) := by decide +kernel
theorem dL_law_203 : decode cL_law 203 = .ok (.aload_n 1, 1) := by decide +kernel
theorem dL_law_204 : decode cL_law 204 = .ok (.aload_n 0, 1) := by decide +kernel
theorem dL_law_205 : decode cL_law 205 = .ok (.iload_n 3, 1) := by decide +kernel
theorem dL_law_206 : decode cL_law 206 = .ok (.iconst 1, 1) := by decide +kernel
theorem dL_law_207 : decode cL_law 207 = .ok (.iadd, 1) := by decide +kernel
theorem dL_law_208 : decode cL_law 208 = .ok (.iaload, 1) := by decide +kernel
theorem dL_law_209 : decode cL_law 209 = .ok (.aload_n 0, 1) := by decide +kernel
theorem dL_law_210 : decode cL_law 210 = .ok (.iload_n 3, 1) := by decide +kernel
theorem dL_law_211 : decode cL_law 211 = .ok (.iconst 2, 1) := by decide +kernel
theorem dL_law_212 : decode cL_law 212 = .ok (.iadd, 1) := by decide +kernel
theorem dL_law_213 : decode cL_law 213 = .ok (.iaload, 1) := by decide +kernel
theorem dL_law_214 : decode cL_law 214 = .ok (.aload_n 0, 1) := by decide +kernel
theorem dL_law_215 : decode cL_law 215 = .ok (.iload_n 3, 1) := by decide +kernel
theorem dL_law_216 : decode cL_law 216 = .ok (.iconst 3, 1) := by decide +kernel
theorem dL_law_217 : decode cL_law 217 = .ok (.iadd, 1) := by decide +kernel
theorem dL_law_218 : decode cL_law 218 = .ok (.iaload, 1) := by decide +kernel
theorem dL_law_219 : decode cL_law 219 = .ok (.invokevirtual 20, 3) := by decide +kernel
theorem dL_law_222 : decode cL_law 222 = .ok (.aload_n 2, 1) := by decide +kernel
theorem dL_law_223 : decode cL_law 223 = .ok (.aload_n 0, 1) := by decide +kernel
theorem dL_law_224 : decode cL_law 224 = .ok (.iload_n 3, 1) := by decide +kernel
theorem dL_law_225 : decode cL_law 225 = .ok (.iconst 1, 1) := by decide +kernel
theorem dL_law_226 : decode cL_law 226 = .ok (.iadd, 1) := by decide +kernel
theorem dL_law_227 : decode cL_law 227 = .ok (.iaload, 1) := by decide +kernel
theorem dL_law_228 : decode cL_law 228 = .ok (.aload_n 0, 1) := by decide +kernel
theorem dL_law_229 : decode cL_law 229 = .ok (.iload_n 3, 1) := by decide +kernel
theorem dL_law_230 : decode cL_law 230 = .ok (.iconst 2, 1) := by decide +kernel
theorem dL_law_231 : decode cL_law 231 = .ok (.iadd, 1) := by decide +kernel
theorem dL_law_232 : decode cL_law 232 = .ok (.iaload, 1) := by decide +kernel
theorem dL_law_233 : decode cL_law 233 = .ok (.aload_n 0, 1) := by decide +kernel
theorem dL_law_234 : decode cL_law 234 = .ok (.iload_n 3, 1) := by decide +kernel
theorem dL_law_235 : decode cL_law 235 = .ok (.iconst 3, 1) := by decide +kernel
theorem dL_law_236 : decode cL_law 236 = .ok (.iadd, 1) := by decide +kernel
theorem dL_law_237 : decode cL_law 237 = .ok (.iaload, 1) := by decide +kernel
theorem dL_law_238 : decode cL_law 238 = .ok (.invokevirtual 24, 3) := by decide +kernel
theorem dL_law_241 : decode cL_law 241 = .ok (.if_icmp .eq 533, 3) := by decide +kernel
theorem dL_law_244 : decode cL_law 244 = .ok (.iconst 0, 1) := by decide +kernel
theorem dL_law_245 : decode cL_law 245 = .ok (.ireturn, 1) := by decide +kernel
theorem dL_law_246 : decode cL_law 246 = .ok (.aload_n 1, 1) := by decide +kernel
theorem dL_law_247 : decode cL_law 247 = .ok (.aload_n 0, 1) := by decide +kernel
theorem dL_law_248 : decode cL_law 248 = .ok (.iload_n 3, 1) := by decide +kernel
theorem dL_law_249 : decode cL_law 249 = .ok (.iconst 1, 1) := by decide +kernel
theorem dL_law_250 : decode cL_law 250 = .ok (.iadd, 1) := by decide +kernel
theorem dL_law_251 : decode cL_law 251 = .ok (.iaload, 1) := by decide +kernel
theorem dL_law_252 : decode cL_law 252 = .ok (.aload_n 0, 1) := by decide +kernel
theorem dL_law_253 : decode cL_law 253 = .ok (.iload_n 3, 1) := by decide +kernel
theorem dL_law_254 : decode cL_law 254 = .ok (.iconst 2, 1) := by decide +kernel
theorem dL_law_255 : decode cL_law 255 = .ok (.iadd, 1) := by decide +kernel
theorem dL_law_256 : decode cL_law 256 = .ok (.iaload, 1) := by decide +kernel
theorem dL_law_257 : decode cL_law 257 = .ok (.aload_n 0, 1) := by decide +kernel
theorem dL_law_258 : decode cL_law 258 = .ok (.iload_n 3, 1) := by decide +kernel
theorem dL_law_259 : decode cL_law 259 = .ok (.iconst 3, 1) := by decide +kernel
theorem dL_law_260 : decode cL_law 260 = .ok (.iadd, 1) := by decide +kernel
theorem dL_law_261 : decode cL_law 261 = .ok (.iaload, 1) := by decide +kernel
theorem dL_law_262 : decode cL_law 262 = .ok (.aload_n 0, 1) := by decide +kernel
theorem dL_law_263 : decode cL_law 263 = .ok (.iload_n 3, 1) := by decide +kernel
theorem dL_law_264 : decode cL_law 264 = .ok (.iconst 4, 1) := by decide +kernel
theorem dL_law_265 : decode cL_law 265 = .ok (.iadd, 1) := by decide +kernel
theorem dL_law_266 : decode cL_law 266 = .ok (.iaload, 1) := by decide +kernel
theorem dL_law_267 : decode cL_law 267 = .ok (.invokevirtual 25, 3) := by decide +kernel
theorem dL_law_270 : decode cL_law 270 = .ok (.aload_n 2, 1) := by decide +kernel
theorem dL_law_271 : decode cL_law 271 = .ok (.aload_n 0, 1) := by decide +kernel
theorem dL_law_272 : decode cL_law 272 = .ok (.iload_n 3, 1) := by decide +kernel
theorem dL_law_273 : decode cL_law 273 = .ok (.iconst 1, 1) := by decide +kernel
theorem dL_law_274 : decode cL_law 274 = .ok (.iadd, 1) := by decide +kernel
theorem dL_law_275 : decode cL_law 275 = .ok (.iaload, 1) := by decide +kernel
theorem dL_law_276 : decode cL_law 276 = .ok (.aload_n 0, 1) := by decide +kernel
theorem dL_law_277 : decode cL_law 277 = .ok (.iload_n 3, 1) := by decide +kernel
theorem dL_law_278 : decode cL_law 278 = .ok (.iconst 2, 1) := by decide +kernel
theorem dL_law_279 : decode cL_law 279 = .ok (.iadd, 1) := by decide +kernel
theorem dL_law_280 : decode cL_law 280 = .ok (.iaload, 1) := by decide +kernel
theorem dL_law_281 : decode cL_law 281 = .ok (.aload_n 0, 1) := by decide +kernel
theorem dL_law_282 : decode cL_law 282 = .ok (.iload_n 3, 1) := by decide +kernel
theorem dL_law_283 : decode cL_law 283 = .ok (.iconst 3, 1) := by decide +kernel
theorem dL_law_284 : decode cL_law 284 = .ok (.iadd, 1) := by decide +kernel
theorem dL_law_285 : decode cL_law 285 = .ok (.iaload, 1) := by decide +kernel
theorem dL_law_286 : decode cL_law 286 = .ok (.aload_n 0, 1) := by decide +kernel
theorem dL_law_287 : decode cL_law 287 = .ok (.iload_n 3, 1) := by decide +kernel
theorem dL_law_288 : decode cL_law 288 = .ok (.iconst 4, 1) := by decide +kernel
theorem dL_law_289 : decode cL_law 289 = .ok (.iadd, 1) := by decide +kernel
theorem dL_law_290 : decode cL_law 290 = .ok (.iaload, 1) := by decide +kernel
theorem dL_law_291 : decode cL_law 291 = .ok (.invokevirtual 29, 3) := by decide +kernel
theorem dL_law_294 : decode cL_law 294 = .ok (.if_icmp .eq 480, 3) := by decide +kernel
theorem dL_law_297 : decode cL_law 297 = .ok (.iconst 0, 1) := by decide +kernel
theorem dL_law_298 : decode cL_law 298 = .ok (.ireturn, 1) := by decide +kernel
theorem dL_law_299 : decode cL_law 299 = .ok (.aload_n 1, 1) := by decide +kernel
theorem dL_law_300 : decode cL_law 300 = .ok (.aload_n 0, 1) := by decide +kernel
theorem dL_law_301 : decode cL_law 301 = .ok (.iload_n 3, 1) := by decide +kernel
theorem dL_law_302 : decode cL_law 302 = .ok (.iconst 1, 1) := by decide +kernel
theorem dL_law_303 : decode cL_law 303 = .ok (.iadd, 1) := by decide +kernel
theorem dL_law_304 : decode cL_law 304 = .ok (.iaload, 1) := by decide +kernel
theorem dL_law_305 : decode cL_law 305 = .ok (.aload_n 0, 1) := by decide +kernel
theorem dL_law_306 : decode cL_law 306 = .ok (.iload_n 3, 1) := by decide +kernel
theorem dL_law_307 : decode cL_law 307 = .ok (.iconst 2, 1) := by decide +kernel
theorem dL_law_308 : decode cL_law 308 = .ok (.iadd, 1) := by decide +kernel
theorem dL_law_309 : decode cL_law 309 = .ok (.iaload, 1) := by decide +kernel
theorem dL_law_310 : decode cL_law 310 = .ok (.invokevirtual 30, 3) := by decide +kernel
theorem dL_law_313 : decode cL_law 313 = .ok (.aload_n 2, 1) := by decide +kernel
theorem dL_law_314 : decode cL_law 314 = .ok (.aload_n 0, 1) := by decide +kernel
theorem dL_law_315 : decode cL_law 315 = .ok (.iload_n 3, 1) := by decide +kernel
theorem dL_law_316 : decode cL_law 316 = .ok (.iconst 1, 1) := by decide +kernel
theorem dL_law_317 : decode cL_law 317 = .ok (.iadd, 1) := by decide +kernel
theorem dL_law_318 : decode cL_law 318 = .ok (.iaload, 1) := by decide +kernel
theorem dL_law_319 : decode cL_law 319 = .ok (.aload_n 0, 1) := by decide +kernel
theorem dL_law_320 : decode cL_law 320 = .ok (.iload_n 3, 1) := by decide +kernel
theorem dL_law_321 : decode cL_law 321 = .ok (.iconst 2, 1) := by decide +kernel
theorem dL_law_322 : decode cL_law 322 = .ok (.iadd, 1) := by decide +kernel
theorem dL_law_323 : decode cL_law 323 = .ok (.iaload, 1) := by decide +kernel
theorem dL_law_324 : decode cL_law 324 = .ok (.invokevirtual 34, 3) := by decide +kernel
theorem dL_law_327 : decode cL_law 327 = .ok (.if_icmp .eq 447, 3) := by decide +kernel
theorem dL_law_330 : decode cL_law 330 = .ok (.iconst 0, 1) := by decide +kernel
theorem dL_law_331 : decode cL_law 331 = .ok (.ireturn, 1) := by decide +kernel
theorem dL_law_332 : decode cL_law 332 = .ok (.aload_n 1, 1) := by decide +kernel
theorem dL_law_333 : decode cL_law 333 = .ok (.aload_n 0, 1) := by decide +kernel
theorem dL_law_334 : decode cL_law 334 = .ok (.iload_n 3, 1) := by decide +kernel
theorem dL_law_335 : decode cL_law 335 = .ok (.iconst 1, 1) := by decide +kernel
theorem dL_law_336 : decode cL_law 336 = .ok (.iadd, 1) := by decide +kernel
theorem dL_law_337 : decode cL_law 337 = .ok (.iaload, 1) := by decide +kernel
theorem dL_law_338 : decode cL_law 338 = .ok (.aload_n 0, 1) := by decide +kernel
theorem dL_law_339 : decode cL_law 339 = .ok (.iload_n 3, 1) := by decide +kernel
theorem dL_law_340 : decode cL_law 340 = .ok (.iconst 2, 1) := by decide +kernel
theorem dL_law_341 : decode cL_law 341 = .ok (.iadd, 1) := by decide +kernel
theorem dL_law_342 : decode cL_law 342 = .ok (.iaload, 1) := by decide +kernel
theorem dL_law_343 : decode cL_law 343 = .ok (.invokevirtual 35, 3) := by decide +kernel
theorem dL_law_346 : decode cL_law 346 = .ok (.aload_n 2, 1) := by decide +kernel
theorem dL_law_347 : decode cL_law 347 = .ok (.aload_n 0, 1) := by decide +kernel
theorem dL_law_348 : decode cL_law 348 = .ok (.iload_n 3, 1) := by decide +kernel
theorem dL_law_349 : decode cL_law 349 = .ok (.iconst 1, 1) := by decide +kernel
theorem dL_law_350 : decode cL_law 350 = .ok (.iadd, 1) := by decide +kernel
theorem dL_law_351 : decode cL_law 351 = .ok (.iaload, 1) := by decide +kernel
theorem dL_law_352 : decode cL_law 352 = .ok (.aload_n 0, 1) := by decide +kernel
theorem dL_law_353 : decode cL_law 353 = .ok (.iload_n 3, 1) := by decide +kernel
theorem dL_law_354 : decode cL_law 354 = .ok (.iconst 2, 1) := by decide +kernel
theorem dL_law_355 : decode cL_law 355 = .ok (.iadd, 1) := by decide +kernel
theorem dL_law_356 : decode cL_law 356 = .ok (.iaload, 1) := by decide +kernel
theorem dL_law_357 : decode cL_law 357 = .ok (.invokevirtual 38, 3) := by decide +kernel
theorem dL_law_360 : decode cL_law 360 = .ok (.if_icmp .eq 414, 3) := by decide +kernel
theorem dL_law_363 : decode cL_law 363 = .ok (.iconst 0, 1) := by decide +kernel
theorem dL_law_364 : decode cL_law 364 = .ok (.ireturn, 1) := by decide +kernel
theorem dL_law_365 : decode cL_law 365 = .ok (.aload_n 1, 1) := by decide +kernel
theorem dL_law_366 : decode cL_law 366 = .ok (.aload_n 0, 1) := by decide +kernel
theorem dL_law_367 : decode cL_law 367 = .ok (.iload_n 3, 1) := by decide +kernel
theorem dL_law_368 : decode cL_law 368 = .ok (.iconst 1, 1) := by decide +kernel
theorem dL_law_369 : decode cL_law 369 = .ok (.iadd, 1) := by decide +kernel
theorem dL_law_370 : decode cL_law 370 = .ok (.iaload, 1) := by decide +kernel
theorem dL_law_371 : decode cL_law 371 = .ok (.invokevirtual 39, 3) := by decide +kernel
theorem dL_law_374 : decode cL_law 374 = .ok (.aload_n 2, 1) := by decide +kernel
theorem dL_law_375 : decode cL_law 375 = .ok (.aload_n 0, 1) := by decide +kernel
theorem dL_law_376 : decode cL_law 376 = .ok (.iload_n 3, 1) := by decide +kernel
theorem dL_law_377 : decode cL_law 377 = .ok (.iconst 1, 1) := by decide +kernel
theorem dL_law_378 : decode cL_law 378 = .ok (.iadd, 1) := by decide +kernel
theorem dL_law_379 : decode cL_law 379 = .ok (.iaload, 1) := by decide +kernel
theorem dL_law_380 : decode cL_law 380 = .ok (.invokevirtual 43, 3) := by decide +kernel
theorem dL_law_383 : decode cL_law 383 = .ok (.if_icmp .eq 391, 3) := by decide +kernel
theorem dL_law_386 : decode cL_law 386 = .ok (.iconst 0, 1) := by decide +kernel
theorem dL_law_387 : decode cL_law 387 = .ok (.ireturn, 1) := by decide +kernel
theorem dL_law_388 : decode cL_law 388 = .ok (.aload_n 1, 1) := by decide +kernel
theorem dL_law_389 : decode cL_law 389 = .ok (.aload_n 0, 1) := by decide +kernel
theorem dL_law_390 : decode cL_law 390 = .ok (.iload_n 3, 1) := by decide +kernel
theorem dL_law_391 : decode cL_law 391 = .ok (.iconst 1, 1) := by decide +kernel
theorem dL_law_392 : decode cL_law 392 = .ok (.iadd, 1) := by decide +kernel
theorem dL_law_393 : decode cL_law 393 = .ok (.iaload, 1) := by decide +kernel
theorem dL_law_394 : decode cL_law 394 = .ok (.invokevirtual 44, 3) := by decide +kernel
theorem dL_law_397 : decode cL_law 397 = .ok (.aload_n 2, 1) := by decide +kernel
theorem dL_law_398 : decode cL_law 398 = .ok (.aload_n 0, 1) := by decide +kernel
theorem dL_law_399 : decode cL_law 399 = .ok (.iload_n 3, 1) := by decide +kernel
theorem dL_law_400 : decode cL_law 400 = .ok (.iconst 1, 1) := by decide +kernel
theorem dL_law_401 : decode cL_law 401 = .ok (.iadd, 1) := by decide +kernel
theorem dL_law_402 : decode cL_law 402 = .ok (.iaload, 1) := by decide +kernel
theorem dL_law_403 : decode cL_law 403 = .ok (.invokevirtual 47, 3) := by decide +kernel
theorem dL_law_406 : decode cL_law 406 = .ok (.if_icmp .eq 368, 3) := by decide +kernel
theorem dL_law_409 : decode cL_law 409 = .ok (.iconst 0, 1) := by decide +kernel
theorem dL_law_410 : decode cL_law 410 = .ok (.ireturn, 1) := by decide +kernel
theorem dL_law_411 : decode cL_law 411 = .ok (.aload_n 1, 1) := by decide +kernel
theorem dL_law_412 : decode cL_law 412 = .ok (.aload_n 0, 1) := by decide +kernel
theorem dL_law_413 : decode cL_law 413 = .ok (.iload_n 3, 1) := by decide +kernel
theorem dL_law_414 : decode cL_law 414 = .ok (.iconst 1, 1) := by decide +kernel
theorem dL_law_415 : decode cL_law 415 = .ok (.iadd, 1) := by decide +kernel
theorem dL_law_416 : decode cL_law 416 = .ok (.iaload, 1) := by decide +kernel
theorem dL_law_417 : decode cL_law 417 = .ok (.invokevirtual 48, 3) := by decide +kernel
theorem dL_law_420 : decode cL_law 420 = .ok (.aload_n 2, 1) := by decide +kernel
theorem dL_law_421 : decode cL_law 421 = .ok (.aload_n 0, 1) := by decide +kernel
theorem dL_law_422 : decode cL_law 422 = .ok (.iload_n 3, 1) := by decide +kernel
theorem dL_law_423 : decode cL_law 423 = .ok (.iconst 1, 1) := by decide +kernel
theorem dL_law_424 : decode cL_law 424 = .ok (.iadd, 1) := by decide +kernel
theorem dL_law_425 : decode cL_law 425 = .ok (.iaload, 1) := by decide +kernel
theorem dL_law_426 : decode cL_law 426 = .ok (.invokevirtual 51, 3) := by decide +kernel
theorem dL_law_429 : decode cL_law 429 = .ok (.if_icmp .eq 345, 3) := by decide +kernel
theorem dL_law_432 : decode cL_law 432 = .ok (.iconst 0, 1) := by decide +kernel
theorem dL_law_433 : decode cL_law 433 = .ok (.ireturn, 1) := by decide +kernel
theorem dL_law_434 : decode cL_law 434 = .ok (.aload_n 1, 1) := by decide +kernel
theorem dL_law_435 : decode cL_law 435 = .ok (.aload_n 0, 1) := by decide +kernel
theorem dL_law_436 : decode cL_law 436 = .ok (.iload_n 3, 1) := by decide +kernel
theorem dL_law_437 : decode cL_law 437 = .ok (.iconst 1, 1) := by decide +kernel
theorem dL_law_438 : decode cL_law 438 = .ok (.iadd, 1) := by decide +kernel
theorem dL_law_439 : decode cL_law 439 = .ok (.iaload, 1) := by decide +kernel
theorem dL_law_440 : decode cL_law 440 = .ok (.invokevirtual 52, 3) := by decide +kernel
theorem dL_law_443 : decode cL_law 443 = .ok (.aload_n 2, 1) := by decide +kernel
theorem dL_law_444 : decode cL_law 444 = .ok (.aload_n 0, 1) := by decide +kernel
theorem dL_law_445 : decode cL_law 445 = .ok (.iload_n 3, 1) := by decide +kernel
theorem dL_law_446 : decode cL_law 446 = .ok (.iconst 1, 1) := by decide +kernel
theorem dL_law_447 : decode cL_law 447 = .ok (.iadd, 1) := by decide +kernel
theorem dL_law_448 : decode cL_law 448 = .ok (.iaload, 1) := by decide +kernel
theorem dL_law_449 : decode cL_law 449 = .ok (.invokevirtual 55, 3) := by decide +kernel
theorem dL_law_452 : decode cL_law 452 = .ok (.if_icmp .eq 322, 3) := by decide +kernel
theorem dL_law_455 : decode cL_law 455 = .ok (.iconst 0, 1) := by decide +kernel
theorem dL_law_456 : decode cL_law 456 = .ok (.ireturn, 1) := by decide +kernel
theorem dL_law_457 : decode cL_law 457 = .ok (.aload_n 1, 1) := by decide +kernel
theorem dL_law_458 : decode cL_law 458 = .ok (.aload_n 0, 1) := by decide +kernel
theorem dL_law_459 : decode cL_law 459 = .ok (.iload_n 3, 1) := by decide +kernel
theorem dL_law_460 : decode cL_law 460 = .ok (.iconst 1, 1) := by decide +kernel
theorem dL_law_461 : decode cL_law 461 = .ok (.iadd, 1) := by decide +kernel
theorem dL_law_462 : decode cL_law 462 = .ok (.iaload, 1) := by decide +kernel
theorem dL_law_463 : decode cL_law 463 = .ok (.invokevirtual 56, 3) := by decide +kernel
theorem dL_law_466 : decode cL_law 466 = .ok (.aload_n 2, 1) := by decide +kernel
theorem dL_law_467 : decode cL_law 467 = .ok (.aload_n 0, 1) := by decide +kernel
theorem dL_law_468 : decode cL_law 468 = .ok (.iload_n 3, 1) := by decide +kernel
theorem dL_law_469 : decode cL_law 469 = .ok (.iconst 1, 1) := by decide +kernel
theorem dL_law_470 : decode cL_law 470 = .ok (.iadd, 1) := by decide +kernel
theorem dL_law_471 : decode cL_law 471 = .ok (.iaload, 1) := by decide +kernel
theorem dL_law_472 : decode cL_law 472 = .ok (.invokevirtual 59, 3) := by decide +kernel
theorem dL_law_475 : decode cL_law 475 = .ok (.if_icmp .eq 299, 3) := by decide +kernel
theorem dL_law_478 : decode cL_law 478 = .ok (.iconst 0, 1) := by decide +kernel
theorem dL_law_479 : decode cL_law 479 = .ok (.ireturn, 1) := by decide +kernel
theorem dL_law_480 : decode cL_law 480 = .ok (.aload_n 1, 1) := by decide +kernel
theorem dL_law_481 : decode cL_law 481 = .ok (.aload_n 0, 1) := by decide +kernel
theorem dL_law_482 : decode cL_law 482 = .ok (.iload_n 3, 1) := by decide +kernel
theorem dL_law_483 : decode cL_law 483 = .ok (.iconst 1, 1) := by decide +kernel
theorem dL_law_484 : decode cL_law 484 = .ok (.iadd, 1) := by decide +kernel
theorem dL_law_485 : decode cL_law 485 = .ok (.iaload, 1) := by decide +kernel
theorem dL_law_486 : decode cL_law 486 = .ok (.aload_n 0, 1) := by decide +kernel
theorem dL_law_487 : decode cL_law 487 = .ok (.iload_n 3, 1) := by decide +kernel
theorem dL_law_488 : decode cL_law 488 = .ok (.iconst 2, 1) := by decide +kernel
theorem dL_law_489 : decode cL_law 489 = .ok (.iadd, 1) := by decide +kernel
theorem dL_law_490 : decode cL_law 490 = .ok (.iaload, 1) := by decide +kernel
theorem dL_law_491 : decode cL_law 491 = .ok (.invokevirtual 60, 3) := by decide +kernel
theorem dL_law_494 : decode cL_law 494 = .ok (.aload_n 2, 1) := by decide +kernel
theorem dL_law_495 : decode cL_law 495 = .ok (.aload_n 0, 1) := by decide +kernel
theorem dL_law_496 : decode cL_law 496 = .ok (.iload_n 3, 1) := by decide +kernel
theorem dL_law_497 : decode cL_law 497 = .ok (.iconst 1, 1) := by decide +kernel
theorem dL_law_498 : decode cL_law 498 = .ok (.iadd, 1) := by decide +kernel
theorem dL_law_499 : decode cL_law 499 = .ok (.iaload, 1) := by decide +kernel
theorem dL_law_500 : decode cL_law 500 = .ok (.aload_n 0, 1) := by decide +kernel
theorem dL_law_501 : decode cL_law 501 = .ok (.iload_n 3, 1) := by decide +kernel
theorem dL_law_502 : decode cL_law 502 = .ok (.iconst 2, 1) := by decide +kernel
theorem dL_law_503 : decode cL_law 503 = .ok (.iadd, 1) := by decide +kernel
theorem dL_law_504 : decode cL_law 504 = .ok (.iaload, 1) := by decide +kernel
theorem dL_law_505 : decode cL_law 505 = .ok (.invokevirtual 63, 3) := by decide +kernel
theorem dL_law_508 : decode cL_law 508 = .ok (.if_icmp .eq 266, 3) := by decide +kernel
theorem dL_law_511 : decode cL_law 511 = .ok (.iconst 0, 1) := by decide +kernel
theorem dL_law_512 : decode cL_law 512 = .ok (.ireturn, 1) := by decide +kernel
theorem dL_law_513 : decode cL_law 513 = .ok (.aload_n 1, 1) := by decide +kernel
theorem dL_law_514 : decode cL_law 514 = .ok (.aload_n 0, 1) := by decide +kernel
theorem dL_law_515 : decode cL_law 515 = .ok (.iload_n 3, 1) := by decide +kernel
theorem dL_law_516 : decode cL_law 516 = .ok (.iconst 1, 1) := by decide +kernel
theorem dL_law_517 : decode cL_law 517 = .ok (.iadd, 1) := by decide +kernel
theorem dL_law_518 : decode cL_law 518 = .ok (.iaload, 1) := by decide +kernel
theorem dL_law_519 : decode cL_law 519 = .ok (.aload_n 0, 1) := by decide +kernel
theorem dL_law_520 : decode cL_law 520 = .ok (.iload_n 3, 1) := by decide +kernel
theorem dL_law_521 : decode cL_law 521 = .ok (.iconst 2, 1) := by decide +kernel
theorem dL_law_522 : decode cL_law 522 = .ok (.iadd, 1) := by decide +kernel
theorem dL_law_523 : decode cL_law 523 = .ok (.iaload, 1) := by decide +kernel
theorem dL_law_524 : decode cL_law 524 = .ok (.aload_n 0, 1) := by decide +kernel
theorem dL_law_525 : decode cL_law 525 = .ok (.iload_n 3, 1) := by decide +kernel
theorem dL_law_526 : decode cL_law 526 = .ok (.iconst 3, 1) := by decide +kernel
theorem dL_law_527 : decode cL_law 527 = .ok (.iadd, 1) := by decide +kernel
theorem dL_law_528 : decode cL_law 528 = .ok (.iaload, 1) := by decide +kernel
theorem dL_law_529 : decode cL_law 529 = .ok (.invokevirtual 64, 3) := by decide +kernel
theorem dL_law_532 : decode cL_law 532 = .ok (.aload_n 2, 1) := by decide +kernel
theorem dL_law_533 : decode cL_law 533 = .ok (.aload_n 0, 1) := by decide +kernel
theorem dL_law_534 : decode cL_law 534 = .ok (.iload_n 3, 1) := by decide +kernel
theorem dL_law_535 : decode cL_law 535 = .ok (.iconst 1, 1) := by decide +kernel
theorem dL_law_536 : decode cL_law 536 = .ok (.iadd, 1) := by decide +kernel
theorem dL_law_537 : decode cL_law 537 = .ok (.iaload, 1) := by decide +kernel
theorem dL_law_538 : decode cL_law 538 = .ok (.aload_n 0, 1) := by decide +kernel
theorem dL_law_539 : decode cL_law 539 = .ok (.iload_n 3, 1) := by decide +kernel
theorem dL_law_540 : decode cL_law 540 = .ok (.iconst 2, 1) := by decide +kernel
theorem dL_law_541 : decode cL_law 541 = .ok (.iadd, 1) := by decide +kernel
theorem dL_law_542 : decode cL_law 542 = .ok (.iaload, 1) := by decide +kernel
theorem dL_law_543 : decode cL_law 543 = .ok (.aload_n 0, 1) := by decide +kernel
theorem dL_law_544 : decode cL_law 544 = .ok (.iload_n 3, 1) := by decide +kernel
theorem dL_law_545 : decode cL_law 545 = .ok (.iconst 3, 1) := by decide +kernel
theorem dL_law_546 : decode cL_law 546 = .ok (.iadd, 1) := by decide +kernel
theorem dL_law_547 : decode cL_law 547 = .ok (.iaload, 1) := by decide +kernel
theorem dL_law_548 : decode cL_law 548 = .ok (.invokevirtual 67, 3) := by decide +kernel
theorem dL_law_551 : decode cL_law 551 = .ok (.if_icmp .eq 223, 3) := by decide +kernel
theorem dL_law_554 : decode cL_law 554 = .ok (.iconst 0, 1) := by decide +kernel
theorem dL_law_555 : decode cL_law 555 = .ok (.ireturn, 1) := by decide +kernel
theorem dL_law_556 : decode cL_law 556 = .ok (.aload_n 1, 1) := by decide +kernel
theorem dL_law_557 : decode cL_law 557 = .ok (.aload_n 0, 1) := by decide +kernel
theorem dL_law_558 : decode cL_law 558 = .ok (.iload_n 3, 1) := by decide +kernel
theorem dL_law_559 : decode cL_law 559 = .ok (.iconst 1, 1) := by decide +kernel
theorem dL_law_560 : decode cL_law 560 = .ok (.iadd, 1) := by decide +kernel
theorem dL_law_561 : decode cL_law 561 = .ok (.iaload, 1) := by decide +kernel
theorem dL_law_562 : decode cL_law 562 = .ok (.aload_n 0, 1) := by decide +kernel
theorem dL_law_563 : decode cL_law 563 = .ok (.iload_n 3, 1) := by decide +kernel
theorem dL_law_564 : decode cL_law 564 = .ok (.iconst 2, 1) := by decide +kernel
theorem dL_law_565 : decode cL_law 565 = .ok (.iadd, 1) := by decide +kernel
theorem dL_law_566 : decode cL_law 566 = .ok (.iaload, 1) := by decide +kernel
theorem dL_law_567 : decode cL_law 567 = .ok (.invokevirtual 68, 3) := by decide +kernel
theorem dL_law_570 : decode cL_law 570 = .ok (.aload_n 2, 1) := by decide +kernel
theorem dL_law_571 : decode cL_law 571 = .ok (.aload_n 0, 1) := by decide +kernel
theorem dL_law_572 : decode cL_law 572 = .ok (.iload_n 3, 1) := by decide +kernel
theorem dL_law_573 : decode cL_law 573 = .ok (.iconst 1, 1) := by decide +kernel
theorem dL_law_574 : decode cL_law 574 = .ok (.iadd, 1) := by decide +kernel
theorem dL_law_575 : decode cL_law 575 = .ok (.iaload, 1) := by decide +kernel
theorem dL_law_576 : decode cL_law 576 = .ok (.aload_n 0, 1) := by decide +kernel
theorem dL_law_577 : decode cL_law 577 = .ok (.iload_n 3, 1) := by decide +kernel
theorem dL_law_578 : decode cL_law 578 = .ok (.iconst 2, 1) := by decide +kernel
theorem dL_law_579 : decode cL_law 579 = .ok (.iadd, 1) := by decide +kernel
theorem dL_law_580 : decode cL_law 580 = .ok (.iaload, 1) := by decide +kernel
theorem dL_law_581 : decode cL_law 581 = .ok (.invokevirtual 72, 3) := by decide +kernel
theorem dL_law_584 : decode cL_law 584 = .ok (.if_icmp .eq 190, 3) := by decide +kernel
theorem dL_law_587 : decode cL_law 587 = .ok (.iconst 0, 1) := by decide +kernel
theorem dL_law_588 : decode cL_law 588 = .ok (.ireturn, 1) := by decide +kernel
theorem dL_law_589 : decode cL_law 589 = .ok (.aload_n 1, 1) := by decide +kernel
theorem dL_law_590 : decode cL_law 590 = .ok (.aload_n 0, 1) := by decide +kernel
theorem dL_law_591 : decode cL_law 591 = .ok (.iload_n 3, 1) := by decide +kernel
theorem dL_law_592 : decode cL_law 592 = .ok (.iconst 1, 1) := by decide +kernel
theorem dL_law_593 : decode cL_law 593 = .ok (.iadd, 1) := by decide +kernel
theorem dL_law_594 : decode cL_law 594 = .ok (.iaload, 1) := by decide +kernel
theorem dL_law_595 : decode cL_law 595 = .ok (.aload_n 0, 1) := by decide +kernel
theorem dL_law_596 : decode cL_law 596 = .ok (.iload_n 3, 1) := by decide +kernel
theorem dL_law_597 : decode cL_law 597 = .ok (.iconst 2, 1) := by decide +kernel
theorem dL_law_598 : decode cL_law 598 = .ok (.iadd, 1) := by decide +kernel
theorem dL_law_599 : decode cL_law 599 = .ok (.iaload, 1) := by decide +kernel
theorem dL_law_600 : decode cL_law 600 = .ok (.invokevirtual 73, 3) := by decide +kernel
theorem dL_law_603 : decode cL_law 603 = .ok (.aload_n 2, 1) := by decide +kernel
theorem dL_law_604 : decode cL_law 604 = .ok (.aload_n 0, 1) := by decide +kernel
theorem dL_law_605 : decode cL_law 605 = .ok (.iload_n 3, 1) := by decide +kernel
theorem dL_law_606 : decode cL_law 606 = .ok (.iconst 1, 1) := by decide +kernel
theorem dL_law_607 : decode cL_law 607 = .ok (.iadd, 1) := by decide +kernel
theorem dL_law_608 : decode cL_law 608 = .ok (.iaload, 1) := by decide +kernel
theorem dL_law_609 : decode cL_law 609 = .ok (.aload_n 0, 1) := by decide +kernel
theorem dL_law_610 : decode cL_law 610 = .ok (.iload_n 3, 1) := by decide +kernel
theorem dL_law_611 : decode cL_law 611 = .ok (.iconst 2, 1) := by decide +kernel
theorem dL_law_612 : decode cL_law 612 = .ok (.iadd, 1) := by decide +kernel
theorem dL_law_613 : decode cL_law 613 = .ok (.iaload, 1) := by decide +kernel
theorem dL_law_614 : decode cL_law 614 = .ok (.invokevirtual 76, 3) := by decide +kernel
theorem dL_law_617 : decode cL_law 617 = .ok (.if_icmp .eq 157, 3) := by decide +kernel
theorem dL_law_620 : decode cL_law 620 = .ok (.iconst 0, 1) := by decide +kernel
theorem dL_law_621 : decode cL_law 621 = .ok (.ireturn, 1) := by decide +kernel
theorem dL_law_622 : decode cL_law 622 = .ok (.aload_n 1, 1) := by decide +kernel
theorem dL_law_623 : decode cL_law 623 = .ok (.aload_n 0, 1) := by decide +kernel
theorem dL_law_624 : decode cL_law 624 = .ok (.iload_n 3, 1) := by decide +kernel
theorem dL_law_625 : decode cL_law 625 = .ok (.iconst 1, 1) := by decide +kernel
theorem dL_law_626 : decode cL_law 626 = .ok (.iadd, 1) := by decide +kernel
theorem dL_law_627 : decode cL_law 627 = .ok (.iaload, 1) := by decide +kernel
theorem dL_law_628 : decode cL_law 628 = .ok (.aload_n 0, 1) := by decide +kernel
theorem dL_law_629 : decode cL_law 629 = .ok (.iload_n 3, 1) := by decide +kernel
theorem dL_law_630 : decode cL_law 630 = .ok (.iconst 2, 1) := by decide +kernel
theorem dL_law_631 : decode cL_law 631 = .ok (.iadd, 1) := by decide +kernel
theorem dL_law_632 : decode cL_law 632 = .ok (.iaload, 1) := by decide +kernel
theorem dL_law_633 : decode cL_law 633 = .ok (.aload_n 0, 1) := by decide +kernel
theorem dL_law_634 : decode cL_law 634 = .ok (.iload_n 3, 1) := by decide +kernel
theorem dL_law_635 : decode cL_law 635 = .ok (.iconst 3, 1) := by decide +kernel
theorem dL_law_636 : decode cL_law 636 = .ok (.iadd, 1) := by decide +kernel
theorem dL_law_637 : decode cL_law 637 = .ok (.iaload, 1) := by decide +kernel
theorem dL_law_638 : decode cL_law 638 = .ok (.invokevirtual 77, 3) := by decide +kernel
theorem dL_law_641 : decode cL_law 641 = .ok (.aload_n 2, 1) := by decide +kernel
theorem dL_law_642 : decode cL_law 642 = .ok (.aload_n 0, 1) := by decide +kernel
theorem dL_law_643 : decode cL_law 643 = .ok (.iload_n 3, 1) := by decide +kernel
theorem dL_law_644 : decode cL_law 644 = .ok (.iconst 1, 1) := by decide +kernel
theorem dL_law_645 : decode cL_law 645 = .ok (.iadd, 1) := by decide +kernel
theorem dL_law_646 : decode cL_law 646 = .ok (.iaload, 1) := by decide +kernel
theorem dL_law_647 : decode cL_law 647 = .ok (.aload_n 0, 1) := by decide +kernel
theorem dL_law_648 : decode cL_law 648 = .ok (.iload_n 3, 1) := by decide +kernel
theorem dL_law_649 : decode cL_law 649 = .ok (.iconst 2, 1) := by decide +kernel
theorem dL_law_650 : decode cL_law 650 = .ok (.iadd, 1) := by decide +kernel
theorem dL_law_651 : decode cL_law 651 = .ok (.iaload, 1) := by decide +kernel
theorem dL_law_652 : decode cL_law 652 = .ok (.aload_n 0, 1) := by decide +kernel
theorem dL_law_653 : decode cL_law 653 = .ok (.iload_n 3, 1) := by decide +kernel
theorem dL_law_654 : decode cL_law 654 = .ok (.iconst 3, 1) := by decide +kernel
theorem dL_law_655 : decode cL_law 655 = .ok (.iadd, 1) := by decide +kernel
theorem dL_law_656 : decode cL_law 656 = .ok (.iaload, 1) := by decide +kernel
theorem dL_law_657 : decode cL_law 657 = .ok (.invokevirtual 80, 3) := by decide +kernel
theorem dL_law_660 : decode cL_law 660 = .ok (.if_icmp .eq 114, 3) := by decide +kernel
theorem dL_law_663 : decode cL_law 663 = .ok (.iconst 0, 1) := by decide +kernel
theorem dL_law_664 : decode cL_law 664 = .ok (.ireturn, 1) := by decide +kernel
theorem dL_law_665 : decode cL_law 665 = .ok (.aload_n 1, 1) := by decide +kernel
theorem dL_law_666 : decode cL_law 666 = .ok (.aload_n 0, 1) := by decide +kernel
theorem dL_law_667 : decode cL_law 667 = .ok (.iload_n 3, 1) := by decide +kernel
theorem dL_law_668 : decode cL_law 668 = .ok (.iconst 1, 1) := by decide +kernel
theorem dL_law_669 : decode cL_law 669 = .ok (.iadd, 1) := by decide +kernel
theorem dL_law_670 : decode cL_law 670 = .ok (.iaload, 1) := by decide +kernel
theorem dL_law_671 : decode cL_law 671 = .ok (.aload_n 0, 1) := by decide +kernel
theorem dL_law_672 : decode cL_law 672 = .ok (.iload_n 3, 1) := by decide +kernel
theorem dL_law_673 : decode cL_law 673 = .ok (.iconst 2, 1) := by decide +kernel
theorem dL_law_674 : decode cL_law 674 = .ok (.iadd, 1) := by decide +kernel
theorem dL_law_675 : decode cL_law 675 = .ok (.iaload, 1) := by decide +kernel
theorem dL_law_676 : decode cL_law 676 = .ok (.aload_n 0, 1) := by decide +kernel
theorem dL_law_677 : decode cL_law 677 = .ok (.iload_n 3, 1) := by decide +kernel
theorem dL_law_678 : decode cL_law 678 = .ok (.iconst 3, 1) := by decide +kernel
theorem dL_law_679 : decode cL_law 679 = .ok (.iadd, 1) := by decide +kernel
theorem dL_law_680 : decode cL_law 680 = .ok (.iaload, 1) := by decide +kernel
theorem dL_law_681 : decode cL_law 681 = .ok (.aload_n 0, 1) := by decide +kernel
theorem dL_law_682 : decode cL_law 682 = .ok (.iload_n 3, 1) := by decide +kernel
theorem dL_law_683 : decode cL_law 683 = .ok (.iconst 4, 1) := by decide +kernel
theorem dL_law_684 : decode cL_law 684 = .ok (.iadd, 1) := by decide +kernel
theorem dL_law_685 : decode cL_law 685 = .ok (.iaload, 1) := by decide +kernel
theorem dL_law_686 : decode cL_law 686 = .ok (.invokevirtual 81, 3) := by decide +kernel
theorem dL_law_689 : decode cL_law 689 = .ok (.aload_n 2, 1) := by decide +kernel
theorem dL_law_690 : decode cL_law 690 = .ok (.aload_n 0, 1) := by decide +kernel
theorem dL_law_691 : decode cL_law 691 = .ok (.iload_n 3, 1) := by decide +kernel
theorem dL_law_692 : decode cL_law 692 = .ok (.iconst 1, 1) := by decide +kernel
theorem dL_law_693 : decode cL_law 693 = .ok (.iadd, 1) := by decide +kernel
theorem dL_law_694 : decode cL_law 694 = .ok (.iaload, 1) := by decide +kernel
theorem dL_law_695 : decode cL_law 695 = .ok (.aload_n 0, 1) := by decide +kernel
theorem dL_law_696 : decode cL_law 696 = .ok (.iload_n 3, 1) := by decide +kernel
theorem dL_law_697 : decode cL_law 697 = .ok (.iconst 2, 1) := by decide +kernel
theorem dL_law_698 : decode cL_law 698 = .ok (.iadd, 1) := by decide +kernel
theorem dL_law_699 : decode cL_law 699 = .ok (.iaload, 1) := by decide +kernel
theorem dL_law_700 : decode cL_law 700 = .ok (.aload_n 0, 1) := by decide +kernel
theorem dL_law_701 : decode cL_law 701 = .ok (.iload_n 3, 1) := by decide +kernel
theorem dL_law_702 : decode cL_law 702 = .ok (.iconst 3, 1) := by decide +kernel
theorem dL_law_703 : decode cL_law 703 = .ok (.iadd, 1) := by decide +kernel
theorem dL_law_704 : decode cL_law 704 = .ok (.iaload, 1) := by decide +kernel
theorem dL_law_705 : decode cL_law 705 = .ok (.aload_n 0, 1) := by decide +kernel
theorem dL_law_706 : decode cL_law 706 = .ok (.iload_n 3, 1) := by decide +kernel
theorem dL_law_707 : decode cL_law 707 = .ok (.iconst 4, 1) := by decide +kernel
theorem dL_law_708 : decode cL_law 708 = .ok (.iadd, 1) := by decide +kernel
theorem dL_law_709 : decode cL_law 709 = .ok (.iaload, 1) := by decide +kernel
theorem dL_law_710 : decode cL_law 710 = .ok (.invokevirtual 84, 3) := by decide +kernel
theorem dL_law_713 : decode cL_law 713 = .ok (.if_icmp .eq 61, 3) := by decide +kernel
theorem dL_law_716 : decode cL_law 716 = .ok (.iconst 0, 1) := by decide +kernel
theorem dL_law_717 : decode cL_law 717 = .ok (.ireturn, 1) := by decide +kernel
theorem dL_law_718 : decode cL_law 718 = .ok (.aload_n 1, 1) := by decide +kernel
theorem dL_law_719 : decode cL_law 719 = .ok (.aload_n 0, 1) := by decide +kernel
theorem dL_law_720 : decode cL_law 720 = .ok (.iload_n 3, 1) := by decide +kernel
theorem dL_law_721 : decode cL_law 721 = .ok (.iconst 1, 1) := by decide +kernel
theorem dL_law_722 : decode cL_law 722 = .ok (.iadd, 1) := by decide +kernel
theorem dL_law_723 : decode cL_law 723 = .ok (.iaload, 1) := by decide +kernel
theorem dL_law_724 : decode cL_law 724 = .ok (.aload_n 0, 1) := by decide +kernel
theorem dL_law_725 : decode cL_law 725 = .ok (.iload_n 3, 1) := by decide +kernel
theorem dL_law_726 : decode cL_law 726 = .ok (.iconst 2, 1) := by decide +kernel
theorem dL_law_727 : decode cL_law 727 = .ok (.iadd, 1) := by decide +kernel
theorem dL_law_728 : decode cL_law 728 = .ok (.iaload, 1) := by decide +kernel
theorem dL_law_729 : decode cL_law 729 = .ok (.invokevirtual 85, 3) := by decide +kernel
theorem dL_law_732 : decode cL_law 732 = .ok (.aload_n 2, 1) := by decide +kernel
theorem dL_law_733 : decode cL_law 733 = .ok (.aload_n 0, 1) := by decide +kernel
theorem dL_law_734 : decode cL_law 734 = .ok (.iload_n 3, 1) := by decide +kernel
theorem dL_law_735 : decode cL_law 735 = .ok (.iconst 1, 1) := by decide +kernel
theorem dL_law_736 : decode cL_law 736 = .ok (.iadd, 1) := by decide +kernel
theorem dL_law_737 : decode cL_law 737 = .ok (.iaload, 1) := by decide +kernel
theorem dL_law_738 : decode cL_law 738 = .ok (.aload_n 0, 1) := by decide +kernel
theorem dL_law_739 : decode cL_law 739 = .ok (.iload_n 3, 1) := by decide +kernel
theorem dL_law_740 : decode cL_law 740 = .ok (.iconst 2, 1) := by decide +kernel
theorem dL_law_741 : decode cL_law 741 = .ok (.iadd, 1) := by decide +kernel
theorem dL_law_742 : decode cL_law 742 = .ok (.iaload, 1) := by decide +kernel
theorem dL_law_743 : decode cL_law 743 = .ok (.invokevirtual 88, 3) := by decide +kernel
theorem dL_law_746 : decode cL_law 746 = .ok (.if_icmp .eq 28, 3) := by decide +kernel
theorem dL_law_749 : decode cL_law 749 = .ok (.iconst 0, 1) := by decide +kernel
theorem dL_law_750 : decode cL_law 750 = .ok (.ireturn, 1) := by decide +kernel
theorem dL_law_751 : decode cL_law 751 = .ok (.aload_n 1, 1) := by decide +kernel
theorem dL_law_752 : decode cL_law 752 = .ok (.aload_n 0, 1) := by decide +kernel
theorem dL_law_753 : decode cL_law 753 = .ok (.iload_n 3, 1) := by decide +kernel
theorem dL_law_754 : decode cL_law 754 = .ok (.iconst 1, 1) := by decide +kernel
theorem dL_law_755 : decode cL_law 755 = .ok (.iadd, 1) := by decide +kernel
theorem dL_law_756 : decode cL_law 756 = .ok (.iaload, 1) := by decide +kernel
theorem dL_law_757 : decode cL_law 757 = .ok (.invokevirtual 89, 3) := by decide +kernel
theorem dL_law_760 : decode cL_law 760 = .ok (.aload_n 2, 1) := by decide +kernel
theorem dL_law_761 : decode cL_law 761 = .ok (.aload_n 0, 1) := by decide +kernel
theorem dL_law_762 : decode cL_law 762 = .ok (.iload_n 3, 1) := by decide +kernel
theorem dL_law_763 : decode cL_law 763 = .ok (.iconst 1, 1) := by decide +kernel
theorem dL_law_764 : decode cL_law 764 = .ok (.iadd, 1) := by decide +kernel
theorem dL_law_765 : decode cL_law 765 = .ok (.iaload, 1) := by decide +kernel
end
section
theorem dL_law_766 : decode cL_law 766 = .ok (.invokevirtual 92, 3) := by decide +kernel
theorem dL_law_769 : decode cL_law 769 = .ok (.if_icmp .eq 5, 3) := by decide +kernel
theorem dL_law_772 : decode cL_law 772 = .ok (.iconst 0, 1) := by decide +kernel
theorem dL_law_773 : decode cL_law 773 = .ok (.ireturn, 1) := by decide +kernel
theorem dL_law_774 : decode cL_law 774 = .ok (.iinc 3 6, 3) := by decide +kernel
theorem dL_law_777 : decode cL_law 777 = .ok (.goto (-759), 3) := by decide +kernel
theorem dL_law_780 : decode cL_law 780 = .ok (.iconst 1, 1) := by decide +kernel
theorem dL_law_781 : decode cL_law 781 = .ok (.ireturn, 1) := by decide +kernel
end
section
/-! words of the tables that every method may use -/
def gz_ts : List Cond := lw_tbl.filter goodWord
theorem gz_ts_good : GoodIn lw_tbl gz_ts := fun w h => ⟨(List.mem_filter.mp h).1, good_of_word (List.mem_filter.mp h).2⟩
theorem gz_ts_self : GoodIn gz_ts gz_ts := fun w h => ⟨h, good_of_word (List.mem_filter.mp h).2⟩
theorem gz_tb {w : Cond} (h : w ∈ tables_1) : w ∈ lw_tbl := List.mem_append_right _ h
theorem gz_ps {q : MethodName × Nat} (h : q ∈ lw_privs) : Cond.selects q.1.cls q.1 q.1 ∈ lw_tbl := List.mem_append_left _ (List.mem_map.mpr ⟨q, h, rfl⟩)
theorem gz_go {w : Cond} (h : w ∈ lw_tbl) (g : goodWord w = true) : w ∈ gz_ts := List.mem_filter.mpr ⟨h, g⟩
theorem wn_L : Cond.initialized RL ∈ gz_ts := gz_go (gz_tb (List.mem_append_left _ (List.mem_of_getElem? (i := 0) rfl))) rfl
theorem wn_X4 : Cond.initialized RX4 ∈ gz_ts := gz_go (gz_tb (List.mem_append_left _ (List.mem_of_getElem? (i := 1) rfl))) rfl
theorem wn_X3 : Cond.initialized RX3 ∈ gz_ts := gz_go (gz_tb (List.mem_append_left _ (List.mem_of_getElem? (i := 2) rfl))) rfl
theorem wn_X1 : Cond.initialized RX1 ∈ gz_ts := gz_go (gz_tb (List.mem_append_left _ (List.mem_of_getElem? (i := 3) rfl))) rfl
theorem wn_X2 : Cond.initialized RX2 ∈ gz_ts := gz_go (gz_tb (List.mem_append_left _ (List.mem_of_getElem? (i := 4) rfl))) rfl
theorem wn_X0 : Cond.initialized RX0 ∈ gz_ts := gz_go (gz_tb (List.mem_append_left _ (List.mem_of_getElem? (i := 5) rfl))) rfl
theorem wn_X5 : Cond.initialized RX5 ∈ gz_ts := gz_go (gz_tb (List.mem_append_left _ (List.mem_of_getElem? (i := 6) rfl))) rfl
theorem wn_J10 : Cond.initialized RJ10 ∈ gz_ts := gz_go (gz_tb (List.mem_append_left _ (List.mem_of_getElem? (i := 7) rfl))) rfl
theorem wn_J9 : Cond.initialized RJ9 ∈ gz_ts := gz_go (gz_tb (List.mem_append_left _ (List.mem_of_getElem? (i := 8) rfl))) rfl
theorem wm_L_9 : Cond.methodLink RL 9 yX4_init ∈ gz_ts := gz_go (gz_tb (List.mem_append_left _ (List.mem_of_getElem? (i := 11) rfl))) rfl
theorem wi_X4_init : Cond.instanceMethod yX4_init ∈ gz_ts := gz_go (gz_tb (List.mem_append_left _ (List.mem_of_getElem? (i := 12) rfl))) rfl
theorem wm_X4_3 : Cond.methodLink RX4 3 objectInit ∈ gz_ts := gz_go (gz_tb (List.mem_append_left _ (List.mem_of_getElem? (i := 14) rfl))) rfl
theorem wi_objectInit : Cond.instanceMethod objectInit ∈ gz_ts := gz_go (gz_tb (List.mem_append_left _ (List.mem_of_getElem? (i := 15) rfl))) rfl
theorem wc_objectInit : Cond.code objectInit ⟨#[0xb1]⟩ 1 none ∈ gz_ts := gz_go (gz_tb (List.mem_append_left _ (List.mem_of_getElem? (i := 16) rfl))) rfl
theorem wi_X3_init : Cond.instanceMethod yX3_init ∈ gz_ts := gz_go (gz_tb (List.mem_append_left _ (List.mem_of_getElem? (i := 24) rfl))) rfl
theorem wm_X3_3 : Cond.methodLink RX3 3 objectInit ∈ gz_ts := gz_go (gz_tb (List.mem_append_left _ (List.mem_of_getElem? (i := 26) rfl))) rfl
theorem wi_X1_init : Cond.instanceMethod yX1_init ∈ gz_ts := gz_go (gz_tb (List.mem_append_left _ (List.mem_of_getElem? (i := 30) rfl))) rfl
theorem wm_X1_3 : Cond.methodLink RX1 3 objectInit ∈ gz_ts := gz_go (gz_tb (List.mem_append_left _ (List.mem_of_getElem? (i := 32) rfl))) rfl
theorem wf_X1_9 : Cond.fieldLink RX1 9 "GrownSnapshots$Shelf" "has" "[Z" ∈ gz_ts := gz_go (gz_tb (List.mem_append_left _ (List.mem_of_getElem? (i := 33) rfl))) rfl
theorem wf_X3_41 : Cond.fieldLink RX3 41 "GrownSnapshots$Shelf" "has" "[Z" ∈ gz_ts := gz_go (gz_tb (List.mem_append_left _ (List.mem_of_getElem? (i := 34) rfl))) rfl
theorem wf_X4_207 : Cond.fieldLink RX4 207 "GrownSnapshots$Shelf" "has" "[Z" ∈ gz_ts := gz_go (gz_tb (List.mem_append_left _ (List.mem_of_getElem? (i := 35) rfl))) rfl
theorem wf_X1_15 : Cond.fieldLink RX1 15 "GrownSnapshots$Shelf" "bytes" "[I" ∈ gz_ts := gz_go (gz_tb (List.mem_append_left _ (List.mem_of_getElem? (i := 36) rfl))) rfl
theorem wf_X3_45 : Cond.fieldLink RX3 45 "GrownSnapshots$Shelf" "bytes" "[I" ∈ gz_ts := gz_go (gz_tb (List.mem_append_left _ (List.mem_of_getElem? (i := 37) rfl))) rfl
theorem wf_X4_206 : Cond.fieldLink RX4 206 "GrownSnapshots$Shelf" "bytes" "[I" ∈ gz_ts := gz_go (gz_tb (List.mem_append_left _ (List.mem_of_getElem? (i := 38) rfl))) rfl
theorem wf_X3_12 : Cond.fieldLink RX3 12 "GrownSnapshots$Store" "shelf" "LGrownSnapshots$Shelf;" ∈ gz_ts := gz_go (gz_tb (List.mem_append_left _ (List.mem_of_getElem? (i := 46) rfl))) rfl
theorem wf_X4_187 : Cond.fieldLink RX4 187 "GrownSnapshots$Store" "shelf" "LGrownSnapshots$Shelf;" ∈ gz_ts := gz_go (gz_tb (List.mem_append_left _ (List.mem_of_getElem? (i := 47) rfl))) rfl
theorem wf_X3_18 : Cond.fieldLink RX3 18 "GrownSnapshots$Store" "sizes" "[I" ∈ gz_ts := gz_go (gz_tb (List.mem_append_left _ (List.mem_of_getElem? (i := 48) rfl))) rfl
theorem wf_X4_180 : Cond.fieldLink RX4 180 "GrownSnapshots$Store" "sizes" "[I" ∈ gz_ts := gz_go (gz_tb (List.mem_append_left _ (List.mem_of_getElem? (i := 49) rfl))) rfl
theorem wf_X3_22 : Cond.fieldLink RX3 22 "GrownSnapshots$Store" "digests" "[I" ∈ gz_ts := gz_go (gz_tb (List.mem_append_left _ (List.mem_of_getElem? (i := 50) rfl))) rfl
theorem wf_X4_181 : Cond.fieldLink RX4 181 "GrownSnapshots$Store" "digests" "[I" ∈ gz_ts := gz_go (gz_tb (List.mem_append_left _ (List.mem_of_getElem? (i := 51) rfl))) rfl
theorem wf_X3_25 : Cond.fieldLink RX3 25 "GrownSnapshots$Store" "fresh" "[I" ∈ gz_ts := gz_go (gz_tb (List.mem_append_left _ (List.mem_of_getElem? (i := 52) rfl))) rfl
theorem wf_X3_28 : Cond.fieldLink RX3 28 "GrownSnapshots$Store" "freshCount" "I" ∈ gz_ts := gz_go (gz_tb (List.mem_append_left _ (List.mem_of_getElem? (i := 53) rfl))) rfl
theorem wf_X3_32 : Cond.fieldLink RX3 32 "GrownSnapshots$Store" "freshBytes" "I" ∈ gz_ts := gz_go (gz_tb (List.mem_append_left _ (List.mem_of_getElem? (i := 54) rfl))) rfl
theorem wf_X4_105 : Cond.fieldLink RX4 105 "GrownSnapshots$Store" "freshBytes" "I" ∈ gz_ts := gz_go (gz_tb (List.mem_append_left _ (List.mem_of_getElem? (i := 55) rfl))) rfl
theorem wf_X3_35 : Cond.fieldLink RX3 35 "GrownSnapshots$Store" "count" "I" ∈ gz_ts := gz_go (gz_tb (List.mem_append_left _ (List.mem_of_getElem? (i := 56) rfl))) rfl
theorem wf_X4_213 : Cond.fieldLink RX4 213 "GrownSnapshots$Store" "count" "I" ∈ gz_ts := gz_go (gz_tb (List.mem_append_left _ (List.mem_of_getElem? (i := 57) rfl))) rfl
theorem wf_X3_38 : Cond.fieldLink RX3 38 "GrownSnapshots$Store" "totalBytes" "I" ∈ gz_ts := gz_go (gz_tb (List.mem_append_left _ (List.mem_of_getElem? (i := 58) rfl))) rfl
theorem wf_X4_216 : Cond.fieldLink RX4 216 "GrownSnapshots$Store" "totalBytes" "I" ∈ gz_ts := gz_go (gz_tb (List.mem_append_left _ (List.mem_of_getElem? (i := 59) rfl))) rfl
theorem wi_X2_init : Cond.instanceMethod yX2_init ∈ gz_ts := gz_go (gz_tb (List.mem_append_left _ (List.mem_of_getElem? (i := 81) rfl))) rfl
theorem wm_X2_3 : Cond.methodLink RX2 3 objectInit ∈ gz_ts := gz_go (gz_tb (List.mem_append_left _ (List.mem_of_getElem? (i := 83) rfl))) rfl
theorem wf_X2_9 : Cond.fieldLink RX2 9 "GrownSnapshots$State" "bytes" "[I" ∈ gz_ts := gz_go (gz_tb (List.mem_append_left _ (List.mem_of_getElem? (i := 84) rfl))) rfl
theorem wf_X4_66 : Cond.fieldLink RX4 66 "GrownSnapshots$State" "bytes" "[I" ∈ gz_ts := gz_go (gz_tb (List.mem_append_left _ (List.mem_of_getElem? (i := 85) rfl))) rfl
theorem wf_X2_15 : Cond.fieldLink RX2 15 "GrownSnapshots$State" "ends" "[I" ∈ gz_ts := gz_go (gz_tb (List.mem_append_left _ (List.mem_of_getElem? (i := 86) rfl))) rfl
theorem wf_X2_18 : Cond.fieldLink RX2 18 "GrownSnapshots$State" "size" "I" ∈ gz_ts := gz_go (gz_tb (List.mem_append_left _ (List.mem_of_getElem? (i := 87) rfl))) rfl
theorem wf_X4_59 : Cond.fieldLink RX4 59 "GrownSnapshots$State" "size" "I" ∈ gz_ts := gz_go (gz_tb (List.mem_append_left _ (List.mem_of_getElem? (i := 88) rfl))) rfl
theorem wi_X0_init : Cond.instanceMethod yX0_init ∈ gz_ts := gz_go (gz_tb (List.mem_append_left _ (List.mem_of_getElem? (i := 99) rfl))) rfl
theorem wm_X0_3 : Cond.methodLink RX0 3 objectInit ∈ gz_ts := gz_go (gz_tb (List.mem_append_left _ (List.mem_of_getElem? (i := 101) rfl))) rfl
theorem wf_X0_11 : Cond.fieldLink RX0 11 "GrownSnapshots$Mark" "lists" "[[I" ∈ gz_ts := gz_go (gz_tb (List.mem_append_left _ (List.mem_of_getElem? (i := 104) rfl))) rfl
theorem wf_X4_170 : Cond.fieldLink RX4 170 "GrownSnapshots$Mark" "lists" "[[I" ∈ gz_ts := gz_go (gz_tb (List.mem_append_left _ (List.mem_of_getElem? (i := 105) rfl))) rfl
theorem wf_X0_16 : Cond.fieldLink RX0 16 "GrownSnapshots$Mark" "sizes" "[I" ∈ gz_ts := gz_go (gz_tb (List.mem_append_left _ (List.mem_of_getElem? (i := 106) rfl))) rfl
theorem wf_X4_167 : Cond.fieldLink RX4 167 "GrownSnapshots$Mark" "sizes" "[I" ∈ gz_ts := gz_go (gz_tb (List.mem_append_left _ (List.mem_of_getElem? (i := 107) rfl))) rfl
theorem wf_X0_20 : Cond.fieldLink RX0 20 "GrownSnapshots$Mark" "number" "I" ∈ gz_ts := gz_go (gz_tb (List.mem_append_left _ (List.mem_of_getElem? (i := 108) rfl))) rfl
theorem wf_X4_122 : Cond.fieldLink RX4 122 "GrownSnapshots$Mark" "number" "I" ∈ gz_ts := gz_go (gz_tb (List.mem_append_left _ (List.mem_of_getElem? (i := 109) rfl))) rfl
theorem wf_X0_24 : Cond.fieldLink RX0 24 "GrownSnapshots$Mark" "kept" "Z" ∈ gz_ts := gz_go (gz_tb (List.mem_append_left _ (List.mem_of_getElem? (i := 110) rfl))) rfl
theorem wf_X4_129 : Cond.fieldLink RX4 129 "GrownSnapshots$Mark" "kept" "Z" ∈ gz_ts := gz_go (gz_tb (List.mem_append_left _ (List.mem_of_getElem? (i := 111) rfl))) rfl
theorem wf_X0_28 : Cond.fieldLink RX0 28 "GrownSnapshots$Mark" "base" "I" ∈ gz_ts := gz_go (gz_tb (List.mem_append_left _ (List.mem_of_getElem? (i := 112) rfl))) rfl
theorem wf_X4_155 : Cond.fieldLink RX4 155 "GrownSnapshots$Mark" "base" "I" ∈ gz_ts := gz_go (gz_tb (List.mem_append_left _ (List.mem_of_getElem? (i := 113) rfl))) rfl
theorem wf_X0_31 : Cond.fieldLink RX0 31 "GrownSnapshots$Mark" "tasks" "I" ∈ gz_ts := gz_go (gz_tb (List.mem_append_left _ (List.mem_of_getElem? (i := 114) rfl))) rfl
theorem wf_X4_142 : Cond.fieldLink RX4 142 "GrownSnapshots$Mark" "tasks" "I" ∈ gz_ts := gz_go (gz_tb (List.mem_append_left _ (List.mem_of_getElem? (i := 115) rfl))) rfl
theorem wf_X0_34 : Cond.fieldLink RX0 34 "GrownSnapshots$Mark" "ownParts" "I" ∈ gz_ts := gz_go (gz_tb (List.mem_append_left _ (List.mem_of_getElem? (i := 116) rfl))) rfl
theorem wf_X4_161 : Cond.fieldLink RX4 161 "GrownSnapshots$Mark" "ownParts" "I" ∈ gz_ts := gz_go (gz_tb (List.mem_append_left _ (List.mem_of_getElem? (i := 117) rfl))) rfl
theorem wf_X0_37 : Cond.fieldLink RX0 37 "GrownSnapshots$Mark" "listBytes" "I" ∈ gz_ts := gz_go (gz_tb (List.mem_append_left _ (List.mem_of_getElem? (i := 118) rfl))) rfl
theorem wf_X4_164 : Cond.fieldLink RX4 164 "GrownSnapshots$Mark" "listBytes" "I" ∈ gz_ts := gz_go (gz_tb (List.mem_append_left _ (List.mem_of_getElem? (i := 119) rfl))) rfl
theorem wf_X0_40 : Cond.fieldLink RX0 40 "GrownSnapshots$Mark" "newBytes" "I" ∈ gz_ts := gz_go (gz_tb (List.mem_append_left _ (List.mem_of_getElem? (i := 120) rfl))) rfl
theorem wf_X4_108 : Cond.fieldLink RX4 108 "GrownSnapshots$Mark" "newBytes" "I" ∈ gz_ts := gz_go (gz_tb (List.mem_append_left _ (List.mem_of_getElem? (i := 121) rfl))) rfl
theorem wf_X4_11 : Cond.fieldLink RX4 11 "GrownSnapshots" "states" "[LGrownSnapshots$State;" ∈ gz_ts := gz_go (gz_tb (List.mem_append_left _ (List.mem_of_getElem? (i := 141) rfl))) rfl
theorem wf_X4_17 : Cond.fieldLink RX4 17 "GrownSnapshots" "copies" "[LGrownSnapshots$Shelf;" ∈ gz_ts := gz_go (gz_tb (List.mem_append_left _ (List.mem_of_getElem? (i := 142) rfl))) rfl
theorem wf_X4_24 : Cond.fieldLink RX4 24 "GrownSnapshots" "store" "LGrownSnapshots$Store;" ∈ gz_ts := gz_go (gz_tb (List.mem_append_left _ (List.mem_of_getElem? (i := 143) rfl))) rfl
theorem wf_X4_30 : Cond.fieldLink RX4 30 "GrownSnapshots" "held" "[LGrownSnapshots$Mark;" ∈ gz_ts := gz_go (gz_tb (List.mem_append_left _ (List.mem_of_getElem? (i := 144) rfl))) rfl
theorem wf_X4_34 : Cond.fieldLink RX4 34 "GrownSnapshots" "joined" "[I" ∈ gz_ts := gz_go (gz_tb (List.mem_append_left _ (List.mem_of_getElem? (i := 145) rfl))) rfl
theorem wf_X4_38 : Cond.fieldLink RX4 38 "GrownSnapshots" "named" "[Z" ∈ gz_ts := gz_go (gz_tb (List.mem_append_left _ (List.mem_of_getElem? (i := 146) rfl))) rfl
theorem wf_X4_42 : Cond.fieldLink RX4 42 "GrownSnapshots" "taskCount" "I" ∈ gz_ts := gz_go (gz_tb (List.mem_append_left _ (List.mem_of_getElem? (i := 147) rfl))) rfl
theorem wf_X4_46 : Cond.fieldLink RX4 46 "GrownSnapshots" "heldCount" "I" ∈ gz_ts := gz_go (gz_tb (List.mem_append_left _ (List.mem_of_getElem? (i := 148) rfl))) rfl
theorem wf_X4_49 : Cond.fieldLink RX4 49 "GrownSnapshots" "nextMark" "I" ∈ gz_ts := gz_go (gz_tb (List.mem_append_left _ (List.mem_of_getElem? (i := 149) rfl))) rfl
theorem wm_L_15 : Cond.methodLink RL 15 yX4_insert ∈ gz_ts := gz_go (gz_tb (List.mem_append_left _ (List.mem_of_getElem? (i := 169) rfl))) rfl
theorem wi_X4_insert : Cond.instanceMethod yX4_insert ∈ gz_ts := gz_go (gz_tb (List.mem_append_left _ (List.mem_of_getElem? (i := 170) rfl))) rfl
theorem we_X4_insert : Cond.selects RX4 yX4_insert yX4_insert ∈ gz_ts := gz_go (gz_tb (List.mem_append_left _ (List.mem_of_getElem? (i := 171) rfl))) rfl
theorem wm_X4_55 : Cond.methodLink RX4 55 yX4_isTask ∈ gz_ts := gz_go (gz_tb (List.mem_append_left _ (List.mem_of_getElem? (i := 173) rfl))) rfl
theorem wi_X4_isTask : Cond.instanceMethod yX4_isTask ∈ gz_ts := gz_go (gz_tb (List.mem_append_left _ (List.mem_of_getElem? (i := 175) rfl))) rfl
theorem wm_X4_62 : Cond.methodLink RX4 62 yX2_open ∈ gz_ts := gz_go (gz_tb (List.mem_append_left _ (List.mem_of_getElem? (i := 177) rfl))) rfl
theorem wi_X2_open : Cond.instanceMethod yX2_open ∈ gz_ts := gz_go (gz_tb (List.mem_append_left _ (List.mem_of_getElem? (i := 178) rfl))) rfl
theorem we_X2_open : Cond.selects RX2 yX2_open yX2_open ∈ gz_ts := gz_go (gz_tb (List.mem_append_left _ (List.mem_of_getElem? (i := 179) rfl))) rfl
theorem wm_X2_22 : Cond.methodLink RX2 22 arraycopyName ∈ gz_ts := gz_go (gz_tb (List.mem_append_left _ (List.mem_of_getElem? (i := 181) rfl))) rfl
theorem ws_arraycopyName : Cond.static arraycopyName ∈ gz_ts := gz_go (gz_tb (List.mem_append_left _ (List.mem_of_getElem? (i := 182) rfl))) rfl
theorem wv_arraycopy : Cond.native arraycopyName ∈ gz_ts := gz_go (gz_tb (List.mem_append_left _ (List.mem_of_getElem? (i := 183) rfl))) rfl
theorem wm_L_20 : Cond.methodLink RL 20 yX4_remove ∈ gz_ts := gz_go (gz_tb (List.mem_append_left _ (List.mem_of_getElem? (i := 184) rfl))) rfl
theorem wi_X4_remove : Cond.instanceMethod yX4_remove ∈ gz_ts := gz_go (gz_tb (List.mem_append_left _ (List.mem_of_getElem? (i := 185) rfl))) rfl
theorem we_X4_remove : Cond.selects RX4 yX4_remove yX4_remove ∈ gz_ts := gz_go (gz_tb (List.mem_append_left _ (List.mem_of_getElem? (i := 186) rfl))) rfl
theorem wm_X4_69 : Cond.methodLink RX4 69 yX2_close ∈ gz_ts := gz_go (gz_tb (List.mem_append_left _ (List.mem_of_getElem? (i := 188) rfl))) rfl
theorem wi_X2_close : Cond.instanceMethod yX2_close ∈ gz_ts := gz_go (gz_tb (List.mem_append_left _ (List.mem_of_getElem? (i := 189) rfl))) rfl
theorem we_X2_close : Cond.selects RX2 yX2_close yX2_close ∈ gz_ts := gz_go (gz_tb (List.mem_append_left _ (List.mem_of_getElem? (i := 190) rfl))) rfl
theorem wm_L_25 : Cond.methodLink RL 25 yX4_extend ∈ gz_ts := gz_go (gz_tb (List.mem_append_left _ (List.mem_of_getElem? (i := 192) rfl))) rfl
theorem wi_X4_extend : Cond.instanceMethod yX4_extend ∈ gz_ts := gz_go (gz_tb (List.mem_append_left _ (List.mem_of_getElem? (i := 193) rfl))) rfl
theorem we_X4_extend : Cond.selects RX4 yX4_extend yX4_extend ∈ gz_ts := gz_go (gz_tb (List.mem_append_left _ (List.mem_of_getElem? (i := 194) rfl))) rfl
theorem wm_L_30 : Cond.methodLink RL 30 yX4_state ∈ gz_ts := gz_go (gz_tb (List.mem_append_left _ (List.mem_of_getElem? (i := 196) rfl))) rfl
theorem wi_X4_state : Cond.instanceMethod yX4_state ∈ gz_ts := gz_go (gz_tb (List.mem_append_left _ (List.mem_of_getElem? (i := 197) rfl))) rfl
theorem we_X4_state : Cond.selects RX4 yX4_state yX4_state ∈ gz_ts := gz_go (gz_tb (List.mem_append_left _ (List.mem_of_getElem? (i := 198) rfl))) rfl
theorem wm_L_35 : Cond.methodLink RL 35 yX4_chunk ∈ gz_ts := gz_go (gz_tb (List.mem_append_left _ (List.mem_of_getElem? (i := 200) rfl))) rfl
theorem wi_X4_chunk : Cond.instanceMethod yX4_chunk ∈ gz_ts := gz_go (gz_tb (List.mem_append_left _ (List.mem_of_getElem? (i := 201) rfl))) rfl
theorem we_X4_chunk : Cond.selects RX4 yX4_chunk yX4_chunk ∈ gz_ts := gz_go (gz_tb (List.mem_append_left _ (List.mem_of_getElem? (i := 202) rfl))) rfl
theorem wm_X4_72 : Cond.methodLink RX4 72 yX2_cut ∈ gz_ts := gz_go (gz_tb (List.mem_append_left _ (List.mem_of_getElem? (i := 204) rfl))) rfl
theorem wi_X2_cut : Cond.instanceMethod yX2_cut ∈ gz_ts := gz_go (gz_tb (List.mem_append_left _ (List.mem_of_getElem? (i := 205) rfl))) rfl
theorem we_X2_cut : Cond.selects RX2 yX2_cut yX2_cut ∈ gz_ts := gz_go (gz_tb (List.mem_append_left _ (List.mem_of_getElem? (i := 206) rfl))) rfl
theorem wm_X2_28 : Cond.methodLink RX2 28 yX2_endsChunk ∈ gz_ts := gz_go (gz_tb (List.mem_append_left _ (List.mem_of_getElem? (i := 208) rfl))) rfl
theorem wi_X2_endsChunk : Cond.instanceMethod yX2_endsChunk ∈ gz_ts := gz_go (gz_tb (List.mem_append_left _ (List.mem_of_getElem? (i := 210) rfl))) rfl
theorem wm_X4_76 : Cond.methodLink RX4 76 yX2_chunkSize ∈ gz_ts := gz_go (gz_tb (List.mem_append_left _ (List.mem_of_getElem? (i := 212) rfl))) rfl
theorem wi_X2_chunkSize : Cond.instanceMethod yX2_chunkSize ∈ gz_ts := gz_go (gz_tb (List.mem_append_left _ (List.mem_of_getElem? (i := 213) rfl))) rfl
theorem we_X2_chunkSize : Cond.selects RX2 yX2_chunkSize yX2_chunkSize ∈ gz_ts := gz_go (gz_tb (List.mem_append_left _ (List.mem_of_getElem? (i := 214) rfl))) rfl
theorem wm_X2_32 : Cond.methodLink RX2 32 yX2_chunkStart ∈ gz_ts := gz_go (gz_tb (List.mem_append_left _ (List.mem_of_getElem? (i := 216) rfl))) rfl
theorem wi_X2_chunkStart : Cond.instanceMethod yX2_chunkStart ∈ gz_ts := gz_go (gz_tb (List.mem_append_left _ (List.mem_of_getElem? (i := 217) rfl))) rfl
theorem we_X2_chunkStart : Cond.selects RX2 yX2_chunkStart yX2_chunkStart ∈ gz_ts := gz_go (gz_tb (List.mem_append_left _ (List.mem_of_getElem? (i := 218) rfl))) rfl
theorem wm_L_39 : Cond.methodLink RL 39 yX4_rescale ∈ gz_ts := gz_go (gz_tb (List.mem_append_left _ (List.mem_of_getElem? (i := 220) rfl))) rfl
theorem wi_X4_rescale : Cond.instanceMethod yX4_rescale ∈ gz_ts := gz_go (gz_tb (List.mem_append_left _ (List.mem_of_getElem? (i := 221) rfl))) rfl
theorem we_X4_rescale : Cond.selects RX4 yX4_rescale yX4_rescale ∈ gz_ts := gz_go (gz_tb (List.mem_append_left _ (List.mem_of_getElem? (i := 222) rfl))) rfl
theorem wm_X4_80 : Cond.methodLink RX4 80 yX4_totalStateBytes ∈ gz_ts := gz_go (gz_tb (List.mem_append_left _ (List.mem_of_getElem? (i := 224) rfl))) rfl
theorem wi_X4_totalStateBytes : Cond.instanceMethod yX4_totalStateBytes ∈ gz_ts := gz_go (gz_tb (List.mem_append_left _ (List.mem_of_getElem? (i := 226) rfl))) rfl
theorem wm_X4_83 : Cond.methodLink RX4 83 yX4_shareStart ∈ gz_ts := gz_go (gz_tb (List.mem_append_left _ (List.mem_of_getElem? (i := 228) rfl))) rfl
theorem ws_X4_shareStart : Cond.static yX4_shareStart ∈ gz_ts := gz_go (gz_tb (List.mem_append_left _ (List.mem_of_getElem? (i := 229) rfl))) rfl
theorem wm_X4_87 : Cond.methodLink RX4 87 yX4_joinStates ∈ gz_ts := gz_go (gz_tb (List.mem_append_left _ (List.mem_of_getElem? (i := 231) rfl))) rfl
theorem wi_X4_joinStates : Cond.instanceMethod yX4_joinStates ∈ gz_ts := gz_go (gz_tb (List.mem_append_left _ (List.mem_of_getElem? (i := 233) rfl))) rfl
theorem wm_X4_225 : Cond.methodLink RX4 225 arraycopyName ∈ gz_ts := gz_go (gz_tb (List.mem_append_left _ (List.mem_of_getElem? (i := 235) rfl))) rfl
theorem wm_X4_90 : Cond.methodLink RX4 90 yX4_becomeTasks ∈ gz_ts := gz_go (gz_tb (List.mem_append_left _ (List.mem_of_getElem? (i := 236) rfl))) rfl
theorem wi_X4_becomeTasks : Cond.instanceMethod yX4_becomeTasks ∈ gz_ts := gz_go (gz_tb (List.mem_append_left _ (List.mem_of_getElem? (i := 238) rfl))) rfl
theorem wm_X4_231 : Cond.methodLink RX4 231 yX1_clear ∈ gz_ts := gz_go (gz_tb (List.mem_append_right _ (List.mem_append_left _ (List.mem_of_getElem? (i := 0) rfl)))) rfl
theorem wi_X1_clear : Cond.instanceMethod yX1_clear ∈ gz_ts := gz_go (gz_tb (List.mem_append_right _ (List.mem_append_left _ (List.mem_of_getElem? (i := 1) rfl)))) rfl
theorem we_X1_clear : Cond.selects RX1 yX1_clear yX1_clear ∈ gz_ts := gz_go (gz_tb (List.mem_append_right _ (List.mem_append_left _ (List.mem_of_getElem? (i := 2) rfl)))) rfl
theorem wm_X4_94 : Cond.methodLink RX4 94 yX2_append ∈ gz_ts := gz_go (gz_tb (List.mem_append_right _ (List.mem_append_left _ (List.mem_of_getElem? (i := 4) rfl)))) rfl
theorem wi_X2_append : Cond.instanceMethod yX2_append ∈ gz_ts := gz_go (gz_tb (List.mem_append_right _ (List.mem_append_left _ (List.mem_of_getElem? (i := 5) rfl)))) rfl
theorem we_X2_append : Cond.selects RX2 yX2_append yX2_append ∈ gz_ts := gz_go (gz_tb (List.mem_append_right _ (List.mem_append_left _ (List.mem_of_getElem? (i := 6) rfl)))) rfl
theorem wm_L_44 : Cond.methodLink RL 44 yX4_mark ∈ gz_ts := gz_go (gz_tb (List.mem_append_right _ (List.mem_append_left _ (List.mem_of_getElem? (i := 8) rfl)))) rfl
theorem wi_X4_mark : Cond.instanceMethod yX4_mark ∈ gz_ts := gz_go (gz_tb (List.mem_append_right _ (List.mem_append_left _ (List.mem_of_getElem? (i := 9) rfl)))) rfl
theorem we_X4_mark : Cond.selects RX4 yX4_mark yX4_mark ∈ gz_ts := gz_go (gz_tb (List.mem_append_right _ (List.mem_append_left _ (List.mem_of_getElem? (i := 10) rfl)))) rfl
theorem wm_X4_98 : Cond.methodLink RX4 98 yX0_begin ∈ gz_ts := gz_go (gz_tb (List.mem_append_right _ (List.mem_append_left _ (List.mem_of_getElem? (i := 12) rfl)))) rfl
theorem wi_X0_begin : Cond.instanceMethod yX0_begin ∈ gz_ts := gz_go (gz_tb (List.mem_append_right _ (List.mem_append_left _ (List.mem_of_getElem? (i := 13) rfl)))) rfl
theorem we_X0_begin : Cond.selects RX0 yX0_begin yX0_begin ∈ gz_ts := gz_go (gz_tb (List.mem_append_right _ (List.mem_append_left _ (List.mem_of_getElem? (i := 14) rfl)))) rfl
theorem wm_X4_101 : Cond.methodLink RX4 101 yX4_storeStates ∈ gz_ts := gz_go (gz_tb (List.mem_append_right _ (List.mem_append_left _ (List.mem_of_getElem? (i := 16) rfl)))) rfl
theorem wi_X4_storeStates : Cond.instanceMethod yX4_storeStates ∈ gz_ts := gz_go (gz_tb (List.mem_append_right _ (List.mem_append_left _ (List.mem_of_getElem? (i := 18) rfl)))) rfl
theorem wm_X4_234 : Cond.methodLink RX4 234 yX3_beginMarking ∈ gz_ts := gz_go (gz_tb (List.mem_append_right _ (List.mem_append_left _ (List.mem_of_getElem? (i := 20) rfl)))) rfl
theorem wi_X3_beginMarking : Cond.instanceMethod yX3_beginMarking ∈ gz_ts := gz_go (gz_tb (List.mem_append_right _ (List.mem_append_left _ (List.mem_of_getElem? (i := 21) rfl)))) rfl
theorem we_X3_beginMarking : Cond.selects RX3 yX3_beginMarking yX3_beginMarking ∈ gz_ts := gz_go (gz_tb (List.mem_append_right _ (List.mem_append_left _ (List.mem_of_getElem? (i := 22) rfl)))) rfl
theorem wm_X4_237 : Cond.methodLink RX4 237 yX4_storeState ∈ gz_ts := gz_go (gz_tb (List.mem_append_right _ (List.mem_append_left _ (List.mem_of_getElem? (i := 24) rfl)))) rfl
theorem wi_X4_storeState : Cond.instanceMethod yX4_storeState ∈ gz_ts := gz_go (gz_tb (List.mem_append_right _ (List.mem_append_left _ (List.mem_of_getElem? (i := 26) rfl)))) rfl
theorem wm_X4_244 : Cond.methodLink RX4 244 yX2_chunkStart ∈ gz_ts := gz_go (gz_tb (List.mem_append_right _ (List.mem_append_left _ (List.mem_of_getElem? (i := 28) rfl)))) rfl
theorem wm_X4_247 : Cond.methodLink RX4 247 yX3_partOf ∈ gz_ts := gz_go (gz_tb (List.mem_append_right _ (List.mem_append_left _ (List.mem_of_getElem? (i := 29) rfl)))) rfl
theorem wi_X3_partOf : Cond.instanceMethod yX3_partOf ∈ gz_ts := gz_go (gz_tb (List.mem_append_right _ (List.mem_append_left _ (List.mem_of_getElem? (i := 30) rfl)))) rfl
theorem we_X3_partOf : Cond.selects RX3 yX3_partOf yX3_partOf ∈ gz_ts := gz_go (gz_tb (List.mem_append_right _ (List.mem_append_left _ (List.mem_of_getElem? (i := 31) rfl)))) rfl
theorem ws_X4_digestOf : Cond.static yX4_digestOf ∈ gz_ts := gz_go (gz_tb (List.mem_append_right _ (List.mem_append_left _ (List.mem_of_getElem? (i := 34) rfl)))) rfl
theorem wm_X3_64 : Cond.methodLink RX3 64 yX3_findPart ∈ gz_ts := gz_go (gz_tb (List.mem_append_right _ (List.mem_append_left _ (List.mem_of_getElem? (i := 36) rfl)))) rfl
theorem wi_X3_findPart : Cond.instanceMethod yX3_findPart ∈ gz_ts := gz_go (gz_tb (List.mem_append_right _ (List.mem_append_left _ (List.mem_of_getElem? (i := 38) rfl)))) rfl
theorem wm_X3_71 : Cond.methodLink RX3 71 yX1_holds ∈ gz_ts := gz_go (gz_tb (List.mem_append_right _ (List.mem_append_left _ (List.mem_of_getElem? (i := 40) rfl)))) rfl
theorem wi_X1_holds : Cond.instanceMethod yX1_holds ∈ gz_ts := gz_go (gz_tb (List.mem_append_right _ (List.mem_append_left _ (List.mem_of_getElem? (i := 41) rfl)))) rfl
theorem we_X1_holds : Cond.selects RX1 yX1_holds yX1_holds ∈ gz_ts := gz_go (gz_tb (List.mem_append_right _ (List.mem_append_left _ (List.mem_of_getElem? (i := 42) rfl)))) rfl
theorem wm_X3_68 : Cond.methodLink RX3 68 yX3_makePart ∈ gz_ts := gz_go (gz_tb (List.mem_append_right _ (List.mem_append_left _ (List.mem_of_getElem? (i := 44) rfl)))) rfl
theorem wi_X3_makePart : Cond.instanceMethod yX3_makePart ∈ gz_ts := gz_go (gz_tb (List.mem_append_right _ (List.mem_append_left _ (List.mem_of_getElem? (i := 46) rfl)))) rfl
theorem wm_X3_75 : Cond.methodLink RX3 75 yX3_leastUnused ∈ gz_ts := gz_go (gz_tb (List.mem_append_right _ (List.mem_append_left _ (List.mem_of_getElem? (i := 48) rfl)))) rfl
theorem wi_X3_leastUnused : Cond.instanceMethod yX3_leastUnused ∈ gz_ts := gz_go (gz_tb (List.mem_append_right _ (List.mem_append_left _ (List.mem_of_getElem? (i := 50) rfl)))) rfl
theorem wm_X3_79 : Cond.methodLink RX3 79 yX1_put ∈ gz_ts := gz_go (gz_tb (List.mem_append_right _ (List.mem_append_left _ (List.mem_of_getElem? (i := 52) rfl)))) rfl
theorem wi_X1_put : Cond.instanceMethod yX1_put ∈ gz_ts := gz_go (gz_tb (List.mem_append_right _ (List.mem_append_left _ (List.mem_of_getElem? (i := 53) rfl)))) rfl
theorem we_X1_put : Cond.selects RX1 yX1_put yX1_put ∈ gz_ts := gz_go (gz_tb (List.mem_append_right _ (List.mem_append_left _ (List.mem_of_getElem? (i := 54) rfl)))) rfl
theorem wm_X1_19 : Cond.methodLink RX1 19 arraycopyName ∈ gz_ts := gz_go (gz_tb (List.mem_append_right _ (List.mem_append_left _ (List.mem_of_getElem? (i := 56) rfl)))) rfl
theorem wm_X4_241 : Cond.methodLink RX4 241 yX3_undoMarking ∈ gz_ts := gz_go (gz_tb (List.mem_append_right _ (List.mem_append_left _ (List.mem_of_getElem? (i := 57) rfl)))) rfl
theorem wi_X3_undoMarking : Cond.instanceMethod yX3_undoMarking ∈ gz_ts := gz_go (gz_tb (List.mem_append_right _ (List.mem_append_left _ (List.mem_of_getElem? (i := 58) rfl)))) rfl
theorem we_X3_undoMarking : Cond.selects RX3 yX3_undoMarking yX3_undoMarking ∈ gz_ts := gz_go (gz_tb (List.mem_append_right _ (List.mem_append_left _ (List.mem_of_getElem? (i := 59) rfl)))) rfl
theorem wm_X3_60 : Cond.methodLink RX3 60 yX3_takeAway ∈ gz_ts := gz_go (gz_tb (List.mem_append_right _ (List.mem_append_left _ (List.mem_of_getElem? (i := 61) rfl)))) rfl
theorem wi_X3_takeAway : Cond.instanceMethod yX3_takeAway ∈ gz_ts := gz_go (gz_tb (List.mem_append_right _ (List.mem_append_left _ (List.mem_of_getElem? (i := 62) rfl)))) rfl
theorem we_X3_takeAway : Cond.selects RX3 yX3_takeAway yX3_takeAway ∈ gz_ts := gz_go (gz_tb (List.mem_append_right _ (List.mem_append_left _ (List.mem_of_getElem? (i := 63) rfl)))) rfl
theorem wm_X4_111 : Cond.methodLink RX4 111 yX4_latestKept ∈ gz_ts := gz_go (gz_tb (List.mem_append_right _ (List.mem_append_left _ (List.mem_of_getElem? (i := 65) rfl)))) rfl
theorem wi_X4_latestKept : Cond.instanceMethod yX4_latestKept ∈ gz_ts := gz_go (gz_tb (List.mem_append_right _ (List.mem_append_left _ (List.mem_of_getElem? (i := 67) rfl)))) rfl
theorem wm_X4_115 : Cond.methodLink RX4 115 yX0_growUpon ∈ gz_ts := gz_go (gz_tb (List.mem_append_right _ (List.mem_append_left _ (List.mem_of_getElem? (i := 69) rfl)))) rfl
theorem wi_X0_growUpon : Cond.instanceMethod yX0_growUpon ∈ gz_ts := gz_go (gz_tb (List.mem_append_right _ (List.mem_append_left _ (List.mem_of_getElem? (i := 70) rfl)))) rfl
theorem we_X0_growUpon : Cond.selects RX0 yX0_growUpon yX0_growUpon ∈ gz_ts := gz_go (gz_tb (List.mem_append_right _ (List.mem_append_left _ (List.mem_of_getElem? (i := 71) rfl)))) rfl
theorem wm_X0_43 : Cond.methodLink RX0 43 yX0_partCount ∈ gz_ts := gz_go (gz_tb (List.mem_append_right _ (List.mem_append_left _ (List.mem_of_getElem? (i := 73) rfl)))) rfl
theorem wi_X0_partCount : Cond.instanceMethod yX0_partCount ∈ gz_ts := gz_go (gz_tb (List.mem_append_right _ (List.mem_append_left _ (List.mem_of_getElem? (i := 74) rfl)))) rfl
theorem we_X0_partCount : Cond.selects RX0 yX0_partCount yX0_partCount ∈ gz_ts := gz_go (gz_tb (List.mem_append_right _ (List.mem_append_left _ (List.mem_of_getElem? (i := 75) rfl)))) rfl
theorem wm_X0_47 : Cond.methodLink RX0 47 yX0_sharedParts ∈ gz_ts := gz_go (gz_tb (List.mem_append_right _ (List.mem_append_left _ (List.mem_of_getElem? (i := 77) rfl)))) rfl
theorem wi_X0_sharedParts : Cond.instanceMethod yX0_sharedParts ∈ gz_ts := gz_go (gz_tb (List.mem_append_right _ (List.mem_append_left _ (List.mem_of_getElem? (i := 79) rfl)))) rfl
theorem wm_X0_51 : Cond.methodLink RX0 51 yJ9_min_7cf53 ∈ gz_ts := gz_go (gz_tb (List.mem_append_right _ (List.mem_append_left _ (List.mem_of_getElem? (i := 81) rfl)))) rfl
theorem ws_J9_min_7cf53 : Cond.static yJ9_min_7cf53 ∈ gz_ts := gz_go (gz_tb (List.mem_append_right _ (List.mem_append_left _ (List.mem_of_getElem? (i := 82) rfl)))) rfl
theorem wm_X4_119 : Cond.methodLink RX4 119 yX4_copyStates ∈ gz_ts := gz_go (gz_tb (List.mem_append_right _ (List.mem_append_left _ (List.mem_of_getElem? (i := 84) rfl)))) rfl
theorem wi_X4_copyStates : Cond.instanceMethod yX4_copyStates ∈ gz_ts := gz_go (gz_tb (List.mem_append_right _ (List.mem_append_left _ (List.mem_of_getElem? (i := 86) rfl)))) rfl
theorem wm_X4_251 : Cond.methodLink RX4 251 yX1_put ∈ gz_ts := gz_go (gz_tb (List.mem_append_right _ (List.mem_append_left _ (List.mem_of_getElem? (i := 88) rfl)))) rfl
theorem wm_L_48 : Cond.methodLink RL 48 yX4_drop ∈ gz_ts := gz_go (gz_tb (List.mem_append_right _ (List.mem_append_left _ (List.mem_of_getElem? (i := 89) rfl)))) rfl
theorem wi_X4_drop : Cond.instanceMethod yX4_drop ∈ gz_ts := gz_go (gz_tb (List.mem_append_right _ (List.mem_append_left _ (List.mem_of_getElem? (i := 90) rfl)))) rfl
theorem we_X4_drop : Cond.selects RX4 yX4_drop yX4_drop ∈ gz_ts := gz_go (gz_tb (List.mem_append_right _ (List.mem_append_left _ (List.mem_of_getElem? (i := 91) rfl)))) rfl
theorem wm_X4_125 : Cond.methodLink RX4 125 yX4_keptMark ∈ gz_ts := gz_go (gz_tb (List.mem_append_right _ (List.mem_append_left _ (List.mem_of_getElem? (i := 93) rfl)))) rfl
theorem wi_X4_keptMark : Cond.instanceMethod yX4_keptMark ∈ gz_ts := gz_go (gz_tb (List.mem_append_right _ (List.mem_append_left _ (List.mem_of_getElem? (i := 95) rfl)))) rfl
theorem wm_X4_152 : Cond.methodLink RX4 152 yX4_heldMark ∈ gz_ts := gz_go (gz_tb (List.mem_append_right _ (List.mem_append_left _ (List.mem_of_getElem? (i := 97) rfl)))) rfl
theorem wi_X4_heldMark : Cond.instanceMethod yX4_heldMark ∈ gz_ts := gz_go (gz_tb (List.mem_append_right _ (List.mem_append_left _ (List.mem_of_getElem? (i := 99) rfl)))) rfl
theorem wm_X4_133 : Cond.methodLink RX4 133 yX4_letGoUnheld ∈ gz_ts := gz_go (gz_tb (List.mem_append_right _ (List.mem_append_left _ (List.mem_of_getElem? (i := 101) rfl)))) rfl
theorem wi_X4_letGoUnheld : Cond.instanceMethod yX4_letGoUnheld ∈ gz_ts := gz_go (gz_tb (List.mem_append_right _ (List.mem_append_left _ (List.mem_of_getElem? (i := 103) rfl)))) rfl
theorem wm_X4_255 : Cond.methodLink RX4 255 yX4_isBase ∈ gz_ts := gz_go (gz_tb (List.mem_append_right _ (List.mem_append_left _ (List.mem_of_getElem? (i := 105) rfl)))) rfl
theorem wi_X4_isBase : Cond.instanceMethod yX4_isBase ∈ gz_ts := gz_go (gz_tb (List.mem_append_right _ (List.mem_append_left _ (List.mem_of_getElem? (i := 107) rfl)))) rfl
theorem wm_X4_258 : Cond.methodLink RX4 258 yX4_letGo ∈ gz_ts := gz_go (gz_tb (List.mem_append_right _ (List.mem_append_left _ (List.mem_of_getElem? (i := 109) rfl)))) rfl
theorem wi_X4_letGo : Cond.instanceMethod yX4_letGo ∈ gz_ts := gz_go (gz_tb (List.mem_append_right _ (List.mem_append_left _ (List.mem_of_getElem? (i := 111) rfl)))) rfl
theorem wm_X4_136 : Cond.methodLink RX4 136 yX4_freeUnnamed ∈ gz_ts := gz_go (gz_tb (List.mem_append_right _ (List.mem_append_left _ (List.mem_of_getElem? (i := 113) rfl)))) rfl
theorem wi_X4_freeUnnamed : Cond.instanceMethod yX4_freeUnnamed ∈ gz_ts := gz_go (gz_tb (List.mem_append_right _ (List.mem_append_left _ (List.mem_of_getElem? (i := 115) rfl)))) rfl
theorem wm_X4_261 : Cond.methodLink RX4 261 yX4_nameKeptParts ∈ gz_ts := gz_go (gz_tb (List.mem_append_right _ (List.mem_append_left _ (List.mem_of_getElem? (i := 117) rfl)))) rfl
theorem wi_X4_nameKeptParts : Cond.instanceMethod yX4_nameKeptParts ∈ gz_ts := gz_go (gz_tb (List.mem_append_right _ (List.mem_append_left _ (List.mem_of_getElem? (i := 119) rfl)))) rfl
theorem wm_X4_267 : Cond.methodLink RX4 267 yX0_addNames ∈ gz_ts := gz_go (gz_tb (List.mem_append_right _ (List.mem_append_left _ (List.mem_of_getElem? (i := 121) rfl)))) rfl
theorem wi_X0_addNames : Cond.instanceMethod yX0_addNames ∈ gz_ts := gz_go (gz_tb (List.mem_append_right _ (List.mem_append_left _ (List.mem_of_getElem? (i := 122) rfl)))) rfl
theorem we_X0_addNames : Cond.selects RX0 yX0_addNames yX0_addNames ∈ gz_ts := gz_go (gz_tb (List.mem_append_right _ (List.mem_append_left _ (List.mem_of_getElem? (i := 123) rfl)))) rfl
theorem wm_X4_177 : Cond.methodLink RX4 177 yX3_isThere ∈ gz_ts := gz_go (gz_tb (List.mem_append_right _ (List.mem_append_left _ (List.mem_of_getElem? (i := 125) rfl)))) rfl
theorem wi_X3_isThere : Cond.instanceMethod yX3_isThere ∈ gz_ts := gz_go (gz_tb (List.mem_append_right _ (List.mem_append_left _ (List.mem_of_getElem? (i := 126) rfl)))) rfl
theorem we_X3_isThere : Cond.selects RX3 yX3_isThere yX3_isThere ∈ gz_ts := gz_go (gz_tb (List.mem_append_right _ (List.mem_append_left _ (List.mem_of_getElem? (i := 127) rfl)))) rfl
theorem wm_X4_264 : Cond.methodLink RX4 264 yX4_freePart ∈ gz_ts := gz_go (gz_tb (List.mem_append_right _ (List.mem_append_left _ (List.mem_of_getElem? (i := 129) rfl)))) rfl
theorem wi_X4_freePart : Cond.instanceMethod yX4_freePart ∈ gz_ts := gz_go (gz_tb (List.mem_append_right _ (List.mem_append_left _ (List.mem_of_getElem? (i := 131) rfl)))) rfl
theorem wm_X4_271 : Cond.methodLink RX4 271 yX3_takeAway ∈ gz_ts := gz_go (gz_tb (List.mem_append_right _ (List.mem_append_left _ (List.mem_of_getElem? (i := 133) rfl)))) rfl
theorem wm_L_52 : Cond.methodLink RL 52 yX4_back ∈ gz_ts := gz_go (gz_tb (List.mem_append_right _ (List.mem_append_left _ (List.mem_of_getElem? (i := 134) rfl)))) rfl
theorem wi_X4_back : Cond.instanceMethod yX4_back ∈ gz_ts := gz_go (gz_tb (List.mem_append_right _ (List.mem_append_left _ (List.mem_of_getElem? (i := 135) rfl)))) rfl
theorem we_X4_back : Cond.selects RX4 yX4_back yX4_back ∈ gz_ts := gz_go (gz_tb (List.mem_append_right _ (List.mem_append_left _ (List.mem_of_getElem? (i := 136) rfl)))) rfl
theorem wm_X4_139 : Cond.methodLink RX4 139 yX4_latestUsable ∈ gz_ts := gz_go (gz_tb (List.mem_append_right _ (List.mem_append_left _ (List.mem_of_getElem? (i := 138) rfl)))) rfl
theorem wi_X4_latestUsable : Cond.instanceMethod yX4_latestUsable ∈ gz_ts := gz_go (gz_tb (List.mem_append_right _ (List.mem_append_left _ (List.mem_of_getElem? (i := 140) rfl)))) rfl
theorem wm_X4_149 : Cond.methodLink RX4 149 yX4_isUsable ∈ gz_ts := gz_go (gz_tb (List.mem_append_right _ (List.mem_append_left _ (List.mem_of_getElem? (i := 142) rfl)))) rfl
theorem wi_X4_isUsable : Cond.instanceMethod yX4_isUsable ∈ gz_ts := gz_go (gz_tb (List.mem_append_right _ (List.mem_append_left _ (List.mem_of_getElem? (i := 144) rfl)))) rfl
theorem wm_X4_277 : Cond.methodLink RX4 277 yX4_isReadable ∈ gz_ts := gz_go (gz_tb (List.mem_append_right _ (List.mem_append_left _ (List.mem_of_getElem? (i := 146) rfl)))) rfl
theorem wi_X4_isReadable : Cond.instanceMethod yX4_isReadable ∈ gz_ts := gz_go (gz_tb (List.mem_append_right _ (List.mem_append_left _ (List.mem_of_getElem? (i := 148) rfl)))) rfl
theorem wm_X4_191 : Cond.methodLink RX4 191 yX3_isSound ∈ gz_ts := gz_go (gz_tb (List.mem_append_right _ (List.mem_append_left _ (List.mem_of_getElem? (i := 150) rfl)))) rfl
theorem wi_X3_isSound : Cond.instanceMethod yX3_isSound ∈ gz_ts := gz_go (gz_tb (List.mem_append_right _ (List.mem_append_left _ (List.mem_of_getElem? (i := 151) rfl)))) rfl
theorem we_X3_isSound : Cond.selects RX3 yX3_isSound yX3_isSound ∈ gz_ts := gz_go (gz_tb (List.mem_append_right _ (List.mem_append_left _ (List.mem_of_getElem? (i := 152) rfl)))) rfl
theorem wm_X4_145 : Cond.methodLink RX4 145 yX4_readState ∈ gz_ts := gz_go (gz_tb (List.mem_append_right _ (List.mem_append_left _ (List.mem_of_getElem? (i := 154) rfl)))) rfl
theorem wi_X4_readState : Cond.instanceMethod yX4_readState ∈ gz_ts := gz_go (gz_tb (List.mem_append_right _ (List.mem_append_left _ (List.mem_of_getElem? (i := 156) rfl)))) rfl
theorem wm_X4_281 : Cond.methodLink RX4 281 yX4_readPart ∈ gz_ts := gz_go (gz_tb (List.mem_append_right _ (List.mem_append_left _ (List.mem_of_getElem? (i := 158) rfl)))) rfl
theorem wi_X4_readPart : Cond.instanceMethod yX4_readPart ∈ gz_ts := gz_go (gz_tb (List.mem_append_right _ (List.mem_append_left _ (List.mem_of_getElem? (i := 160) rfl)))) rfl
theorem wm_L_56 : Cond.methodLink RL 56 yX4_usable ∈ gz_ts := gz_go (gz_tb (List.mem_append_right _ (List.mem_append_left _ (List.mem_of_getElem? (i := 162) rfl)))) rfl
theorem wi_X4_usable : Cond.instanceMethod yX4_usable ∈ gz_ts := gz_go (gz_tb (List.mem_append_right _ (List.mem_append_left _ (List.mem_of_getElem? (i := 163) rfl)))) rfl
theorem we_X4_usable : Cond.selects RX4 yX4_usable yX4_usable ∈ gz_ts := gz_go (gz_tb (List.mem_append_right _ (List.mem_append_left _ (List.mem_of_getElem? (i := 164) rfl)))) rfl
theorem wm_L_60 : Cond.methodLink RL 60 yX4_markTold ∈ gz_ts := gz_go (gz_tb (List.mem_append_right _ (List.mem_append_left _ (List.mem_of_getElem? (i := 166) rfl)))) rfl
theorem wi_X4_markTold : Cond.instanceMethod yX4_markTold ∈ gz_ts := gz_go (gz_tb (List.mem_append_right _ (List.mem_append_left _ (List.mem_of_getElem? (i := 167) rfl)))) rfl
theorem we_X4_markTold : Cond.selects RX4 yX4_markTold yX4_markTold ∈ gz_ts := gz_go (gz_tb (List.mem_append_right _ (List.mem_append_left _ (List.mem_of_getElem? (i := 168) rfl)))) rfl
theorem wm_X4_158 : Cond.methodLink RX4 158 yX0_partCount ∈ gz_ts := gz_go (gz_tb (List.mem_append_right _ (List.mem_append_left _ (List.mem_of_getElem? (i := 170) rfl)))) rfl
theorem wm_L_64 : Cond.methodLink RL 64 yX4_list ∈ gz_ts := gz_go (gz_tb (List.mem_append_right _ (List.mem_append_left _ (List.mem_of_getElem? (i := 171) rfl)))) rfl
theorem wi_X4_list : Cond.instanceMethod yX4_list ∈ gz_ts := gz_go (gz_tb (List.mem_append_right _ (List.mem_append_left _ (List.mem_of_getElem? (i := 172) rfl)))) rfl
theorem we_X4_list : Cond.selects RX4 yX4_list yX4_list ∈ gz_ts := gz_go (gz_tb (List.mem_append_right _ (List.mem_append_left _ (List.mem_of_getElem? (i := 173) rfl)))) rfl
theorem wm_L_68 : Cond.methodLink RL 68 yX4_same ∈ gz_ts := gz_go (gz_tb (List.mem_append_right _ (List.mem_append_left _ (List.mem_of_getElem? (i := 175) rfl)))) rfl
theorem wi_X4_same : Cond.instanceMethod yX4_same ∈ gz_ts := gz_go (gz_tb (List.mem_append_right _ (List.mem_append_left _ (List.mem_of_getElem? (i := 176) rfl)))) rfl
theorem we_X4_same : Cond.selects RX4 yX4_same yX4_same ∈ gz_ts := gz_go (gz_tb (List.mem_append_right _ (List.mem_append_left _ (List.mem_of_getElem? (i := 177) rfl)))) rfl
theorem wm_X4_174 : Cond.methodLink RX4 174 yX0_isAlike ∈ gz_ts := gz_go (gz_tb (List.mem_append_right _ (List.mem_append_left _ (List.mem_of_getElem? (i := 179) rfl)))) rfl
theorem wi_X0_isAlike : Cond.instanceMethod yX0_isAlike ∈ gz_ts := gz_go (gz_tb (List.mem_append_right _ (List.mem_append_left _ (List.mem_of_getElem? (i := 180) rfl)))) rfl
theorem we_X0_isAlike : Cond.selects RX0 yX0_isAlike yX0_isAlike ∈ gz_ts := gz_go (gz_tb (List.mem_append_right _ (List.mem_append_left _ (List.mem_of_getElem? (i := 181) rfl)))) rfl
theorem wm_X0_57 : Cond.methodLink RX0 57 yX0_hasAlikeList ∈ gz_ts := gz_go (gz_tb (List.mem_append_right _ (List.mem_append_left _ (List.mem_of_getElem? (i := 183) rfl)))) rfl
theorem wi_X0_hasAlikeList : Cond.instanceMethod yX0_hasAlikeList ∈ gz_ts := gz_go (gz_tb (List.mem_append_right _ (List.mem_append_left _ (List.mem_of_getElem? (i := 185) rfl)))) rfl
theorem wm_L_73 : Cond.methodLink RL 73 yX4_partTold ∈ gz_ts := gz_go (gz_tb (List.mem_append_right _ (List.mem_append_left _ (List.mem_of_getElem? (i := 187) rfl)))) rfl
theorem wi_X4_partTold : Cond.instanceMethod yX4_partTold ∈ gz_ts := gz_go (gz_tb (List.mem_append_right _ (List.mem_append_left _ (List.mem_of_getElem? (i := 188) rfl)))) rfl
theorem we_X4_partTold : Cond.selects RX4 yX4_partTold yX4_partTold ∈ gz_ts := gz_go (gz_tb (List.mem_append_right _ (List.mem_append_left _ (List.mem_of_getElem? (i := 189) rfl)))) rfl
theorem wm_X4_184 : Cond.methodLink RX4 184 yX4_keptNaming ∈ gz_ts := gz_go (gz_tb (List.mem_append_right _ (List.mem_append_left _ (List.mem_of_getElem? (i := 191) rfl)))) rfl
theorem wi_X4_keptNaming : Cond.instanceMethod yX4_keptNaming ∈ gz_ts := gz_go (gz_tb (List.mem_append_right _ (List.mem_append_left _ (List.mem_of_getElem? (i := 193) rfl)))) rfl
theorem wm_X4_274 : Cond.methodLink RX4 274 yX0_names ∈ gz_ts := gz_go (gz_tb (List.mem_append_right _ (List.mem_append_left _ (List.mem_of_getElem? (i := 195) rfl)))) rfl
theorem wi_X0_names : Cond.instanceMethod yX0_names ∈ gz_ts := gz_go (gz_tb (List.mem_append_right _ (List.mem_append_left _ (List.mem_of_getElem? (i := 196) rfl)))) rfl
theorem we_X0_names : Cond.selects RX0 yX0_names yX0_names ∈ gz_ts := gz_go (gz_tb (List.mem_append_right _ (List.mem_append_left _ (List.mem_of_getElem? (i := 197) rfl)))) rfl
theorem wm_X4_195 : Cond.methodLink RX4 195 yX4_copyCount ∈ gz_ts := gz_go (gz_tb (List.mem_append_right _ (List.mem_append_left _ (List.mem_of_getElem? (i := 199) rfl)))) rfl
theorem wi_X4_copyCount : Cond.instanceMethod yX4_copyCount ∈ gz_ts := gz_go (gz_tb (List.mem_append_right _ (List.mem_append_left _ (List.mem_of_getElem? (i := 201) rfl)))) rfl
theorem wm_L_77 : Cond.methodLink RL 77 yX4_partByte ∈ gz_ts := gz_go (gz_tb (List.mem_append_right _ (List.mem_append_left _ (List.mem_of_getElem? (i := 203) rfl)))) rfl
theorem wi_X4_partByte : Cond.instanceMethod yX4_partByte ∈ gz_ts := gz_go (gz_tb (List.mem_append_right _ (List.mem_append_left _ (List.mem_of_getElem? (i := 204) rfl)))) rfl
theorem we_X4_partByte : Cond.selects RX4 yX4_partByte yX4_partByte ∈ gz_ts := gz_go (gz_tb (List.mem_append_right _ (List.mem_append_left _ (List.mem_of_getElem? (i := 205) rfl)))) rfl
theorem wm_X4_198 : Cond.methodLink RX4 198 yX4_shelfOf ∈ gz_ts := gz_go (gz_tb (List.mem_append_right _ (List.mem_append_left _ (List.mem_of_getElem? (i := 207) rfl)))) rfl
theorem wi_X4_shelfOf : Cond.instanceMethod yX4_shelfOf ∈ gz_ts := gz_go (gz_tb (List.mem_append_right _ (List.mem_append_left _ (List.mem_of_getElem? (i := 209) rfl)))) rfl
theorem wm_X4_202 : Cond.methodLink RX4 202 yX3_hasByte ∈ gz_ts := gz_go (gz_tb (List.mem_append_right _ (List.mem_append_left _ (List.mem_of_getElem? (i := 211) rfl)))) rfl
theorem wi_X3_hasByte : Cond.instanceMethod yX3_hasByte ∈ gz_ts := gz_go (gz_tb (List.mem_append_right _ (List.mem_append_left _ (List.mem_of_getElem? (i := 212) rfl)))) rfl
theorem we_X3_hasByte : Cond.selects RX3 yX3_hasByte yX3_hasByte ∈ gz_ts := gz_go (gz_tb (List.mem_append_right _ (List.mem_append_left _ (List.mem_of_getElem? (i := 213) rfl)))) rfl
theorem wm_X3_52 : Cond.methodLink RX3 52 yX3_isThere ∈ gz_ts := gz_go (gz_tb (List.mem_append_right _ (List.mem_append_left _ (List.mem_of_getElem? (i := 215) rfl)))) rfl
theorem wm_L_81 : Cond.methodLink RL 81 yX4_alter ∈ gz_ts := gz_go (gz_tb (List.mem_append_right _ (List.mem_append_left _ (List.mem_of_getElem? (i := 216) rfl)))) rfl
theorem wi_X4_alter : Cond.instanceMethod yX4_alter ∈ gz_ts := gz_go (gz_tb (List.mem_append_right _ (List.mem_append_left _ (List.mem_of_getElem? (i := 217) rfl)))) rfl
theorem we_X4_alter : Cond.selects RX4 yX4_alter yX4_alter ∈ gz_ts := gz_go (gz_tb (List.mem_append_right _ (List.mem_append_left _ (List.mem_of_getElem? (i := 218) rfl)))) rfl
theorem wm_L_85 : Cond.methodLink RL 85 yX4_lose ∈ gz_ts := gz_go (gz_tb (List.mem_append_right _ (List.mem_append_left _ (List.mem_of_getElem? (i := 220) rfl)))) rfl
theorem wi_X4_lose : Cond.instanceMethod yX4_lose ∈ gz_ts := gz_go (gz_tb (List.mem_append_right _ (List.mem_append_left _ (List.mem_of_getElem? (i := 221) rfl)))) rfl
theorem we_X4_lose : Cond.selects RX4 yX4_lose yX4_lose ∈ gz_ts := gz_go (gz_tb (List.mem_append_right _ (List.mem_append_left _ (List.mem_of_getElem? (i := 222) rfl)))) rfl
theorem wm_L_89 : Cond.methodLink RL 89 yX4_told ∈ gz_ts := gz_go (gz_tb (List.mem_append_right _ (List.mem_append_left _ (List.mem_of_getElem? (i := 224) rfl)))) rfl
theorem wi_X4_told : Cond.instanceMethod yX4_told ∈ gz_ts := gz_go (gz_tb (List.mem_append_right _ (List.mem_append_left _ (List.mem_of_getElem? (i := 225) rfl)))) rfl
theorem we_X4_told : Cond.selects RX4 yX4_told yX4_told ∈ gz_ts := gz_go (gz_tb (List.mem_append_right _ (List.mem_append_left _ (List.mem_of_getElem? (i := 226) rfl)))) rfl
theorem wm_X4_210 : Cond.methodLink RX4 210 yX4_keptCount ∈ gz_ts := gz_go (gz_tb (List.mem_append_right _ (List.mem_append_left _ (List.mem_of_getElem? (i := 228) rfl)))) rfl
theorem wi_X4_keptCount : Cond.instanceMethod yX4_keptCount ∈ gz_ts := gz_go (gz_tb (List.mem_append_right _ (List.mem_append_left _ (List.mem_of_getElem? (i := 230) rfl)))) rfl
theorem wm_X4_219 : Cond.methodLink RX4 219 yX3_brokenCount ∈ gz_ts := gz_go (gz_tb (List.mem_append_right _ (List.mem_append_left _ (List.mem_of_getElem? (i := 232) rfl)))) rfl
theorem wi_X3_brokenCount : Cond.instanceMethod yX3_brokenCount ∈ gz_ts := gz_go (gz_tb (List.mem_append_right _ (List.mem_append_left _ (List.mem_of_getElem? (i := 233) rfl)))) rfl
theorem we_X3_brokenCount : Cond.selects RX3 yX3_brokenCount yX3_brokenCount ∈ gz_ts := gz_go (gz_tb (List.mem_append_right _ (List.mem_append_left _ (List.mem_of_getElem? (i := 234) rfl)))) rfl
theorem wm_X3_56 : Cond.methodLink RX3 56 yX3_isSound ∈ gz_ts := gz_go (gz_tb (List.mem_append_right _ (List.mem_append_left _ (List.mem_of_getElem? (i := 236) rfl)))) rfl
theorem wm_X4_222 : Cond.methodLink RX4 222 yX4_allCopies ∈ gz_ts := gz_go (gz_tb (List.mem_append_right _ (List.mem_append_left _ (List.mem_of_getElem? (i := 237) rfl)))) rfl
theorem wi_X4_allCopies : Cond.instanceMethod yX4_allCopies ∈ gz_ts := gz_go (gz_tb (List.mem_append_right _ (List.mem_append_left _ (List.mem_of_getElem? (i := 239) rfl)))) rfl
theorem wm_L_12 : Cond.methodLink RL 12 yX5_init ∈ gz_ts := gz_go (gz_tb (List.mem_append_right _ (List.mem_append_right _ (List.mem_of_getElem? (i := 3) rfl)))) rfl
theorem wi_X5_init : Cond.instanceMethod yX5_init ∈ gz_ts := gz_go (gz_tb (List.mem_append_right _ (List.mem_append_right _ (List.mem_of_getElem? (i := 4) rfl)))) rfl
theorem wm_X5_1 : Cond.methodLink RX5 1 objectInit ∈ gz_ts := gz_go (gz_tb (List.mem_append_right _ (List.mem_append_right _ (List.mem_of_getElem? (i := 6) rfl)))) rfl
theorem wf_X5_7 : Cond.fieldLink RX5 7 "GrownSnapshotsModel" "tasks" "I" ∈ gz_ts := gz_go (gz_tb (List.mem_append_right _ (List.mem_append_right _ (List.mem_of_getElem? (i := 7) rfl)))) rfl
theorem wf_X5_13 : Cond.fieldLink RX5 13 "GrownSnapshotsModel" "size" "[I" ∈ gz_ts := gz_go (gz_tb (List.mem_append_right _ (List.mem_append_right _ (List.mem_of_getElem? (i := 8) rfl)))) rfl
theorem wf_X5_17 : Cond.fieldLink RX5 17 "GrownSnapshotsModel" "state" "[I" ∈ gz_ts := gz_go (gz_tb (List.mem_append_right _ (List.mem_append_right _ (List.mem_of_getElem? (i := 9) rfl)))) rfl
theorem wf_X5_20 : Cond.fieldLink RX5 20 "GrownSnapshotsModel" "moved" "[I" ∈ gz_ts := gz_go (gz_tb (List.mem_append_right _ (List.mem_append_right _ (List.mem_of_getElem? (i := 10) rfl)))) rfl
theorem wf_X5_23 : Cond.fieldLink RX5 23 "GrownSnapshotsModel" "partSize" "[I" ∈ gz_ts := gz_go (gz_tb (List.mem_append_right _ (List.mem_append_right _ (List.mem_of_getElem? (i := 11) rfl)))) rfl
theorem wf_X5_26 : Cond.fieldLink RX5 26 "GrownSnapshotsModel" "digest" "[I" ∈ gz_ts := gz_go (gz_tb (List.mem_append_right _ (List.mem_append_right _ (List.mem_of_getElem? (i := 12) rfl)))) rfl
theorem wf_X5_29 : Cond.fieldLink RX5 29 "GrownSnapshotsModel" "lost" "[Z" ∈ gz_ts := gz_go (gz_tb (List.mem_append_right _ (List.mem_append_right _ (List.mem_of_getElem? (i := 13) rfl)))) rfl
theorem wf_X5_33 : Cond.fieldLink RX5 33 "GrownSnapshotsModel" "bytes" "[I" ∈ gz_ts := gz_go (gz_tb (List.mem_append_right _ (List.mem_append_right _ (List.mem_of_getElem? (i := 14) rfl)))) rfl
theorem wf_X5_36 : Cond.fieldLink RX5 36 "GrownSnapshotsModel" "copied" "[Z" ∈ gz_ts := gz_go (gz_tb (List.mem_append_right _ (List.mem_append_right _ (List.mem_of_getElem? (i := 15) rfl)))) rfl
theorem wf_X5_39 : Cond.fieldLink RX5 39 "GrownSnapshotsModel" "copy" "[I" ∈ gz_ts := gz_go (gz_tb (List.mem_append_right _ (List.mem_append_right _ (List.mem_of_getElem? (i := 16) rfl)))) rfl
theorem wf_X5_128 : Cond.fieldLink RX5 128 "GrownSnapshotsModel" "next" "I" ∈ gz_ts := gz_go (gz_tb (List.mem_append_right _ (List.mem_append_right _ (List.mem_of_getElem? (i := 17) rfl)))) rfl
theorem wf_X5_42 : Cond.fieldLink RX5 42 "GrownSnapshotsModel" "number" "[I" ∈ gz_ts := gz_go (gz_tb (List.mem_append_right _ (List.mem_append_right _ (List.mem_of_getElem? (i := 18) rfl)))) rfl
theorem wf_X5_45 : Cond.fieldLink RX5 45 "GrownSnapshotsModel" "kept" "[Z" ∈ gz_ts := gz_go (gz_tb (List.mem_append_right _ (List.mem_append_right _ (List.mem_of_getElem? (i := 19) rfl)))) rfl
theorem wf_X5_48 : Cond.fieldLink RX5 48 "GrownSnapshotsModel" "base" "[I" ∈ gz_ts := gz_go (gz_tb (List.mem_append_right _ (List.mem_append_right _ (List.mem_of_getElem? (i := 20) rfl)))) rfl
theorem wf_X5_51 : Cond.fieldLink RX5 51 "GrownSnapshotsModel" "markTasks" "[I" ∈ gz_ts := gz_go (gz_tb (List.mem_append_right _ (List.mem_append_right _ (List.mem_of_getElem? (i := 21) rfl)))) rfl
theorem wf_X5_54 : Cond.fieldLink RX5 54 "GrownSnapshotsModel" "length" "[I" ∈ gz_ts := gz_go (gz_tb (List.mem_append_right _ (List.mem_append_right _ (List.mem_of_getElem? (i := 22) rfl)))) rfl
theorem wf_X5_57 : Cond.fieldLink RX5 57 "GrownSnapshotsModel" "lists" "[I" ∈ gz_ts := gz_go (gz_tb (List.mem_append_right _ (List.mem_append_right _ (List.mem_of_getElem? (i := 23) rfl)))) rfl
theorem wf_X5_60 : Cond.fieldLink RX5 60 "GrownSnapshotsModel" "own" "[I" ∈ gz_ts := gz_go (gz_tb (List.mem_append_right _ (List.mem_append_right _ (List.mem_of_getElem? (i := 24) rfl)))) rfl
theorem wf_X5_63 : Cond.fieldLink RX5 63 "GrownSnapshotsModel" "marked" "[I" ∈ gz_ts := gz_go (gz_tb (List.mem_append_right _ (List.mem_append_right _ (List.mem_of_getElem? (i := 25) rfl)))) rfl
theorem wf_X5_66 : Cond.fieldLink RX5 66 "GrownSnapshotsModel" "fresh" "[I" ∈ gz_ts := gz_go (gz_tb (List.mem_append_right _ (List.mem_append_right _ (List.mem_of_getElem? (i := 26) rfl)))) rfl
theorem wf_X5_69 : Cond.fieldLink RX5 69 "GrownSnapshotsModel" "isNew" "[Z" ∈ gz_ts := gz_go (gz_tb (List.mem_append_right _ (List.mem_append_right _ (List.mem_of_getElem? (i := 27) rfl)))) rfl
theorem wm_L_19 : Cond.methodLink RL 19 yX5_insert ∈ gz_ts := gz_go (gz_tb (List.mem_append_right _ (List.mem_append_right _ (List.mem_of_getElem? (i := 71) rfl)))) rfl
theorem wi_X5_insert : Cond.instanceMethod yX5_insert ∈ gz_ts := gz_go (gz_tb (List.mem_append_right _ (List.mem_append_right _ (List.mem_of_getElem? (i := 72) rfl)))) rfl
theorem we_X5_insert : Cond.selects RX5 yX5_insert yX5_insert ∈ gz_ts := gz_go (gz_tb (List.mem_append_right _ (List.mem_append_right _ (List.mem_of_getElem? (i := 73) rfl)))) rfl
theorem wm_X5_76 : Cond.methodLink RX5 76 yX5_isTask ∈ gz_ts := gz_go (gz_tb (List.mem_append_right _ (List.mem_append_right _ (List.mem_of_getElem? (i := 75) rfl)))) rfl
theorem wi_X5_isTask : Cond.instanceMethod yX5_isTask ∈ gz_ts := gz_go (gz_tb (List.mem_append_right _ (List.mem_append_right _ (List.mem_of_getElem? (i := 77) rfl)))) rfl
theorem wm_X5_72 : Cond.methodLink RX5 72 yX5_in ∈ gz_ts := gz_go (gz_tb (List.mem_append_right _ (List.mem_append_right _ (List.mem_of_getElem? (i := 79) rfl)))) rfl
theorem ws_X5_in : Cond.static yX5_in ∈ gz_ts := gz_go (gz_tb (List.mem_append_right _ (List.mem_append_right _ (List.mem_of_getElem? (i := 80) rfl)))) rfl
theorem wl_X5_80 : Cond.constantLong RX5 80 (255 : Int64) ∈ gz_ts := gz_go (gz_tb (List.mem_append_right _ (List.mem_append_right _ (List.mem_of_getElem? (i := 82) rfl)))) rfl
theorem wm_L_24 : Cond.methodLink RL 24 yX5_remove ∈ gz_ts := gz_go (gz_tb (List.mem_append_right _ (List.mem_append_right _ (List.mem_of_getElem? (i := 83) rfl)))) rfl
theorem wi_X5_remove : Cond.instanceMethod yX5_remove ∈ gz_ts := gz_go (gz_tb (List.mem_append_right _ (List.mem_append_right _ (List.mem_of_getElem? (i := 84) rfl)))) rfl
theorem we_X5_remove : Cond.selects RX5 yX5_remove yX5_remove ∈ gz_ts := gz_go (gz_tb (List.mem_append_right _ (List.mem_append_right _ (List.mem_of_getElem? (i := 85) rfl)))) rfl
theorem wm_L_29 : Cond.methodLink RL 29 yX5_extend ∈ gz_ts := gz_go (gz_tb (List.mem_append_right _ (List.mem_append_right _ (List.mem_of_getElem? (i := 87) rfl)))) rfl
theorem wi_X5_extend : Cond.instanceMethod yX5_extend ∈ gz_ts := gz_go (gz_tb (List.mem_append_right _ (List.mem_append_right _ (List.mem_of_getElem? (i := 88) rfl)))) rfl
theorem we_X5_extend : Cond.selects RX5 yX5_extend yX5_extend ∈ gz_ts := gz_go (gz_tb (List.mem_append_right _ (List.mem_append_right _ (List.mem_of_getElem? (i := 89) rfl)))) rfl
theorem wm_L_34 : Cond.methodLink RL 34 yX5_state ∈ gz_ts := gz_go (gz_tb (List.mem_append_right _ (List.mem_append_right _ (List.mem_of_getElem? (i := 91) rfl)))) rfl
theorem wi_X5_state : Cond.instanceMethod yX5_state ∈ gz_ts := gz_go (gz_tb (List.mem_append_right _ (List.mem_append_right _ (List.mem_of_getElem? (i := 92) rfl)))) rfl
theorem we_X5_state : Cond.selects RX5 yX5_state yX5_state ∈ gz_ts := gz_go (gz_tb (List.mem_append_right _ (List.mem_append_right _ (List.mem_of_getElem? (i := 93) rfl)))) rfl
theorem wm_L_38 : Cond.methodLink RL 38 yX5_chunk ∈ gz_ts := gz_go (gz_tb (List.mem_append_right _ (List.mem_append_right _ (List.mem_of_getElem? (i := 95) rfl)))) rfl
theorem wi_X5_chunk : Cond.instanceMethod yX5_chunk ∈ gz_ts := gz_go (gz_tb (List.mem_append_right _ (List.mem_append_right _ (List.mem_of_getElem? (i := 96) rfl)))) rfl
theorem we_X5_chunk : Cond.selects RX5 yX5_chunk yX5_chunk ∈ gz_ts := gz_go (gz_tb (List.mem_append_right _ (List.mem_append_right _ (List.mem_of_getElem? (i := 97) rfl)))) rfl
theorem wm_X5_82 : Cond.methodLink RX5 82 yX5_chunkFrom ∈ gz_ts := gz_go (gz_tb (List.mem_append_right _ (List.mem_append_right _ (List.mem_of_getElem? (i := 99) rfl)))) rfl
theorem wi_X5_chunkFrom : Cond.instanceMethod yX5_chunkFrom ∈ gz_ts := gz_go (gz_tb (List.mem_append_right _ (List.mem_append_right _ (List.mem_of_getElem? (i := 101) rfl)))) rfl
theorem wm_L_43 : Cond.methodLink RL 43 yX5_rescale ∈ gz_ts := gz_go (gz_tb (List.mem_append_right _ (List.mem_append_right _ (List.mem_of_getElem? (i := 103) rfl)))) rfl
theorem wi_X5_rescale : Cond.instanceMethod yX5_rescale ∈ gz_ts := gz_go (gz_tb (List.mem_append_right _ (List.mem_append_right _ (List.mem_of_getElem? (i := 104) rfl)))) rfl
theorem we_X5_rescale : Cond.selects RX5 yX5_rescale yX5_rescale ∈ gz_ts := gz_go (gz_tb (List.mem_append_right _ (List.mem_append_right _ (List.mem_of_getElem? (i := 105) rfl)))) rfl
theorem wm_X5_86 : Cond.methodLink RX5 86 yX5_become ∈ gz_ts := gz_go (gz_tb (List.mem_append_right _ (List.mem_append_right _ (List.mem_of_getElem? (i := 107) rfl)))) rfl
theorem wi_X5_become : Cond.instanceMethod yX5_become ∈ gz_ts := gz_go (gz_tb (List.mem_append_right _ (List.mem_append_right _ (List.mem_of_getElem? (i := 109) rfl)))) rfl
theorem wm_L_76 : Cond.methodLink RL 76 yX5_partTold ∈ gz_ts := gz_go (gz_tb (List.mem_append_right _ (List.mem_append_right _ (List.mem_of_getElem? (i := 111) rfl)))) rfl
theorem wi_X5_partTold : Cond.instanceMethod yX5_partTold ∈ gz_ts := gz_go (gz_tb (List.mem_append_right _ (List.mem_append_right _ (List.mem_of_getElem? (i := 112) rfl)))) rfl
theorem we_X5_partTold : Cond.selects RX5 yX5_partTold yX5_partTold ∈ gz_ts := gz_go (gz_tb (List.mem_append_right _ (List.mem_append_right _ (List.mem_of_getElem? (i := 113) rfl)))) rfl
theorem wm_X5_90 : Cond.methodLink RX5 90 yX5_isPart ∈ gz_ts := gz_go (gz_tb (List.mem_append_right _ (List.mem_append_right _ (List.mem_of_getElem? (i := 115) rfl)))) rfl
theorem wi_X5_isPart : Cond.instanceMethod yX5_isPart ∈ gz_ts := gz_go (gz_tb (List.mem_append_right _ (List.mem_append_right _ (List.mem_of_getElem? (i := 117) rfl)))) rfl
theorem wm_X5_100 : Cond.methodLink RX5 100 yX5_hasPart ∈ gz_ts := gz_go (gz_tb (List.mem_append_right _ (List.mem_append_right _ (List.mem_of_getElem? (i := 119) rfl)))) rfl
theorem wi_X5_hasPart : Cond.instanceMethod yX5_hasPart ∈ gz_ts := gz_go (gz_tb (List.mem_append_right _ (List.mem_append_right _ (List.mem_of_getElem? (i := 121) rfl)))) rfl
theorem wm_X5_97 : Cond.methodLink RX5 97 yX5_isBroken ∈ gz_ts := gz_go (gz_tb (List.mem_append_right _ (List.mem_append_right _ (List.mem_of_getElem? (i := 123) rfl)))) rfl
theorem wi_X5_isBroken : Cond.instanceMethod yX5_isBroken ∈ gz_ts := gz_go (gz_tb (List.mem_append_right _ (List.mem_append_right _ (List.mem_of_getElem? (i := 125) rfl)))) rfl
theorem wm_L_80 : Cond.methodLink RL 80 yX5_partByte ∈ gz_ts := gz_go (gz_tb (List.mem_append_right _ (List.mem_append_right _ (List.mem_of_getElem? (i := 127) rfl)))) rfl
theorem wi_X5_partByte : Cond.instanceMethod yX5_partByte ∈ gz_ts := gz_go (gz_tb (List.mem_append_right _ (List.mem_append_right _ (List.mem_of_getElem? (i := 128) rfl)))) rfl
theorem we_X5_partByte : Cond.selects RX5 yX5_partByte yX5_partByte ∈ gz_ts := gz_go (gz_tb (List.mem_append_right _ (List.mem_append_right _ (List.mem_of_getElem? (i := 129) rfl)))) rfl
theorem wm_X5_103 : Cond.methodLink RX5 103 yX5_isByte ∈ gz_ts := gz_go (gz_tb (List.mem_append_right _ (List.mem_append_right _ (List.mem_of_getElem? (i := 131) rfl)))) rfl
theorem wi_X5_isByte : Cond.instanceMethod yX5_isByte ∈ gz_ts := gz_go (gz_tb (List.mem_append_right _ (List.mem_append_right _ (List.mem_of_getElem? (i := 133) rfl)))) rfl
theorem wm_L_84 : Cond.methodLink RL 84 yX5_alter ∈ gz_ts := gz_go (gz_tb (List.mem_append_right _ (List.mem_append_right _ (List.mem_of_getElem? (i := 135) rfl)))) rfl
theorem wi_X5_alter : Cond.instanceMethod yX5_alter ∈ gz_ts := gz_go (gz_tb (List.mem_append_right _ (List.mem_append_right _ (List.mem_of_getElem? (i := 136) rfl)))) rfl
theorem we_X5_alter : Cond.selects RX5 yX5_alter yX5_alter ∈ gz_ts := gz_go (gz_tb (List.mem_append_right _ (List.mem_append_right _ (List.mem_of_getElem? (i := 137) rfl)))) rfl
theorem wm_X5_106 : Cond.methodLink RX5 106 yX5_partByte ∈ gz_ts := gz_go (gz_tb (List.mem_append_right _ (List.mem_append_right _ (List.mem_of_getElem? (i := 139) rfl)))) rfl
theorem wm_L_88 : Cond.methodLink RL 88 yX5_lose ∈ gz_ts := gz_go (gz_tb (List.mem_append_right _ (List.mem_append_right _ (List.mem_of_getElem? (i := 140) rfl)))) rfl
theorem wi_X5_lose : Cond.instanceMethod yX5_lose ∈ gz_ts := gz_go (gz_tb (List.mem_append_right _ (List.mem_append_right _ (List.mem_of_getElem? (i := 141) rfl)))) rfl
theorem we_X5_lose : Cond.selects RX5 yX5_lose yX5_lose ∈ gz_ts := gz_go (gz_tb (List.mem_append_right _ (List.mem_append_right _ (List.mem_of_getElem? (i := 142) rfl)))) rfl
theorem wm_L_47 : Cond.methodLink RL 47 yX5_mark ∈ gz_ts := gz_go (gz_tb (List.mem_append_right _ (List.mem_append_right _ (List.mem_of_getElem? (i := 144) rfl)))) rfl
theorem wi_X5_mark : Cond.instanceMethod yX5_mark ∈ gz_ts := gz_go (gz_tb (List.mem_append_right _ (List.mem_append_right _ (List.mem_of_getElem? (i := 145) rfl)))) rfl
theorem we_X5_mark : Cond.selects RX5 yX5_mark yX5_mark ∈ gz_ts := gz_go (gz_tb (List.mem_append_right _ (List.mem_append_right _ (List.mem_of_getElem? (i := 146) rfl)))) rfl
theorem wm_X5_118 : Cond.methodLink RX5 118 yX5_held ∈ gz_ts := gz_go (gz_tb (List.mem_append_right _ (List.mem_append_right _ (List.mem_of_getElem? (i := 148) rfl)))) rfl
theorem wi_X5_held : Cond.instanceMethod yX5_held ∈ gz_ts := gz_go (gz_tb (List.mem_append_right _ (List.mem_append_right _ (List.mem_of_getElem? (i := 150) rfl)))) rfl
theorem wm_X5_122 : Cond.methodLink RX5 122 yX5_partFor ∈ gz_ts := gz_go (gz_tb (List.mem_append_right _ (List.mem_append_right _ (List.mem_of_getElem? (i := 152) rfl)))) rfl
theorem wi_X5_partFor : Cond.instanceMethod yX5_partFor ∈ gz_ts := gz_go (gz_tb (List.mem_append_right _ (List.mem_append_right _ (List.mem_of_getElem? (i := 154) rfl)))) rfl
theorem wm_X5_114 : Cond.methodLink RX5 114 yX5_isChunk ∈ gz_ts := gz_go (gz_tb (List.mem_append_right _ (List.mem_append_right _ (List.mem_of_getElem? (i := 156) rfl)))) rfl
theorem wi_X5_isChunk : Cond.instanceMethod yX5_isChunk ∈ gz_ts := gz_go (gz_tb (List.mem_append_right _ (List.mem_append_right _ (List.mem_of_getElem? (i := 158) rfl)))) rfl
theorem wm_X5_125 : Cond.methodLink RX5 125 yX5_allBytes ∈ gz_ts := gz_go (gz_tb (List.mem_append_right _ (List.mem_append_right _ (List.mem_of_getElem? (i := 160) rfl)))) rfl
theorem wi_X5_allBytes : Cond.instanceMethod yX5_allBytes ∈ gz_ts := gz_go (gz_tb (List.mem_append_right _ (List.mem_append_right _ (List.mem_of_getElem? (i := 162) rfl)))) rfl
theorem wm_X5_131 : Cond.methodLink RX5 131 yX5_latest ∈ gz_ts := gz_go (gz_tb (List.mem_append_right _ (List.mem_append_right _ (List.mem_of_getElem? (i := 164) rfl)))) rfl
theorem wi_X5_latest : Cond.instanceMethod yX5_latest ∈ gz_ts := gz_go (gz_tb (List.mem_append_right _ (List.mem_append_right _ (List.mem_of_getElem? (i := 166) rfl)))) rfl
theorem wm_X5_134 : Cond.methodLink RX5 134 yX5_tells ∈ gz_ts := gz_go (gz_tb (List.mem_append_right _ (List.mem_append_right _ (List.mem_of_getElem? (i := 168) rfl)))) rfl
theorem wi_X5_tells : Cond.instanceMethod yX5_tells ∈ gz_ts := gz_go (gz_tb (List.mem_append_right _ (List.mem_append_right _ (List.mem_of_getElem? (i := 170) rfl)))) rfl
theorem wm_L_51 : Cond.methodLink RL 51 yX5_drop ∈ gz_ts := gz_go (gz_tb (List.mem_append_right _ (List.mem_append_right _ (List.mem_of_getElem? (i := 172) rfl)))) rfl
theorem wi_X5_drop : Cond.instanceMethod yX5_drop ∈ gz_ts := gz_go (gz_tb (List.mem_append_right _ (List.mem_append_right _ (List.mem_of_getElem? (i := 173) rfl)))) rfl
theorem we_X5_drop : Cond.selects RX5 yX5_drop yX5_drop ∈ gz_ts := gz_go (gz_tb (List.mem_append_right _ (List.mem_append_right _ (List.mem_of_getElem? (i := 174) rfl)))) rfl
theorem wm_X5_137 : Cond.methodLink RX5 137 yX5_keptSlot ∈ gz_ts := gz_go (gz_tb (List.mem_append_right _ (List.mem_append_right _ (List.mem_of_getElem? (i := 176) rfl)))) rfl
theorem wi_X5_keptSlot : Cond.instanceMethod yX5_keptSlot ∈ gz_ts := gz_go (gz_tb (List.mem_append_right _ (List.mem_append_right _ (List.mem_of_getElem? (i := 178) rfl)))) rfl
theorem wm_X5_110 : Cond.methodLink RX5 110 yX5_slotOf ∈ gz_ts := gz_go (gz_tb (List.mem_append_right _ (List.mem_append_right _ (List.mem_of_getElem? (i := 180) rfl)))) rfl
theorem wi_X5_slotOf : Cond.instanceMethod yX5_slotOf ∈ gz_ts := gz_go (gz_tb (List.mem_append_right _ (List.mem_append_right _ (List.mem_of_getElem? (i := 182) rfl)))) rfl
theorem wm_L_59 : Cond.methodLink RL 59 yX5_usable ∈ gz_ts := gz_go (gz_tb (List.mem_append_right _ (List.mem_append_right _ (List.mem_of_getElem? (i := 184) rfl)))) rfl
theorem wi_X5_usable : Cond.instanceMethod yX5_usable ∈ gz_ts := gz_go (gz_tb (List.mem_append_right _ (List.mem_append_right _ (List.mem_of_getElem? (i := 185) rfl)))) rfl
theorem we_X5_usable : Cond.selects RX5 yX5_usable yX5_usable ∈ gz_ts := gz_go (gz_tb (List.mem_append_right _ (List.mem_append_right _ (List.mem_of_getElem? (i := 186) rfl)))) rfl
theorem wm_X5_143 : Cond.methodLink RX5 143 yX5_isUsable ∈ gz_ts := gz_go (gz_tb (List.mem_append_right _ (List.mem_append_right _ (List.mem_of_getElem? (i := 188) rfl)))) rfl
theorem wi_X5_isUsable : Cond.instanceMethod yX5_isUsable ∈ gz_ts := gz_go (gz_tb (List.mem_append_right _ (List.mem_append_right _ (List.mem_of_getElem? (i := 190) rfl)))) rfl
theorem wm_X5_140 : Cond.methodLink RX5 140 yX5_isReadable ∈ gz_ts := gz_go (gz_tb (List.mem_append_right _ (List.mem_append_right _ (List.mem_of_getElem? (i := 192) rfl)))) rfl
theorem wi_X5_isReadable : Cond.instanceMethod yX5_isReadable ∈ gz_ts := gz_go (gz_tb (List.mem_append_right _ (List.mem_append_right _ (List.mem_of_getElem? (i := 194) rfl)))) rfl
theorem wm_X5_93 : Cond.methodLink RX5 93 yX5_isGoodCopy ∈ gz_ts := gz_go (gz_tb (List.mem_append_right _ (List.mem_append_right _ (List.mem_of_getElem? (i := 196) rfl)))) rfl
theorem wi_X5_isGoodCopy : Cond.instanceMethod yX5_isGoodCopy ∈ gz_ts := gz_go (gz_tb (List.mem_append_right _ (List.mem_append_right _ (List.mem_of_getElem? (i := 198) rfl)))) rfl
theorem wm_L_55 : Cond.methodLink RL 55 yX5_back ∈ gz_ts := gz_go (gz_tb (List.mem_append_right _ (List.mem_append_right _ (List.mem_of_getElem? (i := 200) rfl)))) rfl
theorem wi_X5_back : Cond.instanceMethod yX5_back ∈ gz_ts := gz_go (gz_tb (List.mem_append_right _ (List.mem_append_right _ (List.mem_of_getElem? (i := 201) rfl)))) rfl
theorem we_X5_back : Cond.selects RX5 yX5_back yX5_back ∈ gz_ts := gz_go (gz_tb (List.mem_append_right _ (List.mem_append_right _ (List.mem_of_getElem? (i := 202) rfl)))) rfl
theorem wm_X5_146 : Cond.methodLink RX5 146 yX5_read ∈ gz_ts := gz_go (gz_tb (List.mem_append_right _ (List.mem_append_right _ (List.mem_of_getElem? (i := 204) rfl)))) rfl
theorem wi_X5_read : Cond.instanceMethod yX5_read ∈ gz_ts := gz_go (gz_tb (List.mem_append_right _ (List.mem_append_right _ (List.mem_of_getElem? (i := 206) rfl)))) rfl
theorem wm_L_63 : Cond.methodLink RL 63 yX5_markTold ∈ gz_ts := gz_go (gz_tb (List.mem_append_right _ (List.mem_append_right _ (List.mem_of_getElem? (i := 208) rfl)))) rfl
theorem wi_X5_markTold : Cond.instanceMethod yX5_markTold ∈ gz_ts := gz_go (gz_tb (List.mem_append_right _ (List.mem_append_right _ (List.mem_of_getElem? (i := 209) rfl)))) rfl
theorem we_X5_markTold : Cond.selects RX5 yX5_markTold yX5_markTold ∈ gz_ts := gz_go (gz_tb (List.mem_append_right _ (List.mem_append_right _ (List.mem_of_getElem? (i := 210) rfl)))) rfl
theorem wm_L_67 : Cond.methodLink RL 67 yX5_list ∈ gz_ts := gz_go (gz_tb (List.mem_append_right _ (List.mem_append_right _ (List.mem_of_getElem? (i := 212) rfl)))) rfl
theorem wi_X5_list : Cond.instanceMethod yX5_list ∈ gz_ts := gz_go (gz_tb (List.mem_append_right _ (List.mem_append_right _ (List.mem_of_getElem? (i := 213) rfl)))) rfl
theorem we_X5_list : Cond.selects RX5 yX5_list yX5_list ∈ gz_ts := gz_go (gz_tb (List.mem_append_right _ (List.mem_append_right _ (List.mem_of_getElem? (i := 214) rfl)))) rfl
theorem wm_L_72 : Cond.methodLink RL 72 yX5_same ∈ gz_ts := gz_go (gz_tb (List.mem_append_right _ (List.mem_append_right _ (List.mem_of_getElem? (i := 216) rfl)))) rfl
theorem wi_X5_same : Cond.instanceMethod yX5_same ∈ gz_ts := gz_go (gz_tb (List.mem_append_right _ (List.mem_append_right _ (List.mem_of_getElem? (i := 217) rfl)))) rfl
theorem we_X5_same : Cond.selects RX5 yX5_same yX5_same ∈ gz_ts := gz_go (gz_tb (List.mem_append_right _ (List.mem_append_right _ (List.mem_of_getElem? (i := 218) rfl)))) rfl
theorem wm_L_92 : Cond.methodLink RL 92 yX5_told ∈ gz_ts := gz_go (gz_tb (List.mem_append_right _ (List.mem_append_right _ (List.mem_of_getElem? (i := 220) rfl)))) rfl
theorem wi_X5_told : Cond.instanceMethod yX5_told ∈ gz_ts := gz_go (gz_tb (List.mem_append_right _ (List.mem_append_right _ (List.mem_of_getElem? (i := 221) rfl)))) rfl
theorem we_X5_told : Cond.selects RX5 yX5_told yX5_told ∈ gz_ts := gz_go (gz_tb (List.mem_append_right _ (List.mem_append_right _ (List.mem_of_getElem? (i := 222) rfl)))) rfl
theorem wl_L_13 : Cond.constantLong RL 13 (4294967295 : Int64) ∈ gz_ts := gz_go (gz_tb (List.mem_append_right _ (List.mem_append_right _ (List.mem_of_getElem? (i := 224) rfl)))) rfl
theorem we_X4_isTask : Cond.selects RX4 yX4_isTask yX4_isTask ∈ gz_ts := gz_go (gz_ps (q := (yX4_isTask, 9)) (List.mem_append_left _ (List.mem_of_getElem? (i := 0) rfl))) rfl
theorem we_X2_endsChunk : Cond.selects RX2 yX2_endsChunk yX2_endsChunk ∈ gz_ts := gz_go (gz_ps (q := (yX2_endsChunk, 3)) (List.mem_append_left _ (List.mem_of_getElem? (i := 1) rfl))) rfl
theorem we_X4_totalStateBytes : Cond.selects RX4 yX4_totalStateBytes yX4_totalStateBytes ∈ gz_ts := gz_go (gz_ps (q := (yX4_totalStateBytes, 9)) (List.mem_append_left _ (List.mem_of_getElem? (i := 2) rfl))) rfl
theorem we_X4_joinStates : Cond.selects RX4 yX4_joinStates yX4_joinStates ∈ gz_ts := gz_go (gz_ps (q := (yX4_joinStates, 9)) (List.mem_append_left _ (List.mem_of_getElem? (i := 3) rfl))) rfl
theorem we_X4_becomeTasks : Cond.selects RX4 yX4_becomeTasks yX4_becomeTasks ∈ gz_ts := gz_go (gz_ps (q := (yX4_becomeTasks, 9)) (List.mem_append_left _ (List.mem_of_getElem? (i := 4) rfl))) rfl
theorem we_X4_storeStates : Cond.selects RX4 yX4_storeStates yX4_storeStates ∈ gz_ts := gz_go (gz_ps (q := (yX4_storeStates, 9)) (List.mem_append_left _ (List.mem_of_getElem? (i := 5) rfl))) rfl
theorem we_X4_storeState : Cond.selects RX4 yX4_storeState yX4_storeState ∈ gz_ts := gz_go (gz_ps (q := (yX4_storeState, 9)) (List.mem_append_left _ (List.mem_of_getElem? (i := 6) rfl))) rfl
theorem we_X3_findPart : Cond.selects RX3 yX3_findPart yX3_findPart ∈ gz_ts := gz_go (gz_ps (q := (yX3_findPart, 8)) (List.mem_append_left _ (List.mem_of_getElem? (i := 7) rfl))) rfl
theorem we_X3_makePart : Cond.selects RX3 yX3_makePart yX3_makePart ∈ gz_ts := gz_go (gz_ps (q := (yX3_makePart, 8)) (List.mem_append_left _ (List.mem_of_getElem? (i := 8) rfl))) rfl
theorem we_X3_leastUnused : Cond.selects RX3 yX3_leastUnused yX3_leastUnused ∈ gz_ts := gz_go (gz_ps (q := (yX3_leastUnused, 8)) (List.mem_append_left _ (List.mem_of_getElem? (i := 9) rfl))) rfl
theorem we_X4_latestKept : Cond.selects RX4 yX4_latestKept yX4_latestKept ∈ gz_ts := gz_go (gz_ps (q := (yX4_latestKept, 9)) (List.mem_append_left _ (List.mem_of_getElem? (i := 10) rfl))) rfl
theorem we_X0_sharedParts : Cond.selects RX0 yX0_sharedParts yX0_sharedParts ∈ gz_ts := gz_go (gz_ps (q := (yX0_sharedParts, 9)) (List.mem_append_left _ (List.mem_of_getElem? (i := 11) rfl))) rfl
theorem we_X4_copyStates : Cond.selects RX4 yX4_copyStates yX4_copyStates ∈ gz_ts := gz_go (gz_ps (q := (yX4_copyStates, 9)) (List.mem_append_left _ (List.mem_of_getElem? (i := 12) rfl))) rfl
theorem we_X4_keptMark : Cond.selects RX4 yX4_keptMark yX4_keptMark ∈ gz_ts := gz_go (gz_ps (q := (yX4_keptMark, 9)) (List.mem_append_left _ (List.mem_of_getElem? (i := 13) rfl))) rfl
theorem we_X4_heldMark : Cond.selects RX4 yX4_heldMark yX4_heldMark ∈ gz_ts := gz_go (gz_ps (q := (yX4_heldMark, 9)) (List.mem_append_left _ (List.mem_of_getElem? (i := 14) rfl))) rfl
theorem we_X4_letGoUnheld : Cond.selects RX4 yX4_letGoUnheld yX4_letGoUnheld ∈ gz_ts := gz_go (gz_ps (q := (yX4_letGoUnheld, 9)) (List.mem_append_left _ (List.mem_of_getElem? (i := 15) rfl))) rfl
theorem we_X4_isBase : Cond.selects RX4 yX4_isBase yX4_isBase ∈ gz_ts := gz_go (gz_ps (q := (yX4_isBase, 9)) (List.mem_append_right _ (List.mem_append_left _ (List.mem_of_getElem? (i := 0) rfl)))) rfl
theorem we_X4_letGo : Cond.selects RX4 yX4_letGo yX4_letGo ∈ gz_ts := gz_go (gz_ps (q := (yX4_letGo, 9)) (List.mem_append_right _ (List.mem_append_left _ (List.mem_of_getElem? (i := 1) rfl)))) rfl
theorem we_X4_freeUnnamed : Cond.selects RX4 yX4_freeUnnamed yX4_freeUnnamed ∈ gz_ts := gz_go (gz_ps (q := (yX4_freeUnnamed, 9)) (List.mem_append_right _ (List.mem_append_left _ (List.mem_of_getElem? (i := 2) rfl)))) rfl
theorem we_X4_nameKeptParts : Cond.selects RX4 yX4_nameKeptParts yX4_nameKeptParts ∈ gz_ts := gz_go (gz_ps (q := (yX4_nameKeptParts, 9)) (List.mem_append_right _ (List.mem_append_left _ (List.mem_of_getElem? (i := 3) rfl)))) rfl
theorem we_X4_freePart : Cond.selects RX4 yX4_freePart yX4_freePart ∈ gz_ts := gz_go (gz_ps (q := (yX4_freePart, 9)) (List.mem_append_right _ (List.mem_append_left _ (List.mem_of_getElem? (i := 4) rfl)))) rfl
theorem we_X4_latestUsable : Cond.selects RX4 yX4_latestUsable yX4_latestUsable ∈ gz_ts := gz_go (gz_ps (q := (yX4_latestUsable, 9)) (List.mem_append_right _ (List.mem_append_left _ (List.mem_of_getElem? (i := 5) rfl)))) rfl
theorem we_X4_isUsable : Cond.selects RX4 yX4_isUsable yX4_isUsable ∈ gz_ts := gz_go (gz_ps (q := (yX4_isUsable, 9)) (List.mem_append_right _ (List.mem_append_left _ (List.mem_of_getElem? (i := 6) rfl)))) rfl
theorem we_X4_isReadable : Cond.selects RX4 yX4_isReadable yX4_isReadable ∈ gz_ts := gz_go (gz_ps (q := (yX4_isReadable, 9)) (List.mem_append_right _ (List.mem_append_left _ (List.mem_of_getElem? (i := 7) rfl)))) rfl
theorem we_X4_readState : Cond.selects RX4 yX4_readState yX4_readState ∈ gz_ts := gz_go (gz_ps (q := (yX4_readState, 9)) (List.mem_append_right _ (List.mem_append_left _ (List.mem_of_getElem? (i := 8) rfl)))) rfl
theorem we_X4_readPart : Cond.selects RX4 yX4_readPart yX4_readPart ∈ gz_ts := gz_go (gz_ps (q := (yX4_readPart, 9)) (List.mem_append_right _ (List.mem_append_left _ (List.mem_of_getElem? (i := 9) rfl)))) rfl
theorem we_X0_hasAlikeList : Cond.selects RX0 yX0_hasAlikeList yX0_hasAlikeList ∈ gz_ts := gz_go (gz_ps (q := (yX0_hasAlikeList, 9)) (List.mem_append_right _ (List.mem_append_left _ (List.mem_of_getElem? (i := 10) rfl)))) rfl
theorem we_X4_keptNaming : Cond.selects RX4 yX4_keptNaming yX4_keptNaming ∈ gz_ts := gz_go (gz_ps (q := (yX4_keptNaming, 9)) (List.mem_append_right _ (List.mem_append_left _ (List.mem_of_getElem? (i := 11) rfl)))) rfl
theorem we_X4_copyCount : Cond.selects RX4 yX4_copyCount yX4_copyCount ∈ gz_ts := gz_go (gz_ps (q := (yX4_copyCount, 9)) (List.mem_append_right _ (List.mem_append_left _ (List.mem_of_getElem? (i := 12) rfl)))) rfl
theorem we_X4_shelfOf : Cond.selects RX4 yX4_shelfOf yX4_shelfOf ∈ gz_ts := gz_go (gz_ps (q := (yX4_shelfOf, 9)) (List.mem_append_right _ (List.mem_append_left _ (List.mem_of_getElem? (i := 13) rfl)))) rfl
theorem we_X4_keptCount : Cond.selects RX4 yX4_keptCount yX4_keptCount ∈ gz_ts := gz_go (gz_ps (q := (yX4_keptCount, 9)) (List.mem_append_right _ (List.mem_append_left _ (List.mem_of_getElem? (i := 14) rfl)))) rfl
theorem we_X4_allCopies : Cond.selects RX4 yX4_allCopies yX4_allCopies ∈ gz_ts := gz_go (gz_ps (q := (yX4_allCopies, 9)) (List.mem_append_right _ (List.mem_append_left _ (List.mem_of_getElem? (i := 15) rfl)))) rfl
theorem we_X5_isTask : Cond.selects RX5 yX5_isTask yX5_isTask ∈ gz_ts := gz_go (gz_ps (q := (yX5_isTask, 21)) (List.mem_append_right _ (List.mem_append_right _ (List.mem_append_left _ (List.mem_of_getElem? (i := 0) rfl))))) rfl
theorem we_X5_chunkFrom : Cond.selects RX5 yX5_chunkFrom yX5_chunkFrom ∈ gz_ts := gz_go (gz_ps (q := (yX5_chunkFrom, 21)) (List.mem_append_right _ (List.mem_append_right _ (List.mem_append_left _ (List.mem_of_getElem? (i := 1) rfl))))) rfl
theorem we_X5_become : Cond.selects RX5 yX5_become yX5_become ∈ gz_ts := gz_go (gz_ps (q := (yX5_become, 21)) (List.mem_append_right _ (List.mem_append_right _ (List.mem_append_left _ (List.mem_of_getElem? (i := 2) rfl))))) rfl
theorem we_X5_isPart : Cond.selects RX5 yX5_isPart yX5_isPart ∈ gz_ts := gz_go (gz_ps (q := (yX5_isPart, 21)) (List.mem_append_right _ (List.mem_append_right _ (List.mem_append_left _ (List.mem_of_getElem? (i := 3) rfl))))) rfl
theorem we_X5_hasPart : Cond.selects RX5 yX5_hasPart yX5_hasPart ∈ gz_ts := gz_go (gz_ps (q := (yX5_hasPart, 21)) (List.mem_append_right _ (List.mem_append_right _ (List.mem_append_left _ (List.mem_of_getElem? (i := 4) rfl))))) rfl
theorem we_X5_isBroken : Cond.selects RX5 yX5_isBroken yX5_isBroken ∈ gz_ts := gz_go (gz_ps (q := (yX5_isBroken, 21)) (List.mem_append_right _ (List.mem_append_right _ (List.mem_append_left _ (List.mem_of_getElem? (i := 5) rfl))))) rfl
theorem we_X5_isByte : Cond.selects RX5 yX5_isByte yX5_isByte ∈ gz_ts := gz_go (gz_ps (q := (yX5_isByte, 21)) (List.mem_append_right _ (List.mem_append_right _ (List.mem_append_left _ (List.mem_of_getElem? (i := 6) rfl))))) rfl
theorem we_X5_held : Cond.selects RX5 yX5_held yX5_held ∈ gz_ts := gz_go (gz_ps (q := (yX5_held, 21)) (List.mem_append_right _ (List.mem_append_right _ (List.mem_append_left _ (List.mem_of_getElem? (i := 7) rfl))))) rfl
theorem we_X5_partFor : Cond.selects RX5 yX5_partFor yX5_partFor ∈ gz_ts := gz_go (gz_ps (q := (yX5_partFor, 21)) (List.mem_append_right _ (List.mem_append_right _ (List.mem_append_left _ (List.mem_of_getElem? (i := 8) rfl))))) rfl
theorem we_X5_isChunk : Cond.selects RX5 yX5_isChunk yX5_isChunk ∈ gz_ts := gz_go (gz_ps (q := (yX5_isChunk, 21)) (List.mem_append_right _ (List.mem_append_right _ (List.mem_append_left _ (List.mem_of_getElem? (i := 9) rfl))))) rfl
theorem we_X5_allBytes : Cond.selects RX5 yX5_allBytes yX5_allBytes ∈ gz_ts := gz_go (gz_ps (q := (yX5_allBytes, 21)) (List.mem_append_right _ (List.mem_append_right _ (List.mem_append_left _ (List.mem_of_getElem? (i := 10) rfl))))) rfl
theorem we_X5_latest : Cond.selects RX5 yX5_latest yX5_latest ∈ gz_ts := gz_go (gz_ps (q := (yX5_latest, 21)) (List.mem_append_right _ (List.mem_append_right _ (List.mem_append_left _ (List.mem_of_getElem? (i := 11) rfl))))) rfl
theorem we_X5_tells : Cond.selects RX5 yX5_tells yX5_tells ∈ gz_ts := gz_go (gz_ps (q := (yX5_tells, 21)) (List.mem_append_right _ (List.mem_append_right _ (List.mem_append_left _ (List.mem_of_getElem? (i := 12) rfl))))) rfl
theorem we_X5_keptSlot : Cond.selects RX5 yX5_keptSlot yX5_keptSlot ∈ gz_ts := gz_go (gz_ps (q := (yX5_keptSlot, 21)) (List.mem_append_right _ (List.mem_append_right _ (List.mem_append_left _ (List.mem_of_getElem? (i := 13) rfl))))) rfl
theorem we_X5_slotOf : Cond.selects RX5 yX5_slotOf yX5_slotOf ∈ gz_ts := gz_go (gz_ps (q := (yX5_slotOf, 21)) (List.mem_append_right _ (List.mem_append_right _ (List.mem_append_left _ (List.mem_of_getElem? (i := 14) rfl))))) rfl
theorem we_X5_isUsable : Cond.selects RX5 yX5_isUsable yX5_isUsable ∈ gz_ts := gz_go (gz_ps (q := (yX5_isUsable, 21)) (List.mem_append_right _ (List.mem_append_right _ (List.mem_append_left _ (List.mem_of_getElem? (i := 15) rfl))))) rfl
theorem we_X5_isReadable : Cond.selects RX5 yX5_isReadable yX5_isReadable ∈ gz_ts := gz_go (gz_ps (q := (yX5_isReadable, 21)) (List.mem_append_right _ (List.mem_append_right _ (List.mem_append_right _ (List.mem_of_getElem? (i := 0) rfl))))) rfl
theorem we_X5_isGoodCopy : Cond.selects RX5 yX5_isGoodCopy yX5_isGoodCopy ∈ gz_ts := gz_go (gz_ps (q := (yX5_isGoodCopy, 21)) (List.mem_append_right _ (List.mem_append_right _ (List.mem_append_right _ (List.mem_of_getElem? (i := 1) rfl))))) rfl
theorem we_X5_read : Cond.selects RX5 yX5_read yX5_read ∈ gz_ts := gz_go (gz_ps (q := (yX5_read, 21)) (List.mem_append_right _ (List.mem_append_right _ (List.mem_append_right _ (List.mem_of_getElem? (i := 2) rfl))))) rfl
theorem wc_X4_init : Cond.code yX4_init cX4_init 2 none ∈ gz_ts := gz_go (gz_tb (List.mem_append_left _ (List.mem_of_getElem? (i := 13) rfl))) rfl
theorem wc_X3_init : Cond.code yX3_init cX3_init 1 none ∈ gz_ts := gz_go (gz_tb (List.mem_append_left _ (List.mem_of_getElem? (i := 25) rfl))) rfl
theorem wc_X1_init : Cond.code yX1_init cX1_init 1 none ∈ gz_ts := gz_go (gz_tb (List.mem_append_left _ (List.mem_of_getElem? (i := 31) rfl))) rfl
theorem wc_X2_init : Cond.code yX2_init cX2_init 1 none ∈ gz_ts := gz_go (gz_tb (List.mem_append_left _ (List.mem_of_getElem? (i := 82) rfl))) rfl
theorem wc_X0_init : Cond.code yX0_init cX0_init 1 none ∈ gz_ts := gz_go (gz_tb (List.mem_append_left _ (List.mem_of_getElem? (i := 100) rfl))) rfl
theorem wc_X4_insert : Cond.code yX4_insert cX4_insert 8 (some .int) ∈ gz_ts := gz_go (gz_tb (List.mem_append_left _ (List.mem_of_getElem? (i := 172) rfl))) rfl
theorem wc_X4_isTask : Cond.code yX4_isTask cX4_isTask 2 (some .boolean) ∈ gz_ts := gz_go (gz_tb (List.mem_append_left _ (List.mem_of_getElem? (i := 176) rfl))) rfl
theorem wc_X2_open : Cond.code yX2_open cX2_open 3 none ∈ gz_ts := gz_go (gz_tb (List.mem_append_left _ (List.mem_of_getElem? (i := 180) rfl))) rfl
theorem wc_X4_remove : Cond.code yX4_remove cX4_remove 5 (some .int) ∈ gz_ts := gz_go (gz_tb (List.mem_append_left _ (List.mem_of_getElem? (i := 187) rfl))) rfl
theorem wc_X2_close : Cond.code yX2_close cX2_close 3 none ∈ gz_ts := gz_go (gz_tb (List.mem_append_left _ (List.mem_of_getElem? (i := 191) rfl))) rfl
theorem wc_X4_extend : Cond.code yX4_extend cX4_extend 8 (some .int) ∈ gz_ts := gz_go (gz_tb (List.mem_append_left _ (List.mem_of_getElem? (i := 195) rfl))) rfl
theorem wc_X4_state : Cond.code yX4_state cX4_state 3 (some .int) ∈ gz_ts := gz_go (gz_tb (List.mem_append_left _ (List.mem_of_getElem? (i := 199) rfl))) rfl
theorem wc_X4_chunk : Cond.code yX4_chunk cX4_chunk 5 (some .int) ∈ gz_ts := gz_go (gz_tb (List.mem_append_left _ (List.mem_of_getElem? (i := 203) rfl))) rfl
theorem wc_X2_cut : Cond.code yX2_cut cX2_cut 4 (some .int) ∈ gz_ts := gz_go (gz_tb (List.mem_append_left _ (List.mem_of_getElem? (i := 207) rfl))) rfl
theorem wc_X2_endsChunk : Cond.code yX2_endsChunk cX2_endsChunk 3 (some .boolean) ∈ gz_ts := gz_go (gz_tb (List.mem_append_left _ (List.mem_of_getElem? (i := 211) rfl))) rfl
theorem wc_X2_chunkSize : Cond.code yX2_chunkSize cX2_chunkSize 2 (some .int) ∈ gz_ts := gz_go (gz_tb (List.mem_append_left _ (List.mem_of_getElem? (i := 215) rfl))) rfl
theorem wc_X2_chunkStart : Cond.code yX2_chunkStart cX2_chunkStart 2 (some .int) ∈ gz_ts := gz_go (gz_tb (List.mem_append_left _ (List.mem_of_getElem? (i := 219) rfl))) rfl
theorem wc_X4_rescale : Cond.code yX4_rescale cX4_rescale 6 (some .int) ∈ gz_ts := gz_go (gz_tb (List.mem_append_left _ (List.mem_of_getElem? (i := 223) rfl))) rfl
theorem wc_X4_totalStateBytes : Cond.code yX4_totalStateBytes cX4_totalStateBytes 3 (some .int) ∈ gz_ts := gz_go (gz_tb (List.mem_append_left _ (List.mem_of_getElem? (i := 227) rfl))) rfl
theorem wc_X4_shareStart : Cond.code yX4_shareStart cX4_shareStart 3 (some .int) ∈ gz_ts := gz_go (gz_tb (List.mem_append_left _ (List.mem_of_getElem? (i := 230) rfl))) rfl
theorem wc_X4_joinStates : Cond.code yX4_joinStates cX4_joinStates 3 none ∈ gz_ts := gz_go (gz_tb (List.mem_append_left _ (List.mem_of_getElem? (i := 234) rfl))) rfl
theorem wc_X4_becomeTasks : Cond.code yX4_becomeTasks cX4_becomeTasks 3 none ∈ gz_ts := gz_go (gz_tb (List.mem_append_left _ (List.mem_of_getElem? (i := 239) rfl))) rfl
theorem wc_X1_clear : Cond.code yX1_clear cX1_clear 2 none ∈ gz_ts := gz_go (gz_tb (List.mem_append_right _ (List.mem_append_left _ (List.mem_of_getElem? (i := 3) rfl)))) rfl
theorem wc_X2_append : Cond.code yX2_append cX2_append 4 none ∈ gz_ts := gz_go (gz_tb (List.mem_append_right _ (List.mem_append_left _ (List.mem_of_getElem? (i := 7) rfl)))) rfl
theorem wc_X4_mark : Cond.code yX4_mark cX4_mark 3 (some .int) ∈ gz_ts := gz_go (gz_tb (List.mem_append_right _ (List.mem_append_left _ (List.mem_of_getElem? (i := 11) rfl)))) rfl
theorem wc_X0_begin : Cond.code yX0_begin cX0_begin 3 none ∈ gz_ts := gz_go (gz_tb (List.mem_append_right _ (List.mem_append_left _ (List.mem_of_getElem? (i := 15) rfl)))) rfl
theorem wc_X4_storeStates : Cond.code yX4_storeStates cX4_storeStates 3 (some .boolean) ∈ gz_ts := gz_go (gz_tb (List.mem_append_right _ (List.mem_append_left _ (List.mem_of_getElem? (i := 19) rfl)))) rfl
theorem wc_X3_beginMarking : Cond.code yX3_beginMarking cX3_beginMarking 1 none ∈ gz_ts := gz_go (gz_tb (List.mem_append_right _ (List.mem_append_left _ (List.mem_of_getElem? (i := 23) rfl)))) rfl
theorem wc_X4_storeState : Cond.code yX4_storeState cX4_storeState 7 (some .boolean) ∈ gz_ts := gz_go (gz_tb (List.mem_append_right _ (List.mem_append_left _ (List.mem_of_getElem? (i := 27) rfl)))) rfl
theorem wc_X3_partOf : Cond.code yX3_partOf cX3_partOf 6 (some .int) ∈ gz_ts := gz_go (gz_tb (List.mem_append_right _ (List.mem_append_left _ (List.mem_of_getElem? (i := 32) rfl)))) rfl
theorem wc_X4_digestOf : Cond.code yX4_digestOf cX4_digestOf 5 (some .int) ∈ gz_ts := gz_go (gz_tb (List.mem_append_right _ (List.mem_append_left _ (List.mem_of_getElem? (i := 35) rfl)))) rfl
theorem wc_X3_findPart : Cond.code yX3_findPart cX3_findPart 6 (some .int) ∈ gz_ts := gz_go (gz_tb (List.mem_append_right _ (List.mem_append_left _ (List.mem_of_getElem? (i := 39) rfl)))) rfl
theorem wc_X1_holds : Cond.code yX1_holds cX1_holds 6 (some .boolean) ∈ gz_ts := gz_go (gz_tb (List.mem_append_right _ (List.mem_append_left _ (List.mem_of_getElem? (i := 43) rfl)))) rfl
theorem wc_X3_makePart : Cond.code yX3_makePart cX3_makePart 6 (some .int) ∈ gz_ts := gz_go (gz_tb (List.mem_append_right _ (List.mem_append_left _ (List.mem_of_getElem? (i := 47) rfl)))) rfl
theorem wc_X3_leastUnused : Cond.code yX3_leastUnused cX3_leastUnused 2 (some .int) ∈ gz_ts := gz_go (gz_tb (List.mem_append_right _ (List.mem_append_left _ (List.mem_of_getElem? (i := 51) rfl)))) rfl
theorem wc_X1_put : Cond.code yX1_put cX1_put 5 none ∈ gz_ts := gz_go (gz_tb (List.mem_append_right _ (List.mem_append_left _ (List.mem_of_getElem? (i := 55) rfl)))) rfl
theorem wc_X3_undoMarking : Cond.code yX3_undoMarking cX3_undoMarking 2 none ∈ gz_ts := gz_go (gz_tb (List.mem_append_right _ (List.mem_append_left _ (List.mem_of_getElem? (i := 60) rfl)))) rfl
theorem wc_X3_takeAway : Cond.code yX3_takeAway cX3_takeAway 2 none ∈ gz_ts := gz_go (gz_tb (List.mem_append_right _ (List.mem_append_left _ (List.mem_of_getElem? (i := 64) rfl)))) rfl
theorem wc_X4_latestKept : Cond.code yX4_latestKept cX4_latestKept 2 (some (.object "GrownSnapshots$Mark")) ∈ gz_ts := gz_go (gz_tb (List.mem_append_right _ (List.mem_append_left _ (List.mem_of_getElem? (i := 68) rfl)))) rfl
theorem wc_X0_growUpon : Cond.code yX0_growUpon cX0_growUpon 3 none ∈ gz_ts := gz_go (gz_tb (List.mem_append_right _ (List.mem_append_left _ (List.mem_of_getElem? (i := 72) rfl)))) rfl
theorem wc_X0_partCount : Cond.code yX0_partCount cX0_partCount 3 (some .int) ∈ gz_ts := gz_go (gz_tb (List.mem_append_right _ (List.mem_append_left _ (List.mem_of_getElem? (i := 76) rfl)))) rfl
theorem wc_X0_sharedParts : Cond.code yX0_sharedParts cX0_sharedParts 6 (some .int) ∈ gz_ts := gz_go (gz_tb (List.mem_append_right _ (List.mem_append_left _ (List.mem_of_getElem? (i := 80) rfl)))) rfl
theorem wc_J9_min_7cf53 : Cond.code yJ9_min_7cf53 cJ9_min_7cf53 2 (some .int) ∈ gz_ts := gz_go (gz_tb (List.mem_append_right _ (List.mem_append_left _ (List.mem_of_getElem? (i := 83) rfl)))) rfl
theorem wc_X4_copyStates : Cond.code yX4_copyStates cX4_copyStates 6 none ∈ gz_ts := gz_go (gz_tb (List.mem_append_right _ (List.mem_append_left _ (List.mem_of_getElem? (i := 87) rfl)))) rfl
theorem wc_X4_drop : Cond.code yX4_drop cX4_drop 3 (some .int) ∈ gz_ts := gz_go (gz_tb (List.mem_append_right _ (List.mem_append_left _ (List.mem_of_getElem? (i := 92) rfl)))) rfl
theorem wc_X4_keptMark : Cond.code yX4_keptMark cX4_keptMark 3 (some (.object "GrownSnapshots$Mark")) ∈ gz_ts := gz_go (gz_tb (List.mem_append_right _ (List.mem_append_left _ (List.mem_of_getElem? (i := 96) rfl)))) rfl
theorem wc_X4_heldMark : Cond.code yX4_heldMark cX4_heldMark 3 (some (.object "GrownSnapshots$Mark")) ∈ gz_ts := gz_go (gz_tb (List.mem_append_right _ (List.mem_append_left _ (List.mem_of_getElem? (i := 100) rfl)))) rfl
theorem wc_X4_letGoUnheld : Cond.code yX4_letGoUnheld cX4_letGoUnheld 2 none ∈ gz_ts := gz_go (gz_tb (List.mem_append_right _ (List.mem_append_left _ (List.mem_of_getElem? (i := 104) rfl)))) rfl
theorem wc_X4_isBase : Cond.code yX4_isBase cX4_isBase 3 (some .boolean) ∈ gz_ts := gz_go (gz_tb (List.mem_append_right _ (List.mem_append_left _ (List.mem_of_getElem? (i := 108) rfl)))) rfl
theorem wc_X4_letGo : Cond.code yX4_letGo cX4_letGo 4 none ∈ gz_ts := gz_go (gz_tb (List.mem_append_right _ (List.mem_append_left _ (List.mem_of_getElem? (i := 112) rfl)))) rfl
theorem wc_X4_freeUnnamed : Cond.code yX4_freeUnnamed cX4_freeUnnamed 3 (some .int) ∈ gz_ts := gz_go (gz_tb (List.mem_append_right _ (List.mem_append_left _ (List.mem_of_getElem? (i := 116) rfl)))) rfl
theorem wc_X4_nameKeptParts : Cond.code yX4_nameKeptParts cX4_nameKeptParts 2 none ∈ gz_ts := gz_go (gz_tb (List.mem_append_right _ (List.mem_append_left _ (List.mem_of_getElem? (i := 120) rfl)))) rfl
theorem wc_X0_addNames : Cond.code yX0_addNames cX0_addNames 4 none ∈ gz_ts := gz_go (gz_tb (List.mem_append_right _ (List.mem_append_left _ (List.mem_of_getElem? (i := 124) rfl)))) rfl
theorem wc_X3_isThere : Cond.code yX3_isThere cX3_isThere 2 (some .boolean) ∈ gz_ts := gz_go (gz_tb (List.mem_append_right _ (List.mem_append_left _ (List.mem_of_getElem? (i := 128) rfl)))) rfl
theorem wc_X4_freePart : Cond.code yX4_freePart cX4_freePart 3 none ∈ gz_ts := gz_go (gz_tb (List.mem_append_right _ (List.mem_append_left _ (List.mem_of_getElem? (i := 132) rfl)))) rfl
theorem wc_X4_back : Cond.code yX4_back cX4_back 4 (some .int) ∈ gz_ts := gz_go (gz_tb (List.mem_append_right _ (List.mem_append_left _ (List.mem_of_getElem? (i := 137) rfl)))) rfl
theorem wc_X4_latestUsable : Cond.code yX4_latestUsable cX4_latestUsable 3 (some (.object "GrownSnapshots$Mark")) ∈ gz_ts := gz_go (gz_tb (List.mem_append_right _ (List.mem_append_left _ (List.mem_of_getElem? (i := 141) rfl)))) rfl
theorem wc_X4_isUsable : Cond.code yX4_isUsable cX4_isUsable 4 (some .boolean) ∈ gz_ts := gz_go (gz_tb (List.mem_append_right _ (List.mem_append_left _ (List.mem_of_getElem? (i := 145) rfl)))) rfl
theorem wc_X4_isReadable : Cond.code yX4_isReadable cX4_isReadable 3 (some .boolean) ∈ gz_ts := gz_go (gz_tb (List.mem_append_right _ (List.mem_append_left _ (List.mem_of_getElem? (i := 149) rfl)))) rfl
theorem wc_X3_isSound : Cond.code yX3_isSound cX3_isSound 3 (some .boolean) ∈ gz_ts := gz_go (gz_tb (List.mem_append_right _ (List.mem_append_left _ (List.mem_of_getElem? (i := 153) rfl)))) rfl
theorem wc_X4_readState : Cond.code yX4_readState cX4_readState 6 none ∈ gz_ts := gz_go (gz_tb (List.mem_append_right _ (List.mem_append_left _ (List.mem_of_getElem? (i := 157) rfl)))) rfl
theorem wc_X4_readPart : Cond.code yX4_readPart cX4_readPart 3 none ∈ gz_ts := gz_go (gz_tb (List.mem_append_right _ (List.mem_append_left _ (List.mem_of_getElem? (i := 161) rfl)))) rfl
theorem wc_X4_usable : Cond.code yX4_usable cX4_usable 3 (some .int) ∈ gz_ts := gz_go (gz_tb (List.mem_append_right _ (List.mem_append_left _ (List.mem_of_getElem? (i := 165) rfl)))) rfl
theorem wc_X4_markTold : Cond.code yX4_markTold cX4_markTold 4 (some .int) ∈ gz_ts := gz_go (gz_tb (List.mem_append_right _ (List.mem_append_left _ (List.mem_of_getElem? (i := 169) rfl)))) rfl
theorem wc_X4_list : Cond.code yX4_list cX4_list 5 (some .int) ∈ gz_ts := gz_go (gz_tb (List.mem_append_right _ (List.mem_append_left _ (List.mem_of_getElem? (i := 174) rfl)))) rfl
theorem wc_X4_same : Cond.code yX4_same cX4_same 5 (some .boolean) ∈ gz_ts := gz_go (gz_tb (List.mem_append_right _ (List.mem_append_left _ (List.mem_of_getElem? (i := 178) rfl)))) rfl
theorem wc_X0_isAlike : Cond.code yX0_isAlike cX0_isAlike 3 (some .boolean) ∈ gz_ts := gz_go (gz_tb (List.mem_append_right _ (List.mem_append_left _ (List.mem_of_getElem? (i := 182) rfl)))) rfl
theorem wc_X0_hasAlikeList : Cond.code yX0_hasAlikeList cX0_hasAlikeList 4 (some .boolean) ∈ gz_ts := gz_go (gz_tb (List.mem_append_right _ (List.mem_append_left _ (List.mem_of_getElem? (i := 186) rfl)))) rfl
theorem wc_X4_partTold : Cond.code yX4_partTold cX4_partTold 3 (some .int) ∈ gz_ts := gz_go (gz_tb (List.mem_append_right _ (List.mem_append_left _ (List.mem_of_getElem? (i := 190) rfl)))) rfl
theorem wc_X4_keptNaming : Cond.code yX4_keptNaming cX4_keptNaming 4 (some .int) ∈ gz_ts := gz_go (gz_tb (List.mem_append_right _ (List.mem_append_left _ (List.mem_of_getElem? (i := 194) rfl)))) rfl
theorem wc_X0_names : Cond.code yX0_names cX0_names 4 (some .boolean) ∈ gz_ts := gz_go (gz_tb (List.mem_append_right _ (List.mem_append_left _ (List.mem_of_getElem? (i := 198) rfl)))) rfl
theorem wc_X4_copyCount : Cond.code yX4_copyCount cX4_copyCount 4 (some .int) ∈ gz_ts := gz_go (gz_tb (List.mem_append_right _ (List.mem_append_left _ (List.mem_of_getElem? (i := 202) rfl)))) rfl
theorem wc_X4_partByte : Cond.code yX4_partByte cX4_partByte 5 (some .int) ∈ gz_ts := gz_go (gz_tb (List.mem_append_right _ (List.mem_append_left _ (List.mem_of_getElem? (i := 206) rfl)))) rfl
theorem wc_X4_shelfOf : Cond.code yX4_shelfOf cX4_shelfOf 2 (some (.object "GrownSnapshots$Shelf")) ∈ gz_ts := gz_go (gz_tb (List.mem_append_right _ (List.mem_append_left _ (List.mem_of_getElem? (i := 210) rfl)))) rfl
theorem wc_X3_hasByte : Cond.code yX3_hasByte cX3_hasByte 4 (some .boolean) ∈ gz_ts := gz_go (gz_tb (List.mem_append_right _ (List.mem_append_left _ (List.mem_of_getElem? (i := 214) rfl)))) rfl
theorem wc_X4_alter : Cond.code yX4_alter cX4_alter 6 (some .int) ∈ gz_ts := gz_go (gz_tb (List.mem_append_right _ (List.mem_append_left _ (List.mem_of_getElem? (i := 219) rfl)))) rfl
theorem wc_X4_lose : Cond.code yX4_lose cX4_lose 4 (some .int) ∈ gz_ts := gz_go (gz_tb (List.mem_append_right _ (List.mem_append_left _ (List.mem_of_getElem? (i := 223) rfl)))) rfl
theorem wc_X4_told : Cond.code yX4_told cX4_told 2 (some .int) ∈ gz_ts := gz_go (gz_tb (List.mem_append_right _ (List.mem_append_left _ (List.mem_of_getElem? (i := 227) rfl)))) rfl
theorem wc_X4_keptCount : Cond.code yX4_keptCount cX4_keptCount 3 (some .int) ∈ gz_ts := gz_go (gz_tb (List.mem_append_right _ (List.mem_append_left _ (List.mem_of_getElem? (i := 231) rfl)))) rfl
theorem wc_X3_brokenCount : Cond.code yX3_brokenCount cX3_brokenCount 3 (some .int) ∈ gz_ts := gz_go (gz_tb (List.mem_append_right _ (List.mem_append_left _ (List.mem_of_getElem? (i := 235) rfl)))) rfl
theorem wc_X4_allCopies : Cond.code yX4_allCopies cX4_allCopies 3 (some .int) ∈ gz_ts := gz_go (gz_tb (List.mem_append_right _ (List.mem_append_right _ (List.mem_of_getElem? (i := 0) rfl)))) rfl
theorem wc_X5_init : Cond.code yX5_init cX5_init 2 none ∈ gz_ts := gz_go (gz_tb (List.mem_append_right _ (List.mem_append_right _ (List.mem_of_getElem? (i := 5) rfl)))) rfl
theorem wc_X5_insert : Cond.code yX5_insert cX5_insert 8 (some .int) ∈ gz_ts := gz_go (gz_tb (List.mem_append_right _ (List.mem_append_right _ (List.mem_of_getElem? (i := 74) rfl)))) rfl
theorem wc_X5_isTask : Cond.code yX5_isTask cX5_isTask 2 (some .boolean) ∈ gz_ts := gz_go (gz_tb (List.mem_append_right _ (List.mem_append_right _ (List.mem_of_getElem? (i := 78) rfl)))) rfl
theorem wc_X5_in : Cond.code yX5_in cX5_in 3 (some .boolean) ∈ gz_ts := gz_go (gz_tb (List.mem_append_right _ (List.mem_append_right _ (List.mem_of_getElem? (i := 81) rfl)))) rfl
theorem wc_X5_remove : Cond.code yX5_remove cX5_remove 6 (some .int) ∈ gz_ts := gz_go (gz_tb (List.mem_append_right _ (List.mem_append_right _ (List.mem_of_getElem? (i := 86) rfl)))) rfl
theorem wc_X5_extend : Cond.code yX5_extend cX5_extend 6 (some .int) ∈ gz_ts := gz_go (gz_tb (List.mem_append_right _ (List.mem_append_right _ (List.mem_of_getElem? (i := 90) rfl)))) rfl
theorem wc_X5_state : Cond.code yX5_state cX5_state 3 (some .int) ∈ gz_ts := gz_go (gz_tb (List.mem_append_right _ (List.mem_append_right _ (List.mem_of_getElem? (i := 94) rfl)))) rfl
theorem wc_X5_chunk : Cond.code yX5_chunk cX5_chunk 6 (some .int) ∈ gz_ts := gz_go (gz_tb (List.mem_append_right _ (List.mem_append_right _ (List.mem_of_getElem? (i := 98) rfl)))) rfl
theorem wc_X5_chunkFrom : Cond.code yX5_chunkFrom cX5_chunkFrom 7 (some .int) ∈ gz_ts := gz_go (gz_tb (List.mem_append_right _ (List.mem_append_right _ (List.mem_of_getElem? (i := 102) rfl)))) rfl
theorem wc_X5_rescale : Cond.code yX5_rescale cX5_rescale 6 (some .int) ∈ gz_ts := gz_go (gz_tb (List.mem_append_right _ (List.mem_append_right _ (List.mem_of_getElem? (i := 106) rfl)))) rfl
theorem wc_X5_become : Cond.code yX5_become cX5_become 4 none ∈ gz_ts := gz_go (gz_tb (List.mem_append_right _ (List.mem_append_right _ (List.mem_of_getElem? (i := 110) rfl)))) rfl
theorem wc_X5_partTold : Cond.code yX5_partTold cX5_partTold 5 (some .int) ∈ gz_ts := gz_go (gz_tb (List.mem_append_right _ (List.mem_append_right _ (List.mem_of_getElem? (i := 114) rfl)))) rfl
theorem wc_X5_isPart : Cond.code yX5_isPart cX5_isPart 2 (some .boolean) ∈ gz_ts := gz_go (gz_tb (List.mem_append_right _ (List.mem_append_right _ (List.mem_of_getElem? (i := 118) rfl)))) rfl
theorem wc_X5_hasPart : Cond.code yX5_hasPart cX5_hasPart 6 (some .boolean) ∈ gz_ts := gz_go (gz_tb (List.mem_append_right _ (List.mem_append_right _ (List.mem_of_getElem? (i := 122) rfl)))) rfl
theorem wc_X5_isBroken : Cond.code yX5_isBroken cX5_isBroken 4 (some .boolean) ∈ gz_ts := gz_go (gz_tb (List.mem_append_right _ (List.mem_append_right _ (List.mem_of_getElem? (i := 126) rfl)))) rfl
theorem wc_X5_partByte : Cond.code yX5_partByte cX5_partByte 4 (some .int) ∈ gz_ts := gz_go (gz_tb (List.mem_append_right _ (List.mem_append_right _ (List.mem_of_getElem? (i := 130) rfl)))) rfl
theorem wc_X5_isByte : Cond.code yX5_isByte cX5_isByte 4 (some .boolean) ∈ gz_ts := gz_go (gz_tb (List.mem_append_right _ (List.mem_append_right _ (List.mem_of_getElem? (i := 134) rfl)))) rfl
theorem wc_X5_alter : Cond.code yX5_alter cX5_alter 5 (some .int) ∈ gz_ts := gz_go (gz_tb (List.mem_append_right _ (List.mem_append_right _ (List.mem_of_getElem? (i := 138) rfl)))) rfl
theorem wc_X5_lose : Cond.code yX5_lose cX5_lose 3 (some .int) ∈ gz_ts := gz_go (gz_tb (List.mem_append_right _ (List.mem_append_right _ (List.mem_of_getElem? (i := 143) rfl)))) rfl
theorem wc_X5_mark : Cond.code yX5_mark cX5_mark 11 (some .int) ∈ gz_ts := gz_go (gz_tb (List.mem_append_right _ (List.mem_append_right _ (List.mem_of_getElem? (i := 147) rfl)))) rfl
theorem wc_X5_held : Cond.code yX5_held cX5_held 3 (some .int) ∈ gz_ts := gz_go (gz_tb (List.mem_append_right _ (List.mem_append_right _ (List.mem_of_getElem? (i := 151) rfl)))) rfl
theorem wc_X5_partFor : Cond.code yX5_partFor cX5_partFor 7 (some .int) ∈ gz_ts := gz_go (gz_tb (List.mem_append_right _ (List.mem_append_right _ (List.mem_of_getElem? (i := 155) rfl)))) rfl
theorem wc_X5_isChunk : Cond.code yX5_isChunk cX5_isChunk 7 (some .boolean) ∈ gz_ts := gz_go (gz_tb (List.mem_append_right _ (List.mem_append_right _ (List.mem_of_getElem? (i := 159) rfl)))) rfl
theorem wc_X5_allBytes : Cond.code yX5_allBytes cX5_allBytes 3 (some .int) ∈ gz_ts := gz_go (gz_tb (List.mem_append_right _ (List.mem_append_right _ (List.mem_of_getElem? (i := 163) rfl)))) rfl
theorem wc_X5_latest : Cond.code yX5_latest cX5_latest 4 (some .int) ∈ gz_ts := gz_go (gz_tb (List.mem_append_right _ (List.mem_append_right _ (List.mem_of_getElem? (i := 167) rfl)))) rfl
theorem wc_X5_tells : Cond.code yX5_tells cX5_tells 11 (some .int) ∈ gz_ts := gz_go (gz_tb (List.mem_append_right _ (List.mem_append_right _ (List.mem_of_getElem? (i := 171) rfl)))) rfl
theorem wc_X5_drop : Cond.code yX5_drop cX5_drop 8 (some .int) ∈ gz_ts := gz_go (gz_tb (List.mem_append_right _ (List.mem_append_right _ (List.mem_of_getElem? (i := 175) rfl)))) rfl
theorem wc_X5_keptSlot : Cond.code yX5_keptSlot cX5_keptSlot 3 (some .int) ∈ gz_ts := gz_go (gz_tb (List.mem_append_right _ (List.mem_append_right _ (List.mem_of_getElem? (i := 179) rfl)))) rfl
theorem wc_X5_slotOf : Cond.code yX5_slotOf cX5_slotOf 4 (some .int) ∈ gz_ts := gz_go (gz_tb (List.mem_append_right _ (List.mem_append_right _ (List.mem_of_getElem? (i := 183) rfl)))) rfl
theorem wc_X5_usable : Cond.code yX5_usable cX5_usable 3 (some .int) ∈ gz_ts := gz_go (gz_tb (List.mem_append_right _ (List.mem_append_right _ (List.mem_of_getElem? (i := 187) rfl)))) rfl
theorem wc_X5_isUsable : Cond.code yX5_isUsable cX5_isUsable 5 (some .boolean) ∈ gz_ts := gz_go (gz_tb (List.mem_append_right _ (List.mem_append_right _ (List.mem_of_getElem? (i := 191) rfl)))) rfl
theorem wc_X5_isReadable : Cond.code yX5_isReadable cX5_isReadable 3 (some .boolean) ∈ gz_ts := gz_go (gz_tb (List.mem_append_right _ (List.mem_append_right _ (List.mem_of_getElem? (i := 195) rfl)))) rfl
theorem wc_X5_isGoodCopy : Cond.code yX5_isGoodCopy cX5_isGoodCopy 5 (some .boolean) ∈ gz_ts := gz_go (gz_tb (List.mem_append_right _ (List.mem_append_right _ (List.mem_of_getElem? (i := 199) rfl)))) rfl
theorem wc_X5_back : Cond.code yX5_back cX5_back 5 (some .int) ∈ gz_ts := gz_go (gz_tb (List.mem_append_right _ (List.mem_append_right _ (List.mem_of_getElem? (i := 203) rfl)))) rfl
theorem wc_X5_read : Cond.code yX5_read cX5_read 5 none ∈ gz_ts := gz_go (gz_tb (List.mem_append_right _ (List.mem_append_right _ (List.mem_of_getElem? (i := 207) rfl)))) rfl
theorem wc_X5_markTold : Cond.code yX5_markTold cX5_markTold 6 (some .int) ∈ gz_ts := gz_go (gz_tb (List.mem_append_right _ (List.mem_append_right _ (List.mem_of_getElem? (i := 211) rfl)))) rfl
theorem wc_X5_list : Cond.code yX5_list cX5_list 5 (some .int) ∈ gz_ts := gz_go (gz_tb (List.mem_append_right _ (List.mem_append_right _ (List.mem_of_getElem? (i := 215) rfl)))) rfl
theorem wc_X5_same : Cond.code yX5_same cX5_same 8 (some .boolean) ∈ gz_ts := gz_go (gz_tb (List.mem_append_right _ (List.mem_append_right _ (List.mem_of_getElem? (i := 219) rfl)))) rfl
theorem wc_X5_told : Cond.code yX5_told cX5_told 4 (some .int) ∈ gz_ts := gz_go (gz_tb (List.mem_append_right _ (List.mem_append_right _ (List.mem_of_getElem? (i := 223) rfl)))) rfl
theorem wu_X0 : ∀ w ∈ u_ws RX0 TX0 9, w ∈ gz_ts := List.forall_mem_cons.mpr ⟨gz_go (gz_tb (List.mem_append_left _ (List.mem_of_getElem? (i := 122) rfl))) rfl, List.forall_mem_cons.mpr ⟨gz_go (gz_tb (List.mem_append_left _ (List.mem_of_getElem? (i := 124) rfl))) rfl, List.forall_mem_cons.mpr ⟨gz_go (gz_tb (List.mem_append_left _ (List.mem_of_getElem? (i := 126) rfl))) rfl, List.forall_mem_cons.mpr ⟨gz_go (gz_tb (List.mem_append_left _ (List.mem_of_getElem? (i := 128) rfl))) rfl, List.forall_mem_cons.mpr ⟨gz_go (gz_tb (List.mem_append_left _ (List.mem_of_getElem? (i := 130) rfl))) rfl, List.forall_mem_cons.mpr ⟨gz_go (gz_tb (List.mem_append_left _ (List.mem_of_getElem? (i := 132) rfl))) rfl, List.forall_mem_cons.mpr ⟨gz_go (gz_tb (List.mem_append_left _ (List.mem_of_getElem? (i := 134) rfl))) rfl, List.forall_mem_cons.mpr ⟨gz_go (gz_tb (List.mem_append_left _ (List.mem_of_getElem? (i := 136) rfl))) rfl, List.forall_mem_cons.mpr ⟨gz_go (gz_tb (List.mem_append_left _ (List.mem_of_getElem? (i := 138) rfl))) rfl, fun _ h => absurd h List.not_mem_nil⟩⟩⟩⟩⟩⟩⟩⟩⟩
theorem wu_X1 : ∀ w ∈ u_ws RX1 TX1 2, w ∈ gz_ts := List.forall_mem_cons.mpr ⟨gz_go (gz_tb (List.mem_append_left _ (List.mem_of_getElem? (i := 39) rfl))) rfl, List.forall_mem_cons.mpr ⟨gz_go (gz_tb (List.mem_append_left _ (List.mem_of_getElem? (i := 41) rfl))) rfl, fun _ h => absurd h List.not_mem_nil⟩⟩
theorem wu_X2 : ∀ w ∈ u_ws RX2 TX2 3, w ∈ gz_ts := List.forall_mem_cons.mpr ⟨gz_go (gz_tb (List.mem_append_left _ (List.mem_of_getElem? (i := 89) rfl))) rfl, List.forall_mem_cons.mpr ⟨gz_go (gz_tb (List.mem_append_left _ (List.mem_of_getElem? (i := 91) rfl))) rfl, List.forall_mem_cons.mpr ⟨gz_go (gz_tb (List.mem_append_left _ (List.mem_of_getElem? (i := 93) rfl))) rfl, fun _ h => absurd h List.not_mem_nil⟩⟩⟩
theorem wu_X3 : ∀ w ∈ u_ws RX3 TX3 8, w ∈ gz_ts := List.forall_mem_cons.mpr ⟨gz_go (gz_tb (List.mem_append_left _ (List.mem_of_getElem? (i := 60) rfl))) rfl, List.forall_mem_cons.mpr ⟨gz_go (gz_tb (List.mem_append_left _ (List.mem_of_getElem? (i := 62) rfl))) rfl, List.forall_mem_cons.mpr ⟨gz_go (gz_tb (List.mem_append_left _ (List.mem_of_getElem? (i := 64) rfl))) rfl, List.forall_mem_cons.mpr ⟨gz_go (gz_tb (List.mem_append_left _ (List.mem_of_getElem? (i := 66) rfl))) rfl, List.forall_mem_cons.mpr ⟨gz_go (gz_tb (List.mem_append_left _ (List.mem_of_getElem? (i := 68) rfl))) rfl, List.forall_mem_cons.mpr ⟨gz_go (gz_tb (List.mem_append_left _ (List.mem_of_getElem? (i := 70) rfl))) rfl, List.forall_mem_cons.mpr ⟨gz_go (gz_tb (List.mem_append_left _ (List.mem_of_getElem? (i := 72) rfl))) rfl, List.forall_mem_cons.mpr ⟨gz_go (gz_tb (List.mem_append_left _ (List.mem_of_getElem? (i := 74) rfl))) rfl, fun _ h => absurd h List.not_mem_nil⟩⟩⟩⟩⟩⟩⟩⟩
theorem wu_X4 : ∀ w ∈ u_ws RX4 TX4 9, w ∈ gz_ts := List.forall_mem_cons.mpr ⟨gz_go (gz_tb (List.mem_append_left _ (List.mem_of_getElem? (i := 150) rfl))) rfl, List.forall_mem_cons.mpr ⟨gz_go (gz_tb (List.mem_append_left _ (List.mem_of_getElem? (i := 152) rfl))) rfl, List.forall_mem_cons.mpr ⟨gz_go (gz_tb (List.mem_append_left _ (List.mem_of_getElem? (i := 154) rfl))) rfl, List.forall_mem_cons.mpr ⟨gz_go (gz_tb (List.mem_append_left _ (List.mem_of_getElem? (i := 156) rfl))) rfl, List.forall_mem_cons.mpr ⟨gz_go (gz_tb (List.mem_append_left _ (List.mem_of_getElem? (i := 158) rfl))) rfl, List.forall_mem_cons.mpr ⟨gz_go (gz_tb (List.mem_append_left _ (List.mem_of_getElem? (i := 160) rfl))) rfl, List.forall_mem_cons.mpr ⟨gz_go (gz_tb (List.mem_append_left _ (List.mem_of_getElem? (i := 162) rfl))) rfl, List.forall_mem_cons.mpr ⟨gz_go (gz_tb (List.mem_append_left _ (List.mem_of_getElem? (i := 164) rfl))) rfl, List.forall_mem_cons.mpr ⟨gz_go (gz_tb (List.mem_append_left _ (List.mem_of_getElem? (i := 166) rfl))) rfl, fun _ h => absurd h List.not_mem_nil⟩⟩⟩⟩⟩⟩⟩⟩⟩
theorem wu_X5 : ∀ w ∈ u_ws RX5 TX5 21, w ∈ gz_ts := List.forall_mem_cons.mpr ⟨gz_go (gz_tb (List.mem_append_right _ (List.mem_append_right _ (List.mem_of_getElem? (i := 28) rfl)))) rfl, List.forall_mem_cons.mpr ⟨gz_go (gz_tb (List.mem_append_right _ (List.mem_append_right _ (List.mem_of_getElem? (i := 30) rfl)))) rfl, List.forall_mem_cons.mpr ⟨gz_go (gz_tb (List.mem_append_right _ (List.mem_append_right _ (List.mem_of_getElem? (i := 32) rfl)))) rfl, List.forall_mem_cons.mpr ⟨gz_go (gz_tb (List.mem_append_right _ (List.mem_append_right _ (List.mem_of_getElem? (i := 34) rfl)))) rfl, List.forall_mem_cons.mpr ⟨gz_go (gz_tb (List.mem_append_right _ (List.mem_append_right _ (List.mem_of_getElem? (i := 36) rfl)))) rfl, List.forall_mem_cons.mpr ⟨gz_go (gz_tb (List.mem_append_right _ (List.mem_append_right _ (List.mem_of_getElem? (i := 38) rfl)))) rfl, List.forall_mem_cons.mpr ⟨gz_go (gz_tb (List.mem_append_right _ (List.mem_append_right _ (List.mem_of_getElem? (i := 40) rfl)))) rfl, List.forall_mem_cons.mpr ⟨gz_go (gz_tb (List.mem_append_right _ (List.mem_append_right _ (List.mem_of_getElem? (i := 42) rfl)))) rfl, List.forall_mem_cons.mpr ⟨gz_go (gz_tb (List.mem_append_right _ (List.mem_append_right _ (List.mem_of_getElem? (i := 44) rfl)))) rfl, List.forall_mem_cons.mpr ⟨gz_go (gz_tb (List.mem_append_right _ (List.mem_append_right _ (List.mem_of_getElem? (i := 46) rfl)))) rfl, List.forall_mem_cons.mpr ⟨gz_go (gz_tb (List.mem_append_right _ (List.mem_append_right _ (List.mem_of_getElem? (i := 48) rfl)))) rfl, List.forall_mem_cons.mpr ⟨gz_go (gz_tb (List.mem_append_right _ (List.mem_append_right _ (List.mem_of_getElem? (i := 50) rfl)))) rfl, List.forall_mem_cons.mpr ⟨gz_go (gz_tb (List.mem_append_right _ (List.mem_append_right _ (List.mem_of_getElem? (i := 52) rfl)))) rfl, List.forall_mem_cons.mpr ⟨gz_go (gz_tb (List.mem_append_right _ (List.mem_append_right _ (List.mem_of_getElem? (i := 54) rfl)))) rfl, List.forall_mem_cons.mpr ⟨gz_go (gz_tb (List.mem_append_right _ (List.mem_append_right _ (List.mem_of_getElem? (i := 56) rfl)))) rfl, List.forall_mem_cons.mpr ⟨gz_go (gz_tb (List.mem_append_right _ (List.mem_append_right _ (List.mem_of_getElem? (i := 58) rfl)))) rfl, List.forall_mem_cons.mpr ⟨gz_go (gz_tb (List.mem_append_right _ (List.mem_append_right _ (List.mem_of_getElem? (i := 60) rfl)))) rfl, List.forall_mem_cons.mpr ⟨gz_go (gz_tb (List.mem_append_right _ (List.mem_append_right _ (List.mem_of_getElem? (i := 62) rfl)))) rfl, List.forall_mem_cons.mpr ⟨gz_go (gz_tb (List.mem_append_right _ (List.mem_append_right _ (List.mem_of_getElem? (i := 64) rfl)))) rfl, List.forall_mem_cons.mpr ⟨gz_go (gz_tb (List.mem_append_right _ (List.mem_append_right _ (List.mem_of_getElem? (i := 66) rfl)))) rfl, List.forall_mem_cons.mpr ⟨gz_go (gz_tb (List.mem_append_right _ (List.mem_append_right _ (List.mem_of_getElem? (i := 68) rfl)))) rfl, fun _ h => absurd h List.not_mem_nil⟩⟩⟩⟩⟩⟩⟩⟩⟩⟩⟩⟩⟩⟩⟩⟩⟩⟩⟩⟩⟩
end
section
/-! THE PURE MEMORY: a cell is a triple (region, a, b); what int fields, int and boolean arrays hold is a function of cell and place; references are fixed by the shape, but the row 'held', whose place i names the mark object (16, I (4,0,0) i, 0). -/
abbrev gz_P : Type := Nat × Int × Int
abbrev gz_M : Type := gz_P → Int → Int
abbrev gz_i (a : Int) : Value := .int (Int32.ofInt a)
def gz_up (I : gz_M) (p : gz_P) (j v : Int) : gz_M := fun q i => if q = p ∧ i = j then v else I q i
/-- kind (0 int[], 1 boolean[], 2 State[], 3 Shelf[], 4 Mark[], 5 int[][], 10 + a class's number), length or fields, how many a, how many b -/
def gz_shp (r : Nat) : Nat × Nat × Nat × Nat := match r with
  | 0 => (14, 9, 1, 1)
  | 1 => (2, 4, 1, 1)
  | 2 => (3, 4, 1, 1)
  | 3 => (13, 8, 1, 1)
  | 4 => (4, 12, 1, 1)
  | 5 => (0, 1200, 1, 1)
  | 6 => (1, 120, 1, 1)
  | 7 => (12, 3, 4, 1)
  | 8 => (0, 300, 4, 1)
  | 9 => (0, 75, 4, 1)
  | 10 => (11, 2, 5, 1)
  | 11 => (1, 120, 5, 1)
  | 12 => (0, 3840, 5, 1)
  | 13 => (0, 120, 1, 1)
  | 14 => (0, 120, 1, 1)
  | 15 => (0, 120, 1, 1)
  | 16 => (10, 9, 12, 1)
  | 17 => (5, 4, 12, 1)
  | 18 => (0, 75, 12, 4)
  | 19 => (0, 4, 12, 1)
  | 20 => (15, 21, 1, 1)
  | 21 => (0, 4, 1, 1)
  | 22 => (0, 1200, 1, 1)
  | 23 => (0, 1200, 1, 1)
  | 24 => (0, 120, 1, 1)
  | 25 => (0, 120, 1, 1)
  | 26 => (1, 120, 1, 1)
  | 27 => (0, 3840, 1, 1)
  | 28 => (1, 480, 1, 1)
  | 29 => (0, 15360, 1, 1)
  | 30 => (0, 12, 1, 1)
  | 31 => (1, 12, 1, 1)
  | 32 => (0, 12, 1, 1)
  | 33 => (0, 12, 1, 1)
  | 34 => (0, 48, 1, 1)
  | 35 => (0, 3840, 1, 1)
  | 36 => (0, 12, 1, 1)
  | 37 => (0, 12, 1, 1)
  | 38 => (0, 12, 1, 1)
  | 39 => (1, 120, 1, 1)
  | _ => (0, 0, 0, 0)
/-- fields that are references: of which cell, by the object's a and b -/
def gz_rfo (r k : Nat) : Option (Int → Int → gz_P) := match r, k with
  | 0, 0 => some (fun _ _ => (1, 0, 0))
  | 0, 1 => some (fun _ _ => (2, 0, 0))
  | 0, 2 => some (fun _ _ => (3, 0, 0))
  | 0, 3 => some (fun _ _ => (4, 0, 0))
  | 0, 4 => some (fun _ _ => (5, 0, 0))
  | 0, 5 => some (fun _ _ => (6, 0, 0))
  | 3, 0 => some (fun _ _ => (10, 4, 0))
  | 3, 1 => some (fun _ _ => (13, 0, 0))
  | 3, 2 => some (fun _ _ => (14, 0, 0))
  | 3, 3 => some (fun _ _ => (15, 0, 0))
  | 7, 0 => some (fun a _ => (8, a, 0))
  | 7, 1 => some (fun a _ => (9, a, 0))
  | 10, 0 => some (fun a _ => (11, a, 0))
  | 10, 1 => some (fun a _ => (12, a, 0))
  | 16, 0 => some (fun a _ => (17, a, 0))
  | 16, 1 => some (fun a _ => (19, a, 0))
  | 20, 1 => some (fun _ _ => (21, 0, 0))
  | 20, 2 => some (fun _ _ => (22, 0, 0))
  | 20, 3 => some (fun _ _ => (23, 0, 0))
  | 20, 4 => some (fun _ _ => (24, 0, 0))
  | 20, 5 => some (fun _ _ => (25, 0, 0))
  | 20, 6 => some (fun _ _ => (26, 0, 0))
  | 20, 7 => some (fun _ _ => (27, 0, 0))
  | 20, 8 => some (fun _ _ => (28, 0, 0))
  | 20, 9 => some (fun _ _ => (29, 0, 0))
  | 20, 11 => some (fun _ _ => (30, 0, 0))
  | 20, 12 => some (fun _ _ => (31, 0, 0))
  | 20, 13 => some (fun _ _ => (32, 0, 0))
  | 20, 14 => some (fun _ _ => (33, 0, 0))
  | 20, 15 => some (fun _ _ => (34, 0, 0))
  | 20, 16 => some (fun _ _ => (35, 0, 0))
  | 20, 17 => some (fun _ _ => (36, 0, 0))
  | 20, 18 => some (fun _ _ => (37, 0, 0))
  | 20, 19 => some (fun _ _ => (38, 0, 0))
  | 20, 20 => some (fun _ _ => (39, 0, 0))
  | _, _ => none
/-- what a row of references names at place i -/
def gz_tgt (I : gz_M) (p : gz_P) (i : Int) : gz_P := match p.1 with
  | 1 => (7, i, 0)
  | 2 => (10, i, 0)
  | 4 => (16, I p i, 0)
  | _ => (18, p.2.1, i)
def gz_fv (α : gz_P → Nat) (I : gz_M) (p : gz_P) (k : Nat) : Value := match gz_rfo p.1 k with
  | some g => .ref (α (g p.2.1 p.2.2))
  | none => gz_i (I p k)
def gz_cell (α : gz_P → Nat) (cA : Nat → ClassId) (I : gz_M) (p : gz_P) : va_E :=
  if (gz_shp p.1).1 < 2 then .inl (cA (gz_shp p.1).1, (gz_shp p.1).2.1, .inl (fun i => Int32.ofInt (I p i)))
  else if (gz_shp p.1).1 < 10 then .inl (cA (gz_shp p.1).1, (gz_shp p.1).2.1, .inr (.inr (.inr (.inr (fun i => some (α (gz_tgt I p i)))))))
  else .inr ((gz_shp p.1).1 - 10, (List.range (gz_shp p.1).2.1).map (gz_fv α I p))
def gz_ptrs : List gz_P := (List.range 40).flatMap fun r => (List.range (gz_shp r).2.2.1).flatMap fun (a : Nat) => (List.range (gz_shp r).2.2.2).map fun (b : Nat) => ((r, Int.ofNat a, Int.ofNat b) : gz_P)
def gz_ws (α : gz_P → Nat) (cA : Nat → ClassId) (I : gz_M) : va_W := gz_ptrs.map fun p => (α p, gz_cell α cA I p)
abbrev gz_cl : List vw_C := [(RX0, TX0, 9), (RX1, TX1, 2), (RX2, TX2, 3), (RX3, TX3, 8), (RX4, TX4, 9), (RX5, TX5, 21)]
abbrev gz_tys (cA : Nat → ClassId) : List (ClassId × FieldType) := [(cA 0, .int), (cA 1, .boolean), (cA 2, .object RX2), (cA 3, .object RX1), (cA 4, .object RX0), (cA 5, .array .int)]
theorem gz_mem {r : Nat} {a b : Int} {na nb : Nat} (hr : r < 40) (h : (gz_shp r).2.2 = (na, nb)) (ha : 0 ≤ a ∧ a < na) (hb : 0 ≤ b ∧ b < nb) : ((r, a, b) : gz_P) ∈ gz_ptrs := by
  have h1 : (gz_shp r).2.2.1 = na := by rw [h]
  have h2 : (gz_shp r).2.2.2 = nb := by rw [h]
  have hA : a.toNat < (gz_shp r).2.2.1 := by rw [h1]; omega
  have hB : b.toNat < (gz_shp r).2.2.2 := by rw [h2]; omega
  unfold gz_ptrs
  refine List.mem_flatMap.mpr ⟨r, List.mem_range.mpr hr, List.mem_flatMap.mpr ⟨a.toNat, List.mem_range.mpr hA, List.mem_map.mpr ⟨b.toNat, List.mem_range.mpr hB, ?_⟩⟩⟩
  rw [Int.ofNat_eq_natCast, Int.ofNat_eq_natCast, Int.toNat_of_nonneg ha.1, Int.toNat_of_nonneg hb.1]
theorem gz_ws_get {α : gz_P → Nat} {cA : Nat → ClassId} {I : gz_M} {A : Nat → Prop} {p : gz_P} (hp : p ∈ gz_ptrs) (hD : va_D A (gz_ws α cA I)) : ∃ k : Nat, (gz_ws α cA I)[k]? = some (α p, gz_cell α cA I p) ∧ ∀ I' : gz_M, (∀ q : gz_P, q ≠ p → gz_cell α cA I' q = gz_cell α cA I q) → (gz_ws α cA I).set k (α p, gz_cell α cA I' p) = gz_ws α cA I' := by
  obtain ⟨k, hk⟩ := List.getElem?_of_mem hp
  have hk2 : (gz_ws α cA I)[k]? = some (α p, gz_cell α cA I p) := by unfold gz_ws; rw [List.getElem?_map, hk]; rfl
  refine ⟨k, hk2, fun I' h => ?_⟩
  apply List.ext_getElem?
  intro j
  by_cases hj : k = j
  · subst hj
    have hlt : k < (gz_ws α cA I).length := (List.getElem?_eq_some_iff.mp hk2).1
    rw [List.getElem?_set_self hlt]
    unfold gz_ws
    rw [List.getElem?_map, hk]
    rfl
  · rw [List.getElem?_set_ne hj]
    unfold gz_ws
    rw [List.getElem?_map, List.getElem?_map]
    cases hq : gz_ptrs[j]? with
    | none => rfl
    | some q =>
      have hqp : q ≠ p := fun e => by
        subst e
        have h2 : (gz_ws α cA I)[j]? = some (α q, gz_cell α cA I q) := by unfold gz_ws; rw [List.getElem?_map, hq]; rfl
        exact hj (hD.1 k j _ _ hk2 h2 rfl)
      show some (α q, gz_cell α cA I q) = some (α q, gz_cell α cA I' q)
      rw [h q hqp]
/-- locals -/
def gz_L (ls : Array Slot) (nL : Nat) (L : List (Option Value)) : Prop := ls.size = nL ∧ lv_wf ls ∧ ∀ (i : Nat) (v : Value), L[i]? = some (some v) → ls[i]? = some (.val v)
def gz_as (L : List (Option Value)) : List (Nat × Value) := (List.range L.length).filterMap fun i => (L[i]?.join).map fun v => (i, v)
theorem gz_as_mem {L : List (Option Value)} {i : Nat} {v : Value} : (i, v) ∈ gz_as L ↔ L[i]? = some (some v) := by
  unfold gz_as
  rw [List.mem_filterMap]
  constructor
  · rintro ⟨j, hj, h⟩
    cases hL : L[j]? with
    | none => rw [hL] at h; simp at h
    | some o =>
      cases o with
      | none => rw [hL] at h; simp at h
      | some w =>
        rw [hL] at h
        simp at h
        obtain ⟨rfl, rfl⟩ := h
        exact hL
  · intro h
    exact ⟨i, List.mem_range.mpr (List.getElem?_eq_some_iff.mp h).1, by rw [h]; rfl⟩
theorem gz_L.has {ls : Array Slot} {nL : Nat} {L : List (Option Value)} (h : gz_L ls nL L) : lv_has ls nL (gz_as L) := ⟨h.1, h.2.1, fun q hq => h.2.2 q.1 q.2 (gz_as_mem.mp hq)⟩
/-- no long ends at place i -/
def gz_nl (L : List (Option Value)) (i : Nat) : Bool := match i with
  | 0 => true
  | j + 1 => match L[j]? with
    | some (some v) => v.category == 1
    | _ => true
theorem gz_L.set {ls' : Array Slot} {nL : Nat} {L : List (Option Value)} {i : Nat} {x : Value} (hn : gz_nl L i = true) (hi : i < L.length) (h : lv_has ls' nL ((i, x) :: (gz_as L).filter (fun q => !(q.1 == i) && !(q.1 + 1 == i && q.2.category == 2)))) : gz_L ls' nL (L.set i (some x)) := by
  refine ⟨h.1, h.2.1, fun j v hj => ?_⟩
  by_cases e : i = j
  · subst e
    rw [List.getElem?_set_self hi] at hj
    cases hj
    exact h.2.2 (i, x) List.mem_cons_self
  · rw [List.getElem?_set_ne e] at hj
    refine h.2.2 (j, v) (List.mem_cons_of_mem _ (List.mem_filter.mpr ⟨gz_as_mem.mpr hj, ?_⟩))
    have h1 : (j == i) = false := by simp; omega
    by_cases e2 : j + 1 = i
    · subst e2
      have hc : v.category = 1 := by simp only [gz_nl, hj] at hn; simpa using hn
      simp [hc]
    · have h2 : (j + 1 == i) = false := by simp; omega
      simp [h1, h2]
/-- a return instruction with its answer -/
def gz_ret (cc : ByteArray) (ret : Option FieldType) (pc : Nat) (r : Option Value) : Prop :=
  (ret = some .int ∧ decode cc pc = .ok (.ireturn, 1) ∧ ∃ x : Int32, r = some (.int x)) ∨
  (ret = some .boolean ∧ decode cc pc = .ok (.ireturn, 1) ∧ ∃ x : Int32, r = some (.int x) ∧ narrow .boolean (.int x) = .int x) ∨
  ((∃ n, ret = some (.object n)) ∧ decode cc pc = .ok (.areturn, 1) ∧ ∃ v : Value, r = some v ∧ (v = .null ∨ ∃ a, v = .ref a)) ∨
  (ret = none ∧ decode cc pc = .ok (.return_, 1) ∧ r = none)
/-- what stays while a method runs -/
def gz_C (D : va_G) (α : gz_P → Nat) (cA : Nat → ClassId) (own : String) (cc : ByteArray) (ret : Option FieldType) (nL d : Nat) (p : Program) (R : Room) (s : State) (m : MethodId) (args : Array Value) (meth : Method) (c : Code) (A : Nat → Prop) (cells slots : Nat) : Prop :=
  p.tables.exec = Jvm.exec ∧ c.code = cc ∧ meth.sig.returnType = ret ∧ c.maxLocals = nL ∧ s.vm.findClass own = some m.cls ∧ (∀ w ∈ gz_ts, w.before args s = true) ∧ va_K D gz_cl (gz_tys cA) s ∧ va_Nw (.methodLinkNest RX3 48 yX4_digestOf RX4) s ∧ d ≤ R.frames ∧ 38 * d ≤ R.locals ∧ cells ≤ R.cells ∧ slots ≤ R.slots ∧ ∀ I, va_D A (gz_ws α cA I)
/-- THE JUDGEMENT: at pc, with locals L, stack st and memory I, the method comes to an end with Q -/
def gz_V (l : Launch) (D : va_G) (α : gz_P → Nat) (cA : Nat → ClassId) (own : String) (cc : ByteArray) (ret : Option FieldType) (nL d : Nat) (Q : Option Value → gz_M → Prop) (I : gz_M) (L : List (Option Value)) (st : List Value) (pc : Nat) : Prop :=
  ∀ (p : Program) (e : Env) (R : Room) (s : State) (m : MethodId) (args : Array Value) (below : List Frame) (meth : Method) (c : Code) (A : Nat → Prop) (H : Heap) (locs : List Loc) (ls : Array Slot) (cells slots : Nat) (QQ : State → Prop),
    gz_C D α cA own cc ret nL d p R s m args meth c A cells slots → va_P D gz_cl (gz_ws α cA I) H → va_S A s.heap H locs → gz_L ls nL L →
    (∀ (r : Option Value) (I' : gz_M) (H' : Heap) (locs' : List Loc) (ls' : Array Slot) (pc' : Nat), Q r I' → va_P D gz_cl (gz_ws α cA I') H' → va_S A s.heap H' locs' → gz_ret cc ret pc' r → W p l e R s m args below meth c H' locs' cells slots QQ (F0 m pc' ls' r.toList)) →
    W p l e R s m args below meth c H locs cells slots QQ (F0 m pc ls st)
end
section
section
variable {l : Launch} {D : va_G} {α : gz_P → Nat} {cA : Nat → ClassId} {own : String} {cc : ByteArray} {ret : Option FieldType} {nL d : Nat} {Q : Option Value → gz_M → Prop} {I : gz_M} {L : List (Option Value)} {st : List Value} {pc : Nat}
theorem gz_ti {a : Int} (h : -2147483648 ≤ a ∧ a ≤ 2147483647) : (Int32.ofInt a).toInt = a := Int32.toInt_ofInt_of_le (by have := h.1; simpa using this) (by have := h.2; omega)
theorem gz_tn {a : Int} (h : 0 ≤ a ∧ a ≤ 2147483647) : (Int32.ofInt a).toNatClampNeg = a.toNat := by
  show (Int32.ofInt a).toInt.toNat = a.toNat
  rw [gz_ti ⟨by omega, h.2⟩]
theorem gz_clt {a b : Int} (ra : -2147483648 ≤ a ∧ a ≤ 2147483647) (rb : -2147483648 ≤ b ∧ b ≤ 2147483647) : Int32.ofInt a < Int32.ofInt b ↔ a < b := by rw [Int32.lt_iff_toInt_lt, gz_ti ra, gz_ti rb]
theorem gz_cle {a b : Int} (ra : -2147483648 ≤ a ∧ a ≤ 2147483647) (rb : -2147483648 ≤ b ∧ b ≤ 2147483647) : Int32.ofInt a ≤ Int32.ofInt b ↔ a ≤ b := by rw [Int32.le_iff_toInt_le, gz_ti ra, gz_ti rb]
theorem gz_ceq {a b : Int} (ra : -2147483648 ≤ a ∧ a ≤ 2147483647) (rb : -2147483648 ≤ b ∧ b ≤ 2147483647) : Int32.ofInt a = Int32.ofInt b ↔ a = b := by rw [← Int32.toInt_inj, gz_ti ra, gz_ti rb]
theorem gz_z0 : (0 : Int32) = Int32.ofInt 0 := rfl
theorem gz_r0 : -2147483648 ≤ (0 : Int) ∧ (0 : Int) ≤ 2147483647 := by decide
theorem gz_pin {a : Int} {n : Nat} (h : 0 ≤ a ∧ a < n) (hn : n ≤ 2147483647) : vp_in (Int32.ofInt a) n := by
  rw [vp_in_iff, gz_ti ⟨by omega, by omega⟩]
  exact h
theorem gz_arg (x : Int32) : Value.int x = gz_i x.toInt := by
  show Value.int x = Value.int (Int32.ofInt x.toInt)
  rw [Int32.ofInt_toInt]
theorem gz_rng (x : Int32) : -2147483648 ≤ x.toInt ∧ x.toInt ≤ 2147483647 := ⟨by have := Int32.minValue_le_toInt x; simpa using this, by have := Int32.toInt_le x; have h2 : Int32.maxValue.toInt = 2147483647 := rfl; omega⟩
theorem gz_iconst {n : Int} (hd : decode cc pc = .ok (.iconst n, 1)) (k : gz_V l D α cA own cc ret nL d Q I L (gz_i n :: st) (pc + 1)) : gz_V l D α cA own cc ret nL d Q I L st pc := by
  intro p e R s m args below meth c A H locs ls cells slots QQ C hP hS hl hQ
  exact lv_iconst C.1 C.2.1 hd rfl (k p e R s m args below meth c A H locs ls cells slots QQ C hP hS hl hQ)
theorem gz_bipush {n : Int} (hd : decode cc pc = .ok (.bipush n, 2)) (hv : (Int8.ofInt n).toInt32 = Int32.ofInt n) (k : gz_V l D α cA own cc ret nL d Q I L (gz_i n :: st) (pc + 2)) : gz_V l D α cA own cc ret nL d Q I L st pc := by
  intro p e R s m args below meth c A H locs ls cells slots QQ C hP hS hl hQ
  exact lv_bipush C.1 C.2.1 hd hv (k p e R s m args below meth c A H locs ls cells slots QQ C hP hS hl hQ)
theorem gz_sipush {n : Int} (hd : decode cc pc = .ok (.sipush n, 3)) (hv : (Int16.ofInt n).toInt32 = Int32.ofInt n) (k : gz_V l D α cA own cc ret nL d Q I L (gz_i n :: st) (pc + 3)) : gz_V l D α cA own cc ret nL d Q I L st pc := by
  intro p e R s m args below meth c A H locs ls cells slots QQ C hP hS hl hQ
  exact lv_sipush C.1 C.2.1 hd hv (k p e R s m args below meth c A H locs ls cells slots QQ C hP hS hl hQ)
theorem gz_iload_n {j : Fin 4} {a : Int} (hd : decode cc pc = .ok (.iload_n j, 1)) (hL : L[(j : Nat)]? = some (some (gz_i a))) (k : gz_V l D α cA own cc ret nL d Q I L (gz_i a :: st) (pc + 1)) : gz_V l D α cA own cc ret nL d Q I L st pc := by
  intro p e R s m args below meth c A H locs ls cells slots QQ C hP hS hl hQ
  exact lv_iload_n C.1 C.2.1 hd rfl (hl.2.2 _ _ hL) (k p e R s m args below meth c A H locs ls cells slots QQ C hP hS hl hQ)
theorem gz_iload {j : Nat} {a : Int} (hd : decode cc pc = .ok (.iload j, 2)) (hL : L[j]? = some (some (gz_i a))) (k : gz_V l D α cA own cc ret nL d Q I L (gz_i a :: st) (pc + 2)) : gz_V l D α cA own cc ret nL d Q I L st pc := by
  intro p e R s m args below meth c A H locs ls cells slots QQ C hP hS hl hQ
  exact lv_iload C.1 C.2.1 hd (hl.2.2 _ _ hL) (k p e R s m args below meth c A H locs ls cells slots QQ C hP hS hl hQ)
theorem gz_istore_n {j : Fin 4} {a : Int} (hd : decode cc pc = .ok (.istore_n j, 1)) (hn : gz_nl L j = true) (hi : Nat.ble (j.val + 1) L.length = true) (hi2 : Nat.ble (j.val + 1) nL = true) (k : gz_V l D α cA own cc ret nL d Q I (L.set j (some (gz_i a))) st (pc + 1)) : gz_V l D α cA own cc ret nL d Q I L (gz_i a :: st) pc := by
  intro p e R s m args below meth c A H locs ls cells slots QQ C hP hS hl hQ
  exact lv_istore_n C.1 C.2.1 hd rfl hl.has (Nat.le_of_ble_eq_true hi2) rfl (fun ls' hl' => (k p e R s m args below meth c A H locs ls' cells slots QQ C hP hS (gz_L.set hn (Nat.le_of_ble_eq_true hi) hl') hQ))
theorem gz_istore {j : Nat} {a : Int} (hd : decode cc pc = .ok (.istore j, 2)) (hn : gz_nl L j = true) (hi : Nat.ble (j + 1) L.length = true) (hi2 : Nat.ble (j + 1) nL = true) (k : gz_V l D α cA own cc ret nL d Q I (L.set j (some (gz_i a))) st (pc + 2)) : gz_V l D α cA own cc ret nL d Q I L (gz_i a :: st) pc := by
  intro p e R s m args below meth c A H locs ls cells slots QQ C hP hS hl hQ
  exact lv_istore C.1 C.2.1 hd hl.has (Nat.le_of_ble_eq_true hi2) rfl (fun ls' hl' => (k p e R s m args below meth c A H locs ls' cells slots QQ C hP hS (gz_L.set hn (Nat.le_of_ble_eq_true hi) hl') hQ))
theorem gz_aload_n {j : Fin 4} {a : Nat} (hd : decode cc pc = .ok (.aload_n j, 1)) (hL : L[(j : Nat)]? = some (some (.ref a))) (k : gz_V l D α cA own cc ret nL d Q I L (.ref a :: st) (pc + 1)) : gz_V l D α cA own cc ret nL d Q I L st pc := by
  intro p e R s m args below meth c A H locs ls cells slots QQ C hP hS hl hQ
  exact lv_aload_n C.1 C.2.1 hd rfl (hl.2.2 _ _ hL) (k p e R s m args below meth c A H locs ls cells slots QQ C hP hS hl hQ)
theorem gz_aload {j : Nat} {a : Nat} (hd : decode cc pc = .ok (.aload j, 2)) (hL : L[j]? = some (some (.ref a))) (k : gz_V l D α cA own cc ret nL d Q I L (.ref a :: st) (pc + 2)) : gz_V l D α cA own cc ret nL d Q I L st pc := by
  intro p e R s m args below meth c A H locs ls cells slots QQ C hP hS hl hQ
  exact lv_aload C.1 C.2.1 hd (hl.2.2 _ _ hL) (k p e R s m args below meth c A H locs ls cells slots QQ C hP hS hl hQ)
theorem gz_astore_n {j : Fin 4} {a : Nat} (hd : decode cc pc = .ok (.astore_n j, 1)) (hn : gz_nl L j = true) (hi : Nat.ble (j.val + 1) L.length = true) (hi2 : Nat.ble (j.val + 1) nL = true) (k : gz_V l D α cA own cc ret nL d Q I (L.set j (some (.ref a))) st (pc + 1)) : gz_V l D α cA own cc ret nL d Q I L (.ref a :: st) pc := by
  intro p e R s m args below meth c A H locs ls cells slots QQ C hP hS hl hQ
  exact lv_astore_n C.1 C.2.1 hd rfl hl.has (Nat.le_of_ble_eq_true hi2) rfl (fun ls' hl' => (k p e R s m args below meth c A H locs ls' cells slots QQ C hP hS (gz_L.set hn (Nat.le_of_ble_eq_true hi) hl') hQ))
theorem gz_astore {j : Nat} {a : Nat} (hd : decode cc pc = .ok (.astore j, 2)) (hn : gz_nl L j = true) (hi : Nat.ble (j + 1) L.length = true) (hi2 : Nat.ble (j + 1) nL = true) (k : gz_V l D α cA own cc ret nL d Q I (L.set j (some (.ref a))) st (pc + 2)) : gz_V l D α cA own cc ret nL d Q I L (.ref a :: st) pc := by
  intro p e R s m args below meth c A H locs ls cells slots QQ C hP hS hl hQ
  exact lv_astore C.1 C.2.1 hd hl.has (Nat.le_of_ble_eq_true hi2) rfl (fun ls' hl' => (k p e R s m args below meth c A H locs ls' cells slots QQ C hP hS (gz_L.set hn (Nat.le_of_ble_eq_true hi) hl') hQ))
theorem gz_aload_nN {j : Fin 4}  (hd : decode cc pc = .ok (.aload_n j, 1)) (hL : L[(j : Nat)]? = some (some (.null))) (k : gz_V l D α cA own cc ret nL d Q I L (.null :: st) (pc + 1)) : gz_V l D α cA own cc ret nL d Q I L st pc := by
  intro p e R s m args below meth c A H locs ls cells slots QQ C hP hS hl hQ
  exact lv_aload_nN C.1 C.2.1 hd rfl (hl.2.2 _ _ hL) (k p e R s m args below meth c A H locs ls cells slots QQ C hP hS hl hQ)
theorem gz_aloadN {j : Nat}  (hd : decode cc pc = .ok (.aload j, 2)) (hL : L[j]? = some (some (.null))) (k : gz_V l D α cA own cc ret nL d Q I L (.null :: st) (pc + 2)) : gz_V l D α cA own cc ret nL d Q I L st pc := by
  intro p e R s m args below meth c A H locs ls cells slots QQ C hP hS hl hQ
  exact lv_aloadN C.1 C.2.1 hd (hl.2.2 _ _ hL) (k p e R s m args below meth c A H locs ls cells slots QQ C hP hS hl hQ)
theorem gz_astore_nN {j : Fin 4}  (hd : decode cc pc = .ok (.astore_n j, 1)) (hn : gz_nl L j = true) (hi : Nat.ble (j.val + 1) L.length = true) (hi2 : Nat.ble (j.val + 1) nL = true) (k : gz_V l D α cA own cc ret nL d Q I (L.set j (some (.null))) st (pc + 1)) : gz_V l D α cA own cc ret nL d Q I L (.null :: st) pc := by
  intro p e R s m args below meth c A H locs ls cells slots QQ C hP hS hl hQ
  exact lv_astore_nN C.1 C.2.1 hd rfl hl.has (Nat.le_of_ble_eq_true hi2) rfl (fun ls' hl' => (k p e R s m args below meth c A H locs ls' cells slots QQ C hP hS (gz_L.set hn (Nat.le_of_ble_eq_true hi) hl') hQ))
theorem gz_astoreN {j : Nat}  (hd : decode cc pc = .ok (.astore j, 2)) (hn : gz_nl L j = true) (hi : Nat.ble (j + 1) L.length = true) (hi2 : Nat.ble (j + 1) nL = true) (k : gz_V l D α cA own cc ret nL d Q I (L.set j (some (.null))) st (pc + 2)) : gz_V l D α cA own cc ret nL d Q I L (.null :: st) pc := by
  intro p e R s m args below meth c A H locs ls cells slots QQ C hP hS hl hQ
  exact lv_astoreN C.1 C.2.1 hd hl.has (Nat.le_of_ble_eq_true hi2) rfl (fun ls' hl' => (k p e R s m args below meth c A H locs ls' cells slots QQ C hP hS (gz_L.set hn (Nat.le_of_ble_eq_true hi) hl') hQ))
theorem gz_lload {j : Nat} {a : Int64} (hd : decode cc pc = .ok (.lload j, 2)) (hL : L[j]? = some (some (.long a))) (k : gz_V l D α cA own cc ret nL d Q I L (.long a :: st) (pc + 2)) : gz_V l D α cA own cc ret nL d Q I L st pc := by
  intro p e R s m args below meth c A H locs ls cells slots QQ C hP hS hl hQ
  exact lv_lload C.1 C.2.1 hd (hl.2.2 _ _ hL) (k p e R s m args below meth c A H locs ls cells slots QQ C hP hS hl hQ)
theorem gz_iinc {j : Nat} {n a : Int} (hd : decode cc pc = .ok (.iinc j n, 3)) (hL : L[j]? = some (some (gz_i a))) (hn : gz_nl L j = true) (hi : Nat.ble (j + 1) L.length = true) (hi2 : Nat.ble (j + 1) nL = true) (k : gz_V l D α cA own cc ret nL d Q I (L.set j (some (gz_i (a + n)))) st (pc + 3)) : gz_V l D α cA own cc ret nL d Q I L st pc := by
  intro p e R s m args below meth c A H locs ls cells slots QQ C hP hS hl hQ
  obtain ⟨q, hq⟩ := List.getElem?_of_mem (gz_as_mem.mpr hL)
  exact lv_iinc (k := q) (v := Int32.ofInt (a + n)) C.1 C.2.1 hd hl.has hq (by rw [Int32.ofInt_add]) (Nat.le_of_ble_eq_true hi2) rfl (fun ls' hl' => (k p e R s m args below meth c A H locs ls' cells slots QQ C hP hS (gz_L.set hn (Nat.le_of_ble_eq_true hi) hl') hQ))
theorem gz_iadd {a b : Int} (hd : decode cc pc = .ok (.iadd, 1)) (k : gz_V l D α cA own cc ret nL d Q I L (gz_i (a + b) :: st) (pc + 1)) : gz_V l D α cA own cc ret nL d Q I L (gz_i b :: gz_i a :: st) pc := by
  intro p e R s m args below meth c A H locs ls cells slots QQ C hP hS hl hQ
  exact lv_iadd C.1 C.2.1 hd (by rw [← Int32.ofInt_add]; exact (k p e R s m args below meth c A H locs ls cells slots QQ C hP hS hl hQ))
theorem gz_isub {a b : Int} (hd : decode cc pc = .ok (.isub, 1)) (k : gz_V l D α cA own cc ret nL d Q I L (gz_i (a - b) :: st) (pc + 1)) : gz_V l D α cA own cc ret nL d Q I L (gz_i b :: gz_i a :: st) pc := by
  intro p e R s m args below meth c A H locs ls cells slots QQ C hP hS hl hQ
  exact lv_isub C.1 C.2.1 hd (by rw [← Int32.ofInt_sub]; exact (k p e R s m args below meth c A H locs ls cells slots QQ C hP hS hl hQ))
theorem gz_imul {a b : Int} (hd : decode cc pc = .ok (.imul, 1)) (k : gz_V l D α cA own cc ret nL d Q I L (gz_i (a * b) :: st) (pc + 1)) : gz_V l D α cA own cc ret nL d Q I L (gz_i b :: gz_i a :: st) pc := by
  intro p e R s m args below meth c A H locs ls cells slots QQ C hP hS hl hQ
  exact lv_imul C.1 C.2.1 hd (by rw [← Int32.ofInt_mul]; exact (k p e R s m args below meth c A H locs ls cells slots QQ C hP hS hl hQ))
theorem gz_dv {a b : Int} (ra : 0 ≤ a ∧ a ≤ 2147483647) (rb : 0 < b ∧ b ≤ 2147483647) : Int32.ofInt a / Int32.ofInt b = Int32.ofInt (a / b) := by
  have h0 : 0 ≤ a / b := Int.ediv_nonneg ra.1 (by omega)
  have h1 : a / b ≤ a := Int.ediv_le_self b ra.1
  rw [← Int32.toInt_inj, Int32.toInt_div_of_ne_left, gz_ti ⟨by omega, ra.2⟩, gz_ti ⟨by omega, rb.2⟩, gz_ti ⟨by omega, by omega⟩, Int.tdiv_eq_ediv_of_nonneg ra.1]
  intro h
  have := congrArg Int32.toInt h
  rw [gz_ti ⟨by omega, ra.2⟩] at this
  have h3 : Int32.minValue.toInt = -2147483648 := by decide
  omega
theorem gz_md {a b : Int} (ra : 0 ≤ a ∧ a ≤ 2147483647) (rb : 0 < b ∧ b ≤ 2147483647) : Int32.ofInt a - Int32.ofInt a / Int32.ofInt b * Int32.ofInt b = Int32.ofInt (a % b) := by
  rw [gz_dv ra rb, ← Int32.ofInt_mul, ← Int32.ofInt_sub]
  congr 1
  have := Int.emod_add_mul_ediv a b
  rw [Int.mul_comm (a / b) b]
  omega
theorem gz_nz {b : Int} (rb : 0 < b ∧ b ≤ 2147483647) : ¬ Int32.ofInt b = 0 := by
  rw [gz_z0, gz_ceq ⟨by omega, rb.2⟩ gz_r0]
  omega
theorem gz_an (a : Int) : Int32.ofInt a &&& Int32.ofInt 255 = Int32.ofInt (a % 256) := by
  apply Int32.toBitVec.inj
  rw [Int32.toBitVec_and, Int32.toBitVec_ofInt, Int32.toBitVec_ofInt, Int32.toBitVec_ofInt]
  apply BitVec.eq_of_toNat_eq
  rw [BitVec.toNat_and, BitVec.toNat_ofInt, BitVec.toNat_ofInt, BitVec.toNat_ofInt]
  have e : (((255 : Int) % ((2 ^ 32 : Nat) : Int)).toNat) = 2 ^ 8 - 1 := by decide
  rw [e, Nat.and_two_pow_sub_one_eq_mod]
  omega
theorem gz_idiv {a b : Int} (hd : decode cc pc = .ok (.idiv, 1)) (ra : 0 ≤ a ∧ a ≤ 2147483647) (rb : 0 < b ∧ b ≤ 2147483647) (k : gz_V l D α cA own cc ret nL d Q I L (gz_i (a / b) :: st) (pc + 1)) : gz_V l D α cA own cc ret nL d Q I L (gz_i b :: gz_i a :: st) pc := by
  intro p e R s m args below meth c A H locs ls cells slots QQ C hP hS hl hQ
  exact lv_idiv C.1 C.2.1 hd (gz_nz rb) (by rw [gz_dv ra rb]; exact (k p e R s m args below meth c A H locs ls cells slots QQ C hP hS hl hQ))
theorem gz_irem {a b : Int} (hd : decode cc pc = .ok (.irem, 1)) (ra : 0 ≤ a ∧ a ≤ 2147483647) (rb : 0 < b ∧ b ≤ 2147483647) (k : gz_V l D α cA own cc ret nL d Q I L (gz_i (a % b) :: st) (pc + 1)) : gz_V l D α cA own cc ret nL d Q I L (gz_i b :: gz_i a :: st) pc := by
  intro p e R s m args below meth c A H locs ls cells slots QQ C hP hS hl hQ
  exact lv_irem C.1 C.2.1 hd (gz_nz rb) (by rw [gz_md ra rb]; exact (k p e R s m args below meth c A H locs ls cells slots QQ C hP hS hl hQ))
theorem gz_iand {a : Int} (hd : decode cc pc = .ok (.iand, 1)) (k : gz_V l D α cA own cc ret nL d Q I L (gz_i (a % 256) :: st) (pc + 1)) : gz_V l D α cA own cc ret nL d Q I L (gz_i 255 :: gz_i a :: st) pc := by
  intro p e R s m args below meth c A H locs ls cells slots QQ C hP hS hl hQ
  exact lv_iand C.1 C.2.1 hd (by rw [gz_an]; exact (k p e R s m args below meth c A H locs ls cells slots QQ C hP hS hl hQ))
def gz_x (a b : Int) : Int := (Int32.ofInt a ^^^ Int32.ofInt b).toInt
theorem gz_ixor {a b : Int} (hd : decode cc pc = .ok (.ixor, 1)) (k : gz_V l D α cA own cc ret nL d Q I L (gz_i (gz_x a b) :: st) (pc + 1)) : gz_V l D α cA own cc ret nL d Q I L (gz_i b :: gz_i a :: st) pc := by
  intro p e R s m args below meth c A H locs ls cells slots QQ C hP hS hl hQ
  exact lv_ixor C.1 C.2.1 hd (by have h := (k p e R s m args below meth c A H locs ls cells slots QQ C hP hS hl hQ); unfold gz_x gz_i at h; rw [Int32.ofInt_toInt] at h; exact h)
theorem gz_dup {v : Value} (hd : decode cc pc = .ok (.dup, 1)) (hv : v.category = 1) (k : gz_V l D α cA own cc ret nL d Q I L (v :: v :: st) (pc + 1)) : gz_V l D α cA own cc ret nL d Q I L (v :: st) pc := by
  intro p e R s m args below meth c A H locs ls cells slots QQ C hP hS hl hQ
  exact lv_dup C.1 C.2.1 hd hv (k p e R s m args below meth c A H locs ls cells slots QQ C hP hS hl hQ)
theorem gz_dup2 {v w : Value} (hd : decode cc pc = .ok (.dup2, 1)) (hv : v.category = 1) (hw : w.category = 1) (k : gz_V l D α cA own cc ret nL d Q I L (v :: w :: v :: w :: st) (pc + 1)) : gz_V l D α cA own cc ret nL d Q I L (v :: w :: st) pc := by
  intro p e R s m args below meth c A H locs ls cells slots QQ C hP hS hl hQ
  exact lv_dup2_11 C.1 C.2.1 hd hv hw (k p e R s m args below meth c A H locs ls cells slots QQ C hP hS hl hQ)
theorem gz_null  (hd : decode cc pc = .ok (.aconst_null, 1)) (k : gz_V l D α cA own cc ret nL d Q I L (.null :: st) (pc + 1)) : gz_V l D α cA own cc ret nL d Q I L st pc := by
  intro p e R s m args below meth c A H locs ls cells slots QQ C hP hS hl hQ
  exact lv_null C.1 C.2.1 hd (k p e R s m args below meth c A H locs ls cells slots QQ C hP hS hl hQ)
theorem gz_goto {off : Int} {tgt : Nat} (hd : decode cc pc = .ok (.goto off, 3)) (ht : (pc : Int) + off = (tgt : Int)) (k : gz_V l D α cA own cc ret nL d Q I L st tgt) : gz_V l D α cA own cc ret nL d Q I L st pc := by
  intro p e R s m args below meth c A H locs ls cells slots QQ C hP hS hl hQ
  exact lv_goto C.1 C.2.1 hd ht (k p e R s m args below meth c A H locs ls cells slots QQ C hP hS hl hQ)
theorem gz_ifnull {off : Int} {x : Nat} (hd : decode cc pc = .ok (.ifnull off, 3)) (k : gz_V l D α cA own cc ret nL d Q I L st (pc + 3)) : gz_V l D α cA own cc ret nL d Q I L (.ref x :: st) pc := by
  intro p e R s m args below meth c A H locs ls cells slots QQ C hP hS hl hQ
  exact lv_ifnull C.1 C.2.1 hd (k p e R s m args below meth c A H locs ls cells slots QQ C hP hS hl hQ)
theorem gz_ifnullN {off : Int} {tgt : Nat} (hd : decode cc pc = .ok (.ifnull off, 3)) (ht : (pc : Int) + off = (tgt : Int)) (k : gz_V l D α cA own cc ret nL d Q I L st tgt) : gz_V l D α cA own cc ret nL d Q I L (.null :: st) pc := by
  intro p e R s m args below meth c A H locs ls cells slots QQ C hP hS hl hQ
  exact lv_ifnullN C.1 C.2.1 hd ht (k p e R s m args below meth c A H locs ls cells slots QQ C hP hS hl hQ)
theorem gz_ifnonnull {off : Int} {tgt : Nat} {x : Nat} (hd : decode cc pc = .ok (.ifnonnull off, 3)) (ht : (pc : Int) + off = (tgt : Int)) (k : gz_V l D α cA own cc ret nL d Q I L st tgt) : gz_V l D α cA own cc ret nL d Q I L (.ref x :: st) pc := by
  intro p e R s m args below meth c A H locs ls cells slots QQ C hP hS hl hQ
  exact lv_ifnonnull C.1 C.2.1 hd ht (k p e R s m args below meth c A H locs ls cells slots QQ C hP hS hl hQ)
theorem gz_ifnonnullN {off : Int} (hd : decode cc pc = .ok (.ifnonnull off, 3)) (k : gz_V l D α cA own cc ret nL d Q I L st (pc + 3)) : gz_V l D α cA own cc ret nL d Q I L (.null :: st) pc := by
  intro p e R s m args below meth c A H locs ls cells slots QQ C hP hS hl hQ
  exact lv_ifnonnullN C.1 C.2.1 hd (k p e R s m args below meth c A H locs ls cells slots QQ C hP hS hl hQ)
theorem gz_i2l {a : Int} (hd : decode cc pc = .ok (.i2l, 1)) (k : gz_V l D α cA own cc ret nL d Q I L (.long (Int32.ofInt a).toInt64 :: st) (pc + 1)) : gz_V l D α cA own cc ret nL d Q I L (gz_i a :: st) pc := by
  intro p e R s m args below meth c A H locs ls cells slots QQ C hP hS hl hQ
  exact lv_i2l C.1 C.2.1 hd rfl (k p e R s m args below meth c A H locs ls cells slots QQ C hP hS hl hQ)
theorem gz_l2i {x : Int64} (hd : decode cc pc = .ok (.l2i, 1)) (k : gz_V l D α cA own cc ret nL d Q I L (gz_i x.toInt32.toInt :: st) (pc + 1)) : gz_V l D α cA own cc ret nL d Q I L (.long x :: st) pc := by
  intro p e R s m args below meth c A H locs ls cells slots QQ C hP hS hl hQ
  exact lv_l2i C.1 C.2.1 hd rfl (by have h := (k p e R s m args below meth c A H locs ls cells slots QQ C hP hS hl hQ); unfold gz_i at h; rw [Int32.ofInt_toInt] at h; exact h)
theorem gz_lshl {x : Int64} {a : Int} (hd : decode cc pc = .ok (.lshl, 1)) (k : gz_V l D α cA own cc ret nL d Q I L (.long (x <<< ((Int32.ofInt a).toInt64 &&& 63)) :: st) (pc + 1)) : gz_V l D α cA own cc ret nL d Q I L (gz_i a :: .long x :: st) pc := by
  intro p e R s m args below meth c A H locs ls cells slots QQ C hP hS hl hQ
  exact lv_lshl C.1 C.2.1 hd rfl (k p e R s m args below meth c A H locs ls cells slots QQ C hP hS hl hQ)
theorem gz_lushr {x : Int64} {a : Int} (hd : decode cc pc = .ok (.lushr, 1)) (k : gz_V l D α cA own cc ret nL d Q I L (.long ((x.toUInt64 >>> ((Int32.ofInt a).toInt64.toUInt64 &&& Int64.toUInt64 63)).toInt64) :: st) (pc + 1)) : gz_V l D α cA own cc ret nL d Q I L (gz_i a :: .long x :: st) pc := by
  intro p e R s m args below meth c A H locs ls cells slots QQ C hP hS hl hQ
  exact lv_lushr C.1 C.2.1 hd rfl (k p e R s m args below meth c A H locs ls cells slots QQ C hP hS hl hQ)
theorem gz_land {x y : Int64} (hd : decode cc pc = .ok (.land, 1)) (k : gz_V l D α cA own cc ret nL d Q I L (.long (x &&& y) :: st) (pc + 1)) : gz_V l D α cA own cc ret nL d Q I L (.long y :: .long x :: st) pc := by
  intro p e R s m args below meth c A H locs ls cells slots QQ C hP hS hl hQ
  exact lv_land C.1 C.2.1 hd (k p e R s m args below meth c A H locs ls cells slots QQ C hP hS hl hQ)
theorem gz_lor {x y : Int64} (hd : decode cc pc = .ok (.lor, 1)) (k : gz_V l D α cA own cc ret nL d Q I L (.long (x ||| y) :: st) (pc + 1)) : gz_V l D α cA own cc ret nL d Q I L (.long y :: .long x :: st) pc := by
  intro p e R s m args below meth c A H locs ls cells slots QQ C hP hS hl hQ
  exact lv_lor C.1 C.2.1 hd (k p e R s m args below meth c A H locs ls cells slots QQ C hP hS hl hQ)
theorem gz_ldc2 {idx : Nat} {v : Int64} (hd : decode cc pc = .ok (.ldc2_w idx, 3)) (hw : Cond.constantLong own idx v ∈ gz_ts) (k : gz_V l D α cA own cc ret nL d Q I L (.long v :: st) (pc + 3)) : gz_V l D α cA own cc ret nL d Q I L st pc := by
  intro p e R s m args below meth c A H locs ls cells slots QQ C hP hS hl hQ
  exact lv_ldc2 C.1 C.2.1 C.2.2.2.2.1 (C.2.2.2.2.2.1 _ hw) hd (k p e R s m args below meth c A H locs ls cells slots QQ C hP hS hl hQ)
theorem gz_icmp_lt {off : Int} {tgt : Nat} {a b : Int} (hd : decode cc pc = .ok (.if_icmp .lt off, 3)) (ht : (pc : Int) + off = (tgt : Int)) (ra : -2147483648 ≤ a ∧ a ≤ 2147483647) (rb : -2147483648 ≤ b ∧ b ≤ 2147483647) (kt : a < b → gz_V l D α cA own cc ret nL d Q I L st tgt) (kf : b ≤ a → gz_V l D α cA own cc ret nL d Q I L st (pc + 3)) : gz_V l D α cA own cc ret nL d Q I L (gz_i b :: gz_i a :: st) pc := by
  intro p e R s m args below meth c A H locs ls cells slots QQ C hP hS hl hQ
  exact lv_icmp_lt C.1 C.2.1 hd ht (fun h => kt ((gz_clt ra rb).mp h) p e R s m args below meth c A H locs ls cells slots QQ C hP hS hl hQ) (fun h => kf (Int.not_lt.mp (fun q => h ((gz_clt ra rb).mpr q))) p e R s m args below meth c A H locs ls cells slots QQ C hP hS hl hQ)
theorem gz_if_lt {off : Int} {tgt : Nat} {a : Int} (hd : decode cc pc = .ok (.ifCond .lt off, 3)) (ht : (pc : Int) + off = (tgt : Int)) (ra : -2147483648 ≤ a ∧ a ≤ 2147483647) (kt : a < 0 → gz_V l D α cA own cc ret nL d Q I L st tgt) (kf : 0 ≤ a → gz_V l D α cA own cc ret nL d Q I L st (pc + 3)) : gz_V l D α cA own cc ret nL d Q I L (gz_i a :: st) pc := by
  intro p e R s m args below meth c A H locs ls cells slots QQ C hP hS hl hQ
  exact lv_if_lt C.1 C.2.1 hd ht (fun h => kt ((gz_clt ra gz_r0).mp h) p e R s m args below meth c A H locs ls cells slots QQ C hP hS hl hQ) (fun h => kf (Int.not_lt.mp (fun q => h ((gz_clt ra gz_r0).mpr q))) p e R s m args below meth c A H locs ls cells slots QQ C hP hS hl hQ)
theorem gz_icmp_ge {off : Int} {tgt : Nat} {a b : Int} (hd : decode cc pc = .ok (.if_icmp .ge off, 3)) (ht : (pc : Int) + off = (tgt : Int)) (ra : -2147483648 ≤ a ∧ a ≤ 2147483647) (rb : -2147483648 ≤ b ∧ b ≤ 2147483647) (kt : b ≤ a → gz_V l D α cA own cc ret nL d Q I L st tgt) (kf : a < b → gz_V l D α cA own cc ret nL d Q I L st (pc + 3)) : gz_V l D α cA own cc ret nL d Q I L (gz_i b :: gz_i a :: st) pc := by
  intro p e R s m args below meth c A H locs ls cells slots QQ C hP hS hl hQ
  exact lv_icmp_ge C.1 C.2.1 hd ht (fun h => kt ((gz_cle rb ra).mp h) p e R s m args below meth c A H locs ls cells slots QQ C hP hS hl hQ) (fun h => kf (Int.not_le.mp (fun q => h ((gz_cle rb ra).mpr q))) p e R s m args below meth c A H locs ls cells slots QQ C hP hS hl hQ)
theorem gz_if_ge {off : Int} {tgt : Nat} {a : Int} (hd : decode cc pc = .ok (.ifCond .ge off, 3)) (ht : (pc : Int) + off = (tgt : Int)) (ra : -2147483648 ≤ a ∧ a ≤ 2147483647) (kt : 0 ≤ a → gz_V l D α cA own cc ret nL d Q I L st tgt) (kf : a < 0 → gz_V l D α cA own cc ret nL d Q I L st (pc + 3)) : gz_V l D α cA own cc ret nL d Q I L (gz_i a :: st) pc := by
  intro p e R s m args below meth c A H locs ls cells slots QQ C hP hS hl hQ
  exact lv_if_ge C.1 C.2.1 hd ht (fun h => kt ((gz_cle gz_r0 ra).mp h) p e R s m args below meth c A H locs ls cells slots QQ C hP hS hl hQ) (fun h => kf (Int.not_le.mp (fun q => h ((gz_cle gz_r0 ra).mpr q))) p e R s m args below meth c A H locs ls cells slots QQ C hP hS hl hQ)
theorem gz_icmp_gt {off : Int} {tgt : Nat} {a b : Int} (hd : decode cc pc = .ok (.if_icmp .gt off, 3)) (ht : (pc : Int) + off = (tgt : Int)) (ra : -2147483648 ≤ a ∧ a ≤ 2147483647) (rb : -2147483648 ≤ b ∧ b ≤ 2147483647) (kt : b < a → gz_V l D α cA own cc ret nL d Q I L st tgt) (kf : a ≤ b → gz_V l D α cA own cc ret nL d Q I L st (pc + 3)) : gz_V l D α cA own cc ret nL d Q I L (gz_i b :: gz_i a :: st) pc := by
  intro p e R s m args below meth c A H locs ls cells slots QQ C hP hS hl hQ
  exact lv_icmp_gt C.1 C.2.1 hd ht (fun h => kt ((gz_clt rb ra).mp h) p e R s m args below meth c A H locs ls cells slots QQ C hP hS hl hQ) (fun h => kf (Int.not_lt.mp (fun q => h ((gz_clt rb ra).mpr q))) p e R s m args below meth c A H locs ls cells slots QQ C hP hS hl hQ)
theorem gz_if_gt {off : Int} {tgt : Nat} {a : Int} (hd : decode cc pc = .ok (.ifCond .gt off, 3)) (ht : (pc : Int) + off = (tgt : Int)) (ra : -2147483648 ≤ a ∧ a ≤ 2147483647) (kt : 0 < a → gz_V l D α cA own cc ret nL d Q I L st tgt) (kf : a ≤ 0 → gz_V l D α cA own cc ret nL d Q I L st (pc + 3)) : gz_V l D α cA own cc ret nL d Q I L (gz_i a :: st) pc := by
  intro p e R s m args below meth c A H locs ls cells slots QQ C hP hS hl hQ
  exact lv_if_gt C.1 C.2.1 hd ht (fun h => kt ((gz_clt gz_r0 ra).mp h) p e R s m args below meth c A H locs ls cells slots QQ C hP hS hl hQ) (fun h => kf (Int.not_lt.mp (fun q => h ((gz_clt gz_r0 ra).mpr q))) p e R s m args below meth c A H locs ls cells slots QQ C hP hS hl hQ)
theorem gz_icmp_le {off : Int} {tgt : Nat} {a b : Int} (hd : decode cc pc = .ok (.if_icmp .le off, 3)) (ht : (pc : Int) + off = (tgt : Int)) (ra : -2147483648 ≤ a ∧ a ≤ 2147483647) (rb : -2147483648 ≤ b ∧ b ≤ 2147483647) (kt : a ≤ b → gz_V l D α cA own cc ret nL d Q I L st tgt) (kf : b < a → gz_V l D α cA own cc ret nL d Q I L st (pc + 3)) : gz_V l D α cA own cc ret nL d Q I L (gz_i b :: gz_i a :: st) pc := by
  intro p e R s m args below meth c A H locs ls cells slots QQ C hP hS hl hQ
  exact lv_icmp_le C.1 C.2.1 hd ht (fun h => kt ((gz_cle ra rb).mp h) p e R s m args below meth c A H locs ls cells slots QQ C hP hS hl hQ) (fun h => kf (Int.not_le.mp (fun q => h ((gz_cle ra rb).mpr q))) p e R s m args below meth c A H locs ls cells slots QQ C hP hS hl hQ)
theorem gz_if_le {off : Int} {tgt : Nat} {a : Int} (hd : decode cc pc = .ok (.ifCond .le off, 3)) (ht : (pc : Int) + off = (tgt : Int)) (ra : -2147483648 ≤ a ∧ a ≤ 2147483647) (kt : a ≤ 0 → gz_V l D α cA own cc ret nL d Q I L st tgt) (kf : 0 < a → gz_V l D α cA own cc ret nL d Q I L st (pc + 3)) : gz_V l D α cA own cc ret nL d Q I L (gz_i a :: st) pc := by
  intro p e R s m args below meth c A H locs ls cells slots QQ C hP hS hl hQ
  exact lv_if_le C.1 C.2.1 hd ht (fun h => kt ((gz_cle ra gz_r0).mp h) p e R s m args below meth c A H locs ls cells slots QQ C hP hS hl hQ) (fun h => kf (Int.not_le.mp (fun q => h ((gz_cle ra gz_r0).mpr q))) p e R s m args below meth c A H locs ls cells slots QQ C hP hS hl hQ)
theorem gz_icmp_eq {off : Int} {tgt : Nat} {a b : Int} (hd : decode cc pc = .ok (.if_icmp .eq off, 3)) (ht : (pc : Int) + off = (tgt : Int)) (ra : -2147483648 ≤ a ∧ a ≤ 2147483647) (rb : -2147483648 ≤ b ∧ b ≤ 2147483647) (kt : a = b → gz_V l D α cA own cc ret nL d Q I L st tgt) (kf : ¬ a = b → gz_V l D α cA own cc ret nL d Q I L st (pc + 3)) : gz_V l D α cA own cc ret nL d Q I L (gz_i b :: gz_i a :: st) pc := by
  intro p e R s m args below meth c A H locs ls cells slots QQ C hP hS hl hQ
  exact lv_icmp_eq C.1 C.2.1 hd ht (fun h => kt ((gz_ceq ra rb).mp h) p e R s m args below meth c A H locs ls cells slots QQ C hP hS hl hQ) (fun h => kf (fun q => h ((gz_ceq ra rb).mpr q)) p e R s m args below meth c A H locs ls cells slots QQ C hP hS hl hQ)
theorem gz_if_eq {off : Int} {tgt : Nat} {a : Int} (hd : decode cc pc = .ok (.ifCond .eq off, 3)) (ht : (pc : Int) + off = (tgt : Int)) (ra : -2147483648 ≤ a ∧ a ≤ 2147483647) (kt : a = 0 → gz_V l D α cA own cc ret nL d Q I L st tgt) (kf : ¬ a = 0 → gz_V l D α cA own cc ret nL d Q I L st (pc + 3)) : gz_V l D α cA own cc ret nL d Q I L (gz_i a :: st) pc := by
  intro p e R s m args below meth c A H locs ls cells slots QQ C hP hS hl hQ
  exact lv_if_eq C.1 C.2.1 hd ht (fun h => kt ((gz_ceq ra gz_r0).mp h) p e R s m args below meth c A H locs ls cells slots QQ C hP hS hl hQ) (fun h => kf (fun q => h ((gz_ceq ra gz_r0).mpr q)) p e R s m args below meth c A H locs ls cells slots QQ C hP hS hl hQ)
theorem gz_icmp_ne {off : Int} {tgt : Nat} {a b : Int} (hd : decode cc pc = .ok (.if_icmp .ne off, 3)) (ht : (pc : Int) + off = (tgt : Int)) (ra : -2147483648 ≤ a ∧ a ≤ 2147483647) (rb : -2147483648 ≤ b ∧ b ≤ 2147483647) (kt : ¬ a = b → gz_V l D α cA own cc ret nL d Q I L st tgt) (kf : a = b → gz_V l D α cA own cc ret nL d Q I L st (pc + 3)) : gz_V l D α cA own cc ret nL d Q I L (gz_i b :: gz_i a :: st) pc := by
  intro p e R s m args below meth c A H locs ls cells slots QQ C hP hS hl hQ
  exact lv_icmp_ne C.1 C.2.1 hd ht (fun h => kt (fun q => h ((gz_ceq ra rb).mpr q)) p e R s m args below meth c A H locs ls cells slots QQ C hP hS hl hQ) (fun h => kf ((gz_ceq ra rb).mp h) p e R s m args below meth c A H locs ls cells slots QQ C hP hS hl hQ)
theorem gz_if_ne {off : Int} {tgt : Nat} {a : Int} (hd : decode cc pc = .ok (.ifCond .ne off, 3)) (ht : (pc : Int) + off = (tgt : Int)) (ra : -2147483648 ≤ a ∧ a ≤ 2147483647) (kt : ¬ a = 0 → gz_V l D α cA own cc ret nL d Q I L st tgt) (kf : a = 0 → gz_V l D α cA own cc ret nL d Q I L st (pc + 3)) : gz_V l D α cA own cc ret nL d Q I L (gz_i a :: st) pc := by
  intro p e R s m args below meth c A H locs ls cells slots QQ C hP hS hl hQ
  exact lv_if_ne C.1 C.2.1 hd ht (fun h => kt (fun q => h ((gz_ceq ra gz_r0).mpr q)) p e R s m args below meth c A H locs ls cells slots QQ C hP hS hl hQ) (fun h => kf ((gz_ceq ra gz_r0).mp h) p e R s m args below meth c A H locs ls cells slots QQ C hP hS hl hQ)
theorem gz_swOut {dflt lo hi : Int} {offs : Array Int} {len : Nat} {a : Int} {tgt : Nat} (hd : decode cc pc = .ok (.tableswitch dflt lo hi offs, len)) (ht : (pc : Int) + dflt = (tgt : Int)) (ra : -2147483648 ≤ a ∧ a ≤ 2147483647) (h : a < lo ∨ hi < a) (k : gz_V l D α cA own cc ret nL d Q I L st tgt) : gz_V l D α cA own cc ret nL d Q I L (gz_i a :: st) pc := by
  intro p e R s m args below meth c A H locs ls cells slots QQ C hP hS hl hQ
  exact lv_tableOut C.1 C.2.1 hd (by rw [gz_ti ra]; exact h) ht (k p e R s m args below meth c A H locs ls cells slots QQ C hP hS hl hQ)
theorem gz_swIn {dflt lo hi : Int} {offs : Array Int} {len : Nat} {a : Int} {off : Int} {tgt : Nat} (hd : decode cc pc = .ok (.tableswitch dflt lo hi offs, len)) (b : Int) (e : a = b) (rb : -2147483648 ≤ b ∧ b ≤ 2147483647) (h1 : ¬ b < lo) (h2 : ¬ hi < b) (ho : offs[(b - lo).toNat]? = some off) (ht : (pc : Int) + off = (tgt : Int)) (k : gz_V l D α cA own cc ret nL d Q I L st tgt) : gz_V l D α cA own cc ret nL d Q I L (gz_i a :: st) pc := by
  subst e
  intro p e R s m args below meth c A H locs ls cells slots QQ C hP hS hl hQ
  exact lv_tableIn C.1 C.2.1 hd (by rw [gz_ti rb]; exact h1) (by rw [gz_ti rb]; exact h2) (by rw [gz_ti rb]; exact ho) ht (k p e R s m args below meth c A H locs ls cells slots QQ C hP hS hl hQ)
def gz_Qi (P : Int → gz_M → Prop) : Option Value → gz_M → Prop := fun r I' => ∃ x : Int, r = some (gz_i x) ∧ P x I'
def gz_Qv (P : gz_M → Prop) : Option Value → gz_M → Prop := fun r I' => r = none ∧ P I'
def gz_Qr (P : Value → gz_M → Prop) : Option Value → gz_M → Prop := fun r I' => ∃ v : Value, r = some v ∧ P v I'
theorem gz_iret {P : Int → gz_M → Prop} {a : Int} (hd : decode cc pc = .ok (.ireturn, 1)) (hr : ret = some .int) (h : P a I) : gz_V l D α cA own cc ret nL d (gz_Qi P) I L [gz_i a] pc := by
  intro p e R s m args below meth c A H locs ls cells slots QQ C hP hS hl hQ
  exact hQ (some (gz_i a)) I H locs ls pc ⟨a, rfl, h⟩ hP hS (Or.inl ⟨hr, hd, _, rfl⟩)
theorem gz_zret {P : Int → gz_M → Prop} {a : Int} (hd : decode cc pc = .ok (.ireturn, 1)) (hr : ret = some .boolean) (hz : a = 0 ∨ a = 1) (h : P a I) : gz_V l D α cA own cc ret nL d (gz_Qi P) I L [gz_i a] pc := by
  intro p e R s m args below meth c A H locs ls cells slots QQ C hP hS hl hQ
  refine hQ (some (gz_i a)) I H locs ls pc ⟨a, rfl, h⟩ hP hS (Or.inr (Or.inl ⟨hr, hd, _, rfl, ?_⟩))
  rcases hz with rfl | rfl <;> rfl
theorem gz_vret {P : gz_M → Prop} (hd : decode cc pc = .ok (.return_, 1)) (hr : ret = none) (h : P I) : gz_V l D α cA own cc ret nL d (gz_Qv P) I L [] pc := by
  intro p e R s m args below meth c A H locs ls cells slots QQ C hP hS hl hQ
  exact hQ none I H locs ls pc ⟨rfl, h⟩ hP hS (Or.inr (Or.inr (Or.inr ⟨hr, hd, rfl⟩)))
theorem gz_aret {P : Value → gz_M → Prop} {a : Nat} {n : String} (hd : decode cc pc = .ok (.areturn, 1)) (hr : ret = some (.object n)) (h : P (.ref a) I) : gz_V l D α cA own cc ret nL d (gz_Qr P) I L [.ref a] pc := by
  intro p e R s m args below meth c A H locs ls cells slots QQ C hP hS hl hQ
  exact hQ (some (.ref a)) I H locs ls pc ⟨_, rfl, h⟩ hP hS (Or.inr (Or.inr (Or.inl ⟨⟨n, hr⟩, hd, _, rfl, Or.inr ⟨_, rfl⟩⟩)))
theorem gz_aretN {P : Value → gz_M → Prop} {n : String} (hd : decode cc pc = .ok (.areturn, 1)) (hr : ret = some (.object n)) (h : P .null I) : gz_V l D α cA own cc ret nL d (gz_Qr P) I L [.null] pc := by
  intro p e R s m args below meth c A H locs ls cells slots QQ C hP hS hl hQ
  exact hQ (some .null) I H locs ls pc ⟨_, rfl, h⟩ hP hS (Or.inr (Or.inr (Or.inl ⟨⟨n, hr⟩, hd, _, rfl, Or.inl rfl⟩)))
theorem gz_w {Q2 : Option Value → gz_M → Prop} (hq : ∀ r I', Q2 r I' → Q r I') (k : gz_V l D α cA own cc ret nL d Q2 I L st pc) : gz_V l D α cA own cc ret nL d Q I L st pc := by
  intro p e R s m args below meth c A H locs ls cells slots QQ C hP hS hl hQ
  exact k p e R s m args below meth c A H locs ls cells slots QQ C hP hS hl (fun r I' H' locs' ls' pc' h => hQ r I' H' locs' ls' pc' (hq r I' h))
theorem gz_mono {d' : Nat} (h : d' ≤ d) (k : gz_V l D α cA own cc ret nL d' Q I L st pc) : gz_V l D α cA own cc ret nL d Q I L st pc := by
  intro p e R s m args below meth c A H locs ls cells slots QQ C hP hS hl hQ
  obtain ⟨c1, c2, c3, c4, c5, c6, c7, c8, c9, c10, c11⟩ := C
  exact k p e R s m args below meth c A H locs ls cells slots QQ ⟨c1, c2, c3, c4, c5, c6, c7, c8, Nat.le_trans h c9, Nat.le_trans (Nat.mul_le_mul_left 38 h) c10, c11⟩ hP hS hl hQ
end
end
section
/-! rows that read and write the memory; calls -/
theorem gz_cell_eq {α : gz_P → Nat} {cA : Nat → ClassId} {I I' : gz_M} {q : gz_P} (h : I' q = I q) : gz_cell α cA I' q = gz_cell α cA I q := by
  unfold gz_cell
  have h1 : gz_fv α I' q = gz_fv α I q := by
    funext k
    unfold gz_fv
    rw [h]
  have h2 : (fun i : Nat => some (α (gz_tgt I' q i))) = (fun i : Nat => some (α (gz_tgt I q i))) := by
    funext i
    unfold gz_tgt
    rw [h]
  rw [h, h1, h2]
theorem gz_up_ne {I : gz_M} {p q : gz_P} {j v : Int} (h : q ≠ p) : gz_up I p j v q = I q := by
  funext i
  unfold gz_up
  rw [if_neg (fun e => h e.1)]
theorem gz_up_eq {I : gz_M} {p : gz_P} {j v i : Int} : gz_up I p j v p i = if i = j then v else I p i := by
  unfold gz_up
  by_cases h : i = j
  · rw [if_pos ⟨rfl, h⟩, if_pos h]
  · rw [if_neg (fun e => h e.2), if_neg h]
theorem gz_fv_up {α : gz_P → Nat} {I : gz_M} {p : gz_P} {k j : Nat} {v : Int} (h : j ≠ k) : gz_fv α (gz_up I p k v) p j = gz_fv α I p j := by
  unfold gz_fv
  have e : gz_up I p k v p j = I p j := by rw [gz_up_eq, if_neg (by omega)]
  rw [e]
theorem gz_cell_i {α : gz_P → Nat} {cA : Nat → ClassId} {I : gz_M} {r kd n na nb : Nat} {a b : Int} (hs : gz_shp r = (kd, n, na, nb)) (hk : Nat.blt kd 2 = true) : gz_cell α cA I (r, a, b) = .inl (cA kd, n, .inl (fun i => Int32.ofInt (I (r, a, b) i))) := by
  unfold gz_cell
  show (if (gz_shp r).1 < 2 then _ else _) = _
  rw [hs, if_pos (show kd < 2 from Nat.le_of_ble_eq_true hk)]
theorem gz_cell_q {α : gz_P → Nat} {cA : Nat → ClassId} {I : gz_M} {r kd n na nb : Nat} {a b : Int} (hs : gz_shp r = (kd, n, na, nb)) (hk : (Nat.ble 2 kd && Nat.blt kd 10) = true) : gz_cell α cA I (r, a, b) = .inl (cA kd, n, .inr (.inr (.inr (.inr (fun i => some (α (gz_tgt I (r, a, b) i))))))) := by
  rw [Bool.and_eq_true] at hk
  unfold gz_cell
  show (if (gz_shp r).1 < 2 then _ else if (gz_shp r).1 < 10 then _ else _) = _
  rw [hs, if_neg (Nat.not_lt.mpr (Nat.le_of_ble_eq_true hk.1)), if_pos (show kd < 10 from Nat.le_of_ble_eq_true hk.2)]
theorem gz_cell_o {α : gz_P → Nat} {cA : Nat → ClassId} {I : gz_M} {r ci n na nb : Nat} {a b : Int} (hs : gz_shp r = (10 + ci, n, na, nb)) : gz_cell α cA I (r, a, b) = .inr (ci, (List.range n).map (gz_fv α I (r, a, b))) := by
  unfold gz_cell
  show (if (gz_shp r).1 < 2 then _ else if (gz_shp r).1 < 10 then _ else _) = _
  rw [hs, if_neg (by show ¬ 10 + ci < 2; omega), if_neg (by show ¬ 10 + ci < 10; omega)]
  show Sum.inr (10 + ci - 10, _) = _
  rw [Nat.add_sub_cancel_left]
/-- the field that an instruction's entry links: field k of the class number ci -/
def gz_FL (own : String) (idx ci k : Nat) : Prop := ∃ (C : String) (T : u_T) (N : Nat) (ty0 : Nat → FieldType), gz_cl[ci]? = some (C, T, N) ∧ k < N ∧ Cond.fieldLink own idx (T k).1 (T k).2.1 (T k).2.2.1 ∈ gz_ts ∧ (∀ w ∈ u_ws C T N, w ∈ gz_ts) ∧ (∀ k, k < N → parseFieldDescriptor (T k).2.2.1 = some (ty0 k)) ∧ (∀ a, a < N → ∀ b, b < N → a ≠ b → (T a).2.1 ≠ (T b).2.1)
/-- ... that is no final one, of type ty -/
def gz_FW (own : String) (idx ci k : Nat) (ty : FieldType) : Prop := ∃ (C : String) (T : u_T) (N : Nat) (ty0 : Nat → FieldType), gz_cl[ci]? = some (C, T, N) ∧ k < N ∧ Cond.fieldLink own idx (T k).1 (T k).2.1 (T k).2.2.1 ∈ gz_ts ∧ (∀ w ∈ u_ws C T N, w ∈ gz_ts) ∧ (∀ k, k < N → parseFieldDescriptor (T k).2.2.1 = some (ty0 k)) ∧ (∀ a, a < N → ∀ b, b < N → a ≠ b → (T a).2.1 ≠ (T b).2.1) ∧ (T k).2.2.2 = false ∧ ty0 k = ty
abbrev gz_B (a b : Int) (na nb : Nat) : Prop := (0 ≤ a ∧ a < na) ∧ 0 ≤ b ∧ b < nb
theorem gz_B1 : gz_B 0 0 1 1 := by decide
section
variable {l : Launch} {D : va_G} {α : gz_P → Nat} {cA : Nat → ClassId} {own : String} {cc : ByteArray} {ret : Option FieldType} {nL d : Nat} {Q : Option Value → gz_M → Prop} {I : gz_M} {L : List (Option Value)} {st : List Value} {pc : Nat}
theorem gz_geti {idx ci k r n na nb : Nat} {a b : Int} (hd : decode cc pc = .ok (.getfield idx, 3)) (fl : gz_FL own idx ci k) (hs : gz_shp r = (10 + ci, n, na, nb)) (hr : (Nat.blt r 40 && Nat.blt k n) = true) (hq : gz_rfo r k = none) (ho : gz_B a b na nb) (kk : gz_V l D α cA own cc ret nL d Q I L (gz_i (I (r, a, b) k) :: st) (pc + 3)) : gz_V l D α cA own cc ret nL d Q I L (.ref (α (r, a, b)) :: st) pc := by
  intro p e R s m args below meth c A H locs ls cells slots QQ C hP hS hl hQ
  obtain ⟨hx, hb, hret, hml, hown, hts, hK, hN, hfr, hlo, hce, hsl, hDD⟩ := id C
  rw [Bool.and_eq_true] at hr
  obtain ⟨q0, he, -⟩ := gz_ws_get (I := I) (gz_mem (Nat.le_of_ble_eq_true hr.1) (by rw [hs]) ho.1 ho.2) (hDD I)
  rw [gz_cell_o hs] at he
  obtain ⟨C1, T, N, ty0, h1, h2, h3, h4, h5, h6⟩ := fl
  refine va_get hx hb hts h4 hown hK hP q0 he h1 k h2 (hts _ h3) (fun _ h => h) (v := gz_i (I (r, a, b) k)) ?_ hd (kk p e R s m args below meth c A H locs ls cells slots QQ C hP hS hl hQ)
  rw [List.getElem?_map, List.getElem?_range (Nat.le_of_ble_eq_true hr.2)]
  show some (gz_fv α I (r, a, b) k) = _
  unfold gz_fv
  show some (match gz_rfo r k with | some g => _ | none => _) = _
  rw [hq]
theorem gz_getr {idx ci k r n na nb : Nat} {a b : Int} {g : Int → Int → gz_P} (hd : decode cc pc = .ok (.getfield idx, 3)) (fl : gz_FL own idx ci k) (hs : gz_shp r = (10 + ci, n, na, nb)) (hr : (Nat.blt r 40 && Nat.blt k n) = true) (hq : gz_rfo r k = some g) (ho : gz_B a b na nb) (kk : gz_V l D α cA own cc ret nL d Q I L (.ref (α (g a b)) :: st) (pc + 3)) : gz_V l D α cA own cc ret nL d Q I L (.ref (α (r, a, b)) :: st) pc := by
  intro p e R s m args below meth c A H locs ls cells slots QQ C hP hS hl hQ
  obtain ⟨hx, hb, hret, hml, hown, hts, hK, hN, hfr, hlo, hce, hsl, hDD⟩ := id C
  rw [Bool.and_eq_true] at hr
  obtain ⟨q0, he, -⟩ := gz_ws_get (I := I) (gz_mem (Nat.le_of_ble_eq_true hr.1) (by rw [hs]) ho.1 ho.2) (hDD I)
  rw [gz_cell_o hs] at he
  obtain ⟨C1, T, N, ty0, h1, h2, h3, h4, h5, h6⟩ := fl
  refine va_get hx hb hts h4 hown hK hP q0 he h1 k h2 (hts _ h3) (fun _ h => h) (v := .ref (α (g a b))) ?_ hd (kk p e R s m args below meth c A H locs ls cells slots QQ C hP hS hl hQ)
  rw [List.getElem?_map, List.getElem?_range (Nat.le_of_ble_eq_true hr.2)]
  show some (gz_fv α I (r, a, b) k) = _
  unfold gz_fv
  show some (match gz_rfo r k with | some g => _ | none => _) = _
  rw [hq]
theorem gz_puti {idx ci k r n na nb : Nat} {a b v : Int} {ty : FieldType} (hd : decode cc pc = .ok (.putfield idx, 3)) (fl : gz_FW own idx ci k ty) (hs : gz_shp r = (10 + ci, n, na, nb)) (hr : (Nat.blt r 40 && Nat.blt k n) = true) (hq : gz_rfo r k = none) (ho : gz_B a b na nb) (hv : ty = .int ∨ ty = .boolean ∧ (v = 0 ∨ v = 1)) (kk : gz_V l D α cA own cc ret nL d Q (gz_up I (r, a, b) k v) L st (pc + 3)) : gz_V l D α cA own cc ret nL d Q I L (gz_i v :: .ref (α (r, a, b)) :: st) pc := by
  intro p e R s m args below meth c A H locs ls cells slots QQ C hP hS hl hQ
  obtain ⟨hx, hb, hret, hml, hown, hts, hK, hN, hfr, hlo, hce, hsl, hDD⟩ := id C
  rw [Bool.and_eq_true] at hr
  obtain ⟨q0, he, hset⟩ := gz_ws_get (I := I) (gz_mem (Nat.le_of_ble_eq_true hr.1) (by rw [hs]) ho.1 ho.2) (hDD I)
  rw [gz_cell_o hs] at he
  obtain ⟨C1, T, N, ty0, h1, h2, h3, h4, h5, h6, h7, h8⟩ := fl
  have hset' := hset (gz_up I (r, a, b) k v) (fun q hq => gz_cell_eq (gz_up_ne hq))
  have e1 : ((List.range n).map (gz_fv α I (r, a, b))).set k (gz_i v) = (List.range n).map (gz_fv α (gz_up I (r, a, b) k v) (r, a, b)) := by
    apply List.ext_getElem?
    intro j
    by_cases hj : k = j
    · subst hj
      rw [List.getElem?_set_self (by rw [List.length_map, List.length_range]; exact Nat.le_of_ble_eq_true hr.2), List.getElem?_map, List.getElem?_range (Nat.le_of_ble_eq_true hr.2)]
      show _ = some (gz_fv α _ (r, a, b) k)
      unfold gz_fv
      show _ = some (match gz_rfo r k with | some g => _ | none => _)
      rw [hq, gz_up_eq, if_pos rfl]
    · rw [List.getElem?_set_ne hj, List.getElem?_map, List.getElem?_map]
      by_cases hjn : j < n
      · rw [List.getElem?_range hjn]
        show some (gz_fv α I (r, a, b) j) = some (gz_fv α _ (r, a, b) j)
        rw [gz_fv_up (fun e => hj e.symm)]
      · rw [List.getElem?_eq_none (by rw [List.length_range]; omega)]
        rfl
  rw [gz_cell_o hs, ← e1] at hset'
  refine va_put hx hb hts h4 ty0 h5 h6 hown hK hP (hDD I) hS q0 he h1 k h2 (hts _ h3) (fun _ h => h) h7 (ty := ty) (h8 ▸ h5 k h2) ?_ ?_ (by rw [List.length_map, List.length_range]; exact Nat.le_of_ble_eq_true hr.2) hd ?_
  · rcases hv with rfl | ⟨rfl, rfl | rfl⟩ <;> rfl
  · rcases hv with rfl | ⟨rfl, rfl | rfl⟩ <;> rfl
  · intro H1 locs1 hP1 hD1 hS1
    rw [hset'] at hP1
    exact kk p e R s m args below meth c A H1 locs1 ls cells slots QQ C hP1 hS1 hl hQ
/-- the cell of a row of ints or of booleans behind a store -/
theorem gz_stA {kd n na nb r : Nat} {a b j v : Int} {A : Nat → Prop} (hs : gz_shp r = (kd, n, na, nb)) (hk : Nat.blt kd 2 = true) (hr : Nat.blt r 40 = true) (ho : gz_B a b na nb) (hj : 0 ≤ j ∧ j < n) (hn : n ≤ 2147483647) (hD : va_D A (gz_ws α cA I)) : ∃ q0, (gz_ws α cA I)[q0]? = some (α (r, a, b), .inl (cA kd, n, .inl (fun i => Int32.ofInt (I (r, a, b) i)))) ∧ (gz_ws α cA I).set q0 (α (r, a, b), .inl (cA kd, n, .inl (upd (fun i => Int32.ofInt (I (r, a, b) i)) (Int32.ofInt j).toNatClampNeg (Int32.ofInt v)))) = gz_ws α cA (gz_up I (r, a, b) j v) := by
  obtain ⟨q0, he, hset⟩ := gz_ws_get (I := I) (gz_mem (Nat.le_of_ble_eq_true hr) (by rw [hs]) ho.1 ho.2) hD
  refine ⟨q0, by rw [gz_cell_i hs hk] at he; exact he, ?_⟩
  rw [← hset _ (fun q hq => gz_cell_eq (gz_up_ne hq)), gz_cell_i hs hk, gz_tn ⟨hj.1, by omega⟩]
  congr 6
  funext i
  rw [gz_up_eq]
  unfold upd
  by_cases h : i = j.toNat
  · rw [if_pos h, if_pos (by omega)]
  · rw [if_neg h, if_neg (by omega)]
theorem gz_iald {r n na nb : Nat} {a b j : Int} (hd : decode cc pc = .ok (.iaload, 1)) (hs : gz_shp r = (0, n, na, nb)) (hr : (Nat.blt r 40 && Nat.ble n 65536) = true) (ho : gz_B a b na nb) (hj : 0 ≤ j ∧ j < n) (kk : gz_V l D α cA own cc ret nL d Q I L (gz_i (I (r, a, b) j) :: st) (pc + 1)) : gz_V l D α cA own cc ret nL d Q I L (gz_i j :: .ref (α (r, a, b)) :: st) pc := by
  intro p e R s m args below meth c A H locs ls cells slots QQ C hP hS hl hQ
  obtain ⟨hx, hb, hret, hml, hown, hts, hK, hN, hfr, hlo, hce, hsl, hDD⟩ := id C
  rw [Bool.and_eq_true] at hr
  have hn : n ≤ 65536 := Nat.le_of_ble_eq_true hr.2
  obtain ⟨q0, he, -⟩ := gz_ws_get (I := I) (gz_mem (Nat.le_of_ble_eq_true hr.1) (by rw [hs]) ho.1 ho.2) (hDD I)
  rw [gz_cell_i hs rfl] at he
  refine va_iald hx hb hK hP q0 0 he rfl (gz_pin hj (by omega)) hd ?_
  rw [gz_tn ⟨hj.1, by omega⟩]
  show W p l e R s m args below meth c H locs cells slots QQ (F0 m (pc + 1) ls (Value.int (Int32.ofInt (I (r, a, b) j.toNat)) :: st))
  rw [Int.toNat_of_nonneg hj.1]
  exact kk p e R s m args below meth c A H locs ls cells slots QQ C hP hS hl hQ
theorem gz_zald {r n na nb : Nat} {a b j : Int} (hd : decode cc pc = .ok (.baload, 1)) (hs : gz_shp r = (1, n, na, nb)) (hr : (Nat.blt r 40 && Nat.ble n 65536) = true) (ho : gz_B a b na nb) (hj : 0 ≤ j ∧ j < n) (kk : gz_V l D α cA own cc ret nL d Q I L (gz_i (I (r, a, b) j) :: st) (pc + 1)) : gz_V l D α cA own cc ret nL d Q I L (gz_i j :: .ref (α (r, a, b)) :: st) pc := by
  intro p e R s m args below meth c A H locs ls cells slots QQ C hP hS hl hQ
  obtain ⟨hx, hb, hret, hml, hown, hts, hK, hN, hfr, hlo, hce, hsl, hDD⟩ := id C
  rw [Bool.and_eq_true] at hr
  have hn : n ≤ 65536 := Nat.le_of_ble_eq_true hr.2
  obtain ⟨q0, he, -⟩ := gz_ws_get (I := I) (gz_mem (Nat.le_of_ble_eq_true hr.1) (by rw [hs]) ho.1 ho.2) (hDD I)
  rw [gz_cell_i hs rfl] at he
  refine va_zald hx hb hK hP q0 1 he rfl (gz_pin hj (by omega)) hd ?_
  rw [gz_tn ⟨hj.1, by omega⟩]
  show W p l e R s m args below meth c H locs cells slots QQ (F0 m (pc + 1) ls (Value.int (Int32.ofInt (I (r, a, b) j.toNat)) :: st))
  rw [Int.toNat_of_nonneg hj.1]
  exact kk p e R s m args below meth c A H locs ls cells slots QQ C hP hS hl hQ
theorem gz_iast {r n na nb : Nat} {a b j v : Int} (hd : decode cc pc = .ok (.iastore, 1)) (hs : gz_shp r = (0, n, na, nb)) (hr : (Nat.blt r 40 && Nat.ble n 65536) = true) (ho : gz_B a b na nb) (hj : 0 ≤ j ∧ j < n) (kk : gz_V l D α cA own cc ret nL d Q (gz_up I (r, a, b) j v) L st (pc + 1)) : gz_V l D α cA own cc ret nL d Q I L (gz_i v :: gz_i j :: .ref (α (r, a, b)) :: st) pc := by
  intro p e R s m args below meth c A H locs ls cells slots QQ C hP hS hl hQ
  obtain ⟨hx, hb, hret, hml, hown, hts, hK, hN, hfr, hlo, hce, hsl, hDD⟩ := id C
  rw [Bool.and_eq_true] at hr
  have hn : n ≤ 65536 := Nat.le_of_ble_eq_true hr.2
  obtain ⟨q0, he, hset⟩ := gz_stA (v := v) hs rfl hr.1 ho hj (by omega) (hDD I)
  refine va_iast hx hb hK hP (hDD I) hS q0 0 he rfl (gz_pin hj (by omega)) hd ?_
  intro H1 locs1 hP1 hD1 hS1
  rw [hset] at hP1
  exact kk p e R s m args below meth c A H1 locs1 ls cells slots QQ C hP1 hS1 hl hQ
theorem gz_zast {r n na nb : Nat} {a b j v : Int} (hd : decode cc pc = .ok (.bastore, 1)) (hs : gz_shp r = (1, n, na, nb)) (hr : (Nat.blt r 40 && Nat.ble n 65536) = true) (ho : gz_B a b na nb) (hj : 0 ≤ j ∧ j < n) (hv : v = 0 ∨ v = 1) (kk : gz_V l D α cA own cc ret nL d Q (gz_up I (r, a, b) j v) L st (pc + 1)) : gz_V l D α cA own cc ret nL d Q I L (gz_i v :: gz_i j :: .ref (α (r, a, b)) :: st) pc := by
  intro p e R s m args below meth c A H locs ls cells slots QQ C hP hS hl hQ
  obtain ⟨hx, hb, hret, hml, hown, hts, hK, hN, hfr, hlo, hce, hsl, hDD⟩ := id C
  rw [Bool.and_eq_true] at hr
  have hn : n ≤ 65536 := Nat.le_of_ble_eq_true hr.2
  obtain ⟨q0, he, hset⟩ := gz_stA (v := v) hs rfl hr.1 ho hj (by omega) (hDD I)
  refine va_zast hx hb hK hP (hDD I) hS q0 1 he rfl (gz_pin hj (by omega)) hd ?_
  intro H1 locs1 hP1 hD1 hS1
  have hnar : vp_nar .boolean (Int32.ofInt v) = Int32.ofInt v := by rcases hv with rfl | rfl <;> rfl
  rw [hnar, hset] at hP1
  exact kk p e R s m args below meth c A H1 locs1 ls cells slots QQ C hP1 hS1 hl hQ
/-- a place of a row of references -/
theorem gz_aald {r kd n na nb : Nat} {a b j : Int} (hd : decode cc pc = .ok (.aaload, 1)) (hs : gz_shp r = (kd, n, na, nb)) (hk : (Nat.ble 2 kd && Nat.blt kd 6) = true) (hr : (Nat.blt r 40 && Nat.ble n 65536) = true) (ho : gz_B a b na nb) (hj : 0 ≤ j ∧ j < n) (kk : gz_V l D α cA own cc ret nL d Q I L (.ref (α (gz_tgt I (r, a, b) j)) :: st) (pc + 1)) : gz_V l D α cA own cc ret nL d Q I L (gz_i j :: .ref (α (r, a, b)) :: st) pc := by
  intro p e R s m args below meth c A H locs ls cells slots QQ C hP hS hl hQ
  obtain ⟨hx, hb, hret, hml, hown, hts, hK, hN, hfr, hlo, hce, hsl, hDD⟩ := id C
  rw [Bool.and_eq_true] at hr hk
  have hk1 : 2 ≤ kd := Nat.le_of_ble_eq_true hk.1
  have hk2 : kd < 6 := Nat.le_of_ble_eq_true hk.2
  have hn : n ≤ 65536 := Nat.le_of_ble_eq_true hr.2
  obtain ⟨q0, he, -⟩ := gz_ws_get (I := I) (gz_mem (Nat.le_of_ble_eq_true hr.1) (by rw [hs]) ho.1 ho.2) (hDD I)
  rw [gz_cell_q hs (by rw [Bool.and_eq_true]; exact ⟨hk.1, Nat.ble_eq_true_of_le (by omega)⟩)] at he
  have hin := gz_pin hj (by omega : n ≤ 2147483647)
  have hlt : (Int32.ofInt j).toNatClampNeg < n := Nat.not_le.mp fun q => hin (Or.inr q)
  have hkk : W p l e R s m args below meth c H locs cells slots QQ (F0 m (pc + 1) ls (va_rf (some (α (gz_tgt I (r, a, b) (Int32.ofInt j).toNatClampNeg))) :: st)) := by
    rw [gz_tn ⟨hj.1, by omega⟩, Int.toNat_of_nonneg hj.1]
    exact kk p e R s m args below meth c A H locs ls cells slots QQ C hP hS hl hQ
  obtain ⟨ty, ht, hty⟩ : ∃ ty, (gz_tys cA)[kd]? = some (cA kd, ty) ∧ ty.isReference = true := by
    match kd, hk1, hk2 with
    | 2, _, _ => exact ⟨_, rfl, rfl⟩
    | 3, _, _ => exact ⟨_, rfl, rfl⟩
    | 4, _, _ => exact ⟨_, rfl, rfl⟩
    | 5, _, _ => exact ⟨_, rfl, rfl⟩
  exact W.aald (v := va_rf (some (α (gz_tgt I (r, a, b) (Int32.ofInt j).toNatClampNeg)))) (ty := ty) hx hb (hP q0 _ he) ((hK.2 kd _ ht).1 n (fun j => va_rf (some (α (gz_tgt I (r, a, b) j))))) hty (fun q => by cases q) (by show ¬ (Int32.ofInt j < 0 ∨ (arrV _ _ _).slots.size ≤ _); rw [arrV_size]; exact hin) (by show (arrV _ _ _).slots[_]? = _; rw [arrV_read _ _ hlt]) rfl rfl hd hkk
/-- states[j], copies[j], held[j], lists[j] -/
theorem gz_ald1 {j : Int} (hd : decode cc pc = .ok (.aaload, 1)) (hj : 0 ≤ j ∧ j < 4) (kk : gz_V l D α cA own cc ret nL d Q I L (.ref (α (7, j, 0)) :: st) (pc + 1)) : gz_V l D α cA own cc ret nL d Q I L (gz_i j :: .ref (α (1, 0, 0)) :: st) pc := gz_aald hd rfl rfl rfl gz_B1 hj kk
theorem gz_ald2 {j : Int} (hd : decode cc pc = .ok (.aaload, 1)) (hj : 0 ≤ j ∧ j < 4) (kk : gz_V l D α cA own cc ret nL d Q I L (.ref (α (10, j, 0)) :: st) (pc + 1)) : gz_V l D α cA own cc ret nL d Q I L (gz_i j :: .ref (α (2, 0, 0)) :: st) pc := gz_aald hd rfl rfl rfl gz_B1 hj kk
theorem gz_ald4 {j : Int} (hd : decode cc pc = .ok (.aaload, 1)) (hj : 0 ≤ j ∧ j < 12) (kk : gz_V l D α cA own cc ret nL d Q I L (.ref (α (16, I (4, 0, 0) j, 0)) :: st) (pc + 1)) : gz_V l D α cA own cc ret nL d Q I L (gz_i j :: .ref (α (4, 0, 0)) :: st) pc := gz_aald hd rfl rfl rfl gz_B1 hj kk
theorem gz_ald17 {a j : Int} (hd : decode cc pc = .ok (.aaload, 1)) (ho : gz_B a 0 12 1) (hj : 0 ≤ j ∧ j < 4) (kk : gz_V l D α cA own cc ret nL d Q I L (.ref (α (18, a, j)) :: st) (pc + 1)) : gz_V l D α cA own cc ret nL d Q I L (gz_i j :: .ref (α (17, a, 0)) :: st) pc := gz_aald hd rfl rfl rfl ho hj kk
/-- held[j] = a mark -/
theorem gz_ast4 {j k : Int} (hd : decode cc pc = .ok (.aastore, 1)) (hj : 0 ≤ j ∧ j < 12) (hk : 0 ≤ k ∧ k < 12) (kk : gz_V l D α cA own cc ret nL d Q (gz_up I (4, 0, 0) j k) L st (pc + 1)) : gz_V l D α cA own cc ret nL d Q I L (.ref (α (16, k, 0)) :: gz_i j :: .ref (α (4, 0, 0)) :: st) pc := by
  intro p e R s m args below meth c A H locs ls cells slots QQ C hP hS hl hQ
  obtain ⟨hx, hb, hret, hml, hown, hts, hK, hN, hfr, hlo, hce, hsl, hDD⟩ := id C
  obtain ⟨q0, he, hset⟩ := gz_ws_get (I := I) (gz_mem (r := 4) (a := 0) (b := 0) (na := 1) (nb := 1) (by decide) rfl (by decide) (by decide)) (hDD I)
  obtain ⟨q1, he1, -⟩ := gz_ws_get (I := I) (gz_mem (r := 16) (a := k) (b := 0) (na := 12) (nb := 1) (by decide) rfl hk (by decide)) (hDD I)
  rw [gz_cell_q (r := 4) (kd := 4) (n := 12) rfl rfl] at he
  rw [gz_cell_o (r := 16) (ci := 0) (n := 9) rfl] at he1
  refine va_astq hx hb hK hP (hDD I) hS q0 4 q1 0 (r := (RX0, TX0, 9)) he rfl he1 rfl (gz_pin hj (by decide)) hd ?_
  intro H1 locs1 hP1 hD1 hS1
  have hset' := hset (gz_up I (4, 0, 0) j k) (fun q hq => gz_cell_eq (gz_up_ne hq))
  rw [gz_cell_q (r := 4) (kd := 4) (n := 12) rfl rfl] at hset'
  have e1 : va_up (fun i : Nat => some (α (gz_tgt I (4, 0, 0) i))) (Int32.ofInt j).toNatClampNeg (some (α (16, k, 0))) = (fun i : Nat => some (α (gz_tgt (gz_up I (4, 0, 0) j k) (4, 0, 0) i))) := by
    rw [gz_tn ⟨hj.1, by omega⟩]
    funext i
    unfold va_up
    show _ = some (α (16, gz_up I (4, 0, 0) j k (4, 0, 0) i, 0))
    rw [gz_up_eq]
    by_cases h : i = j.toNat
    · rw [if_pos h, if_pos (by omega)]
    · rw [if_neg h, if_neg (by omega)]
      rfl
  rw [e1, hset'] at hP1
  exact kk p e R s m args below meth c A H1 locs1 ls cells slots QQ C hP1 hS1 hl hQ
end
end
section
/-! calls: a method's judgement at its entry is its contract -/
def gz_rm (d : Nat) : Room := { frames := d, cells := 0, slots := 0, locals := 38 * d }
def gz_A (α : gz_P → Nat) : Nat → Prop := fun q => ∃ p ∈ gz_ptrs, q = α p
def gz_so (x : Slot) : Option Value := match x with
  | .val v => some v
  | _ => none
def gz_args (vs : List Value) (n : Nat) : List (Option Value) := (lg_sl vs ++ List.replicate (n - (lg_sl vs).length) Slot.unset).map gz_so
def gz_Pre (D : va_G) (α : gz_P → Nat) (cA : Nat → ClassId) (I : gz_M) (U : State) : Prop := va_P D gz_cl (gz_ws α cA I) U.heap ∧ va_K D gz_cl (gz_tys cA) U ∧ va_Nw (.methodLinkNest RX3 48 yX4_digestOf RX4) U ∧ va_D (fun _ => True) (gz_ws α cA I)
def gz_Post (D : va_G) (α : gz_P → Nat) (cA : Nat → ClassId) (Q : Option Value → gz_M → Prop) : Array Value → State → Outcome → State → Prop := fun _ st oc t => (∃ (r : Option Value) (I' : gz_M), oc = .returned r ∧ Q r I' ∧ va_P D gz_cl (gz_ws α cA I') t.heap) ∧ va_F (gz_A α) st t
theorem gz_D_any {α : gz_P → Nat} {cA : Nat → ClassId} {A : Nat → Prop} {I : gz_M} (h : va_D A (gz_ws α cA I)) (I' : gz_M) : va_D (gz_A α) (gz_ws α cA I') := by
  have at' : ∀ (I1 : gz_M) (k : Nat) (q : Nat × va_E), (gz_ws α cA I1)[k]? = some q → ∃ p, gz_ptrs[k]? = some p ∧ q = (α p, gz_cell α cA I1 p) := by
    intro I1 k q hq
    unfold gz_ws at hq
    rw [List.getElem?_map] at hq
    cases hp : gz_ptrs[k]? with
    | none => rw [hp] at hq; cases hq
    | some p => rw [hp] at hq; exact ⟨p, rfl, (Option.some.inj hq).symm⟩
  have back : ∀ (k : Nat) (p : gz_P), gz_ptrs[k]? = some p → (gz_ws α cA I)[k]? = some (α p, gz_cell α cA I p) := by
    intro k p hp
    unfold gz_ws
    rw [List.getElem?_map, hp]
    rfl
  refine ⟨fun i j x y hx hy hxy => ?_, fun k q hq => ?_⟩
  · obtain ⟨p1, h1, rfl⟩ := at' I' i x hx
    obtain ⟨p2, h2, rfl⟩ := at' I' j y hy
    exact h.1 i j _ _ (back i p1 h1) (back j p2 h2) hxy
  · obtain ⟨p1, h1, rfl⟩ := at' I' k q hq
    exact ⟨p1, List.mem_of_getElem? h1, rfl⟩
theorem gz_in_A {α : gz_P → Nat} {cA : Nat → ClassId} {A : Nat → Prop} {I : gz_M} (h : va_D A (gz_ws α cA I)) : ∀ q, gz_A α q → A q := by
  rintro q ⟨p, hp, rfl⟩
  obtain ⟨k, hk⟩ := List.getElem?_of_mem hp
  have h2 : (gz_ws α cA I)[k]? = some (α p, gz_cell α cA I p) := by
    unfold gz_ws
    rw [List.getElem?_map, hk]
    rfl
  exact h.2 k _ h2
theorem gz_args_L {vs : List Value} {n : Nat} (h : (lg_sl vs).length ≤ n) : gz_L ((lg_sl vs ++ List.replicate (n - (lg_sl vs).length) Slot.unset).toArray) n (gz_args vs n) := by
  have h1 := lv_entry vs h
  refine ⟨h1.1, h1.2.1, fun i v hv => ?_⟩
  unfold gz_args at hv
  rw [List.getElem?_map] at hv
  rw [List.getElem?_toArray]
  cases hs : (lg_sl vs ++ List.replicate (n - (lg_sl vs).length) Slot.unset)[i]? with
  | none => rw [hs] at hv; cases hv
  | some x =>
    rw [hs] at hv
    have hx : gz_so x = some v := Option.some.inj hv
    cases x with
    | val w => cases hx; rfl
    | unset => cases hx
    | second => cases hx
theorem gz_met {l : Launch} {D : va_G} {α : gz_P → Nat} {cA : Nat → ClassId} {cc : ByteArray} {ret : Option FieldType} {nL d : Nat} {Q : Option Value → gz_M → Prop} {I : gz_M} {y : MethodName} {vs : List Value} (hy : plainName y.cls = true) (hlen : (lg_sl vs).length ≤ nL) (hV : gz_V l D α cA y.cls cc ret nL d Q I (gz_args vs nL) [] 0) :
    Met l y (.code y cc nL ret :: gz_ts) (gz_rm d) (va_Pc vs (gz_Pre D α cA I)) (gz_Post D α cA Q) 0 0 (gz_A α) := by
  refine Met.ofW (cc := cc) (maxL := nL) (ret := ret) hy rfl ?_
  intro p e s m args below meth c s₁ B hml hv
  obtain ⟨rfl, hP, hK, hN, hD⟩ := hv
  have hts := atoms_spec (ws := .code y cc nL ret :: gz_ts) B.pre
  have hown : s.vm.findClass y.cls = some m.cls := findClass_of_methodNamed B.named
  have hlocks := B.notSynchronized
  rw [lg_entry_eq]
  refine hV p e _ s m _ below meth c (gz_A α) s.heap [] _ 0 0 _ ⟨B.exec, B.bytes, B.returns, hml, hown, fun w hw => hts w (List.mem_cons_of_mem _ hw), hK, hN, Nat.le_refl _, Nat.le_refl _, Nat.zero_le _, Nat.zero_le _, gz_D_any hD⟩ hP va_S.rf (gz_args_L hlen) ?_
  intro r I' H' locs' ls' pc' hQ hP' hS' hret
  rcases hret with ⟨h1, h2, x, rfl⟩ | ⟨h1, h2, x, rfl, h3⟩ | ⟨⟨n, h1⟩, h2, v, rfl, h3⟩ | ⟨h1, h2, rfl⟩
  · exact W.iret B.exec B.bytes (B.returns.trans h1) (fun t ht hW => ⟨⟨_, I', rfl, hQ, by rw [ht]; exact hP'⟩, hS'.F ht⟩) hS'.2.2 h2
  · exact W.zret B.exec B.bytes (B.returns.trans h1) h3 (fun t ht hW => ⟨⟨_, I', rfl, hQ, by rw [ht]; exact hP'⟩, hS'.F ht⟩) hS'.2.2 h2
  · exact W.aret B.exec B.bytes (B.returns.trans h1) (Or.inl ⟨n, rfl⟩) h3 (fun t ht hW => ⟨⟨_, I', rfl, hQ, by rw [ht]; exact hP'⟩, hS'.F ht⟩) hS'.2.2 h2
  · exact W.vret B.exec B.bytes (B.returns.trans h1) (fun t ht hW => ⟨⟨_, I', rfl, hQ, by rw [ht]; exact hP'⟩, hS'.F ht⟩) hS'.2.2 h2
/-- what the tables say of a method: n parameters -/
def gz_Y (y : MethodName) (cc : ByteArray) (nL : Nat) (ret : Option FieldType) (n : Nat) : Prop := Cond.code y cc nL ret ∈ gz_ts ∧ Cond.initialized y.cls ∈ gz_ts ∧ plainName y.cls = true ∧ (y.cls ≠ "java/lang/invoke/MethodHandle" ∧ y.cls ≠ "java/lang/invoke/VarHandle" ∧ (parseMethodDescriptor y.desc).map (fun d => d.parameters.length) = some n)
def gz_YV (y : MethodName) (cc : ByteArray) (nL : Nat) (ret : Option FieldType) (n ci : Nat) : Prop := gz_Y y cc nL ret n ∧ Cond.instanceMethod y ∈ gz_ts ∧ Cond.selects y.cls y y ∈ gz_ts ∧ ∃ (T : u_T) (N : Nat), gz_cl[ci]? = some (y.cls, T, N)
def gz_YS (y : MethodName) (cc : ByteArray) (nL : Nat) (ret : Option FieldType) (n : Nat) : Prop := gz_Y y cc nL ret n ∧ Cond.static y ∈ gz_ts
section
variable {l : Launch} {D : va_G} {α : gz_P → Nat} {cA : Nat → ClassId} {own : String} {cc : ByteArray} {ret : Option FieldType} {nL d : Nat} {Q : Option Value → gz_M → Prop} {I : gz_M} {L : List (Option Value)} {st : List Value} {pc : Nat}
theorem gz_goodY {y : MethodName} {cc' : ByteArray} {nL' : Nat} {ret' : Option FieldType} {n : Nat} (hy : gz_Y y cc' nL' ret' n) : GoodIn gz_ts (Cond.code y cc' nL' ret' :: gz_ts) := fun w h => by
  rcases List.mem_cons.mp h with rfl | h
  · exact gz_ts_self _ hy.1
  · exact gz_ts_self _ h
/-- behind a call -/
theorem gz_back {p : Program} {e : Env} {R : Room} {s : State} {m : MethodId} {args : Array Value} {below : List Frame} {meth : Method} {c : Code} {A : Nat → Prop} {H : Heap} {locs : List Loc} {ls : Array Slot} {cells slots : Nat} {QQ : State → Prop} {Q' : Option Value → gz_M → Prop} {st0 rest : List Value} {a : Array Value}
    (C : gz_C D α cA own cc ret nL d p R s m args meth c A cells slots) (hS : va_S A s.heap H locs) (hl : gz_L ls nL L)
    (hQ : ∀ (r : Option Value) (I' : gz_M) (H' : Heap) (locs' : List Loc) (ls' : Array Slot) (pc' : Nat), Q r I' → va_P D gz_cl (gz_ws α cA I') H' → va_S A s.heap H' locs' → gz_ret cc ret pc' r → W p l e R s m args below meth c H' locs' cells slots QQ (F0 m pc' ls' r.toList))
    (hr : va_Run p l e R s m args below meth c H locs cells slots 0 0 (F0 m pc ls st0) rest (gz_Post D α cA Q' a) (gz_A α))
    (kk : ∀ (r : Option Value) (I' : gz_M), Q' r I' → gz_V l D α cA own cc ret nL d Q I' L (r.toList ++ rest) (pc + 3)) : W p l e R s m args below meth c H locs cells slots QQ (F0 m pc ls st0) := by
  intro T hT X
  obtain ⟨v, st₀, t, T', L2, h0, X', hL2, e1, e2, ⟨⟨r, I', hv, hq, hP'⟩, hz, hk⟩, stp⟩ := hr T hT X
  cases hv
  rw [h0] at hz hk
  have hA := gz_in_A (C.2.2.2.2.2.2.2.2.2.2.2.2 (fun _ _ => 0))
  obtain ⟨t2, a1, b1⟩ := kk v I' hq p e R s m args below meth c A T'.heap (locs ++ L2) ls cells slots QQ C (by rw [e1]; exact hP')
    ⟨Nat.le_trans hS.1 (by rw [e1]; exact hz), fun q h1 h2 => by rw [e1, hk q (Nat.lt_of_lt_of_le h1 hS.1) (fun z => h2 (hA q z))]; exact hS.2.1 q h1 h2, fun q hq => by
      rcases List.mem_append.mp hq with h | h
      · exact hS.2.2 q h
      · exact hA _ (hL2 q h)⟩ hl hQ T' rfl X'
  exact ⟨t2, stp t2 a1, b1⟩
theorem gz_blind {vs : List Value} {I1 : gz_M} : FrameBlind (va_Pc vs (gz_Pre D α cA I1)) := fun a U g mk q => by
  obtain ⟨q0, qP, qK, qN, qD⟩ := q
  exact ⟨q0, qP, va_K.moved (u := U) (U := U.calling g mk a) (Vm.Alike.refl U.vm) qK, va_Nw.same rfl (u := U) (U := U.calling g mk a) rfl qN, qD⟩
theorem gz_cV {y : MethodName} {cc' : ByteArray} {nL' n' d' idx : Nat} {ret' : Option FieldType} {Q' : Option Value → gz_M → Prop} {r ci n na nb : Nat} {a b : Int} {As rest : List Value}
    (hd : decode cc pc = .ok (.invokevirtual idx, 3)) (hm : Cond.methodLink own idx y ∈ gz_ts) (hy : gz_YV y cc' nL' ret' n' ci) (hn : As.length = n') (hdd : Nat.ble (d' + 1) d = true) (hnl : Nat.ble nL' 19 = true) (hs : gz_shp r = (10 + ci, n, na, nb)) (hr : Nat.blt r 40 = true) (ho : gz_B a b na nb) (hw : (rest.map fun v => v.category).sum ≤ 8) (hlen : (lg_sl (.ref (α (r, a, b)) :: As)).length ≤ nL')
    (hV : gz_V l D α cA y.cls cc' ret' nL' d' Q' I (gz_args (.ref (α (r, a, b)) :: As) nL') [] 0)
    (kk : ∀ (x : Option Value) (I' : gz_M), Q' x I' → gz_V l D α cA own cc ret nL d Q I' L (x.toList ++ rest) (pc + 3)) : gz_V l D α cA own cc ret nL d Q I L (As.reverse ++ .ref (α (r, a, b)) :: rest) pc := by
  intro p e R s m args below meth c A H locs ls cells slots QQ C hP hS hl hQ
  obtain ⟨hx, hb, hret, hml, hown, hts, hK, hN, hfr, hlo, hce, hsl, hDD⟩ := id C
  obtain ⟨q0, he, -⟩ := gz_ws_get (I := I) (gz_mem (Nat.le_of_ble_eq_true hr) (by rw [hs]) ho.1 ho.2) (hDD I)
  rw [gz_cell_o hs] at he
  obtain ⟨T0, N0, hc⟩ := hy.2.2.2
  have h1 : d' + 1 ≤ d := Nat.le_of_ble_eq_true hdd
  have h2 : nL' ≤ 19 := Nat.le_of_ble_eq_true hnl
  refine gz_back C hS hl hQ (va_runV (As := As) (rest := rest) (C := y.cls) (bytes := cc') (maxL := nL') (ret := ret') (n := n') (ws := .code y cc' nL' ret' :: gz_ts) ⟨hx, hb, hml, hown, hts⟩ (gz_met hy.1.2.2.1 hlen hV) ⟨callB_of n' hts (gz_goodY hy.1) rfl rfl rfl (hts _ hy.1.2.1) (hts _ hm) hy.1.2.2.2 ⟨by show d' + 1 ≤ R.frames; omega, by show 8 + (nL' + 11) + 38 * d' ≤ R.locals; omega⟩, hts _ hy.2.1, hts _ hy.2.2.1⟩ ⟨gz_blind, va_recv hK hP hc he, fun U hU hW => ⟨rfl, by rw [hU]; exact hP, va_K.moved hW.alike hK, va_Nw.warmM hW hN, (hDD I).weaken (fun _ _ _ _ => trivial)⟩⟩ rfl hn hl.1 rfl (lv_room hw) hd ⟨hce, hsl⟩) kk
theorem gz_cS {y : MethodName} {cc' : ByteArray} {nL' n' d' idx : Nat} {ret' : Option FieldType} {Q' : Option Value → gz_M → Prop} {As rest : List Value}
    (hd : decode cc pc = .ok (.invokestatic idx, 3)) (hm : Cond.methodLink own idx y ∈ gz_ts) (hy : gz_YS y cc' nL' ret' n') (hn : As.length = n') (hdd : Nat.ble (d' + 1) d = true) (hnl : Nat.ble nL' 19 = true) (hw : (rest.map fun v => v.category).sum ≤ 8) (hlen : (lg_sl As).length ≤ nL')
    (hV : gz_V l D α cA y.cls cc' ret' nL' d' Q' I (gz_args As nL') [] 0)
    (kk : ∀ (x : Option Value) (I' : gz_M), Q' x I' → gz_V l D α cA own cc ret nL d Q I' L (x.toList ++ rest) (pc + 3)) : gz_V l D α cA own cc ret nL d Q I L (As.reverse ++ rest) pc := by
  intro p e R s m args below meth c A H locs ls cells slots QQ C hP hS hl hQ
  obtain ⟨hx, hb, hret, hml, hown, hts, hK, hN, hfr, hlo, hce, hsl, hDD⟩ := id C
  have h1 : d' + 1 ≤ d := Nat.le_of_ble_eq_true hdd
  have h2 : nL' ≤ 19 := Nat.le_of_ble_eq_true hnl
  refine gz_back C hS hl hQ (va_runS (As := As) (rest := rest) (bytes := cc') (maxL := nL') (ret := ret') (n := n') (ws := .code y cc' nL' ret' :: gz_ts) ⟨hx, hb, hml, hown, hts⟩ (gz_met hy.1.2.2.1 hlen hV) ⟨callB_of n' hts (gz_goodY hy.1) rfl rfl rfl (hts _ hy.1.2.1) (hts _ hm) hy.1.2.2.2 ⟨by show d' + 1 ≤ R.frames; omega, by show 8 + (nL' + 11) + 38 * d' ≤ R.locals; omega⟩, hts _ hy.2⟩ ⟨gz_blind, fun U hU hW => ⟨rfl, by rw [hU]; exact hP, va_K.moved hW.alike hK, va_Nw.warmM hW hN, (hDD I).weaken (fun _ _ _ _ => trivial)⟩⟩ rfl hn hl.1 rfl (lv_room hw) hd ⟨hce, hsl⟩) kk
/-- digestOf, called out of the store's class -/
theorem gz_cN {nL' d' : Nat} {Q' : Option Value → gz_M → Prop} {As rest : List Value} {cc' : ByteArray} {ret' : Option FieldType}
    (hd : decode cc pc = .ok (.invokestatic 48, 3)) (ho : own = RX3) (hy : gz_YS yX4_digestOf cc' nL' ret' 3) (hn : As.length = 3) (hdd : Nat.ble (d' + 1) d = true) (hnl : Nat.ble nL' 19 = true) (hw : (rest.map fun v => v.category).sum ≤ 8) (hlen : (lg_sl As).length ≤ nL')
    (hV : gz_V l D α cA yX4_digestOf.cls cc' ret' nL' d' Q' I (gz_args As nL') [] 0)
    (kk : ∀ (x : Option Value) (I' : gz_M), Q' x I' → gz_V l D α cA own cc ret nL d Q I' L (x.toList ++ rest) (pc + 3)) : gz_V l D α cA own cc ret nL d Q I L (As.reverse ++ rest) pc := by
  subst ho
  intro p e R s m args below meth c A H locs ls cells slots QQ C hP hS hl hQ
  obtain ⟨hx, hb, hret, hml, hown, hts, hK, hN, hfr, hlo, hce, hsl, hDD⟩ := id C
  have h1 : d' + 1 ≤ d := Nat.le_of_ble_eq_true hdd
  have h2 : nL' ≤ 19 := Nat.le_of_ble_eq_true hnl
  refine gz_back C hS hl hQ (va_runSN (As := As) (rest := rest) (bytes := cc') (maxL := nL') (ret := ret') (n := 3) (ws := .code yX4_digestOf cc' nL' ret' :: gz_ts) ⟨hx, hb, hml, hown, hts⟩ (gz_met hy.1.2.2.1 hlen hV) ⟨va_cnB 3 hts (gz_goodY hy.1) rfl rfl rfl hN (hts _ hy.1.2.1) hy.1.2.2.2 ⟨by show d' + 1 ≤ R.frames; omega, by show 8 + (nL' + 11) + 38 * d' ≤ R.locals; omega⟩, hts _ hy.2, trivial⟩ ⟨gz_blind, fun U hU hW => ⟨rfl, by rw [hU]; exact hP, va_K.moved hW.alike hK, va_Nw.warmM hW hN, (hDD I).weaken (fun _ _ _ _ => trivial)⟩⟩ rfl hn hl.1 rfl (lv_room hw) hd ⟨hce, hsl⟩) kk
/-- n ints of the row p, from sp on, come to the row q, from dp on -/
def gz_cp (I : gz_M) (p q : gz_P) (sp dp n : Int) : gz_M := fun x i => if x = q ∧ dp ≤ i ∧ i < dp + n then I p (sp + (i - dp)) else I x i
theorem gz_copy {r1 n1 na1 nb1 r2 n2 na2 nb2 idx : Nat} {a1 b1 a2 b2 sp dp n : Int} (hd : decode cc pc = .ok (.invokestatic idx, 3)) (hm : Cond.methodLink own idx arraycopyName ∈ gz_ts) (hs1 : gz_shp r1 = (0, n1, na1, nb1)) (hs2 : gz_shp r2 = (0, n2, na2, nb2)) (hr : (Nat.blt r1 40 && Nat.blt r2 40 && Nat.ble n1 65536 && Nat.ble n2 65536) = true) (hdd : Nat.ble 1 d = true) (hw : (st.map fun v => v.category).sum ≤ 8) (ho1 : gz_B a1 b1 na1 nb1) (ho2 : gz_B a2 b2 na2 nb2) (h1 : 0 ≤ sp ∧ 0 ≤ dp ∧ 0 ≤ n ∧ sp + n ≤ n1 ∧ dp + n ≤ n2)
    (kk : gz_V l D α cA own cc ret nL d Q (gz_cp I (r1, a1, b1) (r2, a2, b2) sp dp n) L st (pc + 3)) : gz_V l D α cA own cc ret nL d Q I L (gz_i n :: gz_i dp :: .ref (α (r2, a2, b2)) :: gz_i sp :: .ref (α (r1, a1, b1)) :: st) pc := by
  intro p e R s m args below meth c A H locs ls cells slots QQ C hP hS hl hQ
  obtain ⟨hx, hb, hret, hml, hown, hts, hK, hN, hfr, hlo, hce, hsl, hDD⟩ := id C
  rw [Bool.and_eq_true, Bool.and_eq_true, Bool.and_eq_true] at hr
  have hn1 : n1 ≤ 65536 := Nat.le_of_ble_eq_true hr.1.2
  have hn2 : n2 ≤ 65536 := Nat.le_of_ble_eq_true hr.2
  have hd1 : 1 ≤ d := Nat.le_of_ble_eq_true hdd
  obtain ⟨q0, he0, -⟩ := gz_ws_get (I := I) (gz_mem (Nat.le_of_ble_eq_true hr.1.1.1) (by rw [hs1]) ho1.1 ho1.2) (hDD I)
  obtain ⟨q1, he1, hset⟩ := gz_ws_get (I := I) (gz_mem (Nat.le_of_ble_eq_true hr.1.1.2) (by rw [hs2]) ho2.1 ho2.2) (hDD I)
  rw [gz_cell_i hs1 rfl] at he0
  rw [gz_cell_i hs2 rfl] at he1
  have t1 : (Int32.ofInt sp).toNatClampNeg = sp.toNat := gz_tn ⟨by omega, by omega⟩
  have t2 : (Int32.ofInt dp).toNatClampNeg = dp.toNat := gz_tn ⟨by omega, by omega⟩
  have t3 : (Int32.ofInt n).toNatClampNeg = n.toNat := gz_tn ⟨by omega, by omega⟩
  have nn : ∀ {z : Int}, 0 ≤ z ∧ z ≤ 65536 → ¬ Int32.ofInt z < 0 := fun {z} h => by rw [gz_z0, gz_clt ⟨by omega, by omega⟩ gz_r0]; omega
  have s1 : ¬ Int32.ofInt sp < 0 := nn ⟨by omega, by omega⟩
  have s2 : ¬ Int32.ofInt dp < 0 := nn ⟨by omega, by omega⟩
  have s3 : ¬ Int32.ofInt n < 0 := nn ⟨by omega, by omega⟩
  have hnf : nativeFrameWords "java/lang/System" "arraycopy" 5 = 7 := by decide
  have s4 : 1 ≤ R.frames := by omega
  have s5 : (st.map fun v => v.category).sum + (nativeFrameWords "java/lang/System" "arraycopy" 5 + 11) ≤ R.locals := by omega
  have s6 : (Int32.ofInt sp).toNatClampNeg + (Int32.ofInt n).toNatClampNeg ≤ n1 := by rw [t1, t3]; omega
  have s7 : (Int32.ofInt dp).toNatClampNeg + (Int32.ofInt n).toNatClampNeg ≤ n2 := by rw [t2, t3]; omega
  refine va_copyi hx hb (hml.trans hl.1.symm) hown (hts _ hm) (hts _ wv_arraycopy) (hts _ ws_arraycopyName) (hts _ wn_J10) hK hP (hDD I) hS q0 q1 0 0 he0 he1 rfl rfl rfl s1 s2 s3 s6 s7 (fun i hi => rfl) s4 s5 hd ?_
  intro H1 locs1 hP1 hD1 hS1
  have hset' := hset (gz_cp I (r1, a1, b1) (r2, a2, b2) sp dp n) (fun q hq => gz_cell_eq (by funext i; unfold gz_cp; rw [if_neg (fun e => hq e.1)]))
  rw [gz_cell_i hs2 rfl] at hset'
  have e1 : va_cpy (fun i : Nat => Int32.ofInt (I (r1, a1, b1) i)) (fun i : Nat => Int32.ofInt (I (r2, a2, b2) i)) (Int32.ofInt sp).toNatClampNeg (Int32.ofInt dp).toNatClampNeg (Int32.ofInt n).toNatClampNeg = (fun i : Nat => Int32.ofInt (gz_cp I (r1, a1, b1) (r2, a2, b2) sp dp n (r2, a2, b2) i)) := by
    rw [t1, t2, t3]
    funext i
    unfold va_cpy gz_cp
    by_cases h : dp.toNat ≤ i ∧ i < dp.toNat + n.toNat
    · rw [if_pos h, if_pos ⟨rfl, by omega, by omega⟩]
      have e9 : ((sp.toNat + (i - dp.toNat) : Nat) : Int) = sp + ((i : Int) - dp) := by omega
      show Int32.ofInt (I (r1, a1, b1) ((sp.toNat + (i - dp.toNat) : Nat) : Int)) = _
      rw [e9]
    · rw [if_neg h, if_neg (fun q => h ⟨by omega, by omega⟩)]
  rw [e1, hset'] at hP1
  exact kk p e R s m args below meth c A H1 locs1 ls cells slots QQ C hP1 hS1 hl hQ
theorem gz_cV0i {y : MethodName} {cc' : ByteArray} {nL' d' idx : Nat} {ret' : Option FieldType} {P' : Int → gz_M → Prop} {r ci n na nb : Nat} {a b : Int} {rest : List Value} {L' : List (Option Value)} (hd : decode cc pc = .ok (.invokevirtual idx, 3)) (hm : Cond.methodLink own idx y ∈ gz_ts) (hy : gz_YV y cc' nL' ret' 0 ci) (hs : gz_shp r = (10 + ci, n, na, nb)) (hA : gz_args [.ref (α (r, a, b))] nL' = L') (hbb : (Nat.ble (d' + 1) d && Nat.ble nL' 19 && Nat.blt r 40 && Nat.ble (rest.map fun v => v.category).sum 8 && Nat.ble (lg_sl [.ref (α (r, a, b))]).length nL') = true) (ho : gz_B a b na nb) (hV : gz_V l D α cA y.cls cc' ret' nL' d' (gz_Qi P') I L' [] 0) (kk : ∀ (x : Int) (I' : gz_M), P' x I' → gz_V l D α cA own cc ret nL d Q I' L (gz_i x :: rest) (pc + 3)) : gz_V l D α cA own cc ret nL d Q I L (.ref (α (r, a, b)) :: rest) pc := by
  subst hA
  rw [Bool.and_eq_true, Bool.and_eq_true, Bool.and_eq_true, Bool.and_eq_true] at hbb
  exact gz_cV (As := []) hd hm hy rfl hbb.1.1.1.1 hbb.1.1.1.2 hs hbb.1.1.2 ho (Nat.le_of_ble_eq_true hbb.1.2) (Nat.le_of_ble_eq_true hbb.2) hV (fun x I' h => by obtain ⟨z, rfl, hz⟩ := h; exact kk z I' hz)
theorem gz_cV0v {y : MethodName} {cc' : ByteArray} {nL' d' idx : Nat} {ret' : Option FieldType} {P' : gz_M → Prop} {r ci n na nb : Nat} {a b : Int} {rest : List Value} {L' : List (Option Value)} (hd : decode cc pc = .ok (.invokevirtual idx, 3)) (hm : Cond.methodLink own idx y ∈ gz_ts) (hy : gz_YV y cc' nL' ret' 0 ci) (hs : gz_shp r = (10 + ci, n, na, nb)) (hA : gz_args [.ref (α (r, a, b))] nL' = L') (hbb : (Nat.ble (d' + 1) d && Nat.ble nL' 19 && Nat.blt r 40 && Nat.ble (rest.map fun v => v.category).sum 8 && Nat.ble (lg_sl [.ref (α (r, a, b))]).length nL') = true) (ho : gz_B a b na nb) (hV : gz_V l D α cA y.cls cc' ret' nL' d' (gz_Qv P') I L' [] 0) (kk : ∀ I' : gz_M, P' I' → gz_V l D α cA own cc ret nL d Q I' L rest (pc + 3)) : gz_V l D α cA own cc ret nL d Q I L (.ref (α (r, a, b)) :: rest) pc := by
  subst hA
  rw [Bool.and_eq_true, Bool.and_eq_true, Bool.and_eq_true, Bool.and_eq_true] at hbb
  exact gz_cV (As := []) hd hm hy rfl hbb.1.1.1.1 hbb.1.1.1.2 hs hbb.1.1.2 ho (Nat.le_of_ble_eq_true hbb.1.2) (Nat.le_of_ble_eq_true hbb.2) hV (fun x I' h => by obtain ⟨rfl, hz⟩ := h; exact kk I' hz)
theorem gz_cV0r {y : MethodName} {cc' : ByteArray} {nL' d' idx : Nat} {ret' : Option FieldType} {P' : Value → gz_M → Prop} {r ci n na nb : Nat} {a b : Int} {rest : List Value} {L' : List (Option Value)} (hd : decode cc pc = .ok (.invokevirtual idx, 3)) (hm : Cond.methodLink own idx y ∈ gz_ts) (hy : gz_YV y cc' nL' ret' 0 ci) (hs : gz_shp r = (10 + ci, n, na, nb)) (hA : gz_args [.ref (α (r, a, b))] nL' = L') (hbb : (Nat.ble (d' + 1) d && Nat.ble nL' 19 && Nat.blt r 40 && Nat.ble (rest.map fun v => v.category).sum 8 && Nat.ble (lg_sl [.ref (α (r, a, b))]).length nL') = true) (ho : gz_B a b na nb) (hV : gz_V l D α cA y.cls cc' ret' nL' d' (gz_Qr P') I L' [] 0) (kk : ∀ (x : Value) (I' : gz_M), P' x I' → gz_V l D α cA own cc ret nL d Q I' L (x :: rest) (pc + 3)) : gz_V l D α cA own cc ret nL d Q I L (.ref (α (r, a, b)) :: rest) pc := by
  subst hA
  rw [Bool.and_eq_true, Bool.and_eq_true, Bool.and_eq_true, Bool.and_eq_true] at hbb
  exact gz_cV (As := []) hd hm hy rfl hbb.1.1.1.1 hbb.1.1.1.2 hs hbb.1.1.2 ho (Nat.le_of_ble_eq_true hbb.1.2) (Nat.le_of_ble_eq_true hbb.2) hV (fun x I' h => by obtain ⟨z, rfl, hz⟩ := h; exact kk z I' hz)
theorem gz_cV1i {y : MethodName} {cc' : ByteArray} {nL' d' idx : Nat} {ret' : Option FieldType} {P' : Int → gz_M → Prop} {r ci n na nb : Nat} {a b : Int} {v1 : Value} {rest : List Value} {L' : List (Option Value)} (hd : decode cc pc = .ok (.invokevirtual idx, 3)) (hm : Cond.methodLink own idx y ∈ gz_ts) (hy : gz_YV y cc' nL' ret' 1 ci) (hs : gz_shp r = (10 + ci, n, na, nb)) (hA : gz_args [.ref (α (r, a, b)), v1] nL' = L') (hbb : (Nat.ble (d' + 1) d && Nat.ble nL' 19 && Nat.blt r 40 && Nat.ble (rest.map fun v => v.category).sum 8 && Nat.ble (lg_sl [.ref (α (r, a, b)), v1]).length nL') = true) (ho : gz_B a b na nb) (hV : gz_V l D α cA y.cls cc' ret' nL' d' (gz_Qi P') I L' [] 0) (kk : ∀ (x : Int) (I' : gz_M), P' x I' → gz_V l D α cA own cc ret nL d Q I' L (gz_i x :: rest) (pc + 3)) : gz_V l D α cA own cc ret nL d Q I L (v1 :: .ref (α (r, a, b)) :: rest) pc := by
  subst hA
  rw [Bool.and_eq_true, Bool.and_eq_true, Bool.and_eq_true, Bool.and_eq_true] at hbb
  exact gz_cV (As := [v1]) hd hm hy rfl hbb.1.1.1.1 hbb.1.1.1.2 hs hbb.1.1.2 ho (Nat.le_of_ble_eq_true hbb.1.2) (Nat.le_of_ble_eq_true hbb.2) hV (fun x I' h => by obtain ⟨z, rfl, hz⟩ := h; exact kk z I' hz)
theorem gz_cV1v {y : MethodName} {cc' : ByteArray} {nL' d' idx : Nat} {ret' : Option FieldType} {P' : gz_M → Prop} {r ci n na nb : Nat} {a b : Int} {v1 : Value} {rest : List Value} {L' : List (Option Value)} (hd : decode cc pc = .ok (.invokevirtual idx, 3)) (hm : Cond.methodLink own idx y ∈ gz_ts) (hy : gz_YV y cc' nL' ret' 1 ci) (hs : gz_shp r = (10 + ci, n, na, nb)) (hA : gz_args [.ref (α (r, a, b)), v1] nL' = L') (hbb : (Nat.ble (d' + 1) d && Nat.ble nL' 19 && Nat.blt r 40 && Nat.ble (rest.map fun v => v.category).sum 8 && Nat.ble (lg_sl [.ref (α (r, a, b)), v1]).length nL') = true) (ho : gz_B a b na nb) (hV : gz_V l D α cA y.cls cc' ret' nL' d' (gz_Qv P') I L' [] 0) (kk : ∀ I' : gz_M, P' I' → gz_V l D α cA own cc ret nL d Q I' L rest (pc + 3)) : gz_V l D α cA own cc ret nL d Q I L (v1 :: .ref (α (r, a, b)) :: rest) pc := by
  subst hA
  rw [Bool.and_eq_true, Bool.and_eq_true, Bool.and_eq_true, Bool.and_eq_true] at hbb
  exact gz_cV (As := [v1]) hd hm hy rfl hbb.1.1.1.1 hbb.1.1.1.2 hs hbb.1.1.2 ho (Nat.le_of_ble_eq_true hbb.1.2) (Nat.le_of_ble_eq_true hbb.2) hV (fun x I' h => by obtain ⟨rfl, hz⟩ := h; exact kk I' hz)
theorem gz_cV1r {y : MethodName} {cc' : ByteArray} {nL' d' idx : Nat} {ret' : Option FieldType} {P' : Value → gz_M → Prop} {r ci n na nb : Nat} {a b : Int} {v1 : Value} {rest : List Value} {L' : List (Option Value)} (hd : decode cc pc = .ok (.invokevirtual idx, 3)) (hm : Cond.methodLink own idx y ∈ gz_ts) (hy : gz_YV y cc' nL' ret' 1 ci) (hs : gz_shp r = (10 + ci, n, na, nb)) (hA : gz_args [.ref (α (r, a, b)), v1] nL' = L') (hbb : (Nat.ble (d' + 1) d && Nat.ble nL' 19 && Nat.blt r 40 && Nat.ble (rest.map fun v => v.category).sum 8 && Nat.ble (lg_sl [.ref (α (r, a, b)), v1]).length nL') = true) (ho : gz_B a b na nb) (hV : gz_V l D α cA y.cls cc' ret' nL' d' (gz_Qr P') I L' [] 0) (kk : ∀ (x : Value) (I' : gz_M), P' x I' → gz_V l D α cA own cc ret nL d Q I' L (x :: rest) (pc + 3)) : gz_V l D α cA own cc ret nL d Q I L (v1 :: .ref (α (r, a, b)) :: rest) pc := by
  subst hA
  rw [Bool.and_eq_true, Bool.and_eq_true, Bool.and_eq_true, Bool.and_eq_true] at hbb
  exact gz_cV (As := [v1]) hd hm hy rfl hbb.1.1.1.1 hbb.1.1.1.2 hs hbb.1.1.2 ho (Nat.le_of_ble_eq_true hbb.1.2) (Nat.le_of_ble_eq_true hbb.2) hV (fun x I' h => by obtain ⟨z, rfl, hz⟩ := h; exact kk z I' hz)
theorem gz_cV2i {y : MethodName} {cc' : ByteArray} {nL' d' idx : Nat} {ret' : Option FieldType} {P' : Int → gz_M → Prop} {r ci n na nb : Nat} {a b : Int} {v1 v2 : Value} {rest : List Value} {L' : List (Option Value)} (hd : decode cc pc = .ok (.invokevirtual idx, 3)) (hm : Cond.methodLink own idx y ∈ gz_ts) (hy : gz_YV y cc' nL' ret' 2 ci) (hs : gz_shp r = (10 + ci, n, na, nb)) (hA : gz_args [.ref (α (r, a, b)), v1, v2] nL' = L') (hbb : (Nat.ble (d' + 1) d && Nat.ble nL' 19 && Nat.blt r 40 && Nat.ble (rest.map fun v => v.category).sum 8 && Nat.ble (lg_sl [.ref (α (r, a, b)), v1, v2]).length nL') = true) (ho : gz_B a b na nb) (hV : gz_V l D α cA y.cls cc' ret' nL' d' (gz_Qi P') I L' [] 0) (kk : ∀ (x : Int) (I' : gz_M), P' x I' → gz_V l D α cA own cc ret nL d Q I' L (gz_i x :: rest) (pc + 3)) : gz_V l D α cA own cc ret nL d Q I L (v2 :: v1 :: .ref (α (r, a, b)) :: rest) pc := by
  subst hA
  rw [Bool.and_eq_true, Bool.and_eq_true, Bool.and_eq_true, Bool.and_eq_true] at hbb
  exact gz_cV (As := [v1, v2]) hd hm hy rfl hbb.1.1.1.1 hbb.1.1.1.2 hs hbb.1.1.2 ho (Nat.le_of_ble_eq_true hbb.1.2) (Nat.le_of_ble_eq_true hbb.2) hV (fun x I' h => by obtain ⟨z, rfl, hz⟩ := h; exact kk z I' hz)
theorem gz_cV2v {y : MethodName} {cc' : ByteArray} {nL' d' idx : Nat} {ret' : Option FieldType} {P' : gz_M → Prop} {r ci n na nb : Nat} {a b : Int} {v1 v2 : Value} {rest : List Value} {L' : List (Option Value)} (hd : decode cc pc = .ok (.invokevirtual idx, 3)) (hm : Cond.methodLink own idx y ∈ gz_ts) (hy : gz_YV y cc' nL' ret' 2 ci) (hs : gz_shp r = (10 + ci, n, na, nb)) (hA : gz_args [.ref (α (r, a, b)), v1, v2] nL' = L') (hbb : (Nat.ble (d' + 1) d && Nat.ble nL' 19 && Nat.blt r 40 && Nat.ble (rest.map fun v => v.category).sum 8 && Nat.ble (lg_sl [.ref (α (r, a, b)), v1, v2]).length nL') = true) (ho : gz_B a b na nb) (hV : gz_V l D α cA y.cls cc' ret' nL' d' (gz_Qv P') I L' [] 0) (kk : ∀ I' : gz_M, P' I' → gz_V l D α cA own cc ret nL d Q I' L rest (pc + 3)) : gz_V l D α cA own cc ret nL d Q I L (v2 :: v1 :: .ref (α (r, a, b)) :: rest) pc := by
  subst hA
  rw [Bool.and_eq_true, Bool.and_eq_true, Bool.and_eq_true, Bool.and_eq_true] at hbb
  exact gz_cV (As := [v1, v2]) hd hm hy rfl hbb.1.1.1.1 hbb.1.1.1.2 hs hbb.1.1.2 ho (Nat.le_of_ble_eq_true hbb.1.2) (Nat.le_of_ble_eq_true hbb.2) hV (fun x I' h => by obtain ⟨rfl, hz⟩ := h; exact kk I' hz)
theorem gz_cV2r {y : MethodName} {cc' : ByteArray} {nL' d' idx : Nat} {ret' : Option FieldType} {P' : Value → gz_M → Prop} {r ci n na nb : Nat} {a b : Int} {v1 v2 : Value} {rest : List Value} {L' : List (Option Value)} (hd : decode cc pc = .ok (.invokevirtual idx, 3)) (hm : Cond.methodLink own idx y ∈ gz_ts) (hy : gz_YV y cc' nL' ret' 2 ci) (hs : gz_shp r = (10 + ci, n, na, nb)) (hA : gz_args [.ref (α (r, a, b)), v1, v2] nL' = L') (hbb : (Nat.ble (d' + 1) d && Nat.ble nL' 19 && Nat.blt r 40 && Nat.ble (rest.map fun v => v.category).sum 8 && Nat.ble (lg_sl [.ref (α (r, a, b)), v1, v2]).length nL') = true) (ho : gz_B a b na nb) (hV : gz_V l D α cA y.cls cc' ret' nL' d' (gz_Qr P') I L' [] 0) (kk : ∀ (x : Value) (I' : gz_M), P' x I' → gz_V l D α cA own cc ret nL d Q I' L (x :: rest) (pc + 3)) : gz_V l D α cA own cc ret nL d Q I L (v2 :: v1 :: .ref (α (r, a, b)) :: rest) pc := by
  subst hA
  rw [Bool.and_eq_true, Bool.and_eq_true, Bool.and_eq_true, Bool.and_eq_true] at hbb
  exact gz_cV (As := [v1, v2]) hd hm hy rfl hbb.1.1.1.1 hbb.1.1.1.2 hs hbb.1.1.2 ho (Nat.le_of_ble_eq_true hbb.1.2) (Nat.le_of_ble_eq_true hbb.2) hV (fun x I' h => by obtain ⟨z, rfl, hz⟩ := h; exact kk z I' hz)
theorem gz_cV3i {y : MethodName} {cc' : ByteArray} {nL' d' idx : Nat} {ret' : Option FieldType} {P' : Int → gz_M → Prop} {r ci n na nb : Nat} {a b : Int} {v1 v2 v3 : Value} {rest : List Value} {L' : List (Option Value)} (hd : decode cc pc = .ok (.invokevirtual idx, 3)) (hm : Cond.methodLink own idx y ∈ gz_ts) (hy : gz_YV y cc' nL' ret' 3 ci) (hs : gz_shp r = (10 + ci, n, na, nb)) (hA : gz_args [.ref (α (r, a, b)), v1, v2, v3] nL' = L') (hbb : (Nat.ble (d' + 1) d && Nat.ble nL' 19 && Nat.blt r 40 && Nat.ble (rest.map fun v => v.category).sum 8 && Nat.ble (lg_sl [.ref (α (r, a, b)), v1, v2, v3]).length nL') = true) (ho : gz_B a b na nb) (hV : gz_V l D α cA y.cls cc' ret' nL' d' (gz_Qi P') I L' [] 0) (kk : ∀ (x : Int) (I' : gz_M), P' x I' → gz_V l D α cA own cc ret nL d Q I' L (gz_i x :: rest) (pc + 3)) : gz_V l D α cA own cc ret nL d Q I L (v3 :: v2 :: v1 :: .ref (α (r, a, b)) :: rest) pc := by
  subst hA
  rw [Bool.and_eq_true, Bool.and_eq_true, Bool.and_eq_true, Bool.and_eq_true] at hbb
  exact gz_cV (As := [v1, v2, v3]) hd hm hy rfl hbb.1.1.1.1 hbb.1.1.1.2 hs hbb.1.1.2 ho (Nat.le_of_ble_eq_true hbb.1.2) (Nat.le_of_ble_eq_true hbb.2) hV (fun x I' h => by obtain ⟨z, rfl, hz⟩ := h; exact kk z I' hz)
theorem gz_cV3v {y : MethodName} {cc' : ByteArray} {nL' d' idx : Nat} {ret' : Option FieldType} {P' : gz_M → Prop} {r ci n na nb : Nat} {a b : Int} {v1 v2 v3 : Value} {rest : List Value} {L' : List (Option Value)} (hd : decode cc pc = .ok (.invokevirtual idx, 3)) (hm : Cond.methodLink own idx y ∈ gz_ts) (hy : gz_YV y cc' nL' ret' 3 ci) (hs : gz_shp r = (10 + ci, n, na, nb)) (hA : gz_args [.ref (α (r, a, b)), v1, v2, v3] nL' = L') (hbb : (Nat.ble (d' + 1) d && Nat.ble nL' 19 && Nat.blt r 40 && Nat.ble (rest.map fun v => v.category).sum 8 && Nat.ble (lg_sl [.ref (α (r, a, b)), v1, v2, v3]).length nL') = true) (ho : gz_B a b na nb) (hV : gz_V l D α cA y.cls cc' ret' nL' d' (gz_Qv P') I L' [] 0) (kk : ∀ I' : gz_M, P' I' → gz_V l D α cA own cc ret nL d Q I' L rest (pc + 3)) : gz_V l D α cA own cc ret nL d Q I L (v3 :: v2 :: v1 :: .ref (α (r, a, b)) :: rest) pc := by
  subst hA
  rw [Bool.and_eq_true, Bool.and_eq_true, Bool.and_eq_true, Bool.and_eq_true] at hbb
  exact gz_cV (As := [v1, v2, v3]) hd hm hy rfl hbb.1.1.1.1 hbb.1.1.1.2 hs hbb.1.1.2 ho (Nat.le_of_ble_eq_true hbb.1.2) (Nat.le_of_ble_eq_true hbb.2) hV (fun x I' h => by obtain ⟨rfl, hz⟩ := h; exact kk I' hz)
theorem gz_cV3r {y : MethodName} {cc' : ByteArray} {nL' d' idx : Nat} {ret' : Option FieldType} {P' : Value → gz_M → Prop} {r ci n na nb : Nat} {a b : Int} {v1 v2 v3 : Value} {rest : List Value} {L' : List (Option Value)} (hd : decode cc pc = .ok (.invokevirtual idx, 3)) (hm : Cond.methodLink own idx y ∈ gz_ts) (hy : gz_YV y cc' nL' ret' 3 ci) (hs : gz_shp r = (10 + ci, n, na, nb)) (hA : gz_args [.ref (α (r, a, b)), v1, v2, v3] nL' = L') (hbb : (Nat.ble (d' + 1) d && Nat.ble nL' 19 && Nat.blt r 40 && Nat.ble (rest.map fun v => v.category).sum 8 && Nat.ble (lg_sl [.ref (α (r, a, b)), v1, v2, v3]).length nL') = true) (ho : gz_B a b na nb) (hV : gz_V l D α cA y.cls cc' ret' nL' d' (gz_Qr P') I L' [] 0) (kk : ∀ (x : Value) (I' : gz_M), P' x I' → gz_V l D α cA own cc ret nL d Q I' L (x :: rest) (pc + 3)) : gz_V l D α cA own cc ret nL d Q I L (v3 :: v2 :: v1 :: .ref (α (r, a, b)) :: rest) pc := by
  subst hA
  rw [Bool.and_eq_true, Bool.and_eq_true, Bool.and_eq_true, Bool.and_eq_true] at hbb
  exact gz_cV (As := [v1, v2, v3]) hd hm hy rfl hbb.1.1.1.1 hbb.1.1.1.2 hs hbb.1.1.2 ho (Nat.le_of_ble_eq_true hbb.1.2) (Nat.le_of_ble_eq_true hbb.2) hV (fun x I' h => by obtain ⟨z, rfl, hz⟩ := h; exact kk z I' hz)
theorem gz_cV4i {y : MethodName} {cc' : ByteArray} {nL' d' idx : Nat} {ret' : Option FieldType} {P' : Int → gz_M → Prop} {r ci n na nb : Nat} {a b : Int} {v1 v2 v3 v4 : Value} {rest : List Value} {L' : List (Option Value)} (hd : decode cc pc = .ok (.invokevirtual idx, 3)) (hm : Cond.methodLink own idx y ∈ gz_ts) (hy : gz_YV y cc' nL' ret' 4 ci) (hs : gz_shp r = (10 + ci, n, na, nb)) (hA : gz_args [.ref (α (r, a, b)), v1, v2, v3, v4] nL' = L') (hbb : (Nat.ble (d' + 1) d && Nat.ble nL' 19 && Nat.blt r 40 && Nat.ble (rest.map fun v => v.category).sum 8 && Nat.ble (lg_sl [.ref (α (r, a, b)), v1, v2, v3, v4]).length nL') = true) (ho : gz_B a b na nb) (hV : gz_V l D α cA y.cls cc' ret' nL' d' (gz_Qi P') I L' [] 0) (kk : ∀ (x : Int) (I' : gz_M), P' x I' → gz_V l D α cA own cc ret nL d Q I' L (gz_i x :: rest) (pc + 3)) : gz_V l D α cA own cc ret nL d Q I L (v4 :: v3 :: v2 :: v1 :: .ref (α (r, a, b)) :: rest) pc := by
  subst hA
  rw [Bool.and_eq_true, Bool.and_eq_true, Bool.and_eq_true, Bool.and_eq_true] at hbb
  exact gz_cV (As := [v1, v2, v3, v4]) hd hm hy rfl hbb.1.1.1.1 hbb.1.1.1.2 hs hbb.1.1.2 ho (Nat.le_of_ble_eq_true hbb.1.2) (Nat.le_of_ble_eq_true hbb.2) hV (fun x I' h => by obtain ⟨z, rfl, hz⟩ := h; exact kk z I' hz)
theorem gz_cV4v {y : MethodName} {cc' : ByteArray} {nL' d' idx : Nat} {ret' : Option FieldType} {P' : gz_M → Prop} {r ci n na nb : Nat} {a b : Int} {v1 v2 v3 v4 : Value} {rest : List Value} {L' : List (Option Value)} (hd : decode cc pc = .ok (.invokevirtual idx, 3)) (hm : Cond.methodLink own idx y ∈ gz_ts) (hy : gz_YV y cc' nL' ret' 4 ci) (hs : gz_shp r = (10 + ci, n, na, nb)) (hA : gz_args [.ref (α (r, a, b)), v1, v2, v3, v4] nL' = L') (hbb : (Nat.ble (d' + 1) d && Nat.ble nL' 19 && Nat.blt r 40 && Nat.ble (rest.map fun v => v.category).sum 8 && Nat.ble (lg_sl [.ref (α (r, a, b)), v1, v2, v3, v4]).length nL') = true) (ho : gz_B a b na nb) (hV : gz_V l D α cA y.cls cc' ret' nL' d' (gz_Qv P') I L' [] 0) (kk : ∀ I' : gz_M, P' I' → gz_V l D α cA own cc ret nL d Q I' L rest (pc + 3)) : gz_V l D α cA own cc ret nL d Q I L (v4 :: v3 :: v2 :: v1 :: .ref (α (r, a, b)) :: rest) pc := by
  subst hA
  rw [Bool.and_eq_true, Bool.and_eq_true, Bool.and_eq_true, Bool.and_eq_true] at hbb
  exact gz_cV (As := [v1, v2, v3, v4]) hd hm hy rfl hbb.1.1.1.1 hbb.1.1.1.2 hs hbb.1.1.2 ho (Nat.le_of_ble_eq_true hbb.1.2) (Nat.le_of_ble_eq_true hbb.2) hV (fun x I' h => by obtain ⟨rfl, hz⟩ := h; exact kk I' hz)
theorem gz_cV4r {y : MethodName} {cc' : ByteArray} {nL' d' idx : Nat} {ret' : Option FieldType} {P' : Value → gz_M → Prop} {r ci n na nb : Nat} {a b : Int} {v1 v2 v3 v4 : Value} {rest : List Value} {L' : List (Option Value)} (hd : decode cc pc = .ok (.invokevirtual idx, 3)) (hm : Cond.methodLink own idx y ∈ gz_ts) (hy : gz_YV y cc' nL' ret' 4 ci) (hs : gz_shp r = (10 + ci, n, na, nb)) (hA : gz_args [.ref (α (r, a, b)), v1, v2, v3, v4] nL' = L') (hbb : (Nat.ble (d' + 1) d && Nat.ble nL' 19 && Nat.blt r 40 && Nat.ble (rest.map fun v => v.category).sum 8 && Nat.ble (lg_sl [.ref (α (r, a, b)), v1, v2, v3, v4]).length nL') = true) (ho : gz_B a b na nb) (hV : gz_V l D α cA y.cls cc' ret' nL' d' (gz_Qr P') I L' [] 0) (kk : ∀ (x : Value) (I' : gz_M), P' x I' → gz_V l D α cA own cc ret nL d Q I' L (x :: rest) (pc + 3)) : gz_V l D α cA own cc ret nL d Q I L (v4 :: v3 :: v2 :: v1 :: .ref (α (r, a, b)) :: rest) pc := by
  subst hA
  rw [Bool.and_eq_true, Bool.and_eq_true, Bool.and_eq_true, Bool.and_eq_true] at hbb
  exact gz_cV (As := [v1, v2, v3, v4]) hd hm hy rfl hbb.1.1.1.1 hbb.1.1.1.2 hs hbb.1.1.2 ho (Nat.le_of_ble_eq_true hbb.1.2) (Nat.le_of_ble_eq_true hbb.2) hV (fun x I' h => by obtain ⟨z, rfl, hz⟩ := h; exact kk z I' hz)
theorem gz_cV5i {y : MethodName} {cc' : ByteArray} {nL' d' idx : Nat} {ret' : Option FieldType} {P' : Int → gz_M → Prop} {r ci n na nb : Nat} {a b : Int} {v1 v2 v3 v4 v5 : Value} {rest : List Value} {L' : List (Option Value)} (hd : decode cc pc = .ok (.invokevirtual idx, 3)) (hm : Cond.methodLink own idx y ∈ gz_ts) (hy : gz_YV y cc' nL' ret' 5 ci) (hs : gz_shp r = (10 + ci, n, na, nb)) (hA : gz_args [.ref (α (r, a, b)), v1, v2, v3, v4, v5] nL' = L') (hbb : (Nat.ble (d' + 1) d && Nat.ble nL' 19 && Nat.blt r 40 && Nat.ble (rest.map fun v => v.category).sum 8 && Nat.ble (lg_sl [.ref (α (r, a, b)), v1, v2, v3, v4, v5]).length nL') = true) (ho : gz_B a b na nb) (hV : gz_V l D α cA y.cls cc' ret' nL' d' (gz_Qi P') I L' [] 0) (kk : ∀ (x : Int) (I' : gz_M), P' x I' → gz_V l D α cA own cc ret nL d Q I' L (gz_i x :: rest) (pc + 3)) : gz_V l D α cA own cc ret nL d Q I L (v5 :: v4 :: v3 :: v2 :: v1 :: .ref (α (r, a, b)) :: rest) pc := by
  subst hA
  rw [Bool.and_eq_true, Bool.and_eq_true, Bool.and_eq_true, Bool.and_eq_true] at hbb
  exact gz_cV (As := [v1, v2, v3, v4, v5]) hd hm hy rfl hbb.1.1.1.1 hbb.1.1.1.2 hs hbb.1.1.2 ho (Nat.le_of_ble_eq_true hbb.1.2) (Nat.le_of_ble_eq_true hbb.2) hV (fun x I' h => by obtain ⟨z, rfl, hz⟩ := h; exact kk z I' hz)
theorem gz_cV5v {y : MethodName} {cc' : ByteArray} {nL' d' idx : Nat} {ret' : Option FieldType} {P' : gz_M → Prop} {r ci n na nb : Nat} {a b : Int} {v1 v2 v3 v4 v5 : Value} {rest : List Value} {L' : List (Option Value)} (hd : decode cc pc = .ok (.invokevirtual idx, 3)) (hm : Cond.methodLink own idx y ∈ gz_ts) (hy : gz_YV y cc' nL' ret' 5 ci) (hs : gz_shp r = (10 + ci, n, na, nb)) (hA : gz_args [.ref (α (r, a, b)), v1, v2, v3, v4, v5] nL' = L') (hbb : (Nat.ble (d' + 1) d && Nat.ble nL' 19 && Nat.blt r 40 && Nat.ble (rest.map fun v => v.category).sum 8 && Nat.ble (lg_sl [.ref (α (r, a, b)), v1, v2, v3, v4, v5]).length nL') = true) (ho : gz_B a b na nb) (hV : gz_V l D α cA y.cls cc' ret' nL' d' (gz_Qv P') I L' [] 0) (kk : ∀ I' : gz_M, P' I' → gz_V l D α cA own cc ret nL d Q I' L rest (pc + 3)) : gz_V l D α cA own cc ret nL d Q I L (v5 :: v4 :: v3 :: v2 :: v1 :: .ref (α (r, a, b)) :: rest) pc := by
  subst hA
  rw [Bool.and_eq_true, Bool.and_eq_true, Bool.and_eq_true, Bool.and_eq_true] at hbb
  exact gz_cV (As := [v1, v2, v3, v4, v5]) hd hm hy rfl hbb.1.1.1.1 hbb.1.1.1.2 hs hbb.1.1.2 ho (Nat.le_of_ble_eq_true hbb.1.2) (Nat.le_of_ble_eq_true hbb.2) hV (fun x I' h => by obtain ⟨rfl, hz⟩ := h; exact kk I' hz)
theorem gz_cV5r {y : MethodName} {cc' : ByteArray} {nL' d' idx : Nat} {ret' : Option FieldType} {P' : Value → gz_M → Prop} {r ci n na nb : Nat} {a b : Int} {v1 v2 v3 v4 v5 : Value} {rest : List Value} {L' : List (Option Value)} (hd : decode cc pc = .ok (.invokevirtual idx, 3)) (hm : Cond.methodLink own idx y ∈ gz_ts) (hy : gz_YV y cc' nL' ret' 5 ci) (hs : gz_shp r = (10 + ci, n, na, nb)) (hA : gz_args [.ref (α (r, a, b)), v1, v2, v3, v4, v5] nL' = L') (hbb : (Nat.ble (d' + 1) d && Nat.ble nL' 19 && Nat.blt r 40 && Nat.ble (rest.map fun v => v.category).sum 8 && Nat.ble (lg_sl [.ref (α (r, a, b)), v1, v2, v3, v4, v5]).length nL') = true) (ho : gz_B a b na nb) (hV : gz_V l D α cA y.cls cc' ret' nL' d' (gz_Qr P') I L' [] 0) (kk : ∀ (x : Value) (I' : gz_M), P' x I' → gz_V l D α cA own cc ret nL d Q I' L (x :: rest) (pc + 3)) : gz_V l D α cA own cc ret nL d Q I L (v5 :: v4 :: v3 :: v2 :: v1 :: .ref (α (r, a, b)) :: rest) pc := by
  subst hA
  rw [Bool.and_eq_true, Bool.and_eq_true, Bool.and_eq_true, Bool.and_eq_true] at hbb
  exact gz_cV (As := [v1, v2, v3, v4, v5]) hd hm hy rfl hbb.1.1.1.1 hbb.1.1.1.2 hs hbb.1.1.2 ho (Nat.le_of_ble_eq_true hbb.1.2) (Nat.le_of_ble_eq_true hbb.2) hV (fun x I' h => by obtain ⟨z, rfl, hz⟩ := h; exact kk z I' hz)
theorem gz_cS2i {y : MethodName} {cc' : ByteArray} {nL' d' idx : Nat} {ret' : Option FieldType} {P' : Int → gz_M → Prop} {v1 v2 : Value} {rest : List Value} {L' : List (Option Value)} (hd : decode cc pc = .ok (.invokestatic idx, 3)) (hm : Cond.methodLink own idx y ∈ gz_ts) (hy : gz_YS y cc' nL' ret' 2) (hA : gz_args [v1, v2] nL' = L') (hbb : (Nat.ble (d' + 1) d && Nat.ble nL' 19 && Nat.ble (rest.map fun v => v.category).sum 8 && Nat.ble (lg_sl [v1, v2]).length nL') = true) (hV : gz_V l D α cA y.cls cc' ret' nL' d' (gz_Qi P') I L' [] 0) (kk : ∀ (x : Int) (I' : gz_M), P' x I' → gz_V l D α cA own cc ret nL d Q I' L (gz_i x :: rest) (pc + 3)) : gz_V l D α cA own cc ret nL d Q I L (v2 :: v1 :: rest) pc := by
  subst hA
  rw [Bool.and_eq_true, Bool.and_eq_true, Bool.and_eq_true] at hbb
  exact gz_cS (As := [v1, v2]) hd hm hy rfl hbb.1.1.1 hbb.1.1.2 (Nat.le_of_ble_eq_true hbb.1.2) (Nat.le_of_ble_eq_true hbb.2) hV (fun x I' h => by obtain ⟨z, rfl, hz⟩ := h; exact kk z I' hz)
theorem gz_cS3i {y : MethodName} {cc' : ByteArray} {nL' d' idx : Nat} {ret' : Option FieldType} {P' : Int → gz_M → Prop} {v1 v2 v3 : Value} {rest : List Value} {L' : List (Option Value)} (hd : decode cc pc = .ok (.invokestatic idx, 3)) (hm : Cond.methodLink own idx y ∈ gz_ts) (hy : gz_YS y cc' nL' ret' 3) (hA : gz_args [v1, v2, v3] nL' = L') (hbb : (Nat.ble (d' + 1) d && Nat.ble nL' 19 && Nat.ble (rest.map fun v => v.category).sum 8 && Nat.ble (lg_sl [v1, v2, v3]).length nL') = true) (hV : gz_V l D α cA y.cls cc' ret' nL' d' (gz_Qi P') I L' [] 0) (kk : ∀ (x : Int) (I' : gz_M), P' x I' → gz_V l D α cA own cc ret nL d Q I' L (gz_i x :: rest) (pc + 3)) : gz_V l D α cA own cc ret nL d Q I L (v3 :: v2 :: v1 :: rest) pc := by
  subst hA
  rw [Bool.and_eq_true, Bool.and_eq_true, Bool.and_eq_true] at hbb
  exact gz_cS (As := [v1, v2, v3]) hd hm hy rfl hbb.1.1.1 hbb.1.1.2 (Nat.le_of_ble_eq_true hbb.1.2) (Nat.le_of_ble_eq_true hbb.2) hV (fun x I' h => by obtain ⟨z, rfl, hz⟩ := h; exact kk z I' hz)
theorem gz_cN3i {cc' : ByteArray} {nL' d' : Nat} {ret' : Option FieldType} {P' : Int → gz_M → Prop} {v1 v2 v3 : Value} {rest : List Value} {L' : List (Option Value)} (hd : decode cc pc = .ok (.invokestatic 48, 3)) (ho : own = RX3) (hy : gz_YS yX4_digestOf cc' nL' ret' 3) (hA : gz_args [v1, v2, v3] nL' = L') (hbb : (Nat.ble (d' + 1) d && Nat.ble nL' 19 && Nat.ble (rest.map fun v => v.category).sum 8 && Nat.ble (lg_sl [v1, v2, v3]).length nL') = true) (hV : gz_V l D α cA yX4_digestOf.cls cc' ret' nL' d' (gz_Qi P') I L' [] 0) (kk : ∀ (x : Int) (I' : gz_M), P' x I' → gz_V l D α cA own cc ret nL d Q I' L (gz_i x :: rest) (pc + 3)) : gz_V l D α cA own cc ret nL d Q I L (v3 :: v2 :: v1 :: rest) pc := by
  subst hA
  rw [Bool.and_eq_true, Bool.and_eq_true, Bool.and_eq_true] at hbb
  exact gz_cN (As := [v1, v2, v3]) hd ho hy rfl hbb.1.1.1 hbb.1.1.2 (Nat.le_of_ble_eq_true hbb.1.2) (Nat.le_of_ble_eq_true hbb.2) hV (fun x I' h => by obtain ⟨z, rfl, hz⟩ := h; exact kk z I' hz)
end
end
section
theorem fl_X1_9 : gz_FL RX1 9 1 0 := ⟨RX1, TX1, 2, tyX1, rfl, by decide, wf_X1_9, wu_X1, tyX1_ok, nmX1⟩
theorem fl_X3_41 : gz_FL RX3 41 1 0 := ⟨RX1, TX1, 2, tyX1, rfl, by decide, wf_X3_41, wu_X1, tyX1_ok, nmX1⟩
theorem fl_X4_207 : gz_FL RX4 207 1 0 := ⟨RX1, TX1, 2, tyX1, rfl, by decide, wf_X4_207, wu_X1, tyX1_ok, nmX1⟩
theorem fl_X1_15 : gz_FL RX1 15 1 1 := ⟨RX1, TX1, 2, tyX1, rfl, by decide, wf_X1_15, wu_X1, tyX1_ok, nmX1⟩
theorem fl_X3_45 : gz_FL RX3 45 1 1 := ⟨RX1, TX1, 2, tyX1, rfl, by decide, wf_X3_45, wu_X1, tyX1_ok, nmX1⟩
theorem fl_X4_206 : gz_FL RX4 206 1 1 := ⟨RX1, TX1, 2, tyX1, rfl, by decide, wf_X4_206, wu_X1, tyX1_ok, nmX1⟩
theorem fl_X3_12 : gz_FL RX3 12 3 0 := ⟨RX3, TX3, 8, tyX3, rfl, by decide, wf_X3_12, wu_X3, tyX3_ok, nmX3⟩
theorem fl_X4_187 : gz_FL RX4 187 3 0 := ⟨RX3, TX3, 8, tyX3, rfl, by decide, wf_X4_187, wu_X3, tyX3_ok, nmX3⟩
theorem fl_X3_18 : gz_FL RX3 18 3 1 := ⟨RX3, TX3, 8, tyX3, rfl, by decide, wf_X3_18, wu_X3, tyX3_ok, nmX3⟩
theorem fl_X4_180 : gz_FL RX4 180 3 1 := ⟨RX3, TX3, 8, tyX3, rfl, by decide, wf_X4_180, wu_X3, tyX3_ok, nmX3⟩
theorem fl_X3_22 : gz_FL RX3 22 3 2 := ⟨RX3, TX3, 8, tyX3, rfl, by decide, wf_X3_22, wu_X3, tyX3_ok, nmX3⟩
theorem fl_X4_181 : gz_FL RX4 181 3 2 := ⟨RX3, TX3, 8, tyX3, rfl, by decide, wf_X4_181, wu_X3, tyX3_ok, nmX3⟩
theorem fl_X3_25 : gz_FL RX3 25 3 3 := ⟨RX3, TX3, 8, tyX3, rfl, by decide, wf_X3_25, wu_X3, tyX3_ok, nmX3⟩
theorem fl_X3_28 : gz_FL RX3 28 3 4 := ⟨RX3, TX3, 8, tyX3, rfl, by decide, wf_X3_28, wu_X3, tyX3_ok, nmX3⟩
theorem fw_X3_28 : gz_FW RX3 28 3 4 .int := ⟨RX3, TX3, 8, tyX3, rfl, by decide, wf_X3_28, wu_X3, tyX3_ok, nmX3, rfl, rfl⟩
theorem fl_X3_32 : gz_FL RX3 32 3 5 := ⟨RX3, TX3, 8, tyX3, rfl, by decide, wf_X3_32, wu_X3, tyX3_ok, nmX3⟩
theorem fw_X3_32 : gz_FW RX3 32 3 5 .int := ⟨RX3, TX3, 8, tyX3, rfl, by decide, wf_X3_32, wu_X3, tyX3_ok, nmX3, rfl, rfl⟩
theorem fl_X4_105 : gz_FL RX4 105 3 5 := ⟨RX3, TX3, 8, tyX3, rfl, by decide, wf_X4_105, wu_X3, tyX3_ok, nmX3⟩
theorem fw_X4_105 : gz_FW RX4 105 3 5 .int := ⟨RX3, TX3, 8, tyX3, rfl, by decide, wf_X4_105, wu_X3, tyX3_ok, nmX3, rfl, rfl⟩
theorem fl_X3_35 : gz_FL RX3 35 3 6 := ⟨RX3, TX3, 8, tyX3, rfl, by decide, wf_X3_35, wu_X3, tyX3_ok, nmX3⟩
theorem fw_X3_35 : gz_FW RX3 35 3 6 .int := ⟨RX3, TX3, 8, tyX3, rfl, by decide, wf_X3_35, wu_X3, tyX3_ok, nmX3, rfl, rfl⟩
theorem fl_X4_213 : gz_FL RX4 213 3 6 := ⟨RX3, TX3, 8, tyX3, rfl, by decide, wf_X4_213, wu_X3, tyX3_ok, nmX3⟩
theorem fw_X4_213 : gz_FW RX4 213 3 6 .int := ⟨RX3, TX3, 8, tyX3, rfl, by decide, wf_X4_213, wu_X3, tyX3_ok, nmX3, rfl, rfl⟩
theorem fl_X3_38 : gz_FL RX3 38 3 7 := ⟨RX3, TX3, 8, tyX3, rfl, by decide, wf_X3_38, wu_X3, tyX3_ok, nmX3⟩
theorem fw_X3_38 : gz_FW RX3 38 3 7 .int := ⟨RX3, TX3, 8, tyX3, rfl, by decide, wf_X3_38, wu_X3, tyX3_ok, nmX3, rfl, rfl⟩
theorem fl_X4_216 : gz_FL RX4 216 3 7 := ⟨RX3, TX3, 8, tyX3, rfl, by decide, wf_X4_216, wu_X3, tyX3_ok, nmX3⟩
theorem fw_X4_216 : gz_FW RX4 216 3 7 .int := ⟨RX3, TX3, 8, tyX3, rfl, by decide, wf_X4_216, wu_X3, tyX3_ok, nmX3, rfl, rfl⟩
theorem fl_X2_9 : gz_FL RX2 9 2 0 := ⟨RX2, TX2, 3, tyX2, rfl, by decide, wf_X2_9, wu_X2, tyX2_ok, nmX2⟩
theorem fl_X4_66 : gz_FL RX4 66 2 0 := ⟨RX2, TX2, 3, tyX2, rfl, by decide, wf_X4_66, wu_X2, tyX2_ok, nmX2⟩
theorem fl_X2_15 : gz_FL RX2 15 2 1 := ⟨RX2, TX2, 3, tyX2, rfl, by decide, wf_X2_15, wu_X2, tyX2_ok, nmX2⟩
theorem fl_X2_18 : gz_FL RX2 18 2 2 := ⟨RX2, TX2, 3, tyX2, rfl, by decide, wf_X2_18, wu_X2, tyX2_ok, nmX2⟩
theorem fw_X2_18 : gz_FW RX2 18 2 2 .int := ⟨RX2, TX2, 3, tyX2, rfl, by decide, wf_X2_18, wu_X2, tyX2_ok, nmX2, rfl, rfl⟩
theorem fl_X4_59 : gz_FL RX4 59 2 2 := ⟨RX2, TX2, 3, tyX2, rfl, by decide, wf_X4_59, wu_X2, tyX2_ok, nmX2⟩
theorem fw_X4_59 : gz_FW RX4 59 2 2 .int := ⟨RX2, TX2, 3, tyX2, rfl, by decide, wf_X4_59, wu_X2, tyX2_ok, nmX2, rfl, rfl⟩
theorem fl_X0_11 : gz_FL RX0 11 0 0 := ⟨RX0, TX0, 9, tyX0, rfl, by decide, wf_X0_11, wu_X0, tyX0_ok, nmX0⟩
theorem fl_X4_170 : gz_FL RX4 170 0 0 := ⟨RX0, TX0, 9, tyX0, rfl, by decide, wf_X4_170, wu_X0, tyX0_ok, nmX0⟩
theorem fl_X0_16 : gz_FL RX0 16 0 1 := ⟨RX0, TX0, 9, tyX0, rfl, by decide, wf_X0_16, wu_X0, tyX0_ok, nmX0⟩
theorem fl_X4_167 : gz_FL RX4 167 0 1 := ⟨RX0, TX0, 9, tyX0, rfl, by decide, wf_X4_167, wu_X0, tyX0_ok, nmX0⟩
theorem fl_X0_20 : gz_FL RX0 20 0 2 := ⟨RX0, TX0, 9, tyX0, rfl, by decide, wf_X0_20, wu_X0, tyX0_ok, nmX0⟩
theorem fw_X0_20 : gz_FW RX0 20 0 2 .int := ⟨RX0, TX0, 9, tyX0, rfl, by decide, wf_X0_20, wu_X0, tyX0_ok, nmX0, rfl, rfl⟩
theorem fl_X4_122 : gz_FL RX4 122 0 2 := ⟨RX0, TX0, 9, tyX0, rfl, by decide, wf_X4_122, wu_X0, tyX0_ok, nmX0⟩
theorem fw_X4_122 : gz_FW RX4 122 0 2 .int := ⟨RX0, TX0, 9, tyX0, rfl, by decide, wf_X4_122, wu_X0, tyX0_ok, nmX0, rfl, rfl⟩
theorem fl_X0_24 : gz_FL RX0 24 0 3 := ⟨RX0, TX0, 9, tyX0, rfl, by decide, wf_X0_24, wu_X0, tyX0_ok, nmX0⟩
theorem fw_X0_24 : gz_FW RX0 24 0 3 .boolean := ⟨RX0, TX0, 9, tyX0, rfl, by decide, wf_X0_24, wu_X0, tyX0_ok, nmX0, rfl, rfl⟩
theorem fl_X4_129 : gz_FL RX4 129 0 3 := ⟨RX0, TX0, 9, tyX0, rfl, by decide, wf_X4_129, wu_X0, tyX0_ok, nmX0⟩
theorem fw_X4_129 : gz_FW RX4 129 0 3 .boolean := ⟨RX0, TX0, 9, tyX0, rfl, by decide, wf_X4_129, wu_X0, tyX0_ok, nmX0, rfl, rfl⟩
theorem fl_X0_28 : gz_FL RX0 28 0 4 := ⟨RX0, TX0, 9, tyX0, rfl, by decide, wf_X0_28, wu_X0, tyX0_ok, nmX0⟩
theorem fw_X0_28 : gz_FW RX0 28 0 4 .int := ⟨RX0, TX0, 9, tyX0, rfl, by decide, wf_X0_28, wu_X0, tyX0_ok, nmX0, rfl, rfl⟩
theorem fl_X4_155 : gz_FL RX4 155 0 4 := ⟨RX0, TX0, 9, tyX0, rfl, by decide, wf_X4_155, wu_X0, tyX0_ok, nmX0⟩
theorem fw_X4_155 : gz_FW RX4 155 0 4 .int := ⟨RX0, TX0, 9, tyX0, rfl, by decide, wf_X4_155, wu_X0, tyX0_ok, nmX0, rfl, rfl⟩
theorem fl_X0_31 : gz_FL RX0 31 0 5 := ⟨RX0, TX0, 9, tyX0, rfl, by decide, wf_X0_31, wu_X0, tyX0_ok, nmX0⟩
theorem fw_X0_31 : gz_FW RX0 31 0 5 .int := ⟨RX0, TX0, 9, tyX0, rfl, by decide, wf_X0_31, wu_X0, tyX0_ok, nmX0, rfl, rfl⟩
theorem fl_X4_142 : gz_FL RX4 142 0 5 := ⟨RX0, TX0, 9, tyX0, rfl, by decide, wf_X4_142, wu_X0, tyX0_ok, nmX0⟩
theorem fw_X4_142 : gz_FW RX4 142 0 5 .int := ⟨RX0, TX0, 9, tyX0, rfl, by decide, wf_X4_142, wu_X0, tyX0_ok, nmX0, rfl, rfl⟩
theorem fl_X0_34 : gz_FL RX0 34 0 6 := ⟨RX0, TX0, 9, tyX0, rfl, by decide, wf_X0_34, wu_X0, tyX0_ok, nmX0⟩
theorem fw_X0_34 : gz_FW RX0 34 0 6 .int := ⟨RX0, TX0, 9, tyX0, rfl, by decide, wf_X0_34, wu_X0, tyX0_ok, nmX0, rfl, rfl⟩
theorem fl_X4_161 : gz_FL RX4 161 0 6 := ⟨RX0, TX0, 9, tyX0, rfl, by decide, wf_X4_161, wu_X0, tyX0_ok, nmX0⟩
theorem fw_X4_161 : gz_FW RX4 161 0 6 .int := ⟨RX0, TX0, 9, tyX0, rfl, by decide, wf_X4_161, wu_X0, tyX0_ok, nmX0, rfl, rfl⟩
theorem fl_X0_37 : gz_FL RX0 37 0 7 := ⟨RX0, TX0, 9, tyX0, rfl, by decide, wf_X0_37, wu_X0, tyX0_ok, nmX0⟩
theorem fw_X0_37 : gz_FW RX0 37 0 7 .int := ⟨RX0, TX0, 9, tyX0, rfl, by decide, wf_X0_37, wu_X0, tyX0_ok, nmX0, rfl, rfl⟩
theorem fl_X4_164 : gz_FL RX4 164 0 7 := ⟨RX0, TX0, 9, tyX0, rfl, by decide, wf_X4_164, wu_X0, tyX0_ok, nmX0⟩
theorem fw_X4_164 : gz_FW RX4 164 0 7 .int := ⟨RX0, TX0, 9, tyX0, rfl, by decide, wf_X4_164, wu_X0, tyX0_ok, nmX0, rfl, rfl⟩
theorem fl_X0_40 : gz_FL RX0 40 0 8 := ⟨RX0, TX0, 9, tyX0, rfl, by decide, wf_X0_40, wu_X0, tyX0_ok, nmX0⟩
theorem fw_X0_40 : gz_FW RX0 40 0 8 .int := ⟨RX0, TX0, 9, tyX0, rfl, by decide, wf_X0_40, wu_X0, tyX0_ok, nmX0, rfl, rfl⟩
theorem fl_X4_108 : gz_FL RX4 108 0 8 := ⟨RX0, TX0, 9, tyX0, rfl, by decide, wf_X4_108, wu_X0, tyX0_ok, nmX0⟩
theorem fw_X4_108 : gz_FW RX4 108 0 8 .int := ⟨RX0, TX0, 9, tyX0, rfl, by decide, wf_X4_108, wu_X0, tyX0_ok, nmX0, rfl, rfl⟩
theorem fl_X4_11 : gz_FL RX4 11 4 0 := ⟨RX4, TX4, 9, tyX4, rfl, by decide, wf_X4_11, wu_X4, tyX4_ok, nmX4⟩
theorem fl_X4_17 : gz_FL RX4 17 4 1 := ⟨RX4, TX4, 9, tyX4, rfl, by decide, wf_X4_17, wu_X4, tyX4_ok, nmX4⟩
theorem fl_X4_24 : gz_FL RX4 24 4 2 := ⟨RX4, TX4, 9, tyX4, rfl, by decide, wf_X4_24, wu_X4, tyX4_ok, nmX4⟩
theorem fl_X4_30 : gz_FL RX4 30 4 3 := ⟨RX4, TX4, 9, tyX4, rfl, by decide, wf_X4_30, wu_X4, tyX4_ok, nmX4⟩
theorem fl_X4_34 : gz_FL RX4 34 4 4 := ⟨RX4, TX4, 9, tyX4, rfl, by decide, wf_X4_34, wu_X4, tyX4_ok, nmX4⟩
theorem fl_X4_38 : gz_FL RX4 38 4 5 := ⟨RX4, TX4, 9, tyX4, rfl, by decide, wf_X4_38, wu_X4, tyX4_ok, nmX4⟩
theorem fl_X4_42 : gz_FL RX4 42 4 6 := ⟨RX4, TX4, 9, tyX4, rfl, by decide, wf_X4_42, wu_X4, tyX4_ok, nmX4⟩
theorem fw_X4_42 : gz_FW RX4 42 4 6 .int := ⟨RX4, TX4, 9, tyX4, rfl, by decide, wf_X4_42, wu_X4, tyX4_ok, nmX4, rfl, rfl⟩
theorem fl_X4_46 : gz_FL RX4 46 4 7 := ⟨RX4, TX4, 9, tyX4, rfl, by decide, wf_X4_46, wu_X4, tyX4_ok, nmX4⟩
theorem fw_X4_46 : gz_FW RX4 46 4 7 .int := ⟨RX4, TX4, 9, tyX4, rfl, by decide, wf_X4_46, wu_X4, tyX4_ok, nmX4, rfl, rfl⟩
theorem fl_X4_49 : gz_FL RX4 49 4 8 := ⟨RX4, TX4, 9, tyX4, rfl, by decide, wf_X4_49, wu_X4, tyX4_ok, nmX4⟩
theorem fw_X4_49 : gz_FW RX4 49 4 8 .int := ⟨RX4, TX4, 9, tyX4, rfl, by decide, wf_X4_49, wu_X4, tyX4_ok, nmX4, rfl, rfl⟩
theorem fl_X5_7 : gz_FL RX5 7 5 0 := ⟨RX5, TX5, 21, tyX5, rfl, by decide, wf_X5_7, wu_X5, tyX5_ok, nmX5⟩
theorem fw_X5_7 : gz_FW RX5 7 5 0 .int := ⟨RX5, TX5, 21, tyX5, rfl, by decide, wf_X5_7, wu_X5, tyX5_ok, nmX5, rfl, rfl⟩
theorem fl_X5_13 : gz_FL RX5 13 5 1 := ⟨RX5, TX5, 21, tyX5, rfl, by decide, wf_X5_13, wu_X5, tyX5_ok, nmX5⟩
theorem fl_X5_17 : gz_FL RX5 17 5 2 := ⟨RX5, TX5, 21, tyX5, rfl, by decide, wf_X5_17, wu_X5, tyX5_ok, nmX5⟩
theorem fl_X5_20 : gz_FL RX5 20 5 3 := ⟨RX5, TX5, 21, tyX5, rfl, by decide, wf_X5_20, wu_X5, tyX5_ok, nmX5⟩
theorem fl_X5_23 : gz_FL RX5 23 5 4 := ⟨RX5, TX5, 21, tyX5, rfl, by decide, wf_X5_23, wu_X5, tyX5_ok, nmX5⟩
theorem fl_X5_26 : gz_FL RX5 26 5 5 := ⟨RX5, TX5, 21, tyX5, rfl, by decide, wf_X5_26, wu_X5, tyX5_ok, nmX5⟩
theorem fl_X5_29 : gz_FL RX5 29 5 6 := ⟨RX5, TX5, 21, tyX5, rfl, by decide, wf_X5_29, wu_X5, tyX5_ok, nmX5⟩
theorem fl_X5_33 : gz_FL RX5 33 5 7 := ⟨RX5, TX5, 21, tyX5, rfl, by decide, wf_X5_33, wu_X5, tyX5_ok, nmX5⟩
theorem fl_X5_36 : gz_FL RX5 36 5 8 := ⟨RX5, TX5, 21, tyX5, rfl, by decide, wf_X5_36, wu_X5, tyX5_ok, nmX5⟩
theorem fl_X5_39 : gz_FL RX5 39 5 9 := ⟨RX5, TX5, 21, tyX5, rfl, by decide, wf_X5_39, wu_X5, tyX5_ok, nmX5⟩
theorem fl_X5_128 : gz_FL RX5 128 5 10 := ⟨RX5, TX5, 21, tyX5, rfl, by decide, wf_X5_128, wu_X5, tyX5_ok, nmX5⟩
theorem fw_X5_128 : gz_FW RX5 128 5 10 .int := ⟨RX5, TX5, 21, tyX5, rfl, by decide, wf_X5_128, wu_X5, tyX5_ok, nmX5, rfl, rfl⟩
theorem fl_X5_42 : gz_FL RX5 42 5 11 := ⟨RX5, TX5, 21, tyX5, rfl, by decide, wf_X5_42, wu_X5, tyX5_ok, nmX5⟩
theorem fl_X5_45 : gz_FL RX5 45 5 12 := ⟨RX5, TX5, 21, tyX5, rfl, by decide, wf_X5_45, wu_X5, tyX5_ok, nmX5⟩
theorem fl_X5_48 : gz_FL RX5 48 5 13 := ⟨RX5, TX5, 21, tyX5, rfl, by decide, wf_X5_48, wu_X5, tyX5_ok, nmX5⟩
theorem fl_X5_51 : gz_FL RX5 51 5 14 := ⟨RX5, TX5, 21, tyX5, rfl, by decide, wf_X5_51, wu_X5, tyX5_ok, nmX5⟩
theorem fl_X5_54 : gz_FL RX5 54 5 15 := ⟨RX5, TX5, 21, tyX5, rfl, by decide, wf_X5_54, wu_X5, tyX5_ok, nmX5⟩
theorem fl_X5_57 : gz_FL RX5 57 5 16 := ⟨RX5, TX5, 21, tyX5, rfl, by decide, wf_X5_57, wu_X5, tyX5_ok, nmX5⟩
theorem fl_X5_60 : gz_FL RX5 60 5 17 := ⟨RX5, TX5, 21, tyX5, rfl, by decide, wf_X5_60, wu_X5, tyX5_ok, nmX5⟩
theorem fl_X5_63 : gz_FL RX5 63 5 18 := ⟨RX5, TX5, 21, tyX5, rfl, by decide, wf_X5_63, wu_X5, tyX5_ok, nmX5⟩
theorem fl_X5_66 : gz_FL RX5 66 5 19 := ⟨RX5, TX5, 21, tyX5, rfl, by decide, wf_X5_66, wu_X5, tyX5_ok, nmX5⟩
theorem fl_X5_69 : gz_FL RX5 69 5 20 := ⟨RX5, TX5, 21, tyX5, rfl, by decide, wf_X5_69, wu_X5, tyX5_ok, nmX5⟩
theorem my_X4_insert : gz_YV yX4_insert cX4_insert 8 (some .int) 4 4 := ⟨⟨wc_X4_insert, wn_X4, by decide +kernel, by decide +kernel⟩, wi_X4_insert, we_X4_insert, TX4, 9, rfl⟩
theorem my_X4_isTask : gz_YV yX4_isTask cX4_isTask 2 (some .boolean) 1 4 := ⟨⟨wc_X4_isTask, wn_X4, by decide +kernel, by decide +kernel⟩, wi_X4_isTask, we_X4_isTask, TX4, 9, rfl⟩
theorem my_X2_open : gz_YV yX2_open cX2_open 3 none 2 2 := ⟨⟨wc_X2_open, wn_X2, by decide +kernel, by decide +kernel⟩, wi_X2_open, we_X2_open, TX2, 3, rfl⟩
theorem my_X4_remove : gz_YV yX4_remove cX4_remove 5 (some .int) 3 4 := ⟨⟨wc_X4_remove, wn_X4, by decide +kernel, by decide +kernel⟩, wi_X4_remove, we_X4_remove, TX4, 9, rfl⟩
theorem my_X2_close : gz_YV yX2_close cX2_close 3 none 2 2 := ⟨⟨wc_X2_close, wn_X2, by decide +kernel, by decide +kernel⟩, wi_X2_close, we_X2_close, TX2, 3, rfl⟩
theorem my_X4_extend : gz_YV yX4_extend cX4_extend 8 (some .int) 4 4 := ⟨⟨wc_X4_extend, wn_X4, by decide +kernel, by decide +kernel⟩, wi_X4_extend, we_X4_extend, TX4, 9, rfl⟩
theorem my_X4_state : gz_YV yX4_state cX4_state 3 (some .int) 2 4 := ⟨⟨wc_X4_state, wn_X4, by decide +kernel, by decide +kernel⟩, wi_X4_state, we_X4_state, TX4, 9, rfl⟩
theorem my_X4_chunk : gz_YV yX4_chunk cX4_chunk 5 (some .int) 2 4 := ⟨⟨wc_X4_chunk, wn_X4, by decide +kernel, by decide +kernel⟩, wi_X4_chunk, we_X4_chunk, TX4, 9, rfl⟩
theorem my_X2_cut : gz_YV yX2_cut cX2_cut 4 (some .int) 0 2 := ⟨⟨wc_X2_cut, wn_X2, by decide +kernel, by decide +kernel⟩, wi_X2_cut, we_X2_cut, TX2, 3, rfl⟩
theorem my_X2_endsChunk : gz_YV yX2_endsChunk cX2_endsChunk 3 (some .boolean) 2 2 := ⟨⟨wc_X2_endsChunk, wn_X2, by decide +kernel, by decide +kernel⟩, wi_X2_endsChunk, we_X2_endsChunk, TX2, 3, rfl⟩
theorem my_X2_chunkSize : gz_YV yX2_chunkSize cX2_chunkSize 2 (some .int) 1 2 := ⟨⟨wc_X2_chunkSize, wn_X2, by decide +kernel, by decide +kernel⟩, wi_X2_chunkSize, we_X2_chunkSize, TX2, 3, rfl⟩
theorem my_X2_chunkStart : gz_YV yX2_chunkStart cX2_chunkStart 2 (some .int) 1 2 := ⟨⟨wc_X2_chunkStart, wn_X2, by decide +kernel, by decide +kernel⟩, wi_X2_chunkStart, we_X2_chunkStart, TX2, 3, rfl⟩
theorem my_X4_rescale : gz_YV yX4_rescale cX4_rescale 6 (some .int) 1 4 := ⟨⟨wc_X4_rescale, wn_X4, by decide +kernel, by decide +kernel⟩, wi_X4_rescale, we_X4_rescale, TX4, 9, rfl⟩
theorem my_X4_totalStateBytes : gz_YV yX4_totalStateBytes cX4_totalStateBytes 3 (some .int) 0 4 := ⟨⟨wc_X4_totalStateBytes, wn_X4, by decide +kernel, by decide +kernel⟩, wi_X4_totalStateBytes, we_X4_totalStateBytes, TX4, 9, rfl⟩
theorem my_X4_shareStart : gz_YS yX4_shareStart cX4_shareStart 3 (some .int) 3 := ⟨⟨wc_X4_shareStart, wn_X4, by decide +kernel, by decide +kernel⟩, ws_X4_shareStart⟩
theorem my_X4_joinStates : gz_YV yX4_joinStates cX4_joinStates 3 none 0 4 := ⟨⟨wc_X4_joinStates, wn_X4, by decide +kernel, by decide +kernel⟩, wi_X4_joinStates, we_X4_joinStates, TX4, 9, rfl⟩
theorem my_X4_becomeTasks : gz_YV yX4_becomeTasks cX4_becomeTasks 3 none 1 4 := ⟨⟨wc_X4_becomeTasks, wn_X4, by decide +kernel, by decide +kernel⟩, wi_X4_becomeTasks, we_X4_becomeTasks, TX4, 9, rfl⟩
theorem my_X1_clear : gz_YV yX1_clear cX1_clear 2 none 0 1 := ⟨⟨wc_X1_clear, wn_X1, by decide +kernel, by decide +kernel⟩, wi_X1_clear, we_X1_clear, TX1, 2, rfl⟩
theorem my_X2_append : gz_YV yX2_append cX2_append 4 none 3 2 := ⟨⟨wc_X2_append, wn_X2, by decide +kernel, by decide +kernel⟩, wi_X2_append, we_X2_append, TX2, 3, rfl⟩
theorem my_X4_mark : gz_YV yX4_mark cX4_mark 3 (some .int) 1 4 := ⟨⟨wc_X4_mark, wn_X4, by decide +kernel, by decide +kernel⟩, wi_X4_mark, we_X4_mark, TX4, 9, rfl⟩
theorem my_X0_begin : gz_YV yX0_begin cX0_begin 3 none 2 0 := ⟨⟨wc_X0_begin, wn_X0, by decide +kernel, by decide +kernel⟩, wi_X0_begin, we_X0_begin, TX0, 9, rfl⟩
theorem my_X4_storeStates : gz_YV yX4_storeStates cX4_storeStates 3 (some .boolean) 1 4 := ⟨⟨wc_X4_storeStates, wn_X4, by decide +kernel, by decide +kernel⟩, wi_X4_storeStates, we_X4_storeStates, TX4, 9, rfl⟩
theorem my_X3_beginMarking : gz_YV yX3_beginMarking cX3_beginMarking 1 none 0 3 := ⟨⟨wc_X3_beginMarking, wn_X3, by decide +kernel, by decide +kernel⟩, wi_X3_beginMarking, we_X3_beginMarking, TX3, 8, rfl⟩
theorem my_X4_storeState : gz_YV yX4_storeState cX4_storeState 7 (some .boolean) 2 4 := ⟨⟨wc_X4_storeState, wn_X4, by decide +kernel, by decide +kernel⟩, wi_X4_storeState, we_X4_storeState, TX4, 9, rfl⟩
theorem my_X3_partOf : gz_YV yX3_partOf cX3_partOf 6 (some .int) 3 3 := ⟨⟨wc_X3_partOf, wn_X3, by decide +kernel, by decide +kernel⟩, wi_X3_partOf, we_X3_partOf, TX3, 8, rfl⟩
theorem my_X4_digestOf : gz_YS yX4_digestOf cX4_digestOf 5 (some .int) 3 := ⟨⟨wc_X4_digestOf, wn_X4, by decide +kernel, by decide +kernel⟩, ws_X4_digestOf⟩
theorem my_X3_findPart : gz_YV yX3_findPart cX3_findPart 6 (some .int) 4 3 := ⟨⟨wc_X3_findPart, wn_X3, by decide +kernel, by decide +kernel⟩, wi_X3_findPart, we_X3_findPart, TX3, 8, rfl⟩
theorem my_X1_holds : gz_YV yX1_holds cX1_holds 6 (some .boolean) 4 1 := ⟨⟨wc_X1_holds, wn_X1, by decide +kernel, by decide +kernel⟩, wi_X1_holds, we_X1_holds, TX1, 2, rfl⟩
theorem my_X3_makePart : gz_YV yX3_makePart cX3_makePart 6 (some .int) 4 3 := ⟨⟨wc_X3_makePart, wn_X3, by decide +kernel, by decide +kernel⟩, wi_X3_makePart, we_X3_makePart, TX3, 8, rfl⟩
theorem my_X3_leastUnused : gz_YV yX3_leastUnused cX3_leastUnused 2 (some .int) 0 3 := ⟨⟨wc_X3_leastUnused, wn_X3, by decide +kernel, by decide +kernel⟩, wi_X3_leastUnused, we_X3_leastUnused, TX3, 8, rfl⟩
theorem my_X1_put : gz_YV yX1_put cX1_put 5 none 4 1 := ⟨⟨wc_X1_put, wn_X1, by decide +kernel, by decide +kernel⟩, wi_X1_put, we_X1_put, TX1, 2, rfl⟩
theorem my_X3_undoMarking : gz_YV yX3_undoMarking cX3_undoMarking 2 none 0 3 := ⟨⟨wc_X3_undoMarking, wn_X3, by decide +kernel, by decide +kernel⟩, wi_X3_undoMarking, we_X3_undoMarking, TX3, 8, rfl⟩
theorem my_X3_takeAway : gz_YV yX3_takeAway cX3_takeAway 2 none 1 3 := ⟨⟨wc_X3_takeAway, wn_X3, by decide +kernel, by decide +kernel⟩, wi_X3_takeAway, we_X3_takeAway, TX3, 8, rfl⟩
theorem my_X4_latestKept : gz_YV yX4_latestKept cX4_latestKept 2 (some (.object "GrownSnapshots$Mark")) 0 4 := ⟨⟨wc_X4_latestKept, wn_X4, by decide +kernel, by decide +kernel⟩, wi_X4_latestKept, we_X4_latestKept, TX4, 9, rfl⟩
theorem my_X0_growUpon : gz_YV yX0_growUpon cX0_growUpon 3 none 1 0 := ⟨⟨wc_X0_growUpon, wn_X0, by decide +kernel, by decide +kernel⟩, wi_X0_growUpon, we_X0_growUpon, TX0, 9, rfl⟩
theorem my_X0_partCount : gz_YV yX0_partCount cX0_partCount 3 (some .int) 0 0 := ⟨⟨wc_X0_partCount, wn_X0, by decide +kernel, by decide +kernel⟩, wi_X0_partCount, we_X0_partCount, TX0, 9, rfl⟩
theorem my_X0_sharedParts : gz_YV yX0_sharedParts cX0_sharedParts 6 (some .int) 2 0 := ⟨⟨wc_X0_sharedParts, wn_X0, by decide +kernel, by decide +kernel⟩, wi_X0_sharedParts, we_X0_sharedParts, TX0, 9, rfl⟩
theorem my_X4_copyStates : gz_YV yX4_copyStates cX4_copyStates 6 none 1 4 := ⟨⟨wc_X4_copyStates, wn_X4, by decide +kernel, by decide +kernel⟩, wi_X4_copyStates, we_X4_copyStates, TX4, 9, rfl⟩
theorem my_X4_drop : gz_YV yX4_drop cX4_drop 3 (some .int) 1 4 := ⟨⟨wc_X4_drop, wn_X4, by decide +kernel, by decide +kernel⟩, wi_X4_drop, we_X4_drop, TX4, 9, rfl⟩
theorem my_X4_keptMark : gz_YV yX4_keptMark cX4_keptMark 3 (some (.object "GrownSnapshots$Mark")) 1 4 := ⟨⟨wc_X4_keptMark, wn_X4, by decide +kernel, by decide +kernel⟩, wi_X4_keptMark, we_X4_keptMark, TX4, 9, rfl⟩
theorem my_X4_heldMark : gz_YV yX4_heldMark cX4_heldMark 3 (some (.object "GrownSnapshots$Mark")) 1 4 := ⟨⟨wc_X4_heldMark, wn_X4, by decide +kernel, by decide +kernel⟩, wi_X4_heldMark, we_X4_heldMark, TX4, 9, rfl⟩
theorem my_X4_letGoUnheld : gz_YV yX4_letGoUnheld cX4_letGoUnheld 2 none 0 4 := ⟨⟨wc_X4_letGoUnheld, wn_X4, by decide +kernel, by decide +kernel⟩, wi_X4_letGoUnheld, we_X4_letGoUnheld, TX4, 9, rfl⟩
theorem my_X4_isBase : gz_YV yX4_isBase cX4_isBase 3 (some .boolean) 1 4 := ⟨⟨wc_X4_isBase, wn_X4, by decide +kernel, by decide +kernel⟩, wi_X4_isBase, we_X4_isBase, TX4, 9, rfl⟩
theorem my_X4_letGo : gz_YV yX4_letGo cX4_letGo 4 none 1 4 := ⟨⟨wc_X4_letGo, wn_X4, by decide +kernel, by decide +kernel⟩, wi_X4_letGo, we_X4_letGo, TX4, 9, rfl⟩
theorem my_X4_freeUnnamed : gz_YV yX4_freeUnnamed cX4_freeUnnamed 3 (some .int) 0 4 := ⟨⟨wc_X4_freeUnnamed, wn_X4, by decide +kernel, by decide +kernel⟩, wi_X4_freeUnnamed, we_X4_freeUnnamed, TX4, 9, rfl⟩
theorem my_X4_nameKeptParts : gz_YV yX4_nameKeptParts cX4_nameKeptParts 2 none 0 4 := ⟨⟨wc_X4_nameKeptParts, wn_X4, by decide +kernel, by decide +kernel⟩, wi_X4_nameKeptParts, we_X4_nameKeptParts, TX4, 9, rfl⟩
theorem my_X0_addNames : gz_YV yX0_addNames cX0_addNames 4 none 1 0 := ⟨⟨wc_X0_addNames, wn_X0, by decide +kernel, by decide +kernel⟩, wi_X0_addNames, we_X0_addNames, TX0, 9, rfl⟩
theorem my_X3_isThere : gz_YV yX3_isThere cX3_isThere 2 (some .boolean) 1 3 := ⟨⟨wc_X3_isThere, wn_X3, by decide +kernel, by decide +kernel⟩, wi_X3_isThere, we_X3_isThere, TX3, 8, rfl⟩
theorem my_X4_freePart : gz_YV yX4_freePart cX4_freePart 3 none 1 4 := ⟨⟨wc_X4_freePart, wn_X4, by decide +kernel, by decide +kernel⟩, wi_X4_freePart, we_X4_freePart, TX4, 9, rfl⟩
theorem my_X4_back : gz_YV yX4_back cX4_back 4 (some .int) 1 4 := ⟨⟨wc_X4_back, wn_X4, by decide +kernel, by decide +kernel⟩, wi_X4_back, we_X4_back, TX4, 9, rfl⟩
theorem my_X4_latestUsable : gz_YV yX4_latestUsable cX4_latestUsable 3 (some (.object "GrownSnapshots$Mark")) 1 4 := ⟨⟨wc_X4_latestUsable, wn_X4, by decide +kernel, by decide +kernel⟩, wi_X4_latestUsable, we_X4_latestUsable, TX4, 9, rfl⟩
theorem my_X4_isUsable : gz_YV yX4_isUsable cX4_isUsable 4 (some .boolean) 1 4 := ⟨⟨wc_X4_isUsable, wn_X4, by decide +kernel, by decide +kernel⟩, wi_X4_isUsable, we_X4_isUsable, TX4, 9, rfl⟩
theorem my_X4_isReadable : gz_YV yX4_isReadable cX4_isReadable 3 (some .boolean) 2 4 := ⟨⟨wc_X4_isReadable, wn_X4, by decide +kernel, by decide +kernel⟩, wi_X4_isReadable, we_X4_isReadable, TX4, 9, rfl⟩
theorem my_X3_isSound : gz_YV yX3_isSound cX3_isSound 3 (some .boolean) 2 3 := ⟨⟨wc_X3_isSound, wn_X3, by decide +kernel, by decide +kernel⟩, wi_X3_isSound, we_X3_isSound, TX3, 8, rfl⟩
theorem my_X4_readState : gz_YV yX4_readState cX4_readState 6 none 2 4 := ⟨⟨wc_X4_readState, wn_X4, by decide +kernel, by decide +kernel⟩, wi_X4_readState, we_X4_readState, TX4, 9, rfl⟩
theorem my_X4_readPart : gz_YV yX4_readPart cX4_readPart 3 none 2 4 := ⟨⟨wc_X4_readPart, wn_X4, by decide +kernel, by decide +kernel⟩, wi_X4_readPart, we_X4_readPart, TX4, 9, rfl⟩
theorem my_X4_usable : gz_YV yX4_usable cX4_usable 3 (some .int) 1 4 := ⟨⟨wc_X4_usable, wn_X4, by decide +kernel, by decide +kernel⟩, wi_X4_usable, we_X4_usable, TX4, 9, rfl⟩
theorem my_X4_markTold : gz_YV yX4_markTold cX4_markTold 4 (some .int) 2 4 := ⟨⟨wc_X4_markTold, wn_X4, by decide +kernel, by decide +kernel⟩, wi_X4_markTold, we_X4_markTold, TX4, 9, rfl⟩
theorem my_X4_list : gz_YV yX4_list cX4_list 5 (some .int) 3 4 := ⟨⟨wc_X4_list, wn_X4, by decide +kernel, by decide +kernel⟩, wi_X4_list, we_X4_list, TX4, 9, rfl⟩
theorem my_X4_same : gz_YV yX4_same cX4_same 5 (some .boolean) 2 4 := ⟨⟨wc_X4_same, wn_X4, by decide +kernel, by decide +kernel⟩, wi_X4_same, we_X4_same, TX4, 9, rfl⟩
theorem my_X0_isAlike : gz_YV yX0_isAlike cX0_isAlike 3 (some .boolean) 1 0 := ⟨⟨wc_X0_isAlike, wn_X0, by decide +kernel, by decide +kernel⟩, wi_X0_isAlike, we_X0_isAlike, TX0, 9, rfl⟩
theorem my_X0_hasAlikeList : gz_YV yX0_hasAlikeList cX0_hasAlikeList 4 (some .boolean) 2 0 := ⟨⟨wc_X0_hasAlikeList, wn_X0, by decide +kernel, by decide +kernel⟩, wi_X0_hasAlikeList, we_X0_hasAlikeList, TX0, 9, rfl⟩
theorem my_X4_partTold : gz_YV yX4_partTold cX4_partTold 3 (some .int) 2 4 := ⟨⟨wc_X4_partTold, wn_X4, by decide +kernel, by decide +kernel⟩, wi_X4_partTold, we_X4_partTold, TX4, 9, rfl⟩
theorem my_X4_keptNaming : gz_YV yX4_keptNaming cX4_keptNaming 4 (some .int) 1 4 := ⟨⟨wc_X4_keptNaming, wn_X4, by decide +kernel, by decide +kernel⟩, wi_X4_keptNaming, we_X4_keptNaming, TX4, 9, rfl⟩
theorem my_X0_names : gz_YV yX0_names cX0_names 4 (some .boolean) 1 0 := ⟨⟨wc_X0_names, wn_X0, by decide +kernel, by decide +kernel⟩, wi_X0_names, we_X0_names, TX0, 9, rfl⟩
theorem my_X4_copyCount : gz_YV yX4_copyCount cX4_copyCount 4 (some .int) 1 4 := ⟨⟨wc_X4_copyCount, wn_X4, by decide +kernel, by decide +kernel⟩, wi_X4_copyCount, we_X4_copyCount, TX4, 9, rfl⟩
theorem my_X4_partByte : gz_YV yX4_partByte cX4_partByte 5 (some .int) 3 4 := ⟨⟨wc_X4_partByte, wn_X4, by decide +kernel, by decide +kernel⟩, wi_X4_partByte, we_X4_partByte, TX4, 9, rfl⟩
theorem my_X4_shelfOf : gz_YV yX4_shelfOf cX4_shelfOf 2 (some (.object "GrownSnapshots$Shelf")) 1 4 := ⟨⟨wc_X4_shelfOf, wn_X4, by decide +kernel, by decide +kernel⟩, wi_X4_shelfOf, we_X4_shelfOf, TX4, 9, rfl⟩
theorem my_X3_hasByte : gz_YV yX3_hasByte cX3_hasByte 4 (some .boolean) 3 3 := ⟨⟨wc_X3_hasByte, wn_X3, by decide +kernel, by decide +kernel⟩, wi_X3_hasByte, we_X3_hasByte, TX3, 8, rfl⟩
theorem my_X4_alter : gz_YV yX4_alter cX4_alter 6 (some .int) 4 4 := ⟨⟨wc_X4_alter, wn_X4, by decide +kernel, by decide +kernel⟩, wi_X4_alter, we_X4_alter, TX4, 9, rfl⟩
theorem my_X4_lose : gz_YV yX4_lose cX4_lose 4 (some .int) 2 4 := ⟨⟨wc_X4_lose, wn_X4, by decide +kernel, by decide +kernel⟩, wi_X4_lose, we_X4_lose, TX4, 9, rfl⟩
theorem my_X4_told : gz_YV yX4_told cX4_told 2 (some .int) 1 4 := ⟨⟨wc_X4_told, wn_X4, by decide +kernel, by decide +kernel⟩, wi_X4_told, we_X4_told, TX4, 9, rfl⟩
theorem my_X4_keptCount : gz_YV yX4_keptCount cX4_keptCount 3 (some .int) 0 4 := ⟨⟨wc_X4_keptCount, wn_X4, by decide +kernel, by decide +kernel⟩, wi_X4_keptCount, we_X4_keptCount, TX4, 9, rfl⟩
theorem my_X3_brokenCount : gz_YV yX3_brokenCount cX3_brokenCount 3 (some .int) 0 3 := ⟨⟨wc_X3_brokenCount, wn_X3, by decide +kernel, by decide +kernel⟩, wi_X3_brokenCount, we_X3_brokenCount, TX3, 8, rfl⟩
theorem my_X4_allCopies : gz_YV yX4_allCopies cX4_allCopies 3 (some .int) 0 4 := ⟨⟨wc_X4_allCopies, wn_X4, by decide +kernel, by decide +kernel⟩, wi_X4_allCopies, we_X4_allCopies, TX4, 9, rfl⟩
theorem my_X5_insert : gz_YV yX5_insert cX5_insert 8 (some .int) 4 5 := ⟨⟨wc_X5_insert, wn_X5, by decide +kernel, by decide +kernel⟩, wi_X5_insert, we_X5_insert, TX5, 21, rfl⟩
theorem my_X5_isTask : gz_YV yX5_isTask cX5_isTask 2 (some .boolean) 1 5 := ⟨⟨wc_X5_isTask, wn_X5, by decide +kernel, by decide +kernel⟩, wi_X5_isTask, we_X5_isTask, TX5, 21, rfl⟩
theorem my_X5_in : gz_YS yX5_in cX5_in 3 (some .boolean) 3 := ⟨⟨wc_X5_in, wn_X5, by decide +kernel, by decide +kernel⟩, ws_X5_in⟩
theorem my_X5_remove : gz_YV yX5_remove cX5_remove 6 (some .int) 3 5 := ⟨⟨wc_X5_remove, wn_X5, by decide +kernel, by decide +kernel⟩, wi_X5_remove, we_X5_remove, TX5, 21, rfl⟩
theorem my_X5_extend : gz_YV yX5_extend cX5_extend 6 (some .int) 4 5 := ⟨⟨wc_X5_extend, wn_X5, by decide +kernel, by decide +kernel⟩, wi_X5_extend, we_X5_extend, TX5, 21, rfl⟩
theorem my_X5_state : gz_YV yX5_state cX5_state 3 (some .int) 2 5 := ⟨⟨wc_X5_state, wn_X5, by decide +kernel, by decide +kernel⟩, wi_X5_state, we_X5_state, TX5, 21, rfl⟩
theorem my_X5_chunk : gz_YV yX5_chunk cX5_chunk 6 (some .int) 2 5 := ⟨⟨wc_X5_chunk, wn_X5, by decide +kernel, by decide +kernel⟩, wi_X5_chunk, we_X5_chunk, TX5, 21, rfl⟩
theorem my_X5_chunkFrom : gz_YV yX5_chunkFrom cX5_chunkFrom 7 (some .int) 2 5 := ⟨⟨wc_X5_chunkFrom, wn_X5, by decide +kernel, by decide +kernel⟩, wi_X5_chunkFrom, we_X5_chunkFrom, TX5, 21, rfl⟩
theorem my_X5_rescale : gz_YV yX5_rescale cX5_rescale 6 (some .int) 1 5 := ⟨⟨wc_X5_rescale, wn_X5, by decide +kernel, by decide +kernel⟩, wi_X5_rescale, we_X5_rescale, TX5, 21, rfl⟩
theorem my_X5_become : gz_YV yX5_become cX5_become 4 none 1 5 := ⟨⟨wc_X5_become, wn_X5, by decide +kernel, by decide +kernel⟩, wi_X5_become, we_X5_become, TX5, 21, rfl⟩
theorem my_X5_partTold : gz_YV yX5_partTold cX5_partTold 5 (some .int) 2 5 := ⟨⟨wc_X5_partTold, wn_X5, by decide +kernel, by decide +kernel⟩, wi_X5_partTold, we_X5_partTold, TX5, 21, rfl⟩
theorem my_X5_isPart : gz_YV yX5_isPart cX5_isPart 2 (some .boolean) 1 5 := ⟨⟨wc_X5_isPart, wn_X5, by decide +kernel, by decide +kernel⟩, wi_X5_isPart, we_X5_isPart, TX5, 21, rfl⟩
theorem my_X5_hasPart : gz_YV yX5_hasPart cX5_hasPart 6 (some .boolean) 2 5 := ⟨⟨wc_X5_hasPart, wn_X5, by decide +kernel, by decide +kernel⟩, wi_X5_hasPart, we_X5_hasPart, TX5, 21, rfl⟩
theorem my_X5_isBroken : gz_YV yX5_isBroken cX5_isBroken 4 (some .boolean) 1 5 := ⟨⟨wc_X5_isBroken, wn_X5, by decide +kernel, by decide +kernel⟩, wi_X5_isBroken, we_X5_isBroken, TX5, 21, rfl⟩
theorem my_X5_partByte : gz_YV yX5_partByte cX5_partByte 4 (some .int) 3 5 := ⟨⟨wc_X5_partByte, wn_X5, by decide +kernel, by decide +kernel⟩, wi_X5_partByte, we_X5_partByte, TX5, 21, rfl⟩
theorem my_X5_isByte : gz_YV yX5_isByte cX5_isByte 4 (some .boolean) 3 5 := ⟨⟨wc_X5_isByte, wn_X5, by decide +kernel, by decide +kernel⟩, wi_X5_isByte, we_X5_isByte, TX5, 21, rfl⟩
theorem my_X5_alter : gz_YV yX5_alter cX5_alter 5 (some .int) 4 5 := ⟨⟨wc_X5_alter, wn_X5, by decide +kernel, by decide +kernel⟩, wi_X5_alter, we_X5_alter, TX5, 21, rfl⟩
theorem my_X5_lose : gz_YV yX5_lose cX5_lose 3 (some .int) 2 5 := ⟨⟨wc_X5_lose, wn_X5, by decide +kernel, by decide +kernel⟩, wi_X5_lose, we_X5_lose, TX5, 21, rfl⟩
theorem my_X5_mark : gz_YV yX5_mark cX5_mark 11 (some .int) 1 5 := ⟨⟨wc_X5_mark, wn_X5, by decide +kernel, by decide +kernel⟩, wi_X5_mark, we_X5_mark, TX5, 21, rfl⟩
theorem my_X5_held : gz_YV yX5_held cX5_held 3 (some .int) 0 5 := ⟨⟨wc_X5_held, wn_X5, by decide +kernel, by decide +kernel⟩, wi_X5_held, we_X5_held, TX5, 21, rfl⟩
theorem my_X5_partFor : gz_YV yX5_partFor cX5_partFor 7 (some .int) 3 5 := ⟨⟨wc_X5_partFor, wn_X5, by decide +kernel, by decide +kernel⟩, wi_X5_partFor, we_X5_partFor, TX5, 21, rfl⟩
theorem my_X5_isChunk : gz_YV yX5_isChunk cX5_isChunk 7 (some .boolean) 4 5 := ⟨⟨wc_X5_isChunk, wn_X5, by decide +kernel, by decide +kernel⟩, wi_X5_isChunk, we_X5_isChunk, TX5, 21, rfl⟩
theorem my_X5_allBytes : gz_YV yX5_allBytes cX5_allBytes 3 (some .int) 0 5 := ⟨⟨wc_X5_allBytes, wn_X5, by decide +kernel, by decide +kernel⟩, wi_X5_allBytes, we_X5_allBytes, TX5, 21, rfl⟩
theorem my_X5_latest : gz_YV yX5_latest cX5_latest 4 (some .int) 1 5 := ⟨⟨wc_X5_latest, wn_X5, by decide +kernel, by decide +kernel⟩, wi_X5_latest, we_X5_latest, TX5, 21, rfl⟩
theorem my_X5_tells : gz_YV yX5_tells cX5_tells 11 (some .int) 2 5 := ⟨⟨wc_X5_tells, wn_X5, by decide +kernel, by decide +kernel⟩, wi_X5_tells, we_X5_tells, TX5, 21, rfl⟩
theorem my_X5_drop : gz_YV yX5_drop cX5_drop 8 (some .int) 1 5 := ⟨⟨wc_X5_drop, wn_X5, by decide +kernel, by decide +kernel⟩, wi_X5_drop, we_X5_drop, TX5, 21, rfl⟩
theorem my_X5_keptSlot : gz_YV yX5_keptSlot cX5_keptSlot 3 (some .int) 1 5 := ⟨⟨wc_X5_keptSlot, wn_X5, by decide +kernel, by decide +kernel⟩, wi_X5_keptSlot, we_X5_keptSlot, TX5, 21, rfl⟩
theorem my_X5_slotOf : gz_YV yX5_slotOf cX5_slotOf 4 (some .int) 1 5 := ⟨⟨wc_X5_slotOf, wn_X5, by decide +kernel, by decide +kernel⟩, wi_X5_slotOf, we_X5_slotOf, TX5, 21, rfl⟩
theorem my_X5_usable : gz_YV yX5_usable cX5_usable 3 (some .int) 1 5 := ⟨⟨wc_X5_usable, wn_X5, by decide +kernel, by decide +kernel⟩, wi_X5_usable, we_X5_usable, TX5, 21, rfl⟩
theorem my_X5_isUsable : gz_YV yX5_isUsable cX5_isUsable 5 (some .boolean) 1 5 := ⟨⟨wc_X5_isUsable, wn_X5, by decide +kernel, by decide +kernel⟩, wi_X5_isUsable, we_X5_isUsable, TX5, 21, rfl⟩
theorem my_X5_isReadable : gz_YV yX5_isReadable cX5_isReadable 3 (some .boolean) 2 5 := ⟨⟨wc_X5_isReadable, wn_X5, by decide +kernel, by decide +kernel⟩, wi_X5_isReadable, we_X5_isReadable, TX5, 21, rfl⟩
theorem my_X5_isGoodCopy : gz_YV yX5_isGoodCopy cX5_isGoodCopy 5 (some .boolean) 2 5 := ⟨⟨wc_X5_isGoodCopy, wn_X5, by decide +kernel, by decide +kernel⟩, wi_X5_isGoodCopy, we_X5_isGoodCopy, TX5, 21, rfl⟩
theorem my_X5_back : gz_YV yX5_back cX5_back 5 (some .int) 1 5 := ⟨⟨wc_X5_back, wn_X5, by decide +kernel, by decide +kernel⟩, wi_X5_back, we_X5_back, TX5, 21, rfl⟩
theorem my_X5_read : gz_YV yX5_read cX5_read 5 none 2 5 := ⟨⟨wc_X5_read, wn_X5, by decide +kernel, by decide +kernel⟩, wi_X5_read, we_X5_read, TX5, 21, rfl⟩
theorem my_X5_markTold : gz_YV yX5_markTold cX5_markTold 6 (some .int) 2 5 := ⟨⟨wc_X5_markTold, wn_X5, by decide +kernel, by decide +kernel⟩, wi_X5_markTold, we_X5_markTold, TX5, 21, rfl⟩
theorem my_X5_list : gz_YV yX5_list cX5_list 5 (some .int) 3 5 := ⟨⟨wc_X5_list, wn_X5, by decide +kernel, by decide +kernel⟩, wi_X5_list, we_X5_list, TX5, 21, rfl⟩
theorem my_X5_same : gz_YV yX5_same cX5_same 8 (some .boolean) 2 5 := ⟨⟨wc_X5_same, wn_X5, by decide +kernel, by decide +kernel⟩, wi_X5_same, we_X5_same, TX5, 21, rfl⟩
theorem my_X5_told : gz_YV yX5_told cX5_told 4 (some .int) 1 5 := ⟨⟨wc_X5_told, wn_X5, by decide +kernel, by decide +kernel⟩, wi_X5_told, we_X5_told, TX5, 21, rfl⟩
end
section
section
variable {l : Launch} {D : va_G} {α : gz_P → Nat} {cA : Nat → ClassId} {own : String} {cc : ByteArray} {ret : Option FieldType} {nL d : Nat} {Q : Option Value → gz_M → Prop} {I : gz_M} {L : List (Option Value)} {st : List Value} {pc : Nat}
theorem gz_min {idx : Nat} {a b : Int} (hd : decode cc pc = .ok (.invokestatic idx, 3)) (hm : Cond.methodLink own idx yJ9_min_7cf53 ∈ gz_ts) (hbb : (Nat.ble 1 d && Nat.ble (st.map fun v => v.category).sum 8) = true) (ra : -2147483648 ≤ a ∧ a ≤ 2147483647) (rb : -2147483648 ≤ b ∧ b ≤ 2147483647) (kk : gz_V l D α cA own cc ret nL d Q I L (gz_i (if b < a then b else a) :: st) (pc + 3)) : gz_V l D α cA own cc ret nL d Q I L (gz_i b :: gz_i a :: st) pc := by
  intro p e R s m args below meth c A H locs ls cells slots QQ C hP hS hl hQ
  obtain ⟨hx, hb, hret, hml, hown, hts, hK, hN, hfr, hlo, hce, hsl, hDD⟩ := id C
  rw [Bool.and_eq_true] at hbb
  have h1 : 1 ≤ d := Nat.le_of_ble_eq_true hbb.1
  have h2 : (st.map fun v => v.category).sum ≤ 8 := Nat.le_of_ble_eq_true hbb.2
  have s4 : 1 ≤ R.frames := by omega
  have s5 : (st.map fun v => v.category).sum + 13 ≤ R.locals := by omega
  refine va_mmin hx hb (hml.trans hl.1.symm) hown (hts _ hm) (hts _ ws_J9_min_7cf53) (hts _ wn_J9) (hts _ wc_J9_min_7cf53) s4 s5 hce hsl hd ?_
  have e9 : (if Int32.ofInt b < Int32.ofInt a then Int32.ofInt b else Int32.ofInt a) = Int32.ofInt (if b < a then b else a) := by
    by_cases h : b < a
    · rw [if_pos h, if_pos ((gz_clt rb ra).mpr h)]
    · rw [if_neg h, if_neg (fun q => h ((gz_clt rb ra).mp q))]
  rw [e9]
  exact kk p e R s m args below meth c A H locs ls cells slots QQ C hP hS hl hQ
theorem gz_getI {idx ci k r n na nb : Nat} {a b : Int} (ki : Int) (hd : decode cc pc = .ok (.getfield idx, 3)) (fl : gz_FL own idx ci k) (hki : (k : Int) = ki) (hs : gz_shp r = (10 + ci, n, na, nb)) (hr : (Nat.blt r 40 && Nat.blt k n) = true) (hq : gz_rfo r k = none) (ho : gz_B a b na nb) (kk : gz_V l D α cA own cc ret nL d Q I L (gz_i (I (r, a, b) ki) :: st) (pc + 3)) : gz_V l D α cA own cc ret nL d Q I L (.ref (α (r, a, b)) :: st) pc := by
  subst hki
  exact gz_geti hd fl hs hr hq ho kk
theorem gz_putI {idx ci k r n na nb : Nat} {a b v : Int} {ty : FieldType} (ki : Int) (hd : decode cc pc = .ok (.putfield idx, 3)) (fl : gz_FW own idx ci k ty) (hki : (k : Int) = ki) (hs : gz_shp r = (10 + ci, n, na, nb)) (hr : (Nat.blt r 40 && Nat.blt k n) = true) (hq : gz_rfo r k = none) (ho : gz_B a b na nb) (hv : ty = .int ∨ ty = .boolean ∧ (v = 0 ∨ v = 1)) (kk : gz_V l D α cA own cc ret nL d Q (gz_up I (r, a, b) ki v) L st (pc + 3)) : gz_V l D α cA own cc ret nL d Q I L (gz_i v :: .ref (α (r, a, b)) :: st) pc := by
  subst hki
  exact gz_puti hd fl hs hr hq ho hv kk
end
section
variable {l : Launch} {D : va_G} {α : gz_P → Nat} {cA : Nat → ClassId} {own : String} {cc : ByteArray} {ret : Option FieldType} {nL d : Nat} {Q : Option Value → gz_M → Prop} {I : gz_M} {L : List (Option Value)} {st : List Value} {pc : Nat}
theorem gz_imulc {a b : Int} (hd : decode cc pc = .ok (.imul, 1)) (k : gz_V l D α cA own cc ret nL d Q I L (gz_i (b * a) :: st) (pc + 1)) : gz_V l D α cA own cc ret nL d Q I L (gz_i b :: gz_i a :: st) pc := gz_imul hd (by rw [Int.mul_comm a b]; exact k)
end
end
section
/-! pure words and their lemmas -/
theorem gz_upto {P : Int → Prop} (N : Int) (h : ∀ i, i ≤ N → (∀ j, i < j → j ≤ N → P j) → P i) : ∀ i, i ≤ N → P i := by
  have key : ∀ n : Nat, ∀ i, i ≤ N → N - i ≤ n → P i := by
    intro n
    induction n with
    | zero => exact fun i hi hn => h i hi (fun j hj hj2 => by omega)
    | succ n ih => exact fun i hi hn => h i hi (fun j hj hj2 => ih j hj2 (by omega))
  exact fun i hi => key (N - i).toNat i hi (by omega)
theorem gz_downto {P : Int → Prop} (N : Int) (h : ∀ i, N ≤ i → (∀ j, j < i → N ≤ j → P j) → P i) : ∀ i, N ≤ i → P i := by
  have key : ∀ n : Nat, ∀ i, N ≤ i → i - N ≤ n → P i := by
    intro n
    induction n with
    | zero => exact fun i hi hn => h i hi (fun j hj hj2 => by omega)
    | succ n ih => exact fun i hi hn => h i hi (fun j hj hj2 => ih j hj2 (by omega))
  exact fun i hi => key (i - N).toNat i hi (by omega)
theorem gz_up_r {I : gz_M} {r r' : Nat} {a b a' b' j v i : Int} (h : r' ≠ r) : gz_up I (r, a, b) j v (r', a', b') i = I (r', a', b') i := by
  unfold gz_up
  rw [if_neg (fun e => h (congrArg Prod.fst e.1))]
theorem gz_up_s {I : gz_M} {p : gz_P} {j v : Int} : gz_up I p j v p j = v := by
  unfold gz_up
  rw [if_pos ⟨rfl, rfl⟩]
theorem gz_up_k {I : gz_M} {r : Nat} {a b a' b' j v i : Int} : gz_up I (r, a, b) j v (r, a', b') i = if (a' = a ∧ b' = b) ∧ i = j then v else I (r, a', b') i := by
  unfold gz_up
  simp only [Prod.mk.injEq, true_and]
theorem gz_cp_r {I : gz_M} {p : gz_P} {r r' : Nat} {a b a' b' sp dp n i : Int} (h : r' ≠ r) : gz_cp I p (r, a, b) sp dp n (r', a', b') i = I (r', a', b') i := by
  unfold gz_cp
  rw [if_neg (fun e => h (congrArg Prod.fst e.1))]
theorem gz_cp_k {I : gz_M} {p : gz_P} {r : Nat} {a b a' b' sp dp n i : Int} : gz_cp I p (r, a, b) sp dp n (r, a', b') i = if (a' = a ∧ b' = b) ∧ dp ≤ i ∧ i < dp + n then I p (sp + (i - dp)) else I (r, a', b') i := by
  unfold gz_cp
  simp only [Prod.mk.injEq, true_and]
/-- I' is I but for the cells of P -/
def gz_fr (P : gz_P → Prop) (I I' : gz_M) : Prop := ∀ q, ¬ P q → I' q = I q
/-- CUTTING -/
abbrev gz_stop (f : Int → Int) (s at_ k : Int) : Prop := 32 ≤ k ∨ (4 ≤ k ∧ (3 * f (at_ + k - 3) + 5 * f (at_ + k - 2) + 7 * f (at_ + k - 1)) % 11 = 0) ∨ at_ + k = s
def gz_clf (f : Int → Int) (s at_ : Int) : Nat → Int → Int
  | 0, k => k
  | n + 1, k => if gz_stop f s at_ k then k else gz_clf f s at_ n (k + 1)
def gz_ck (f : Int → Int) (s at_ : Int) : Int := gz_clf f s at_ 31 1
theorem gz_clf_eq {f : Int → Int} {s at_ k : Int} : ∀ (n : Nat) (j : Int), j ≤ k → k ≤ j + n → gz_stop f s at_ k → (∀ i, j ≤ i → i < k → ¬ gz_stop f s at_ i) → gz_clf f s at_ n j = k
  | 0, j, h1, h2, _, _ => by unfold gz_clf; omega
  | n + 1, j, h1, h2, h3, h4 => by
    unfold gz_clf
    by_cases h : j = k
    · subst h
      rw [if_pos h3]
    · rw [if_neg (h4 j (by omega) (by omega))]
      exact gz_clf_eq n (j + 1) (by omega) (by omega) h3 (fun i hi hi2 => h4 i (by omega) hi2)
theorem gz_ck_eq {f : Int → Int} {s at_ k : Int} (h1 : 1 ≤ k) (h3 : gz_stop f s at_ k) (h4 : ∀ i, 1 ≤ i → i < k → ¬ gz_stop f s at_ i) : gz_ck f s at_ = k := by
  have h5 : k ≤ 32 := by
    apply Int.not_lt.mp
    intro h
    exact h4 32 (by omega) h (Or.inl (Int.le_refl 32))
  exact gz_clf_eq 31 1 h1 (by omega) h3 h4
theorem gz_clf_ok {f : Int → Int} {s at_ : Int} : ∀ (n : Nat) (j : Int), j + n = 32 → gz_stop f s at_ (gz_clf f s at_ n j) ∧ j ≤ gz_clf f s at_ n j ∧ gz_clf f s at_ n j ≤ 32 ∧ ∀ i, j ≤ i → i < gz_clf f s at_ n j → ¬ gz_stop f s at_ i
  | 0, j, h => by
    unfold gz_clf
    exact ⟨Or.inl (by omega), by omega, by omega, fun i h1 h2 => by omega⟩
  | n + 1, j, h => by
    unfold gz_clf
    by_cases h0 : gz_stop f s at_ j
    · rw [if_pos h0]
      exact ⟨h0, by omega, by omega, fun i h1 h2 => by omega⟩
    · rw [if_neg h0]
      obtain ⟨a, b, c, d⟩ := gz_clf_ok (f := f) (s := s) (at_ := at_) n (j + 1) (by omega)
      refine ⟨a, by omega, c, fun i h1 h2 => ?_⟩
      by_cases e : i = j
      · subst e
        exact h0
      · exact d i (by omega) h2
theorem gz_ck_ok (f : Int → Int) (s at_ : Int) : gz_stop f s at_ (gz_ck f s at_) ∧ 1 ≤ gz_ck f s at_ ∧ gz_ck f s at_ ≤ 32 ∧ ∀ i, 1 ≤ i → i < gz_ck f s at_ → ¬ gz_stop f s at_ i := gz_clf_ok 31 1 rfl
theorem gz_ck_le {f : Int → Int} {s at_ : Int} (h : at_ < s) : at_ + gz_ck f s at_ ≤ s := by
  obtain ⟨-, -, -, d⟩ := gz_ck_ok f s at_
  apply Int.not_lt.mp
  intro h1
  exact d (s - at_) (by omega) (by omega) (Or.inr (Or.inr (by omega)))
theorem gz_ck_4 {f : Int → Int} {s at_ : Int} (h : at_ + gz_ck f s at_ < s) : 4 ≤ gz_ck f s at_ := by
  obtain ⟨a, -, -, -⟩ := gz_ck_ok f s at_
  rcases a with a | a | a <;> omega
/-- where the chunks begin -/
def gz_cs (f : Int → Int) (s : Int) : Nat → Int
  | 0 => 0
  | n + 1 => gz_cs f s n + gz_ck f s (gz_cs f s n)
theorem gz_cs_mono (f : Int → Int) (s : Int) (n : Nat) : gz_cs f s n < gz_cs f s (n + 1) := by
  have := (gz_ck_ok f s (gz_cs f s n)).2.1
  show gz_cs f s n < gz_cs f s n + gz_ck f s (gz_cs f s n)
  omega
theorem gz_cs_lt (f : Int → Int) (s : Int) {i : Nat} : ∀ {j : Nat}, i < j → gz_cs f s i < gz_cs f s j
  | 0, h => by omega
  | j + 1, h => by
    have h1 := gz_cs_mono f s j
    by_cases e : i = j
    · subst e
      exact h1
    · have h2 := gz_cs_lt f s (i := i) (j := j) (by omega)
      omega
theorem gz_cs_le (f : Int → Int) (s : Int) {i j : Nat} (h : i ≤ j) : gz_cs f s i ≤ gz_cs f s j := by
  by_cases e : i = j
  · subst e
    omega
  · have := gz_cs_lt f s (i := i) (j := j) (by omega)
    omega
theorem gz_cs_0 (f : Int → Int) (s : Int) (n : Nat) : 0 ≤ gz_cs f s n := gz_cs_le f s (Nat.zero_le n)
theorem gz_cs_4 {f : Int → Int} {s : Int} : ∀ {n : Nat}, gz_cs f s n < s → 4 * (n : Int) ≤ gz_cs f s n
  | 0, _ => by
    show (4 * ((0 : Nat) : Int)) ≤ 0
    omega
  | n + 1, h => by
    have h1 := gz_cs_mono f s n
    have h2 := gz_cs_4 (f := f) (s := s) (n := n) (by omega)
    have h3 : gz_cs f s (n + 1) = gz_cs f s n + gz_ck f s (gz_cs f s n) := rfl
    have h4 := gz_ck_4 (f := f) (s := s) (at_ := gz_cs f s n) (by omega)
    omega
/-- there are c chunks -/
def gz_cn (f : Int → Int) (s : Int) (c : Nat) : Prop := gz_cs f s c = s
theorem gz_cn_uq {f : Int → Int} {s : Int} {c c' : Nat} (h : gz_cn f s c) (h' : gz_cn f s c') : c = c' := by
  unfold gz_cn at h h'
  rcases Nat.lt_trichotomy c c' with h1 | h1 | h1
  · have := gz_cs_lt f s h1; omega
  · exact h1
  · have := gz_cs_lt f s h1; omega
theorem gz_cn_lt {f : Int → Int} {s : Int} {c j : Nat} (h : gz_cn f s c) (hj : j < c) : gz_cs f s j < s := by
  have := gz_cs_lt f s hj
  unfold gz_cn at h
  omega
theorem gz_cn_75 {f : Int → Int} {s : Int} {c : Nat} (h : gz_cn f s c) (hs : s ≤ 300) : c ≤ 75 := by
  cases c with
  | zero => omega
  | succ c =>
    have h1 := gz_cn_lt h (Nat.lt_succ_self c)
    have h2 := gz_cs_4 h1
    omega
/-- functions that agree below s are cut alike -/
theorem gz_stop_eq {f g : Int → Int} {s at_ k : Int} (h0 : 0 ≤ at_) (hk : at_ + k ≤ s) (e : ∀ i, 0 ≤ i → i < s → f i = g i) : gz_stop f s at_ k ↔ gz_stop g s at_ k := by
  unfold gz_stop
  by_cases h4 : 4 ≤ k
  · rw [e (at_ + k - 3) (by omega) (by omega), e (at_ + k - 2) (by omega) (by omega), e (at_ + k - 1) (by omega) (by omega)]
  · constructor
    · rintro (h | h | h)
      · exact Or.inl h
      · exact absurd h.1 h4
      · exact Or.inr (Or.inr h)
    · rintro (h | h | h)
      · exact Or.inl h
      · exact absurd h.1 h4
      · exact Or.inr (Or.inr h)
theorem gz_ck_cong {f g : Int → Int} {s at_ : Int} (h0 : 0 ≤ at_) (h : at_ < s) (e : ∀ i, 0 ≤ i → i < s → f i = g i) : gz_ck f s at_ = gz_ck g s at_ := by
  obtain ⟨a, b, c, d⟩ := gz_ck_ok g s at_
  have hl := gz_ck_le (f := g) h
  refine gz_ck_eq b ((gz_stop_eq h0 hl e).mpr a) (fun i h1 h2 q => d i h1 h2 ((gz_stop_eq h0 (by omega) e).mp q))
theorem gz_cs_cong {f g : Int → Int} {s : Int} (e : ∀ i, 0 ≤ i → i < s → f i = g i) : ∀ {n : Nat}, (∀ j, j < n → gz_cs f s j < s) → gz_cs f s n = gz_cs g s n
  | 0, _ => rfl
  | n + 1, h => by
    have h1 := gz_cs_cong e (n := n) (fun j hj => h j (by omega))
    have h2 := h n (Nat.lt_succ_self n)
    show gz_cs f s n + gz_ck f s (gz_cs f s n) = gz_cs g s n + gz_ck g s (gz_cs g s n)
    rw [← h1, gz_ck_cong (gz_cs_0 f s n) h2 e]
/-- DIGEST -/
def gz_dg (f : Int → Int) : Nat → Int
  | 0 => 1
  | n + 1 => (31 * gz_dg f n + f n) % 61
theorem gz_dg_in (f : Int → Int) (n : Nat) : 0 ≤ gz_dg f n ∧ gz_dg f n < 61 := by
  cases n with
  | zero => unfold gz_dg; omega
  | succ n =>
    unfold gz_dg
    omega
theorem gz_dg_cong {f g : Int → Int} : ∀ {n : Nat}, (∀ i : Int, 0 ≤ i → i < n → f i = g i) → gz_dg f n = gz_dg g n
  | 0, _ => rfl
  | n + 1, h => by
    unfold gz_dg
    rw [gz_dg_cong (n := n) (fun i h1 h2 => h i h1 (by omega)), h n (by omega) (by omega)]
theorem gz_ne {r r' : Nat} {a b a' b' : Int} (h : (r == r') = false) : ((r, a, b) : gz_P) ≠ (r', a', b') := fun e => by
  have e1 : r = r' := congrArg Prod.fst e
  subst e1
  simp at h
/-- the ranges of the places -/
def gz_lo (r : Nat) (i : Int) : Int := match r with
  | 0 => if i = 6 then 1 else if i = 7 then 0 else -2147483648
  | 3 => -2147483648
  | 16 => if i = 3 then 0 else if i = 5 then 0 else -2147483648
  | 20 => if i = 0 then 1 else -2147483648
  | 30 => -2147483648
  | 32 => -2147483648
  | 35 => -1
  | 36 => -2147483648
  | 37 => -2147483648
  | 38 => -2147483648
  | _ => 0
def gz_hi (r : Nat) (i : Int) : Int := match r with
  | 0 => if i = 6 then 4 else if i = 7 then 12 else 2147483647
  | 4 => 11
  | 5 => 255
  | 6 => 1
  | 7 => 300
  | 8 => 255
  | 9 => 300
  | 11 => 1
  | 12 => 255
  | 13 => 32
  | 14 => 60
  | 15 => 119
  | 16 => if i = 3 then 1 else if i = 5 then 4 else 2147483647
  | 18 => 119
  | 19 => 75
  | 20 => if i = 0 then 4 else 2147483647
  | 21 => 300
  | 22 => 255
  | 23 => 255
  | 24 => 32
  | 25 => 60
  | 26 => 1
  | 27 => 255
  | 28 => 1
  | 29 => 255
  | 31 => 1
  | 33 => 4
  | 34 => 75
  | 35 => 119
  | 39 => 1
  | _ => 2147483647
def gz_T (I : gz_M) : Prop := ∀ (r : Nat) (a b i : Int), gz_lo r i ≤ I (r, a, b) i ∧ I (r, a, b) i ≤ gz_hi r i
theorem gz_T_up {I : gz_M} {r : Nat} {a b j v : Int} (h : gz_T I) (hv : gz_lo r j ≤ v ∧ v ≤ gz_hi r j) : gz_T (gz_up I (r, a, b) j v) := by
  intro r' a' b' i
  unfold gz_up
  by_cases e : ((r', a', b') : gz_P) = (r, a, b) ∧ i = j
  · rw [if_pos e]
    have e1 : r' = r := congrArg Prod.fst e.1
    rw [e1, e.2]
    exact hv
  · rw [if_neg e]
    exact h r' a' b' i
theorem gz_T_cp {I : gz_M} {r1 r2 : Nat} {a1 b1 a2 b2 sp dp n : Int} (h : gz_T I) (h1 : ∀ i, gz_lo r1 i = 0 ∧ gz_hi r1 i = 255) (h2 : ∀ i, gz_lo r2 i = 0 ∧ gz_hi r2 i = 255) : gz_T (gz_cp I (r1, a1, b1) (r2, a2, b2) sp dp n) := by
  intro r' a' b' i
  unfold gz_cp
  by_cases e : ((r', a', b') : gz_P) = (r2, a2, b2) ∧ dp ≤ i ∧ i < dp + n
  · rw [if_pos e]
    have e1 : r' = r2 := congrArg Prod.fst e.1
    rw [e1, (h2 i).1, (h2 i).2]
    have := h r1 a1 b1 (sp + (i - dp))
    rw [(h1 _).1, (h1 _).2] at this
    exact this
  · rw [if_neg e]
    exact h r' a' b' i
theorem gz_t4 {I : gz_M} (h : gz_T I) (a b i : Int) : 0 ≤ I (4, a, b) i ∧ I (4, a, b) i ≤ 11 := h 4 a b i
theorem gz_t5 {I : gz_M} (h : gz_T I) (a b i : Int) : 0 ≤ I (5, a, b) i ∧ I (5, a, b) i ≤ 255 := h 5 a b i
theorem gz_t6 {I : gz_M} (h : gz_T I) (a b i : Int) : 0 ≤ I (6, a, b) i ∧ I (6, a, b) i ≤ 1 := h 6 a b i
theorem gz_t7 {I : gz_M} (h : gz_T I) (a b i : Int) : 0 ≤ I (7, a, b) i ∧ I (7, a, b) i ≤ 300 := h 7 a b i
theorem gz_t8 {I : gz_M} (h : gz_T I) (a b i : Int) : 0 ≤ I (8, a, b) i ∧ I (8, a, b) i ≤ 255 := h 8 a b i
theorem gz_t9 {I : gz_M} (h : gz_T I) (a b i : Int) : 0 ≤ I (9, a, b) i ∧ I (9, a, b) i ≤ 300 := h 9 a b i
theorem gz_t11 {I : gz_M} (h : gz_T I) (a b i : Int) : 0 ≤ I (11, a, b) i ∧ I (11, a, b) i ≤ 1 := h 11 a b i
theorem gz_t12 {I : gz_M} (h : gz_T I) (a b i : Int) : 0 ≤ I (12, a, b) i ∧ I (12, a, b) i ≤ 255 := h 12 a b i
theorem gz_t13 {I : gz_M} (h : gz_T I) (a b i : Int) : 0 ≤ I (13, a, b) i ∧ I (13, a, b) i ≤ 32 := h 13 a b i
theorem gz_t14 {I : gz_M} (h : gz_T I) (a b i : Int) : 0 ≤ I (14, a, b) i ∧ I (14, a, b) i ≤ 60 := h 14 a b i
theorem gz_t15 {I : gz_M} (h : gz_T I) (a b i : Int) : 0 ≤ I (15, a, b) i ∧ I (15, a, b) i ≤ 119 := h 15 a b i
theorem gz_t18 {I : gz_M} (h : gz_T I) (a b i : Int) : 0 ≤ I (18, a, b) i ∧ I (18, a, b) i ≤ 119 := h 18 a b i
theorem gz_t19 {I : gz_M} (h : gz_T I) (a b i : Int) : 0 ≤ I (19, a, b) i ∧ I (19, a, b) i ≤ 75 := h 19 a b i
theorem gz_t21 {I : gz_M} (h : gz_T I) (a b i : Int) : 0 ≤ I (21, a, b) i ∧ I (21, a, b) i ≤ 300 := h 21 a b i
theorem gz_t22 {I : gz_M} (h : gz_T I) (a b i : Int) : 0 ≤ I (22, a, b) i ∧ I (22, a, b) i ≤ 255 := h 22 a b i
theorem gz_t23 {I : gz_M} (h : gz_T I) (a b i : Int) : 0 ≤ I (23, a, b) i ∧ I (23, a, b) i ≤ 255 := h 23 a b i
theorem gz_t24 {I : gz_M} (h : gz_T I) (a b i : Int) : 0 ≤ I (24, a, b) i ∧ I (24, a, b) i ≤ 32 := h 24 a b i
theorem gz_t25 {I : gz_M} (h : gz_T I) (a b i : Int) : 0 ≤ I (25, a, b) i ∧ I (25, a, b) i ≤ 60 := h 25 a b i
theorem gz_t26 {I : gz_M} (h : gz_T I) (a b i : Int) : 0 ≤ I (26, a, b) i ∧ I (26, a, b) i ≤ 1 := h 26 a b i
theorem gz_t27 {I : gz_M} (h : gz_T I) (a b i : Int) : 0 ≤ I (27, a, b) i ∧ I (27, a, b) i ≤ 255 := h 27 a b i
theorem gz_t28 {I : gz_M} (h : gz_T I) (a b i : Int) : 0 ≤ I (28, a, b) i ∧ I (28, a, b) i ≤ 1 := h 28 a b i
theorem gz_t29 {I : gz_M} (h : gz_T I) (a b i : Int) : 0 ≤ I (29, a, b) i ∧ I (29, a, b) i ≤ 255 := h 29 a b i
theorem gz_t30 {I : gz_M} (h : gz_T I) (a b i : Int) : -2147483648 ≤ I (30, a, b) i ∧ I (30, a, b) i ≤ 2147483647 := h 30 a b i
theorem gz_t31 {I : gz_M} (h : gz_T I) (a b i : Int) : 0 ≤ I (31, a, b) i ∧ I (31, a, b) i ≤ 1 := h 31 a b i
theorem gz_t32 {I : gz_M} (h : gz_T I) (a b i : Int) : -2147483648 ≤ I (32, a, b) i ∧ I (32, a, b) i ≤ 2147483647 := h 32 a b i
theorem gz_t33 {I : gz_M} (h : gz_T I) (a b i : Int) : 0 ≤ I (33, a, b) i ∧ I (33, a, b) i ≤ 4 := h 33 a b i
theorem gz_t34 {I : gz_M} (h : gz_T I) (a b i : Int) : 0 ≤ I (34, a, b) i ∧ I (34, a, b) i ≤ 75 := h 34 a b i
theorem gz_t35 {I : gz_M} (h : gz_T I) (a b i : Int) : -1 ≤ I (35, a, b) i ∧ I (35, a, b) i ≤ 119 := h 35 a b i
theorem gz_t39 {I : gz_M} (h : gz_T I) (a b i : Int) : 0 ≤ I (39, a, b) i ∧ I (39, a, b) i ≤ 1 := h 39 a b i
theorem gz_tk {I : gz_M} (h : gz_T I) (a b : Int) : 1 ≤ I (0, a, b) 6 ∧ I (0, a, b) 6 ≤ 4 := h 0 a b 6
theorem gz_th {I : gz_M} (h : gz_T I) (a b : Int) : 0 ≤ I (0, a, b) 7 ∧ I (0, a, b) 7 ≤ 12 := h 0 a b 7
theorem gz_tn8 {I : gz_M} (h : gz_T I) (a b : Int) : -2147483648 ≤ I (0, a, b) 8 ∧ I (0, a, b) 8 ≤ 2147483647 := h 0 a b 8
theorem gz_tm2 {I : gz_M} (h : gz_T I) (a b : Int) : -2147483648 ≤ I (16, a, b) 2 ∧ I (16, a, b) 2 ≤ 2147483647 := h 16 a b 2
theorem gz_tm3 {I : gz_M} (h : gz_T I) (a b : Int) : 0 ≤ I (16, a, b) 3 ∧ I (16, a, b) 3 ≤ 1 := h 16 a b 3
theorem gz_tm4 {I : gz_M} (h : gz_T I) (a b : Int) : -2147483648 ≤ I (16, a, b) 4 ∧ I (16, a, b) 4 ≤ 2147483647 := h 16 a b 4
theorem gz_tm5 {I : gz_M} (h : gz_T I) (a b : Int) : 0 ≤ I (16, a, b) 5 ∧ I (16, a, b) 5 ≤ 4 := h 16 a b 5
theorem gz_tM0 {I : gz_M} (h : gz_T I) (a b : Int) : 1 ≤ I (20, a, b) 0 ∧ I (20, a, b) 0 ≤ 4 := h 20 a b 0
theorem gz_tM10 {I : gz_M} (h : gz_T I) (a b : Int) : -2147483648 ≤ I (20, a, b) 10 ∧ I (20, a, b) 10 ≤ 2147483647 := h 20 a b 10
end
section
theorem gz_Tu3 {I : gz_M} {a b j v : Int} (h : gz_T I) (hv : -2147483648 ≤ v ∧ v ≤ 2147483647) : gz_T (gz_up I (3, a, b) j v) := gz_T_up h hv
theorem gz_Tu4 {I : gz_M} {a b j v : Int} (h : gz_T I) (hv : 0 ≤ v ∧ v ≤ 11) : gz_T (gz_up I (4, a, b) j v) := gz_T_up h hv
theorem gz_Tu5 {I : gz_M} {a b j v : Int} (h : gz_T I) (hv : 0 ≤ v ∧ v ≤ 255) : gz_T (gz_up I (5, a, b) j v) := gz_T_up h hv
theorem gz_Tu6 {I : gz_M} {a b j v : Int} (h : gz_T I) (hv : 0 ≤ v ∧ v ≤ 1) : gz_T (gz_up I (6, a, b) j v) := gz_T_up h hv
theorem gz_Tu7 {I : gz_M} {a b j v : Int} (h : gz_T I) (hv : 0 ≤ v ∧ v ≤ 300) : gz_T (gz_up I (7, a, b) j v) := gz_T_up h hv
theorem gz_Tu8 {I : gz_M} {a b j v : Int} (h : gz_T I) (hv : 0 ≤ v ∧ v ≤ 255) : gz_T (gz_up I (8, a, b) j v) := gz_T_up h hv
theorem gz_Tu9 {I : gz_M} {a b j v : Int} (h : gz_T I) (hv : 0 ≤ v ∧ v ≤ 300) : gz_T (gz_up I (9, a, b) j v) := gz_T_up h hv
theorem gz_Tu11 {I : gz_M} {a b j v : Int} (h : gz_T I) (hv : 0 ≤ v ∧ v ≤ 1) : gz_T (gz_up I (11, a, b) j v) := gz_T_up h hv
theorem gz_Tu12 {I : gz_M} {a b j v : Int} (h : gz_T I) (hv : 0 ≤ v ∧ v ≤ 255) : gz_T (gz_up I (12, a, b) j v) := gz_T_up h hv
theorem gz_Tu13 {I : gz_M} {a b j v : Int} (h : gz_T I) (hv : 0 ≤ v ∧ v ≤ 32) : gz_T (gz_up I (13, a, b) j v) := gz_T_up h hv
theorem gz_Tu14 {I : gz_M} {a b j v : Int} (h : gz_T I) (hv : 0 ≤ v ∧ v ≤ 60) : gz_T (gz_up I (14, a, b) j v) := gz_T_up h hv
theorem gz_Tu15 {I : gz_M} {a b j v : Int} (h : gz_T I) (hv : 0 ≤ v ∧ v ≤ 119) : gz_T (gz_up I (15, a, b) j v) := gz_T_up h hv
theorem gz_Tu18 {I : gz_M} {a b j v : Int} (h : gz_T I) (hv : 0 ≤ v ∧ v ≤ 119) : gz_T (gz_up I (18, a, b) j v) := gz_T_up h hv
theorem gz_Tu19 {I : gz_M} {a b j v : Int} (h : gz_T I) (hv : 0 ≤ v ∧ v ≤ 75) : gz_T (gz_up I (19, a, b) j v) := gz_T_up h hv
theorem gz_Tu21 {I : gz_M} {a b j v : Int} (h : gz_T I) (hv : 0 ≤ v ∧ v ≤ 300) : gz_T (gz_up I (21, a, b) j v) := gz_T_up h hv
theorem gz_Tu22 {I : gz_M} {a b j v : Int} (h : gz_T I) (hv : 0 ≤ v ∧ v ≤ 255) : gz_T (gz_up I (22, a, b) j v) := gz_T_up h hv
theorem gz_Tu23 {I : gz_M} {a b j v : Int} (h : gz_T I) (hv : 0 ≤ v ∧ v ≤ 255) : gz_T (gz_up I (23, a, b) j v) := gz_T_up h hv
theorem gz_Tu24 {I : gz_M} {a b j v : Int} (h : gz_T I) (hv : 0 ≤ v ∧ v ≤ 32) : gz_T (gz_up I (24, a, b) j v) := gz_T_up h hv
theorem gz_Tu25 {I : gz_M} {a b j v : Int} (h : gz_T I) (hv : 0 ≤ v ∧ v ≤ 60) : gz_T (gz_up I (25, a, b) j v) := gz_T_up h hv
theorem gz_Tu26 {I : gz_M} {a b j v : Int} (h : gz_T I) (hv : 0 ≤ v ∧ v ≤ 1) : gz_T (gz_up I (26, a, b) j v) := gz_T_up h hv
theorem gz_Tu27 {I : gz_M} {a b j v : Int} (h : gz_T I) (hv : 0 ≤ v ∧ v ≤ 255) : gz_T (gz_up I (27, a, b) j v) := gz_T_up h hv
theorem gz_Tu28 {I : gz_M} {a b j v : Int} (h : gz_T I) (hv : 0 ≤ v ∧ v ≤ 1) : gz_T (gz_up I (28, a, b) j v) := gz_T_up h hv
theorem gz_Tu29 {I : gz_M} {a b j v : Int} (h : gz_T I) (hv : 0 ≤ v ∧ v ≤ 255) : gz_T (gz_up I (29, a, b) j v) := gz_T_up h hv
theorem gz_Tu30 {I : gz_M} {a b j v : Int} (h : gz_T I) (hv : -2147483648 ≤ v ∧ v ≤ 2147483647) : gz_T (gz_up I (30, a, b) j v) := gz_T_up h hv
theorem gz_Tu31 {I : gz_M} {a b j v : Int} (h : gz_T I) (hv : 0 ≤ v ∧ v ≤ 1) : gz_T (gz_up I (31, a, b) j v) := gz_T_up h hv
theorem gz_Tu32 {I : gz_M} {a b j v : Int} (h : gz_T I) (hv : -2147483648 ≤ v ∧ v ≤ 2147483647) : gz_T (gz_up I (32, a, b) j v) := gz_T_up h hv
theorem gz_Tu33 {I : gz_M} {a b j v : Int} (h : gz_T I) (hv : 0 ≤ v ∧ v ≤ 4) : gz_T (gz_up I (33, a, b) j v) := gz_T_up h hv
theorem gz_Tu34 {I : gz_M} {a b j v : Int} (h : gz_T I) (hv : 0 ≤ v ∧ v ≤ 75) : gz_T (gz_up I (34, a, b) j v) := gz_T_up h hv
theorem gz_Tu35 {I : gz_M} {a b j v : Int} (h : gz_T I) (hv : -1 ≤ v ∧ v ≤ 119) : gz_T (gz_up I (35, a, b) j v) := gz_T_up h hv
theorem gz_Tu36 {I : gz_M} {a b j v : Int} (h : gz_T I) (hv : -2147483648 ≤ v ∧ v ≤ 2147483647) : gz_T (gz_up I (36, a, b) j v) := gz_T_up h hv
theorem gz_Tu37 {I : gz_M} {a b j v : Int} (h : gz_T I) (hv : -2147483648 ≤ v ∧ v ≤ 2147483647) : gz_T (gz_up I (37, a, b) j v) := gz_T_up h hv
theorem gz_Tu38 {I : gz_M} {a b j v : Int} (h : gz_T I) (hv : -2147483648 ≤ v ∧ v ≤ 2147483647) : gz_T (gz_up I (38, a, b) j v) := gz_T_up h hv
theorem gz_Tu39 {I : gz_M} {a b j v : Int} (h : gz_T I) (hv : 0 ≤ v ∧ v ≤ 1) : gz_T (gz_up I (39, a, b) j v) := gz_T_up h hv
theorem gz_Tu0_6 {I : gz_M} {a b v : Int} (h : gz_T I) (hv : 1 ≤ v ∧ v ≤ 4) : gz_T (gz_up I (0, a, b) 6 v) := gz_T_up h hv
theorem gz_Tu0_7 {I : gz_M} {a b v : Int} (h : gz_T I) (hv : 0 ≤ v ∧ v ≤ 12) : gz_T (gz_up I (0, a, b) 7 v) := gz_T_up h hv
theorem gz_Tu0_8 {I : gz_M} {a b v : Int} (h : gz_T I) (hv : -2147483648 ≤ v ∧ v ≤ 2147483647) : gz_T (gz_up I (0, a, b) 8 v) := gz_T_up h hv
theorem gz_Tu16_2 {I : gz_M} {a b v : Int} (h : gz_T I) (hv : -2147483648 ≤ v ∧ v ≤ 2147483647) : gz_T (gz_up I (16, a, b) 2 v) := gz_T_up h hv
theorem gz_Tu16_3 {I : gz_M} {a b v : Int} (h : gz_T I) (hv : 0 ≤ v ∧ v ≤ 1) : gz_T (gz_up I (16, a, b) 3 v) := gz_T_up h hv
theorem gz_Tu16_4 {I : gz_M} {a b v : Int} (h : gz_T I) (hv : -2147483648 ≤ v ∧ v ≤ 2147483647) : gz_T (gz_up I (16, a, b) 4 v) := gz_T_up h hv
theorem gz_Tu16_5 {I : gz_M} {a b v : Int} (h : gz_T I) (hv : 0 ≤ v ∧ v ≤ 4) : gz_T (gz_up I (16, a, b) 5 v) := gz_T_up h hv
theorem gz_Tu16_6 {I : gz_M} {a b v : Int} (h : gz_T I) (hv : -2147483648 ≤ v ∧ v ≤ 2147483647) : gz_T (gz_up I (16, a, b) 6 v) := gz_T_up h hv
theorem gz_Tu16_7 {I : gz_M} {a b v : Int} (h : gz_T I) (hv : -2147483648 ≤ v ∧ v ≤ 2147483647) : gz_T (gz_up I (16, a, b) 7 v) := gz_T_up h hv
theorem gz_Tu16_8 {I : gz_M} {a b v : Int} (h : gz_T I) (hv : -2147483648 ≤ v ∧ v ≤ 2147483647) : gz_T (gz_up I (16, a, b) 8 v) := gz_T_up h hv
theorem gz_Tu20_0 {I : gz_M} {a b v : Int} (h : gz_T I) (hv : 1 ≤ v ∧ v ≤ 4) : gz_T (gz_up I (20, a, b) 0 v) := gz_T_up h hv
theorem gz_Tu20_10 {I : gz_M} {a b v : Int} (h : gz_T I) (hv : -2147483648 ≤ v ∧ v ≤ 2147483647) : gz_T (gz_up I (20, a, b) 10 v) := gz_T_up h hv
/-- sums and least numbers -/
def gz_sm (f : Int → Int) : Nat → Int
  | 0 => 0
  | n + 1 => gz_sm f n + f n
theorem gz_sm_s {f : Int → Int} {n : Nat} : gz_sm f (n + 1) = gz_sm f n + f n := rfl
theorem gz_sm_cong {f g : Int → Int} : ∀ {n : Nat}, (∀ i : Int, 0 ≤ i → i < n → f i = g i) → gz_sm f n = gz_sm g n
  | 0, _ => rfl
  | n + 1, h => by
    unfold gz_sm
    rw [gz_sm_cong (n := n) (fun i h1 h2 => h i h1 (by omega)), h n (by omega) (by omega)]
theorem gz_sm_in {f : Int → Int} {lo hi : Int} (h : ∀ i, lo ≤ f i ∧ f i ≤ hi) : ∀ n : Nat, lo * n ≤ gz_sm f n ∧ gz_sm f n ≤ hi * n
  | 0 => by unfold gz_sm; omega
  | n + 1 => by
    unfold gz_sm
    have h1 := gz_sm_in h n
    have h2 := h n
    rw [Int.natCast_add, Int.mul_add, Int.mul_add]
    omega
theorem gz_sm_up {f g : Int → Int} {q : Int} (h : ∀ i, i ≠ q → g i = f i) : ∀ n : Nat, gz_sm g n = gz_sm f n + if 0 ≤ q ∧ q < n then g q - f q else 0
  | 0 => by
    unfold gz_sm
    rw [if_neg (by omega)]
    rfl
  | n + 1 => by
    unfold gz_sm
    rw [gz_sm_up h n]
    by_cases e : q = n
    · subst e
      rw [if_neg (by omega), if_pos (by omega)]
      omega
    · rw [h n (fun e2 => e e2.symm)]
      by_cases e3 : 0 ≤ q ∧ q < n
      · rw [if_pos e3, if_pos (by omega)]
        omega
      · rw [if_neg e3, if_neg (by omega)]
        omega
noncomputable def gz_b (P : Prop) : Int := @ite _ P (Classical.propDecidable P) 1 0
theorem gz_b1 {P : Prop} (h : P) : gz_b P = 1 := by unfold gz_b; rw [if_pos h]
theorem gz_b0 {P : Prop} (h : ¬ P) : gz_b P = 0 := by unfold gz_b; rw [if_neg h]
theorem gz_b_in (P : Prop) : 0 ≤ gz_b P ∧ gz_b P ≤ 1 := by
  by_cases h : P
  · rw [gz_b1 h]; omega
  · rw [gz_b0 h]; omega
theorem gz_b_cong {P Q : Prop} (h : P ↔ Q) : gz_b P = gz_b Q := by rw [propext h]
/-- copies and PARTS that are not BROKEN; marks that are USABLE; PARTS that a mark names -/
def gz_snd (I : gz_M) (a p : Int) : Prop := I (11, a, 0) p = 1 ∧ gz_dg (fun i => I (12, a, 0) (32 * p + i)) (I (13, 0, 0) p).toNat = I (14, 0, 0) p
def gz_rdb (I : gz_M) (t p : Int) : Prop := gz_snd I t p ∨ gz_snd I 4 p
def gz_usb (I : gz_M) (k : Int) : Prop := I (16, k, 0) 3 = 1 ∧ ∀ t, 0 ≤ t → t < I (16, k, 0) 5 → ∀ j, 0 ≤ j → j < I (19, k, 0) t → gz_rdb I t (I (18, k, t) j)
def gz_nmd (I : gz_M) (k p : Int) : Prop := ∃ t j, (0 ≤ t ∧ t < I (16, k, 0) 5) ∧ (0 ≤ j ∧ j < I (19, k, 0) t) ∧ I (18, k, t) j = p
noncomputable def gz_lf (P : Int → Prop) : Nat → Int → Int
  | 0, _ => -1
  | n + 1, p => @ite _ (P p) (Classical.propDecidable _) p (gz_lf P n (p + 1))
/-- the least number below 120 with P, or -1 -/
noncomputable def gz_lst (P : Int → Prop) : Int := gz_lf P 120 0
theorem gz_lf_eq {P : Int → Prop} {x : Int} (hx : P x) : ∀ (n : Nat) (p : Int), p ≤ x → x < p + n → (∀ q, p ≤ q → q < x → ¬ P q) → gz_lf P n p = x
  | 0, p, h1, h2, _ => by omega
  | n + 1, p, h1, h2, h3 => by
    unfold gz_lf
    by_cases e : p = x
    · subst e
      rw [if_pos hx]
    · rw [if_neg (h3 p (by omega) (by omega))]
      exact gz_lf_eq hx n (p + 1) (by omega) (by omega) (fun q h4 h5 => h3 q (by omega) h5)
theorem gz_lf_no {P : Int → Prop} : ∀ (n : Nat) (p : Int), (∀ q, p ≤ q → q < p + n → ¬ P q) → gz_lf P n p = -1
  | 0, p, _ => by unfold gz_lf; rfl
  | n + 1, p, h => by
    unfold gz_lf
    rw [if_neg (h p (by omega) (by omega))]
    exact gz_lf_no n (p + 1) (fun q h4 h5 => h q (by omega) (by omega))
theorem gz_lst_eq {P : Int → Prop} {x : Int} (h0 : 0 ≤ x ∧ x < 120) (hx : P x) (h : ∀ q, 0 ≤ q → q < x → ¬ P q) : gz_lst P = x := gz_lf_eq hx 120 0 h0.1 (by omega) h
theorem gz_lst_no {P : Int → Prop} (h : ∀ q, 0 ≤ q → q < 120 → ¬ P q) : gz_lst P = -1 := gz_lf_no 120 0 (fun q h1 h2 => h q h1 (by omega))
/-- THE STORE as it can be seen: sizes, digests, whether it has its bytes, bytes -/
abbrev gz_S : Type := Nat → Int → Int → Int
noncomputable def gz_aX (I : gz_M) : gz_S := fun c p i => match c with
  | 0 => if 0 ≤ p ∧ p < 120 then I (13, 0, 0) p else 0
  | 1 => if (0 ≤ p ∧ p < 120) ∧ 0 < I (13, 0, 0) p then I (14, 0, 0) p else 0
  | 2 => if (0 ≤ p ∧ p < 120) ∧ 0 < I (13, 0, 0) p then I (11, 4, 0) p else 0
  | 3 => if (0 ≤ p ∧ p < 120) ∧ 0 ≤ i ∧ i < I (13, 0, 0) p then I (12, 4, 0) (32 * p + i) else 0
  | _ => 0
noncomputable def gz_aM (I : gz_M) : gz_S := fun c p i => match c with
  | 0 => if 0 ≤ p ∧ p < 120 then I (24, 0, 0) p else 0
  | 1 => if (0 ≤ p ∧ p < 120) ∧ 0 < I (24, 0, 0) p then I (25, 0, 0) p else 0
  | 2 => if (0 ≤ p ∧ p < 120) ∧ 0 < I (24, 0, 0) p then 1 - I (26, 0, 0) p else 0
  | 3 => if (0 ≤ p ∧ p < 120) ∧ 0 ≤ i ∧ i < I (24, 0, 0) p then I (27, 0, 0) (32 * p + i) else 0
  | _ => 0
def gz_mt (S : gz_S) (f : Int → Int) (n p : Int) : Prop := S 0 p 0 = n ∧ S 1 p 0 = gz_dg f n.toNat ∧ S 2 p 0 = 1 ∧ ∀ i, 0 ≤ i → i < n → S 3 p i = f i
def gz_tot (S : gz_S) : Int := gz_sm (fun p => S 0 p 0) 120
def gz_cnt (S : gz_S) : Int := gz_sm (fun p => if 0 < S 0 p 0 then 1 else 0) 120
def gz_add (S : gz_S) (q : Int) (f : Int → Int) (n : Int) : gz_S := fun c p i => if p = q then (match c with
  | 0 => n
  | 1 => gz_dg f n.toNat
  | 2 => 1
  | 3 => if 0 ≤ i ∧ i < n then f i else 0
  | _ => 0) else S c p i
/-- the part for a chunk: which (-1: there is no room), and the store then -/
noncomputable def gz_s1 (S : gz_S) (f : Int → Int) (n : Int) : Int × gz_S :=
  if gz_lst (gz_mt S f n) = -1 then
    if gz_lst (fun p => S 0 p 0 = 0) = -1 ∨ 2400 < gz_tot S + n then (-1, S)
    else (gz_lst (fun p => S 0 p 0 = 0), gz_add S (gz_lst (fun p => S 0 p 0 = 0)) f n)
  else (gz_lst (gz_mt S f n), S)
end
section
set_option maxHeartbeats 4000000 in
set_option maxRecDepth 100000 in
theorem ct_X4_isTask (l : Launch) (D : va_G) (α : gz_P → Nat) (cA : Nat → ClassId) {I : gz_M} {t : Int} (ht : -2147483648 ≤ t ∧ t ≤ 2147483647) (hT : 1 ≤ I (0, 0, 0) 6 ∧ I (0, 0, 0) 6 ≤ 4) : gz_V l D α cA RX4 cX4_isTask (some .boolean) 2 0 (gz_Qi fun x I' => I = I' ∧ (x = 1 ∧ 0 ≤ t ∧ t < I (0, 0, 0) 6 ∨ x = 0 ∧ ¬ (0 ≤ t ∧ t < I (0, 0, 0) 6))) I [some (.ref (α (0, 0, 0))), some (gz_i (t))] [] 0 := by
  refine gz_iload_n (pc := 0) dX4_isTask_0 rfl ?_
  refine gz_if_lt (pc := 1) (tgt := 16) dX4_isTask_1 (by decide) (by omega) (fun h1 => ?_) (fun h1 => ?_)
  · refine gz_iconst (pc := 16) dX4_isTask_16 ?_
    refine gz_zret (pc := 17) dX4_isTask_17 rfl (by first | exact Or.inl rfl | exact Or.inr rfl | omega) ?_
    exact ⟨rfl, by omega⟩
  · refine gz_iload_n (pc := 4) dX4_isTask_4 rfl ?_
    first | refine gz_aload_n (pc := 5) dX4_isTask_5 rfl ?_ | refine gz_aload_nN (pc := 5) dX4_isTask_5 rfl ?_
    refine gz_getI (pc := 6) 6 dX4_isTask_6 fl_X4_42 rfl rfl rfl rfl (by first | exact gz_B1 | (omega)) ?_
    refine gz_icmp_ge (pc := 9) (tgt := 16) dX4_isTask_9 (by decide) (by omega) (by omega) (fun h9 => ?_) (fun h9 => ?_)
    · refine gz_iconst (pc := 16) dX4_isTask_16 ?_
      refine gz_zret (pc := 17) dX4_isTask_17 rfl (by first | exact Or.inl rfl | exact Or.inr rfl | omega) ?_
      exact ⟨rfl, by omega⟩
    · refine gz_iconst (pc := 12) dX4_isTask_12 ?_
      refine gz_goto (pc := 13) (tgt := 17) dX4_isTask_13 (by decide) ?_
      refine gz_zret (pc := 17) dX4_isTask_17 rfl (by first | exact Or.inl rfl | exact Or.inr rfl | omega) ?_
      exact ⟨rfl, by omega⟩
set_option maxHeartbeats 4000000 in
set_option maxRecDepth 100000 in
theorem ct_X2_open (l : Launch) (D : va_G) (α : gz_P → Nat) (cA : Nat → ClassId) {I : gz_M} {t : Int} (ht : 0 ≤ t ∧ t < 4) (hs : 0 ≤ I (7, t, 0) 2 ∧ I (7, t, 0) 2 ≤ 300) {a n : Int} (ha : 0 ≤ a ∧ a ≤ I (7, t, 0) 2) (hn : 0 ≤ n ∧ I (7, t, 0) 2 + n ≤ 300) : gz_V l D α cA RX2 cX2_open none 3 1 (gz_Qv fun I' => I' = gz_up (gz_cp I (8, t, 0) (8, t, 0) a (a + n) (I (7, t, 0) 2 - a)) (7, t, 0) 2 (I (7, t, 0) 2 + n)) I [some (.ref (α (7, t, 0))), some (gz_i (a)), some (gz_i (n))] [] 0 := by
  first | refine gz_aload_n (pc := 0) dX2_open_0 rfl ?_ | refine gz_aload_nN (pc := 0) dX2_open_0 rfl ?_
  refine gz_getr (pc := 1) dX2_open_1 fl_X2_9 rfl rfl rfl (by first | exact gz_B1 | (omega)) ?_
  refine gz_iload_n (pc := 4) dX2_open_4 rfl ?_
  first | refine gz_aload_n (pc := 5) dX2_open_5 rfl ?_ | refine gz_aload_nN (pc := 5) dX2_open_5 rfl ?_
  refine gz_getr (pc := 6) dX2_open_6 fl_X2_9 rfl rfl rfl (by first | exact gz_B1 | (omega)) ?_
  refine gz_iload_n (pc := 9) dX2_open_9 rfl ?_
  refine gz_iload_n (pc := 10) dX2_open_10 rfl ?_
  refine gz_iadd (pc := 11) dX2_open_11 ?_
  first | refine gz_aload_n (pc := 12) dX2_open_12 rfl ?_ | refine gz_aload_nN (pc := 12) dX2_open_12 rfl ?_
  refine gz_getI (pc := 13) 2 dX2_open_13 fl_X2_18 rfl rfl rfl rfl (by first | exact gz_B1 | (omega)) ?_
  refine gz_iload_n (pc := 16) dX2_open_16 rfl ?_
  refine gz_isub (pc := 17) dX2_open_17 ?_
  refine gz_copy (pc := 18) dX2_open_18 wm_X2_22 rfl rfl rfl rfl (Nat.le_of_ble_eq_true rfl) (by first | exact gz_B1 | (omega)) (by first | exact gz_B1 | (omega)) (by omega) ?_
  first | refine gz_aload_n (pc := 21) dX2_open_21 rfl ?_ | refine gz_aload_nN (pc := 21) dX2_open_21 rfl ?_
  refine gz_dup (pc := 22) dX2_open_22 rfl ?_
  refine gz_getI (pc := 23) 2 dX2_open_23 fl_X2_18 rfl rfl rfl rfl (by first | exact gz_B1 | (omega)) ?_
  refine gz_iload_n (pc := 26) dX2_open_26 rfl ?_
  refine gz_iadd (pc := 27) dX2_open_27 ?_
  refine gz_putI (pc := 28) 2 dX2_open_28 fw_X2_18 rfl rfl rfl rfl (by first | exact gz_B1 | (omega)) (Or.inl rfl) ?_
  refine gz_vret (pc := 31) dX2_open_31 rfl ?_
  simp (decide := true) only [gz_up_r, gz_up_s, gz_cp_r]
set_option maxHeartbeats 4000000 in
set_option maxRecDepth 100000 in
theorem ct_X2_close (l : Launch) (D : va_G) (α : gz_P → Nat) (cA : Nat → ClassId) {I : gz_M} {t : Int} (ht : 0 ≤ t ∧ t < 4) (hs : 0 ≤ I (7, t, 0) 2 ∧ I (7, t, 0) 2 ≤ 300) {a n : Int} (ha : 0 ≤ a) (hn : 0 ≤ n ∧ a + n ≤ I (7, t, 0) 2) : gz_V l D α cA RX2 cX2_close none 3 1 (gz_Qv fun I' => I' = gz_up (gz_cp I (8, t, 0) (8, t, 0) (a + n) a (I (7, t, 0) 2 - a - n)) (7, t, 0) 2 (I (7, t, 0) 2 - n)) I [some (.ref (α (7, t, 0))), some (gz_i (a)), some (gz_i (n))] [] 0 := by
  first | refine gz_aload_n (pc := 0) dX2_close_0 rfl ?_ | refine gz_aload_nN (pc := 0) dX2_close_0 rfl ?_
  refine gz_getr (pc := 1) dX2_close_1 fl_X2_9 rfl rfl rfl (by first | exact gz_B1 | (omega)) ?_
  refine gz_iload_n (pc := 4) dX2_close_4 rfl ?_
  refine gz_iload_n (pc := 5) dX2_close_5 rfl ?_
  refine gz_iadd (pc := 6) dX2_close_6 ?_
  first | refine gz_aload_n (pc := 7) dX2_close_7 rfl ?_ | refine gz_aload_nN (pc := 7) dX2_close_7 rfl ?_
  refine gz_getr (pc := 8) dX2_close_8 fl_X2_9 rfl rfl rfl (by first | exact gz_B1 | (omega)) ?_
  refine gz_iload_n (pc := 11) dX2_close_11 rfl ?_
  first | refine gz_aload_n (pc := 12) dX2_close_12 rfl ?_ | refine gz_aload_nN (pc := 12) dX2_close_12 rfl ?_
  refine gz_getI (pc := 13) 2 dX2_close_13 fl_X2_18 rfl rfl rfl rfl (by first | exact gz_B1 | (omega)) ?_
  refine gz_iload_n (pc := 16) dX2_close_16 rfl ?_
  refine gz_isub (pc := 17) dX2_close_17 ?_
  refine gz_iload_n (pc := 18) dX2_close_18 rfl ?_
  refine gz_isub (pc := 19) dX2_close_19 ?_
  refine gz_copy (pc := 20) dX2_close_20 wm_X2_22 rfl rfl rfl rfl (Nat.le_of_ble_eq_true rfl) (by first | exact gz_B1 | (omega)) (by first | exact gz_B1 | (omega)) (by omega) ?_
  first | refine gz_aload_n (pc := 23) dX2_close_23 rfl ?_ | refine gz_aload_nN (pc := 23) dX2_close_23 rfl ?_
  refine gz_dup (pc := 24) dX2_close_24 rfl ?_
  refine gz_getI (pc := 25) 2 dX2_close_25 fl_X2_18 rfl rfl rfl rfl (by first | exact gz_B1 | (omega)) ?_
  refine gz_iload_n (pc := 28) dX2_close_28 rfl ?_
  refine gz_isub (pc := 29) dX2_close_29 ?_
  refine gz_putI (pc := 30) 2 dX2_close_30 fw_X2_18 rfl rfl rfl rfl (by first | exact gz_B1 | (omega)) (Or.inl rfl) ?_
  refine gz_vret (pc := 33) dX2_close_33 rfl ?_
  simp (decide := true) only [gz_up_r, gz_up_s, gz_cp_r]
set_option maxHeartbeats 4000000 in
set_option maxRecDepth 100000 in
theorem ct_X2_append (l : Launch) (D : va_G) (α : gz_P → Nat) (cA : Nat → ClassId) {I : gz_M} {t : Int} (ht : 0 ≤ t ∧ t < 4) (hs : 0 ≤ I (7, t, 0) 2 ∧ I (7, t, 0) 2 ≤ 300) {r sz na nb : Nat} {a n b c : Int} (hr : gz_shp r = (0, sz, na, nb)) (hr2 : (Nat.blt r 40 && Nat.blt 8 40 && Nat.ble sz 65536 && Nat.ble 300 65536) = true) (hb : gz_B b c na nb) (ha : 0 ≤ a ∧ 0 ≤ n ∧ a + n ≤ sz) (hn : I (7, t, 0) 2 + n ≤ 300) : gz_V l D α cA RX2 cX2_append none 4 1 (gz_Qv fun I' => I' = gz_up (gz_cp I (r, b, c) (8, t, 0) a (I (7, t, 0) 2) n) (7, t, 0) 2 (I (7, t, 0) 2 + n)) I [some (.ref (α (7, t, 0))), some (.ref (α (r, b, c))), some (gz_i (a)), some (gz_i (n))] [] 0 := by
  first | refine gz_aload_n (pc := 0) dX2_append_0 rfl ?_ | refine gz_aload_nN (pc := 0) dX2_append_0 rfl ?_
  refine gz_iload_n (pc := 1) dX2_append_1 rfl ?_
  first | refine gz_aload_n (pc := 2) dX2_append_2 rfl ?_ | refine gz_aload_nN (pc := 2) dX2_append_2 rfl ?_
  refine gz_getr (pc := 3) dX2_append_3 fl_X2_9 rfl rfl rfl (by first | exact gz_B1 | (omega)) ?_
  first | refine gz_aload_n (pc := 6) dX2_append_6 rfl ?_ | refine gz_aload_nN (pc := 6) dX2_append_6 rfl ?_
  refine gz_getI (pc := 7) 2 dX2_append_7 fl_X2_18 rfl rfl rfl rfl (by first | exact gz_B1 | (omega)) ?_
  refine gz_iload_n (pc := 10) dX2_append_10 rfl ?_
  refine gz_copy (pc := 11) dX2_append_11 wm_X2_22 hr rfl hr2 rfl (Nat.le_of_ble_eq_true rfl) hb (by first | exact gz_B1 | (omega)) (by omega) ?_
  first | refine gz_aload_n (pc := 14) dX2_append_14 rfl ?_ | refine gz_aload_nN (pc := 14) dX2_append_14 rfl ?_
  refine gz_dup (pc := 15) dX2_append_15 rfl ?_
  refine gz_getI (pc := 16) 2 dX2_append_16 fl_X2_18 rfl rfl rfl rfl (by first | exact gz_B1 | (omega)) ?_
  refine gz_iload_n (pc := 19) dX2_append_19 rfl ?_
  refine gz_iadd (pc := 20) dX2_append_20 ?_
  refine gz_putI (pc := 21) 2 dX2_append_21 fw_X2_18 rfl rfl rfl rfl (by first | exact gz_B1 | (omega)) (Or.inl rfl) ?_
  refine gz_vret (pc := 24) dX2_append_24 rfl ?_
  simp (decide := true) only [gz_up_r, gz_up_s, gz_cp_r]
end
section
set_option maxHeartbeats 4000000 in
set_option maxRecDepth 100000 in
theorem ct_X2_endsChunk (l : Launch) (D : va_G) (α : gz_P → Nat) (cA : Nat → ClassId) {I : gz_M} {t : Int} (ht : 0 ≤ t ∧ t < 4) (hb : ∀ i, 0 ≤ i → i < 300 → 0 ≤ I (8, t, 0) i ∧ I (8, t, 0) i ≤ 255) {a b : Int} (ha : 0 ≤ a ∧ a < b ∧ b ≤ 300) : gz_V l D α cA RX2 cX2_endsChunk (some .boolean) 3 0 (gz_Qi fun x I' => I = I' ∧ (x = 1 ∧ (32 ≤ b - a ∨ (4 ≤ b - a ∧ (3 * I (8, t, 0) (b - 3) + 5 * I (8, t, 0) (b - 2) + 7 * I (8, t, 0) (b - 1)) % 11 = 0)) ∨ x = 0 ∧ ¬ (32 ≤ b - a ∨ (4 ≤ b - a ∧ (3 * I (8, t, 0) (b - 3) + 5 * I (8, t, 0) (b - 2) + 7 * I (8, t, 0) (b - 1)) % 11 = 0)))) I [some (.ref (α (7, t, 0))), some (gz_i (a)), some (gz_i (b))] [] 0 := by
  refine gz_iload_n (pc := 0) dX2_endsChunk_0 rfl ?_
  refine gz_iload_n (pc := 1) dX2_endsChunk_1 rfl ?_
  refine gz_isub (pc := 2) dX2_endsChunk_2 ?_
  refine gz_bipush (pc := 3) dX2_endsChunk_3 rfl ?_
  refine gz_icmp_lt (pc := 5) (tgt := 10) dX2_endsChunk_5 (by decide) (by omega) (by omega) (fun h5 => ?_) (fun h5 => ?_)
  · refine gz_iload_n (pc := 10) dX2_endsChunk_10 rfl ?_
    refine gz_iload_n (pc := 11) dX2_endsChunk_11 rfl ?_
    refine gz_isub (pc := 12) dX2_endsChunk_12 ?_
    refine gz_iconst (pc := 13) dX2_endsChunk_13 ?_
    refine gz_icmp_ge (pc := 14) (tgt := 19) dX2_endsChunk_14 (by decide) (by omega) (by omega) (fun h14 => ?_) (fun h14 => ?_)
    · have e3 := hb (b - 3) (by omega) (by omega)
      have e2 := hb (b - 2) (by omega) (by omega)
      have e1 := hb (b - 1) (by omega) (by omega)
      refine gz_iconst (pc := 19) dX2_endsChunk_19 ?_
      first | refine gz_aload_n (pc := 20) dX2_endsChunk_20 rfl ?_ | refine gz_aload_nN (pc := 20) dX2_endsChunk_20 rfl ?_
      refine gz_getr (pc := 21) dX2_endsChunk_21 fl_X2_9 rfl rfl rfl (by first | exact gz_B1 | (omega)) ?_
      refine gz_iload_n (pc := 24) dX2_endsChunk_24 rfl ?_
      refine gz_iconst (pc := 25) dX2_endsChunk_25 ?_
      refine gz_isub (pc := 26) dX2_endsChunk_26 ?_
      refine gz_iald (pc := 27) dX2_endsChunk_27 rfl rfl (by first | exact gz_B1 | (omega)) (by omega) ?_
      refine gz_imul (pc := 28) dX2_endsChunk_28 ?_
      refine gz_iconst (pc := 29) dX2_endsChunk_29 ?_
      first | refine gz_aload_n (pc := 30) dX2_endsChunk_30 rfl ?_ | refine gz_aload_nN (pc := 30) dX2_endsChunk_30 rfl ?_
      refine gz_getr (pc := 31) dX2_endsChunk_31 fl_X2_9 rfl rfl rfl (by first | exact gz_B1 | (omega)) ?_
      refine gz_iload_n (pc := 34) dX2_endsChunk_34 rfl ?_
      refine gz_iconst (pc := 35) dX2_endsChunk_35 ?_
      refine gz_isub (pc := 36) dX2_endsChunk_36 ?_
      refine gz_iald (pc := 37) dX2_endsChunk_37 rfl rfl (by first | exact gz_B1 | (omega)) (by omega) ?_
      refine gz_imul (pc := 38) dX2_endsChunk_38 ?_
      refine gz_iadd (pc := 39) dX2_endsChunk_39 ?_
      refine gz_bipush (pc := 40) dX2_endsChunk_40 rfl ?_
      first | refine gz_aload_n (pc := 42) dX2_endsChunk_42 rfl ?_ | refine gz_aload_nN (pc := 42) dX2_endsChunk_42 rfl ?_
      refine gz_getr (pc := 43) dX2_endsChunk_43 fl_X2_9 rfl rfl rfl (by first | exact gz_B1 | (omega)) ?_
      refine gz_iload_n (pc := 46) dX2_endsChunk_46 rfl ?_
      refine gz_iconst (pc := 47) dX2_endsChunk_47 ?_
      refine gz_isub (pc := 48) dX2_endsChunk_48 ?_
      refine gz_iald (pc := 49) dX2_endsChunk_49 rfl rfl (by first | exact gz_B1 | (omega)) (by omega) ?_
      refine gz_imul (pc := 50) dX2_endsChunk_50 ?_
      refine gz_iadd (pc := 51) dX2_endsChunk_51 ?_
      refine gz_bipush (pc := 52) dX2_endsChunk_52 rfl ?_
      refine gz_irem (pc := 54) dX2_endsChunk_54 (by omega) (by omega) ?_
      refine gz_if_ne (pc := 55) (tgt := 62) dX2_endsChunk_55 (by decide) (by omega) (fun h55 => ?_) (fun h55 => ?_)
      · refine gz_iconst (pc := 62) dX2_endsChunk_62 ?_
        refine gz_zret (pc := 63) dX2_endsChunk_63 rfl (by first | exact Or.inl rfl | exact Or.inr rfl | omega) ?_
        exact ⟨rfl, by omega⟩
      · refine gz_iconst (pc := 58) dX2_endsChunk_58 ?_
        refine gz_goto (pc := 59) (tgt := 63) dX2_endsChunk_59 (by decide) ?_
        refine gz_zret (pc := 63) dX2_endsChunk_63 rfl (by first | exact Or.inl rfl | exact Or.inr rfl | omega) ?_
        exact ⟨rfl, by omega⟩
    · refine gz_iconst (pc := 17) dX2_endsChunk_17 ?_
      refine gz_zret (pc := 18) dX2_endsChunk_18 rfl (by first | exact Or.inl rfl | exact Or.inr rfl | omega) ?_
      exact ⟨rfl, by omega⟩
  · refine gz_iconst (pc := 8) dX2_endsChunk_8 ?_
    refine gz_zret (pc := 9) dX2_endsChunk_9 rfl (by first | exact Or.inl rfl | exact Or.inr rfl | omega) ?_
    exact ⟨rfl, by omega⟩
set_option maxHeartbeats 4000000 in
set_option maxRecDepth 100000 in
theorem lp_X2_cut (l : Launch) (D : va_G) (α : gz_P → Nat) (cA : Nat → ClassId) {I0 : gz_M} {t : Int} (ht : 0 ≤ t ∧ t < 4) (hs : 0 ≤ I0 (7, t, 0) 2 ∧ I0 (7, t, 0) 2 ≤ 300) (hb : ∀ i, 0 ≤ i → i < 300 → 0 ≤ I0 (8, t, 0) i ∧ I0 (8, t, 0) i ≤ 255) : ∀ e, e ≤ (I0 (7, t, 0) 2) + 1 → ∀ (c : Nat) (a : Int) (I : gz_M), 1 ≤ e → gz_cs (I0 (8, t, 0)) (I0 (7, t, 0) 2) c = a → a < e → 0 ≤ a → (∀ k, 1 ≤ k → k < e - a → ¬ gz_stop (I0 (8, t, 0)) (I0 (7, t, 0) 2) a k) → (∀ j : Nat, j < c → I (9, t, 0) j = gz_cs (I0 (8, t, 0)) (I0 (7, t, 0) 2) (j + 1)) → (∀ q, q ≠ (9, t, 0) → I q = I0 q) → gz_V l D α cA RX2 cX2_cut (some .int) 4 1 (gz_Qi fun x I' => (∀ q, q ≠ (9, t, 0) → I' q = I0 q) ∧ ∃ c : Nat, x = c ∧ gz_cn (I0 (8, t, 0)) (I0 (7, t, 0) 2) c ∧ ∀ j : Nat, j < c → I' (9, t, 0) j = gz_cs (I0 (8, t, 0)) (I0 (7, t, 0) 2) (j + 1)) I [some (.ref (α (7, t, 0))), some (gz_i (c)), some (gz_i (a)), some (gz_i (e))] [] 6 := by
  refine gz_upto _ ?_
  intro e he ih c a I h1 hc hae ha hk hj9 hI
  have e7 : I (7, t, 0) 2 = I0 (7, t, 0) 2 := by rw [hI _ (gz_ne rfl)]
  have e8 : I (8, t, 0) = I0 (8, t, 0) := hI _ (gz_ne rfl)
  have hc75 : a < I0 (7, t, 0) 2 → (c : Int) < 75 := fun h => by have := gz_cs_4 (f := I0 (8, t, 0)) (s := I0 (7, t, 0) 2) (n := c) (by omega); omega
  refine gz_iload_n (pc := 6) dX2_cut_6 rfl ?_
  first | refine gz_aload_n (pc := 7) dX2_cut_7 rfl ?_ | refine gz_aload_nN (pc := 7) dX2_cut_7 rfl ?_
  refine gz_getI (pc := 8) 2 dX2_cut_8 fl_X2_18 rfl rfl rfl rfl (by first | exact gz_B1 | (omega)) ?_
  refine gz_icmp_gt (pc := 11) (tgt := 49) dX2_cut_11 (by decide) (by omega) (by omega) (fun h11 => ?_) (fun h11 => ?_)
  · refine gz_iload_n (pc := 49) dX2_cut_49 rfl ?_
    refine gz_iret (pc := 50) dX2_cut_50 rfl ?_
    refine ⟨hI, c, rfl, ?_, hj9⟩
    unfold gz_cn
    rw [hc]
    apply Classical.byContradiction
    intro hne
    exact hk (I0 (7, t, 0) 2 - a) (by omega) (by omega) (Or.inr (Or.inr (by omega)))
  · refine gz_iload_n (pc := 14) dX2_cut_14 rfl ?_
    first | refine gz_aload_n (pc := 15) dX2_cut_15 rfl ?_ | refine gz_aload_nN (pc := 15) dX2_cut_15 rfl ?_
    refine gz_getI (pc := 16) 2 dX2_cut_16 fl_X2_18 rfl rfl rfl rfl (by first | exact gz_B1 | (omega)) ?_
    refine gz_icmp_eq (pc := 19) (tgt := 31) dX2_cut_19 (by decide) (by omega) (by omega) (fun h19 => ?_) (fun h19 => ?_)
    · first | refine gz_aload_n (pc := 31) dX2_cut_31 rfl ?_ | refine gz_aload_nN (pc := 31) dX2_cut_31 rfl ?_
      refine gz_getr (pc := 32) dX2_cut_32 fl_X2_15 rfl rfl rfl (by first | exact gz_B1 | (omega)) ?_
      refine gz_iload_n (pc := 35) dX2_cut_35 rfl ?_
      refine gz_iload_n (pc := 36) dX2_cut_36 rfl ?_
      refine gz_iast (pc := 37) dX2_cut_37 rfl rfl (by first | exact gz_B1 | (omega)) (by omega) ?_
      refine gz_iinc (pc := 38) dX2_cut_38 rfl rfl rfl rfl ?_
      refine gz_iload_n (pc := 41) dX2_cut_41 rfl ?_
      refine gz_istore_n (pc := 42) dX2_cut_42 rfl rfl rfl ?_
      refine gz_iinc (pc := 43) dX2_cut_43 rfl rfl rfl rfl ?_
      refine gz_goto (pc := 46) (tgt := 6) dX2_cut_46 (by decide) ?_
      have hst : gz_stop (I0 (8, t, 0)) (I0 (7, t, 0) 2) a (e - a) := by
        unfold gz_stop
        rw [show a + (e - a) = e by omega]
        omega
      have hck : gz_ck (I0 (8, t, 0)) (I0 (7, t, 0) 2) a = e - a := gz_ck_eq (by omega) hst hk
      have hcs : gz_cs (I0 (8, t, 0)) (I0 (7, t, 0) 2) (c + 1) = e := by
        show gz_cs _ _ c + gz_ck _ _ (gz_cs _ _ c) = e
        rw [hc, hck]
        omega
      exact ih (e + 1) (by omega) (by omega) (c + 1) e (gz_up I (9, t, 0) c e) (by omega) hcs (by omega) (by omega) (fun k h1 h2 => by omega) (fun j hj => by
        rw [gz_up_eq]
        by_cases hjc : j = c
        · subst hjc
          rw [if_pos rfl, hcs]
        · rw [if_neg (by omega)]
          exact hj9 j (by omega)) (fun q hq => by rw [gz_up_ne hq]; exact hI q hq)
    · first | refine gz_aload_n (pc := 22) dX2_cut_22 rfl ?_ | refine gz_aload_nN (pc := 22) dX2_cut_22 rfl ?_
      refine gz_iload_n (pc := 23) dX2_cut_23 rfl ?_
      refine gz_iload_n (pc := 24) dX2_cut_24 rfl ?_
      refine gz_cV2i (pc := 25) dX2_cut_25 wm_X2_28 my_X2_endsChunk rfl rfl rfl (by first | exact gz_B1 | (omega)) (ct_X2_endsChunk l D α cA ht (by rw [e8]; exact hb) (by omega)) (fun x25 I25 h25 => ?_)
      obtain ⟨rfl, hx25⟩ := h25
      rw [e8] at hx25
      refine gz_if_eq (pc := 28) (tgt := 43) dX2_cut_28 (by decide) (by omega) (fun h28 => ?_) (fun h28 => ?_)
      · refine gz_iinc (pc := 43) dX2_cut_43 rfl rfl rfl rfl ?_
        refine gz_goto (pc := 46) (tgt := 6) dX2_cut_46 (by decide) ?_
        exact ih (e + 1) (by omega) (by omega) c a I (by omega) hc (by omega) ha (fun k h1 h2 => by
          by_cases hke : k = e - a
          · subst hke
            unfold gz_stop
            rw [show a + (e - a) = e by omega]
            omega
          · exact hk k h1 (by omega)) hj9 hI
      · first | refine gz_aload_n (pc := 31) dX2_cut_31 rfl ?_ | refine gz_aload_nN (pc := 31) dX2_cut_31 rfl ?_
        refine gz_getr (pc := 32) dX2_cut_32 fl_X2_15 rfl rfl rfl (by first | exact gz_B1 | (omega)) ?_
        refine gz_iload_n (pc := 35) dX2_cut_35 rfl ?_
        refine gz_iload_n (pc := 36) dX2_cut_36 rfl ?_
        refine gz_iast (pc := 37) dX2_cut_37 rfl rfl (by first | exact gz_B1 | (omega)) (by omega) ?_
        refine gz_iinc (pc := 38) dX2_cut_38 rfl rfl rfl rfl ?_
        refine gz_iload_n (pc := 41) dX2_cut_41 rfl ?_
        refine gz_istore_n (pc := 42) dX2_cut_42 rfl rfl rfl ?_
        refine gz_iinc (pc := 43) dX2_cut_43 rfl rfl rfl rfl ?_
        refine gz_goto (pc := 46) (tgt := 6) dX2_cut_46 (by decide) ?_
        have hst : gz_stop (I0 (8, t, 0)) (I0 (7, t, 0) 2) a (e - a) := by
          unfold gz_stop
          rw [show a + (e - a) = e by omega]
          omega
        have hck : gz_ck (I0 (8, t, 0)) (I0 (7, t, 0) 2) a = e - a := gz_ck_eq (by omega) hst hk
        have hcs : gz_cs (I0 (8, t, 0)) (I0 (7, t, 0) 2) (c + 1) = e := by
          show gz_cs _ _ c + gz_ck _ _ (gz_cs _ _ c) = e
          rw [hc, hck]
          omega
        exact ih (e + 1) (by omega) (by omega) (c + 1) e (gz_up I (9, t, 0) c e) (by omega) hcs (by omega) (by omega) (fun k h1 h2 => by omega) (fun j hj => by
          rw [gz_up_eq]
          by_cases hjc : j = c
          · subst hjc
            rw [if_pos rfl, hcs]
          · rw [if_neg (by omega)]
            exact hj9 j (by omega)) (fun q hq => by rw [gz_up_ne hq]; exact hI q hq)
set_option maxHeartbeats 4000000 in
set_option maxRecDepth 100000 in
theorem ct_X2_cut (l : Launch) (D : va_G) (α : gz_P → Nat) (cA : Nat → ClassId) {I : gz_M} {t : Int} (ht : 0 ≤ t ∧ t < 4) (hs : 0 ≤ I (7, t, 0) 2 ∧ I (7, t, 0) 2 ≤ 300) (hb : ∀ i, 0 ≤ i → i < 300 → 0 ≤ I (8, t, 0) i ∧ I (8, t, 0) i ≤ 255) : gz_V l D α cA RX2 cX2_cut (some .int) 4 1 (gz_Qi fun x I' => (∀ q, q ≠ (9, t, 0) → I' q = I q) ∧ ∃ c : Nat, x = c ∧ gz_cn (I (8, t, 0)) (I (7, t, 0) 2) c ∧ ∀ j : Nat, j < c → I' (9, t, 0) j = gz_cs (I (8, t, 0)) (I (7, t, 0) 2) (j + 1)) I [some (.ref (α (7, t, 0))), none, none, none] [] 0 := by
  refine gz_iconst (pc := 0) dX2_cut_0 ?_
  refine gz_istore_n (pc := 1) dX2_cut_1 rfl rfl rfl ?_
  refine gz_iconst (pc := 2) dX2_cut_2 ?_
  refine gz_istore_n (pc := 3) dX2_cut_3 rfl rfl rfl ?_
  refine gz_iconst (pc := 4) dX2_cut_4 ?_
  refine gz_istore_n (pc := 5) dX2_cut_5 rfl rfl rfl ?_
  exact lp_X2_cut l D α cA ht hs hb 1 (by omega) 0 0 I (by omega) rfl (by omega) (by omega) (fun k h1 h2 => by omega) (fun j hj => absurd hj (Nat.not_lt_zero j)) (fun q _ => rfl)
set_option maxHeartbeats 4000000 in
set_option maxRecDepth 100000 in
theorem ct_X2_chunkStart (l : Launch) (D : va_G) (α : gz_P → Nat) (cA : Nat → ClassId) {I : gz_M} {t i : Int} (ht : 0 ≤ t ∧ t < 4) (hi : 0 ≤ i ∧ i < 75) : gz_V l D α cA RX2 cX2_chunkStart (some .int) 2 0 (gz_Qi fun x I' => I = I' ∧ x = if i = 0 then 0 else I (9, t, 0) (i - 1)) I [some (.ref (α (7, t, 0))), some (gz_i (i))] [] 0 := by
  refine gz_iload_n (pc := 0) dX2_chunkStart_0 rfl ?_
  refine gz_if_ne (pc := 1) (tgt := 8) dX2_chunkStart_1 (by decide) (by omega) (fun h1 => ?_) (fun h1 => ?_)
  · first | refine gz_aload_n (pc := 8) dX2_chunkStart_8 rfl ?_ | refine gz_aload_nN (pc := 8) dX2_chunkStart_8 rfl ?_
    refine gz_getr (pc := 9) dX2_chunkStart_9 fl_X2_15 rfl rfl rfl (by first | exact gz_B1 | (omega)) ?_
    refine gz_iload_n (pc := 12) dX2_chunkStart_12 rfl ?_
    refine gz_iconst (pc := 13) dX2_chunkStart_13 ?_
    refine gz_isub (pc := 14) dX2_chunkStart_14 ?_
    refine gz_iald (pc := 15) dX2_chunkStart_15 rfl rfl (by first | exact gz_B1 | (omega)) (by omega) ?_
    refine gz_iret (pc := 16) dX2_chunkStart_16 rfl ?_
    exact ⟨rfl, by first | rw [if_pos h1] | rw [if_neg h1]⟩
  · refine gz_iconst (pc := 4) dX2_chunkStart_4 ?_
    refine gz_goto (pc := 5) (tgt := 16) dX2_chunkStart_5 (by decide) ?_
    refine gz_iret (pc := 16) dX2_chunkStart_16 rfl ?_
    exact ⟨rfl, by first | rw [if_pos h1] | rw [if_neg h1]⟩
set_option maxHeartbeats 4000000 in
set_option maxRecDepth 100000 in
theorem ct_X2_chunkSize (l : Launch) (D : va_G) (α : gz_P → Nat) (cA : Nat → ClassId) {I : gz_M} {t i : Int} (ht : 0 ≤ t ∧ t < 4) (hi : 0 ≤ i ∧ i < 75) : gz_V l D α cA RX2 cX2_chunkSize (some .int) 2 1 (gz_Qi fun x I' => I = I' ∧ x = I (9, t, 0) i - if i = 0 then 0 else I (9, t, 0) (i - 1)) I [some (.ref (α (7, t, 0))), some (gz_i (i))] [] 0 := by
  first | refine gz_aload_n (pc := 0) dX2_chunkSize_0 rfl ?_ | refine gz_aload_nN (pc := 0) dX2_chunkSize_0 rfl ?_
  refine gz_getr (pc := 1) dX2_chunkSize_1 fl_X2_15 rfl rfl rfl (by first | exact gz_B1 | (omega)) ?_
  refine gz_iload_n (pc := 4) dX2_chunkSize_4 rfl ?_
  refine gz_iald (pc := 5) dX2_chunkSize_5 rfl rfl (by first | exact gz_B1 | (omega)) (by omega) ?_
  first | refine gz_aload_n (pc := 6) dX2_chunkSize_6 rfl ?_ | refine gz_aload_nN (pc := 6) dX2_chunkSize_6 rfl ?_
  refine gz_iload_n (pc := 7) dX2_chunkSize_7 rfl ?_
  refine gz_cV1i (pc := 8) dX2_chunkSize_8 wm_X2_32 my_X2_chunkStart rfl rfl rfl (by first | exact gz_B1 | (omega)) (ct_X2_chunkStart l D α cA ht hi) (fun x8 I8 h8 => ?_)
  obtain ⟨rfl, rfl⟩ := h8
  refine gz_isub (pc := 11) dX2_chunkSize_11 ?_
  refine gz_iret (pc := 12) dX2_chunkSize_12 rfl ?_
  exact ⟨rfl, rfl⟩
end
section
set_option maxHeartbeats 4000000 in
set_option maxRecDepth 100000 in
theorem lp_X4_digestOf (l : Launch) (D : va_G) (α : gz_P → Nat) (cA : Nat → ClassId) {I : gz_M} {r sz na nb : Nat} {b c : Int} (hr : gz_shp r = (0, sz, na, nb)) (hr2 : (Nat.blt r 40 && Nat.ble sz 65536) = true) (hb : gz_B b c na nb) (h8 : ∀ i, 0 ≤ I (r, b, c) i ∧ I (r, b, c) i ≤ 255) {s n : Int} (hs : 0 ≤ s ∧ 0 ≤ n ∧ s + n ≤ sz) : ∀ i, i ≤ n → ∀ h : Int, 0 ≤ i → h = gz_dg (fun i => I (r, b, c) (s + i)) i.toNat → gz_V l D α cA RX4 cX4_digestOf (some .int) 5 0 (gz_Qi fun x I' => I = I' ∧ x = gz_dg (fun i => I (r, b, c) (s + i)) n.toNat) I [some (.ref (α (r, b, c))), some (gz_i (s)), some (gz_i (n)), some (gz_i (h)), some (gz_i (i))] [] 5 := by
  have hsz : (sz : Int) ≤ 65536 := by rw [Bool.and_eq_true] at hr2; have := Nat.le_of_ble_eq_true hr2.2; omega
  refine gz_upto _ ?_
  intro i hi ih h h0 hh
  have hd := gz_dg_in (fun i => I (r, b, c) (s + i)) i.toNat
  have e1 := h8 (s + i)
  refine gz_iload (pc := 5) dX4_digestOf_5 rfl ?_
  refine gz_iload_n (pc := 7) dX4_digestOf_7 rfl ?_
  refine gz_icmp_ge (pc := 8) (tgt := 32) dX4_digestOf_8 (by decide) (by omega) (by omega) (fun h8 => ?_) (fun h8 => ?_)
  · refine gz_iload_n (pc := 32) dX4_digestOf_32 rfl ?_
    refine gz_iret (pc := 33) dX4_digestOf_33 rfl ?_
    refine ⟨rfl, ?_⟩
    rw [hh, show i = n by omega]
  · refine gz_bipush (pc := 11) dX4_digestOf_11 rfl ?_
    refine gz_iload_n (pc := 13) dX4_digestOf_13 rfl ?_
    refine gz_imul (pc := 14) dX4_digestOf_14 ?_
    first | refine gz_aload_n (pc := 15) dX4_digestOf_15 rfl ?_ | refine gz_aload_nN (pc := 15) dX4_digestOf_15 rfl ?_
    refine gz_iload_n (pc := 16) dX4_digestOf_16 rfl ?_
    refine gz_iload (pc := 17) dX4_digestOf_17 rfl ?_
    refine gz_iadd (pc := 19) dX4_digestOf_19 ?_
    refine gz_iald (pc := 20) dX4_digestOf_20 hr hr2 hb (by omega) ?_
    refine gz_iadd (pc := 21) dX4_digestOf_21 ?_
    refine gz_bipush (pc := 22) dX4_digestOf_22 rfl ?_
    refine gz_irem (pc := 24) dX4_digestOf_24 (by omega) (by omega) ?_
    refine gz_istore_n (pc := 25) dX4_digestOf_25 rfl rfl rfl ?_
    refine gz_iinc (pc := 26) dX4_digestOf_26 rfl rfl rfl rfl ?_
    refine gz_goto (pc := 29) (tgt := 5) dX4_digestOf_29 (by decide) ?_
    refine ih (i + 1) (by omega) (by omega) _ (by omega) ?_
    rw [show (i + 1).toNat = i.toNat + 1 by omega]
    unfold gz_dg
    rw [← hh, Int.toNat_of_nonneg h0]
set_option maxHeartbeats 4000000 in
set_option maxRecDepth 100000 in
theorem ct_X4_digestOf (l : Launch) (D : va_G) (α : gz_P → Nat) (cA : Nat → ClassId) {I : gz_M} {r sz na nb : Nat} {b c : Int} (hr : gz_shp r = (0, sz, na, nb)) (hr2 : (Nat.blt r 40 && Nat.ble sz 65536) = true) (hb : gz_B b c na nb) (h8 : ∀ i, 0 ≤ I (r, b, c) i ∧ I (r, b, c) i ≤ 255) {s n : Int} (hs : 0 ≤ s ∧ 0 ≤ n ∧ s + n ≤ sz) : gz_V l D α cA RX4 cX4_digestOf (some .int) 5 0 (gz_Qi fun x I' => I = I' ∧ x = gz_dg (fun i => I (r, b, c) (s + i)) n.toNat) I [some (.ref (α (r, b, c))), some (gz_i (s)), some (gz_i (n)), none, none] [] 0 := by
  refine gz_iconst (pc := 0) dX4_digestOf_0 ?_
  refine gz_istore_n (pc := 1) dX4_digestOf_1 rfl rfl rfl ?_
  refine gz_iconst (pc := 2) dX4_digestOf_2 ?_
  refine gz_istore (pc := 3) dX4_digestOf_3 rfl rfl rfl ?_
  exact lp_X4_digestOf l D α cA hr hr2 hb h8 hs 0 (by omega) 1 (by omega) rfl
set_option maxHeartbeats 4000000 in
set_option maxRecDepth 100000 in
theorem ct_X1_put (l : Launch) (D : va_G) (α : gz_P → Nat) (cA : Nat → ClassId) {I : gz_M} {a : Int} (ha : 0 ≤ a ∧ a < 5) {r sz na nb : Nat} {b c : Int} (hr : gz_shp r = (0, sz, na, nb)) (hr2 : (Nat.blt r 40 && Nat.blt 12 40 && Nat.ble sz 65536 && Nat.ble 3840 65536) = true) (hb : gz_B b c na nb) {p s n : Int} (hp : 0 ≤ p ∧ p < 120) (hs : 0 ≤ s ∧ 0 ≤ n ∧ s + n ≤ sz ∧ n ≤ 32) : gz_V l D α cA RX1 cX1_put none 5 1 (gz_Qv fun I' => I' = gz_up (gz_cp I (r, b, c) (12, a, 0) s (32 * p) n) (11, a, 0) p 1) I [some (.ref (α (10, a, 0))), some (gz_i (p)), some (.ref (α (r, b, c))), some (gz_i (s)), some (gz_i (n))] [] 0 := by
  first | refine gz_aload_n (pc := 0) dX1_put_0 rfl ?_ | refine gz_aload_nN (pc := 0) dX1_put_0 rfl ?_
  refine gz_iload_n (pc := 1) dX1_put_1 rfl ?_
  first | refine gz_aload_n (pc := 2) dX1_put_2 rfl ?_ | refine gz_aload_nN (pc := 2) dX1_put_2 rfl ?_
  refine gz_getr (pc := 3) dX1_put_3 fl_X1_15 rfl rfl rfl (by first | exact gz_B1 | (omega)) ?_
  refine gz_iload_n (pc := 6) dX1_put_6 rfl ?_
  refine gz_bipush (pc := 7) dX1_put_7 rfl ?_
  refine gz_imulc (pc := 9) dX1_put_9 ?_
  refine gz_iload (pc := 10) dX1_put_10 rfl ?_
  refine gz_copy (pc := 12) dX1_put_12 wm_X1_19 hr rfl hr2 rfl (Nat.le_of_ble_eq_true rfl) hb (by first | exact gz_B1 | (omega)) (by omega) ?_
  first | refine gz_aload_n (pc := 15) dX1_put_15 rfl ?_ | refine gz_aload_nN (pc := 15) dX1_put_15 rfl ?_
  refine gz_getr (pc := 16) dX1_put_16 fl_X1_9 rfl rfl rfl (by first | exact gz_B1 | (omega)) ?_
  refine gz_iload_n (pc := 19) dX1_put_19 rfl ?_
  refine gz_iconst (pc := 20) dX1_put_20 ?_
  refine gz_zast (pc := 21) dX1_put_21 rfl rfl (by first | exact gz_B1 | (omega)) (by omega) (by omega) ?_
  refine gz_vret (pc := 22) dX1_put_22 rfl ?_
  rfl
set_option maxHeartbeats 4000000 in
set_option maxRecDepth 100000 in
theorem lp_X1_holds (l : Launch) (D : va_G) (α : gz_P → Nat) (cA : Nat → ClassId) {I : gz_M} {a : Int} (ha : 0 ≤ a ∧ a < 5) (hT : gz_T I) {r sz na nb : Nat} {b c : Int} (hr : gz_shp r = (0, sz, na, nb)) (hr2 : (Nat.blt r 40 && Nat.ble sz 65536) = true) (hb : gz_B b c na nb) (h8 : ∀ i, 0 ≤ I (r, b, c) i ∧ I (r, b, c) i ≤ 255) {p s n : Int} (hp : 0 ≤ p ∧ p < 120) (hs : 0 ≤ s ∧ 0 ≤ n ∧ s + n ≤ sz ∧ n ≤ 32) : I (11, a, 0) p = 1 → ∀ i, i ≤ n → 0 ≤ i → (∀ j, 0 ≤ j → j < i → I (12, a, 0) (32 * p + j) = I (r, b, c) (s + j)) → gz_V l D α cA RX1 cX1_holds (some .boolean) 6 0 (gz_Qi fun x I' => I = I' ∧ (x = 1 ∧ (I (11, a, 0) p = 1 ∧ ∀ i, 0 ≤ i → i < n → I (12, a, 0) (32 * p + i) = I (r, b, c) (s + i)) ∨ x = 0 ∧ ¬ (I (11, a, 0) p = 1 ∧ ∀ i, 0 ≤ i → i < n → I (12, a, 0) (32 * p + i) = I (r, b, c) (s + i)))) I [some (.ref (α (10, a, 0))), some (gz_i (p)), some (.ref (α (r, b, c))), some (gz_i (s)), some (gz_i (n)), some (gz_i (i))] [] 14 := by
  have hsz : (sz : Int) ≤ 65536 := by rw [Bool.and_eq_true] at hr2; have := Nat.le_of_ble_eq_true hr2.2; omega
  intro hh
  refine gz_upto _ ?_
  intro i hi ih h0 hj
  have e1 := h8 (s + i)
  have e2 := gz_t12 hT a 0 (32 * p + i)
  refine gz_iload (pc := 14) dX1_holds_14 rfl ?_
  refine gz_iload (pc := 16) dX1_holds_16 rfl ?_
  refine gz_icmp_ge (pc := 18) (tgt := 50) dX1_holds_18 (by decide) (by omega) (by omega) (fun h18 => ?_) (fun h18 => ?_)
  · refine gz_iconst (pc := 50) dX1_holds_50 ?_
    refine gz_zret (pc := 51) dX1_holds_51 rfl (by first | exact Or.inl rfl | exact Or.inr rfl | omega) ?_
    exact ⟨rfl, Or.inl ⟨rfl, hh, fun j h1 h2 => hj j h1 (by omega)⟩⟩
  · first | refine gz_aload_n (pc := 21) dX1_holds_21 rfl ?_ | refine gz_aload_nN (pc := 21) dX1_holds_21 rfl ?_
    refine gz_getr (pc := 22) dX1_holds_22 fl_X1_15 rfl rfl rfl (by first | exact gz_B1 | (omega)) ?_
    refine gz_iload_n (pc := 25) dX1_holds_25 rfl ?_
    refine gz_bipush (pc := 26) dX1_holds_26 rfl ?_
    refine gz_imulc (pc := 28) dX1_holds_28 ?_
    refine gz_iload (pc := 29) dX1_holds_29 rfl ?_
    refine gz_iadd (pc := 31) dX1_holds_31 ?_
    refine gz_iald (pc := 32) dX1_holds_32 rfl rfl (by first | exact gz_B1 | (omega)) (by omega) ?_
    first | refine gz_aload_n (pc := 33) dX1_holds_33 rfl ?_ | refine gz_aload_nN (pc := 33) dX1_holds_33 rfl ?_
    refine gz_iload_n (pc := 34) dX1_holds_34 rfl ?_
    refine gz_iload (pc := 35) dX1_holds_35 rfl ?_
    refine gz_iadd (pc := 37) dX1_holds_37 ?_
    refine gz_iald (pc := 38) dX1_holds_38 hr hr2 hb (by omega) ?_
    refine gz_icmp_eq (pc := 39) (tgt := 44) dX1_holds_39 (by decide) (by omega) (by omega) (fun h39 => ?_) (fun h39 => ?_)
    · refine gz_iinc (pc := 44) dX1_holds_44 rfl rfl rfl rfl ?_
      refine gz_goto (pc := 47) (tgt := 14) dX1_holds_47 (by decide) ?_
      refine ih (i + 1) (by omega) (by omega) (by omega) (fun j h1 h2 => ?_)
      by_cases e : j = i
      · rw [e]; exact h39
      · exact hj j h1 (by omega)
    · refine gz_iconst (pc := 42) dX1_holds_42 ?_
      refine gz_zret (pc := 43) dX1_holds_43 rfl (by first | exact Or.inl rfl | exact Or.inr rfl | omega) ?_
      exact ⟨rfl, Or.inr ⟨rfl, fun q => h39 (q.2 i h0 (by omega))⟩⟩
set_option maxHeartbeats 4000000 in
set_option maxRecDepth 100000 in
theorem ct_X1_holds (l : Launch) (D : va_G) (α : gz_P → Nat) (cA : Nat → ClassId) {I : gz_M} {a : Int} (ha : 0 ≤ a ∧ a < 5) (hT : gz_T I) {r sz na nb : Nat} {b c : Int} (hr : gz_shp r = (0, sz, na, nb)) (hr2 : (Nat.blt r 40 && Nat.ble sz 65536) = true) (hb : gz_B b c na nb) (h8 : ∀ i, 0 ≤ I (r, b, c) i ∧ I (r, b, c) i ≤ 255) {p s n : Int} (hp : 0 ≤ p ∧ p < 120) (hs : 0 ≤ s ∧ 0 ≤ n ∧ s + n ≤ sz ∧ n ≤ 32) : gz_V l D α cA RX1 cX1_holds (some .boolean) 6 0 (gz_Qi fun x I' => I = I' ∧ (x = 1 ∧ (I (11, a, 0) p = 1 ∧ ∀ i, 0 ≤ i → i < n → I (12, a, 0) (32 * p + i) = I (r, b, c) (s + i)) ∨ x = 0 ∧ ¬ (I (11, a, 0) p = 1 ∧ ∀ i, 0 ≤ i → i < n → I (12, a, 0) (32 * p + i) = I (r, b, c) (s + i)))) I [some (.ref (α (10, a, 0))), some (gz_i (p)), some (.ref (α (r, b, c))), some (gz_i (s)), some (gz_i (n)), none] [] 0 := by
  have e1 := gz_t11 hT a 0 p
  first | refine gz_aload_n (pc := 0) dX1_holds_0 rfl ?_ | refine gz_aload_nN (pc := 0) dX1_holds_0 rfl ?_
  refine gz_getr (pc := 1) dX1_holds_1 fl_X1_9 rfl rfl rfl (by first | exact gz_B1 | (omega)) ?_
  refine gz_iload_n (pc := 4) dX1_holds_4 rfl ?_
  refine gz_zald (pc := 5) dX1_holds_5 rfl rfl (by first | exact gz_B1 | (omega)) (by omega) ?_
  refine gz_if_ne (pc := 6) (tgt := 11) dX1_holds_6 (by decide) (by omega) (fun h6 => ?_) (fun h6 => ?_)
  · refine gz_iconst (pc := 11) dX1_holds_11 ?_
    refine gz_istore (pc := 12) dX1_holds_12 rfl rfl rfl ?_
    exact lp_X1_holds l D α cA ha hT hr hr2 hb h8 hp hs (by omega) 0 (by omega) (by omega) (fun j h1 h2 => by omega)
  · refine gz_iconst (pc := 9) dX1_holds_9 ?_
    refine gz_zret (pc := 10) dX1_holds_10 rfl (by first | exact Or.inl rfl | exact Or.inr rfl | omega) ?_
    exact ⟨rfl, Or.inr ⟨rfl, fun q => by omega⟩⟩
set_option maxHeartbeats 4000000 in
set_option maxRecDepth 100000 in
theorem lp_X1_clear (l : Launch) (D : va_G) (α : gz_P → Nat) (cA : Nat → ClassId) {I0 : gz_M} {a : Int} (ha : 0 ≤ a ∧ a < 5) : ∀ i, i ≤ 120 → ∀ I : gz_M, gz_T I → 0 ≤ i → (∀ q, q ≠ (11, a, 0) → I q = I0 q) → (∀ j, 0 ≤ j → j < i → I (11, a, 0) j = 0) → gz_V l D α cA RX1 cX1_clear none 2 0 (gz_Qv fun I' => gz_T I' ∧ (∀ q, q ≠ (11, a, 0) → I' q = I0 q) ∧ ∀ i, 0 ≤ i → i < 120 → I' (11, a, 0) i = 0) I [some (.ref (α (10, a, 0))), some (gz_i (i))] [] 2 := by
  refine gz_upto _ ?_
  intro i hi ih I hT h0 hq hj
  refine gz_iload_n (pc := 2) dX1_clear_2 rfl ?_
  refine gz_bipush (pc := 3) dX1_clear_3 rfl ?_
  refine gz_icmp_ge (pc := 5) (tgt := 21) dX1_clear_5 (by decide) (by omega) (by omega) (fun h5 => ?_) (fun h5 => ?_)
  · refine gz_vret (pc := 21) dX1_clear_21 rfl ?_
    exact ⟨hT, hq, fun j h1 h2 => hj j h1 (by omega)⟩
  · first | refine gz_aload_n (pc := 8) dX1_clear_8 rfl ?_ | refine gz_aload_nN (pc := 8) dX1_clear_8 rfl ?_
    refine gz_getr (pc := 9) dX1_clear_9 fl_X1_9 rfl rfl rfl (by first | exact gz_B1 | (omega)) ?_
    refine gz_iload_n (pc := 12) dX1_clear_12 rfl ?_
    refine gz_iconst (pc := 13) dX1_clear_13 ?_
    refine gz_zast (pc := 14) dX1_clear_14 rfl rfl (by first | exact gz_B1 | (omega)) (by omega) (by exact Or.inl rfl) ?_
    refine gz_iinc (pc := 15) dX1_clear_15 rfl rfl rfl rfl ?_
    refine gz_goto (pc := 18) (tgt := 2) dX1_clear_18 (by decide) ?_
    refine ih (i + 1) (by omega) (by omega) _ (gz_Tu11 hT (by decide)) (by omega) (fun q e => by rw [gz_up_ne e]; exact hq q e) (fun j h1 h2 => ?_)
    rw [gz_up_eq]
    by_cases e : j = i
    · rw [if_pos e]
    · rw [if_neg e]; exact hj j h1 (by omega)
set_option maxHeartbeats 4000000 in
set_option maxRecDepth 100000 in
theorem ct_X1_clear (l : Launch) (D : va_G) (α : gz_P → Nat) (cA : Nat → ClassId) {I0 : gz_M} {a : Int} (ha : 0 ≤ a ∧ a < 5) (hT : gz_T I0) : gz_V l D α cA RX1 cX1_clear none 2 0 (gz_Qv fun I' => gz_T I' ∧ (∀ q, q ≠ (11, a, 0) → I' q = I0 q) ∧ ∀ i, 0 ≤ i → i < 120 → I' (11, a, 0) i = 0) I0 [some (.ref (α (10, a, 0))), none] [] 0 := by
  refine gz_iconst (pc := 0) dX1_clear_0 ?_
  refine gz_istore_n (pc := 1) dX1_clear_1 rfl rfl rfl ?_
  exact lp_X1_clear l D α cA ha 0 (by omega) I0 hT (by omega) (fun q _ => rfl) (fun j h1 h2 => by omega)
end
section
set_option maxHeartbeats 4000000 in
set_option maxRecDepth 100000 in
theorem ct_X3_isThere (l : Launch) (D : va_G) (α : gz_P → Nat) (cA : Nat → ClassId) {I : gz_M} (hT : gz_T I) {p : Int} (hp : (-2147483648 ≤ p ∧ p ≤ 2147483647)) : gz_V l D α cA RX3 cX3_isThere (some .boolean) 2 0 (gz_Qi fun x I' => I = I' ∧ (x = 1 ∧ (0 ≤ p ∧ p < 120 ∧ 0 < I (13, 0, 0) p) ∨ x = 0 ∧ ¬ (0 ≤ p ∧ p < 120 ∧ 0 < I (13, 0, 0) p))) I [some (.ref (α (3, 0, 0))), some (gz_i (p))] [] 0 := by
  have e1 := gz_t13 hT 0 0 p
  refine gz_iload_n (pc := 0) dX3_isThere_0 rfl ?_
  refine gz_if_lt (pc := 1) (tgt := 23) dX3_isThere_1 (by decide) (by omega) (fun h1 => ?_) (fun h1 => ?_)
  · refine gz_iconst (pc := 23) dX3_isThere_23 ?_
    refine gz_zret (pc := 24) dX3_isThere_24 rfl (by first | exact Or.inl rfl | exact Or.inr rfl | omega) ?_
    exact ⟨rfl, by omega⟩
  · refine gz_iload_n (pc := 4) dX3_isThere_4 rfl ?_
    refine gz_bipush (pc := 5) dX3_isThere_5 rfl ?_
    refine gz_icmp_ge (pc := 7) (tgt := 23) dX3_isThere_7 (by decide) (by omega) (by omega) (fun h7 => ?_) (fun h7 => ?_)
    · refine gz_iconst (pc := 23) dX3_isThere_23 ?_
      refine gz_zret (pc := 24) dX3_isThere_24 rfl (by first | exact Or.inl rfl | exact Or.inr rfl | omega) ?_
      exact ⟨rfl, by omega⟩
    · first | refine gz_aload_n (pc := 10) dX3_isThere_10 rfl ?_ | refine gz_aload_nN (pc := 10) dX3_isThere_10 rfl ?_
      refine gz_getr (pc := 11) dX3_isThere_11 fl_X3_18 rfl rfl rfl (by first | exact gz_B1 | (omega)) ?_
      refine gz_iload_n (pc := 14) dX3_isThere_14 rfl ?_
      refine gz_iald (pc := 15) dX3_isThere_15 rfl rfl (by first | exact gz_B1 | (omega)) (by omega) ?_
      refine gz_if_le (pc := 16) (tgt := 23) dX3_isThere_16 (by decide) (by omega) (fun h16 => ?_) (fun h16 => ?_)
      · refine gz_iconst (pc := 23) dX3_isThere_23 ?_
        refine gz_zret (pc := 24) dX3_isThere_24 rfl (by first | exact Or.inl rfl | exact Or.inr rfl | omega) ?_
        exact ⟨rfl, by omega⟩
      · refine gz_iconst (pc := 19) dX3_isThere_19 ?_
        refine gz_goto (pc := 20) (tgt := 24) dX3_isThere_20 (by decide) ?_
        refine gz_zret (pc := 24) dX3_isThere_24 rfl (by first | exact Or.inl rfl | exact Or.inr rfl | omega) ?_
        exact ⟨rfl, by omega⟩
set_option maxHeartbeats 4000000 in
set_option maxRecDepth 100000 in
theorem ct_X3_isSound (l : Launch) (D : va_G) (α : gz_P → Nat) (cA : Nat → ClassId) {I : gz_M} (hT : gz_T I) {p a : Int} (hp : 0 ≤ p ∧ p < 120) (ha : 0 ≤ a ∧ a < 5) : gz_V l D α cA RX3 cX3_isSound (some .boolean) 3 1 (gz_Qi fun x I' => I = I' ∧ (x = 1 ∧ (I (11, a, 0) p = 1 ∧ gz_dg (fun i => I (12, a, 0) (32 * p + i)) (I (13, 0, 0) p).toNat = I (14, 0, 0) p) ∨ x = 0 ∧ ¬ (I (11, a, 0) p = 1 ∧ gz_dg (fun i => I (12, a, 0) (32 * p + i)) (I (13, 0, 0) p).toNat = I (14, 0, 0) p))) I [some (.ref (α (3, 0, 0))), some (gz_i (p)), some (.ref (α (10, a, 0)))] [] 0 := by
  have e1 := gz_t13 hT 0 0 p
  have e2 := gz_t11 hT a 0 p
  have e3 := gz_t14 hT 0 0 p
  have e4 := gz_dg_in (fun i => I (12, a, 0) (32 * p + i)) (I (13, 0, 0) p).toNat
  first | refine gz_aload_n (pc := 0) dX3_isSound_0 rfl ?_ | refine gz_aload_nN (pc := 0) dX3_isSound_0 rfl ?_
  refine gz_getr (pc := 1) dX3_isSound_1 fl_X3_41 rfl rfl rfl (by first | exact gz_B1 | (omega)) ?_
  refine gz_iload_n (pc := 4) dX3_isSound_4 rfl ?_
  refine gz_zald (pc := 5) dX3_isSound_5 rfl rfl (by first | exact gz_B1 | (omega)) (by omega) ?_
  refine gz_if_eq (pc := 6) (tgt := 39) dX3_isSound_6 (by decide) (by omega) (fun h6 => ?_) (fun h6 => ?_)
  · refine gz_iconst (pc := 39) dX3_isSound_39 ?_
    refine gz_zret (pc := 40) dX3_isSound_40 rfl (by first | exact Or.inl rfl | exact Or.inr rfl | omega) ?_
    exact ⟨rfl, by omega⟩
  · first | refine gz_aload_n (pc := 9) dX3_isSound_9 rfl ?_ | refine gz_aload_nN (pc := 9) dX3_isSound_9 rfl ?_
    refine gz_getr (pc := 10) dX3_isSound_10 fl_X3_45 rfl rfl rfl (by first | exact gz_B1 | (omega)) ?_
    refine gz_iload_n (pc := 13) dX3_isSound_13 rfl ?_
    refine gz_bipush (pc := 14) dX3_isSound_14 rfl ?_
    refine gz_imulc (pc := 16) dX3_isSound_16 ?_
    first | refine gz_aload_n (pc := 17) dX3_isSound_17 rfl ?_ | refine gz_aload_nN (pc := 17) dX3_isSound_17 rfl ?_
    refine gz_getr (pc := 18) dX3_isSound_18 fl_X3_18 rfl rfl rfl (by first | exact gz_B1 | (omega)) ?_
    refine gz_iload_n (pc := 21) dX3_isSound_21 rfl ?_
    refine gz_iald (pc := 22) dX3_isSound_22 rfl rfl (by first | exact gz_B1 | (omega)) (by omega) ?_
    refine gz_cN3i (pc := 23) dX3_isSound_23 rfl my_X4_digestOf rfl rfl (ct_X4_digestOf l D α cA (r := 12) rfl rfl (by omega) (fun i => gz_t12 hT a 0 i) (by omega)) (fun x23 I23 h23 => ?_)
    obtain ⟨rfl, rfl⟩ := h23
    first | refine gz_aload_n (pc := 26) dX3_isSound_26 rfl ?_ | refine gz_aload_nN (pc := 26) dX3_isSound_26 rfl ?_
    refine gz_getr (pc := 27) dX3_isSound_27 fl_X3_22 rfl rfl rfl (by first | exact gz_B1 | (omega)) ?_
    refine gz_iload_n (pc := 30) dX3_isSound_30 rfl ?_
    refine gz_iald (pc := 31) dX3_isSound_31 rfl rfl (by first | exact gz_B1 | (omega)) (by omega) ?_
    refine gz_icmp_ne (pc := 32) (tgt := 39) dX3_isSound_32 (by decide) (by omega) (by omega) (fun h32 => ?_) (fun h32 => ?_)
    · refine gz_iconst (pc := 39) dX3_isSound_39 ?_
      refine gz_zret (pc := 40) dX3_isSound_40 rfl (by first | exact Or.inl rfl | exact Or.inr rfl | omega) ?_
      exact ⟨rfl, by omega⟩
    · refine gz_iconst (pc := 35) dX3_isSound_35 ?_
      refine gz_goto (pc := 36) (tgt := 40) dX3_isSound_36 (by decide) ?_
      refine gz_zret (pc := 40) dX3_isSound_40 rfl (by first | exact Or.inl rfl | exact Or.inr rfl | omega) ?_
      exact ⟨rfl, by omega⟩
set_option maxHeartbeats 4000000 in
set_option maxRecDepth 100000 in
theorem ct_X3_hasByte (l : Launch) (D : va_G) (α : gz_P → Nat) (cA : Nat → ClassId) {I : gz_M} (hT : gz_T I) {p a i : Int} (hp : (-2147483648 ≤ p ∧ p ≤ 2147483647)) (hi : (-2147483648 ≤ i ∧ i ≤ 2147483647)) (ha : 0 ≤ a ∧ a < 5) : gz_V l D α cA RX3 cX3_hasByte (some .boolean) 4 1 (gz_Qi fun x I' => I = I' ∧ (x = 1 ∧ ((0 ≤ p ∧ p < 120 ∧ 0 < I (13, 0, 0) p) ∧ I (11, a, 0) p = 1 ∧ 0 ≤ i ∧ i < I (13, 0, 0) p) ∨ x = 0 ∧ ¬ ((0 ≤ p ∧ p < 120 ∧ 0 < I (13, 0, 0) p) ∧ I (11, a, 0) p = 1 ∧ 0 ≤ i ∧ i < I (13, 0, 0) p))) I [some (.ref (α (3, 0, 0))), some (gz_i (p)), some (.ref (α (10, a, 0))), some (gz_i (i))] [] 0 := by
  have e1 := gz_t13 hT 0 0 p
  have e2 := gz_t11 hT a 0 p
  first | refine gz_aload_n (pc := 0) dX3_hasByte_0 rfl ?_ | refine gz_aload_nN (pc := 0) dX3_hasByte_0 rfl ?_
  refine gz_iload_n (pc := 1) dX3_hasByte_1 rfl ?_
  refine gz_cV1i (pc := 2) dX3_hasByte_2 wm_X3_52 my_X3_isThere rfl rfl rfl (by first | exact gz_B1 | (omega)) (ct_X3_isThere l D α cA hT hp) (fun x2 I2 h2 => ?_)
  obtain ⟨rfl, hx2⟩ := h2
  refine gz_if_eq (pc := 5) (tgt := 35) dX3_hasByte_5 (by decide) (by omega) (fun h5 => ?_) (fun h5 => ?_)
  · refine gz_iconst (pc := 35) dX3_hasByte_35 ?_
    refine gz_zret (pc := 36) dX3_hasByte_36 rfl (by first | exact Or.inl rfl | exact Or.inr rfl | omega) ?_
    exact ⟨rfl, by omega⟩
  · first | refine gz_aload_n (pc := 8) dX3_hasByte_8 rfl ?_ | refine gz_aload_nN (pc := 8) dX3_hasByte_8 rfl ?_
    refine gz_getr (pc := 9) dX3_hasByte_9 fl_X3_41 rfl rfl rfl (by first | exact gz_B1 | (omega)) ?_
    refine gz_iload_n (pc := 12) dX3_hasByte_12 rfl ?_
    refine gz_zald (pc := 13) dX3_hasByte_13 rfl rfl (by first | exact gz_B1 | (omega)) (by omega) ?_
    refine gz_if_eq (pc := 14) (tgt := 35) dX3_hasByte_14 (by decide) (by omega) (fun h14 => ?_) (fun h14 => ?_)
    · refine gz_iconst (pc := 35) dX3_hasByte_35 ?_
      refine gz_zret (pc := 36) dX3_hasByte_36 rfl (by first | exact Or.inl rfl | exact Or.inr rfl | omega) ?_
      exact ⟨rfl, by omega⟩
    · refine gz_iload_n (pc := 17) dX3_hasByte_17 rfl ?_
      refine gz_if_lt (pc := 18) (tgt := 35) dX3_hasByte_18 (by decide) (by omega) (fun h18 => ?_) (fun h18 => ?_)
      · refine gz_iconst (pc := 35) dX3_hasByte_35 ?_
        refine gz_zret (pc := 36) dX3_hasByte_36 rfl (by first | exact Or.inl rfl | exact Or.inr rfl | omega) ?_
        exact ⟨rfl, by omega⟩
      · refine gz_iload_n (pc := 21) dX3_hasByte_21 rfl ?_
        first | refine gz_aload_n (pc := 22) dX3_hasByte_22 rfl ?_ | refine gz_aload_nN (pc := 22) dX3_hasByte_22 rfl ?_
        refine gz_getr (pc := 23) dX3_hasByte_23 fl_X3_18 rfl rfl rfl (by first | exact gz_B1 | (omega)) ?_
        refine gz_iload_n (pc := 26) dX3_hasByte_26 rfl ?_
        refine gz_iald (pc := 27) dX3_hasByte_27 rfl rfl (by first | exact gz_B1 | (omega)) (by omega) ?_
        refine gz_icmp_ge (pc := 28) (tgt := 35) dX3_hasByte_28 (by decide) (by omega) (by omega) (fun h28 => ?_) (fun h28 => ?_)
        · refine gz_iconst (pc := 35) dX3_hasByte_35 ?_
          refine gz_zret (pc := 36) dX3_hasByte_36 rfl (by first | exact Or.inl rfl | exact Or.inr rfl | omega) ?_
          exact ⟨rfl, by omega⟩
        · refine gz_iconst (pc := 31) dX3_hasByte_31 ?_
          refine gz_goto (pc := 32) (tgt := 36) dX3_hasByte_32 (by decide) ?_
          refine gz_zret (pc := 36) dX3_hasByte_36 rfl (by first | exact Or.inl rfl | exact Or.inr rfl | omega) ?_
          exact ⟨rfl, by omega⟩
set_option maxHeartbeats 4000000 in
set_option maxRecDepth 100000 in
theorem lp_X3_brokenCount (l : Launch) (D : va_G) (α : gz_P → Nat) (cA : Nat → ClassId) {I : gz_M} (hT : gz_T I) : ∀ p, p ≤ 120 → ∀ n : Int, 0 ≤ p → n = gz_sm (fun p => if 0 < I (13, 0, 0) p ∧ ¬ (I (11, 4, 0) p = 1 ∧ gz_dg (fun i => I (12, 4, 0) (32 * p + i)) (I (13, 0, 0) p).toNat = I (14, 0, 0) p) then 1 else 0) p.toNat → gz_V l D α cA RX3 cX3_brokenCount (some .int) 3 2 (gz_Qi fun x I' => I = I' ∧ x = gz_sm (fun p => if 0 < I (13, 0, 0) p ∧ ¬ (I (11, 4, 0) p = 1 ∧ gz_dg (fun i => I (12, 4, 0) (32 * p + i)) (I (13, 0, 0) p).toNat = I (14, 0, 0) p) then 1 else 0) 120) I [some (.ref (α (3, 0, 0))), some (gz_i (n)), some (gz_i (p))] [] 4 := by
  refine gz_upto _ ?_
  intro p hp ih n h0 hn
  have e1 := gz_t13 hT 0 0 p
  have hb := gz_sm_in (f := (fun p => if 0 < I (13, 0, 0) p ∧ ¬ (I (11, 4, 0) p = 1 ∧ gz_dg (fun i => I (12, 4, 0) (32 * p + i)) (I (13, 0, 0) p).toNat = I (14, 0, 0) p) then 1 else 0)) (lo := 0) (hi := 1) (fun i => by split <;> omega) p.toNat
  refine gz_iload_n (pc := 4) dX3_brokenCount_4 rfl ?_
  refine gz_bipush (pc := 5) dX3_brokenCount_5 rfl ?_
  refine gz_icmp_ge (pc := 7) (tgt := 39) dX3_brokenCount_7 (by decide) (by omega) (by omega) (fun h7 => ?_) (fun h7 => ?_)
  · refine gz_iload_n (pc := 39) dX3_brokenCount_39 rfl ?_
    refine gz_iret (pc := 40) dX3_brokenCount_40 rfl ?_
    exact ⟨rfl, by rw [hn, show p = 120 by omega]; rfl⟩
  · first | refine gz_aload_n (pc := 10) dX3_brokenCount_10 rfl ?_ | refine gz_aload_nN (pc := 10) dX3_brokenCount_10 rfl ?_
    refine gz_iload_n (pc := 11) dX3_brokenCount_11 rfl ?_
    refine gz_cV1i (pc := 12) dX3_brokenCount_12 wm_X3_52 my_X3_isThere rfl rfl rfl (by first | exact gz_B1 | (omega)) (ct_X3_isThere l D α cA hT (by omega)) (fun x12 I12 h12 => ?_)
    obtain ⟨rfl, hx12⟩ := h12
    refine gz_if_eq (pc := 15) (tgt := 33) dX3_brokenCount_15 (by decide) (by omega) (fun h15 => ?_) (fun h15 => ?_)
    · refine gz_iinc (pc := 33) dX3_brokenCount_33 rfl rfl rfl rfl ?_
      refine gz_goto (pc := 36) (tgt := 4) dX3_brokenCount_36 (by decide) ?_
      refine ih (p + 1) (by omega) (by omega) _ (by omega) ?_
      rw [show (p + 1).toNat = p.toNat + 1 by omega]
      unfold gz_sm
      rw [← hn, Int.toNat_of_nonneg h0]
      first | rw [if_neg (by omega)] | rw [if_pos (by omega)]
      all_goals omega
    · first | refine gz_aload_n (pc := 18) dX3_brokenCount_18 rfl ?_ | refine gz_aload_nN (pc := 18) dX3_brokenCount_18 rfl ?_
      refine gz_iload_n (pc := 19) dX3_brokenCount_19 rfl ?_
      first | refine gz_aload_n (pc := 20) dX3_brokenCount_20 rfl ?_ | refine gz_aload_nN (pc := 20) dX3_brokenCount_20 rfl ?_
      refine gz_getr (pc := 21) dX3_brokenCount_21 fl_X3_12 rfl rfl rfl (by first | exact gz_B1 | (omega)) ?_
      refine gz_cV2i (pc := 24) dX3_brokenCount_24 wm_X3_56 my_X3_isSound rfl rfl rfl (by first | exact gz_B1 | (omega)) (ct_X3_isSound l D α cA hT (by omega) (by omega)) (fun x24 I24 h24 => ?_)
      obtain ⟨rfl, hx24⟩ := h24
      refine gz_if_ne (pc := 27) (tgt := 33) dX3_brokenCount_27 (by decide) (by omega) (fun h27 => ?_) (fun h27 => ?_)
      · refine gz_iinc (pc := 33) dX3_brokenCount_33 rfl rfl rfl rfl ?_
        refine gz_goto (pc := 36) (tgt := 4) dX3_brokenCount_36 (by decide) ?_
        refine ih (p + 1) (by omega) (by omega) _ (by omega) ?_
        rw [show (p + 1).toNat = p.toNat + 1 by omega]
        unfold gz_sm
        rw [← hn, Int.toNat_of_nonneg h0]
        first | rw [if_neg (by omega)] | rw [if_pos (by omega)]
        all_goals omega
      · refine gz_iinc (pc := 30) dX3_brokenCount_30 rfl rfl rfl rfl ?_
        refine gz_iinc (pc := 33) dX3_brokenCount_33 rfl rfl rfl rfl ?_
        refine gz_goto (pc := 36) (tgt := 4) dX3_brokenCount_36 (by decide) ?_
        refine ih (p + 1) (by omega) (by omega) _ (by omega) ?_
        rw [show (p + 1).toNat = p.toNat + 1 by omega]
        unfold gz_sm
        rw [← hn, Int.toNat_of_nonneg h0]
        first | rw [if_neg (by omega)] | rw [if_pos (by omega)]
        all_goals omega
set_option maxHeartbeats 4000000 in
set_option maxRecDepth 100000 in
theorem ct_X3_brokenCount (l : Launch) (D : va_G) (α : gz_P → Nat) (cA : Nat → ClassId) {I : gz_M} (hT : gz_T I) : gz_V l D α cA RX3 cX3_brokenCount (some .int) 3 2 (gz_Qi fun x I' => I = I' ∧ x = gz_sm (fun p => if 0 < I (13, 0, 0) p ∧ ¬ (I (11, 4, 0) p = 1 ∧ gz_dg (fun i => I (12, 4, 0) (32 * p + i)) (I (13, 0, 0) p).toNat = I (14, 0, 0) p) then 1 else 0) 120) I [some (.ref (α (3, 0, 0))), none, none] [] 0 := by
  refine gz_iconst (pc := 0) dX3_brokenCount_0 ?_
  refine gz_istore_n (pc := 1) dX3_brokenCount_1 rfl rfl rfl ?_
  refine gz_iconst (pc := 2) dX3_brokenCount_2 ?_
  refine gz_istore_n (pc := 3) dX3_brokenCount_3 rfl rfl rfl ?_
  exact lp_X3_brokenCount l D α cA hT 0 (by omega) 0 (by omega) rfl
set_option maxHeartbeats 4000000 in
set_option maxRecDepth 100000 in
theorem ct_X3_beginMarking (l : Launch) (D : va_G) (α : gz_P → Nat) (cA : Nat → ClassId) {I : gz_M} : gz_V l D α cA RX3 cX3_beginMarking none 1 0 (gz_Qv fun I' => I' = gz_up (gz_up I (3, 0, 0) 4 0) (3, 0, 0) 5 0) I [some (.ref (α (3, 0, 0)))] [] 0 := by
  first | refine gz_aload_n (pc := 0) dX3_beginMarking_0 rfl ?_ | refine gz_aload_nN (pc := 0) dX3_beginMarking_0 rfl ?_
  refine gz_iconst (pc := 1) dX3_beginMarking_1 ?_
  refine gz_putI (pc := 2) 4 dX3_beginMarking_2 fw_X3_28 rfl rfl rfl rfl (by first | exact gz_B1 | (omega)) (Or.inl rfl) ?_
  first | refine gz_aload_n (pc := 5) dX3_beginMarking_5 rfl ?_ | refine gz_aload_nN (pc := 5) dX3_beginMarking_5 rfl ?_
  refine gz_iconst (pc := 6) dX3_beginMarking_6 ?_
  refine gz_putI (pc := 7) 5 dX3_beginMarking_7 fw_X3_32 rfl rfl rfl rfl (by first | exact gz_B1 | (omega)) (Or.inl rfl) ?_
  refine gz_vret (pc := 10) dX3_beginMarking_10 rfl ?_
  rfl
def gz_tk1 (I : gz_M) (p : Int) : gz_M := gz_up (gz_up (gz_up (gz_up I (3, 0, 0) 6 (I (3, 0, 0) 6 - 1)) (3, 0, 0) 7 (I (3, 0, 0) 7 - I (13, 0, 0) p)) (13, 0, 0) p 0) (11, 4, 0) p 0
set_option maxHeartbeats 4000000 in
set_option maxRecDepth 100000 in
theorem ct_X3_takeAway (l : Launch) (D : va_G) (α : gz_P → Nat) (cA : Nat → ClassId) {I : gz_M} {p : Int} (hp : 0 ≤ p ∧ p < 120) : gz_V l D α cA RX3 cX3_takeAway none 2 0 (gz_Qv fun I' => I' = gz_tk1 I p) I [some (.ref (α (3, 0, 0))), some (gz_i (p))] [] 0 := by
  first | refine gz_aload_n (pc := 0) dX3_takeAway_0 rfl ?_ | refine gz_aload_nN (pc := 0) dX3_takeAway_0 rfl ?_
  refine gz_dup (pc := 1) dX3_takeAway_1 rfl ?_
  refine gz_getI (pc := 2) 6 dX3_takeAway_2 fl_X3_35 rfl rfl rfl rfl (by first | exact gz_B1 | (omega)) ?_
  refine gz_iconst (pc := 5) dX3_takeAway_5 ?_
  refine gz_isub (pc := 6) dX3_takeAway_6 ?_
  refine gz_putI (pc := 7) 6 dX3_takeAway_7 fw_X3_35 rfl rfl rfl rfl (by first | exact gz_B1 | (omega)) (Or.inl rfl) ?_
  first | refine gz_aload_n (pc := 10) dX3_takeAway_10 rfl ?_ | refine gz_aload_nN (pc := 10) dX3_takeAway_10 rfl ?_
  refine gz_dup (pc := 11) dX3_takeAway_11 rfl ?_
  refine gz_getI (pc := 12) 7 dX3_takeAway_12 fl_X3_38 rfl rfl rfl rfl (by first | exact gz_B1 | (omega)) ?_
  first | refine gz_aload_n (pc := 15) dX3_takeAway_15 rfl ?_ | refine gz_aload_nN (pc := 15) dX3_takeAway_15 rfl ?_
  refine gz_getr (pc := 16) dX3_takeAway_16 fl_X3_18 rfl rfl rfl (by first | exact gz_B1 | (omega)) ?_
  refine gz_iload_n (pc := 19) dX3_takeAway_19 rfl ?_
  refine gz_iald (pc := 20) dX3_takeAway_20 rfl rfl (by first | exact gz_B1 | (omega)) (by omega) ?_
  refine gz_isub (pc := 21) dX3_takeAway_21 ?_
  refine gz_putI (pc := 22) 7 dX3_takeAway_22 fw_X3_38 rfl rfl rfl rfl (by first | exact gz_B1 | (omega)) (Or.inl rfl) ?_
  first | refine gz_aload_n (pc := 25) dX3_takeAway_25 rfl ?_ | refine gz_aload_nN (pc := 25) dX3_takeAway_25 rfl ?_
  refine gz_getr (pc := 26) dX3_takeAway_26 fl_X3_18 rfl rfl rfl (by first | exact gz_B1 | (omega)) ?_
  refine gz_iload_n (pc := 29) dX3_takeAway_29 rfl ?_
  refine gz_iconst (pc := 30) dX3_takeAway_30 ?_
  refine gz_iast (pc := 31) dX3_takeAway_31 rfl rfl (by first | exact gz_B1 | (omega)) (by omega) ?_
  first | refine gz_aload_n (pc := 32) dX3_takeAway_32 rfl ?_ | refine gz_aload_nN (pc := 32) dX3_takeAway_32 rfl ?_
  refine gz_getr (pc := 33) dX3_takeAway_33 fl_X3_12 rfl rfl rfl (by first | exact gz_B1 | (omega)) ?_
  refine gz_getr (pc := 36) dX3_takeAway_36 fl_X3_41 rfl rfl rfl (by first | exact gz_B1 | (omega)) ?_
  refine gz_iload_n (pc := 39) dX3_takeAway_39 rfl ?_
  refine gz_iconst (pc := 40) dX3_takeAway_40 ?_
  refine gz_zast (pc := 41) dX3_takeAway_41 rfl rfl (by first | exact gz_B1 | (omega)) (by omega) (by exact Or.inl rfl) ?_
  refine gz_vret (pc := 42) dX3_takeAway_42 rfl ?_
  simp (decide := true) only [gz_up_r, gz_up_s, gz_cp_r, gz_up_k, gz_tk1, and_false, false_and, and_self, if_false, if_true, reduceIte, ite_false]
set_option maxHeartbeats 4000000 in
set_option maxRecDepth 100000 in
theorem lp_X3_leastUnused (l : Launch) (D : va_G) (α : gz_P → Nat) (cA : Nat → ClassId) {I : gz_M} (hT : gz_T I) : ∀ p, p ≤ 120 → 0 ≤ p → (∀ q, 0 ≤ q → q < p → ¬ I (13, 0, 0) q = 0) → gz_V l D α cA RX3 cX3_leastUnused (some .int) 2 0 (gz_Qi fun x I' => I = I' ∧ (x = -1 ∧ (∀ q, 0 ≤ q → q < 120 → ¬ I (13, 0, 0) q = 0) ∨ (0 ≤ x ∧ x < 120) ∧ I (13, 0, 0) x = 0 ∧ ∀ q, 0 ≤ q → q < x → ¬ I (13, 0, 0) q = 0)) I [some (.ref (α (3, 0, 0))), some (gz_i (p))] [] 2 := by
  refine gz_upto _ ?_
  intro p hp ih h0 hq
  have e1 := gz_t13 hT 0 0 p
  refine gz_iload_n (pc := 2) dX3_leastUnused_2 rfl ?_
  refine gz_bipush (pc := 3) dX3_leastUnused_3 rfl ?_
  refine gz_icmp_ge (pc := 5) (tgt := 25) dX3_leastUnused_5 (by decide) (by omega) (by omega) (fun h5 => ?_) (fun h5 => ?_)
  · refine gz_iconst (pc := 25) dX3_leastUnused_25 ?_
    refine gz_iret (pc := 26) dX3_leastUnused_26 rfl ?_
    exact ⟨rfl, Or.inl ⟨rfl, fun q h1 h2 => hq q h1 (by omega)⟩⟩
  · first | refine gz_aload_n (pc := 8) dX3_leastUnused_8 rfl ?_ | refine gz_aload_nN (pc := 8) dX3_leastUnused_8 rfl ?_
    refine gz_getr (pc := 9) dX3_leastUnused_9 fl_X3_18 rfl rfl rfl (by first | exact gz_B1 | (omega)) ?_
    refine gz_iload_n (pc := 12) dX3_leastUnused_12 rfl ?_
    refine gz_iald (pc := 13) dX3_leastUnused_13 rfl rfl (by first | exact gz_B1 | (omega)) (by omega) ?_
    refine gz_if_ne (pc := 14) (tgt := 19) dX3_leastUnused_14 (by decide) (by omega) (fun h14 => ?_) (fun h14 => ?_)
    · refine gz_iinc (pc := 19) dX3_leastUnused_19 rfl rfl rfl rfl ?_
      refine gz_goto (pc := 22) (tgt := 2) dX3_leastUnused_22 (by decide) ?_
      refine ih (p + 1) (by omega) (by omega) (by omega) (fun q h1 h2 => ?_)
      by_cases e : q = p
      · rw [e]; exact h14
      · exact hq q h1 (by omega)
    · refine gz_iload_n (pc := 17) dX3_leastUnused_17 rfl ?_
      refine gz_iret (pc := 18) dX3_leastUnused_18 rfl ?_
      exact ⟨rfl, Or.inr ⟨by omega, h14, hq⟩⟩
set_option maxHeartbeats 4000000 in
set_option maxRecDepth 100000 in
theorem ct_X3_leastUnused (l : Launch) (D : va_G) (α : gz_P → Nat) (cA : Nat → ClassId) {I : gz_M} (hT : gz_T I) : gz_V l D α cA RX3 cX3_leastUnused (some .int) 2 0 (gz_Qi fun x I' => I = I' ∧ (x = -1 ∧ (∀ q, 0 ≤ q → q < 120 → ¬ I (13, 0, 0) q = 0) ∨ (0 ≤ x ∧ x < 120) ∧ I (13, 0, 0) x = 0 ∧ ∀ q, 0 ≤ q → q < x → ¬ I (13, 0, 0) q = 0)) I [some (.ref (α (3, 0, 0))), none] [] 0 := by
  refine gz_iconst (pc := 0) dX3_leastUnused_0 ?_
  refine gz_istore_n (pc := 1) dX3_leastUnused_1 rfl rfl rfl ?_
  exact lp_X3_leastUnused l D α cA hT 0 (by omega) (by omega) (fun q h1 h2 => by omega)
set_option maxHeartbeats 4000000 in
set_option maxRecDepth 100000 in
theorem lp_X3_findPart (l : Launch) (D : va_G) (α : gz_P → Nat) (cA : Nat → ClassId) {I : gz_M} (hT : gz_T I) {r sz na nb : Nat} {b c : Int} (hr : gz_shp r = (0, sz, na, nb)) (hr2 : (Nat.blt r 40 && Nat.ble sz 65536) = true) (hb : gz_B b c na nb) (h8 : ∀ i, 0 ≤ I (r, b, c) i ∧ I (r, b, c) i ≤ 255) {s n g : Int} (hs : 0 ≤ s ∧ 0 ≤ n ∧ s + n ≤ sz ∧ n ≤ 32) (hg : 0 ≤ g ∧ g ≤ 60) : ∀ p, p ≤ 120 → 0 ≤ p → (∀ q, 0 ≤ q → q < p → ¬ (I (13, 0, 0) q = n ∧ I (14, 0, 0) q = g ∧ I (11, 4, 0) q = 1 ∧ ∀ i, 0 ≤ i → i < n → I (12, 4, 0) (32 * q + i) = I (r, b, c) (s + i))) → gz_V l D α cA RX3 cX3_findPart (some .int) 6 1 (gz_Qi fun x I' => I = I' ∧ (x = -1 ∧ (∀ q, 0 ≤ q → q < 120 → ¬ (I (13, 0, 0) q = n ∧ I (14, 0, 0) q = g ∧ I (11, 4, 0) q = 1 ∧ ∀ i, 0 ≤ i → i < n → I (12, 4, 0) (32 * q + i) = I (r, b, c) (s + i))) ∨ (0 ≤ x ∧ x < 120) ∧ (I (13, 0, 0) x = n ∧ I (14, 0, 0) x = g ∧ I (11, 4, 0) x = 1 ∧ ∀ i, 0 ≤ i → i < n → I (12, 4, 0) (32 * x + i) = I (r, b, c) (s + i)) ∧ ∀ q, 0 ≤ q → q < x → ¬ (I (13, 0, 0) q = n ∧ I (14, 0, 0) q = g ∧ I (11, 4, 0) q = 1 ∧ ∀ i, 0 ≤ i → i < n → I (12, 4, 0) (32 * q + i) = I (r, b, c) (s + i)))) I [some (.ref (α (3, 0, 0))), some (.ref (α (r, b, c))), some (gz_i (s)), some (gz_i (n)), some (gz_i (g)), some (gz_i (p))] [] 3 := by
  refine gz_upto _ ?_
  intro p hp ih h0 hq
  have e1 := gz_t13 hT 0 0 p
  have e2 := gz_t14 hT 0 0 p
  refine gz_iload (pc := 3) dX3_findPart_3 rfl ?_
  refine gz_bipush (pc := 5) dX3_findPart_5 rfl ?_
  refine gz_icmp_ge (pc := 7) (tgt := 57) dX3_findPart_7 (by decide) (by omega) (by omega) (fun h7 => ?_) (fun h7 => ?_)
  · refine gz_iconst (pc := 57) dX3_findPart_57 ?_
    refine gz_iret (pc := 58) dX3_findPart_58 rfl ?_
    exact ⟨rfl, Or.inl ⟨rfl, fun q h1 h2 => hq q h1 (by omega)⟩⟩
  · first | refine gz_aload_n (pc := 10) dX3_findPart_10 rfl ?_ | refine gz_aload_nN (pc := 10) dX3_findPart_10 rfl ?_
    refine gz_getr (pc := 11) dX3_findPart_11 fl_X3_18 rfl rfl rfl (by first | exact gz_B1 | (omega)) ?_
    refine gz_iload (pc := 14) dX3_findPart_14 rfl ?_
    refine gz_iald (pc := 16) dX3_findPart_16 rfl rfl (by first | exact gz_B1 | (omega)) (by omega) ?_
    refine gz_iload_n (pc := 17) dX3_findPart_17 rfl ?_
    refine gz_icmp_ne (pc := 18) (tgt := 51) dX3_findPart_18 (by decide) (by omega) (by omega) (fun h18 => ?_) (fun h18 => ?_)
    · refine gz_iinc (pc := 51) dX3_findPart_51 rfl rfl rfl rfl ?_
      refine gz_goto (pc := 54) (tgt := 3) dX3_findPart_54 (by decide) ?_
      refine ih (p + 1) (by omega) (by omega) (by omega) (fun q h1 h2 => ?_)
      by_cases e : q = p
      · subst e
        intro hm
        first | exact h18 hm.1 | exact h30 hm.2.1 | (rcases hx42 with h9 | h9; exact absurd h9.1 (by omega); exact h9.2 hm.2.2)
      · exact hq q h1 (by omega)
    · first | refine gz_aload_n (pc := 21) dX3_findPart_21 rfl ?_ | refine gz_aload_nN (pc := 21) dX3_findPart_21 rfl ?_
      refine gz_getr (pc := 22) dX3_findPart_22 fl_X3_22 rfl rfl rfl (by first | exact gz_B1 | (omega)) ?_
      refine gz_iload (pc := 25) dX3_findPart_25 rfl ?_
      refine gz_iald (pc := 27) dX3_findPart_27 rfl rfl (by first | exact gz_B1 | (omega)) (by omega) ?_
      refine gz_iload (pc := 28) dX3_findPart_28 rfl ?_
      refine gz_icmp_ne (pc := 30) (tgt := 51) dX3_findPart_30 (by decide) (by omega) (by omega) (fun h30 => ?_) (fun h30 => ?_)
      · refine gz_iinc (pc := 51) dX3_findPart_51 rfl rfl rfl rfl ?_
        refine gz_goto (pc := 54) (tgt := 3) dX3_findPart_54 (by decide) ?_
        refine ih (p + 1) (by omega) (by omega) (by omega) (fun q h1 h2 => ?_)
        by_cases e : q = p
        · subst e
          intro hm
          first | exact h18 hm.1 | exact h30 hm.2.1 | (rcases hx42 with h9 | h9; exact absurd h9.1 (by omega); exact h9.2 hm.2.2)
        · exact hq q h1 (by omega)
      · first | refine gz_aload_n (pc := 33) dX3_findPart_33 rfl ?_ | refine gz_aload_nN (pc := 33) dX3_findPart_33 rfl ?_
        refine gz_getr (pc := 34) dX3_findPart_34 fl_X3_12 rfl rfl rfl (by first | exact gz_B1 | (omega)) ?_
        refine gz_iload (pc := 37) dX3_findPart_37 rfl ?_
        first | refine gz_aload_n (pc := 39) dX3_findPart_39 rfl ?_ | refine gz_aload_nN (pc := 39) dX3_findPart_39 rfl ?_
        refine gz_iload_n (pc := 40) dX3_findPart_40 rfl ?_
        refine gz_iload_n (pc := 41) dX3_findPart_41 rfl ?_
        refine gz_cV4i (pc := 42) dX3_findPart_42 wm_X3_71 my_X1_holds rfl rfl rfl (by first | exact gz_B1 | (omega)) (ct_X1_holds l D α cA (a := 4) (by omega) hT hr hr2 hb h8 (by omega) hs) (fun x42 I42 h42 => ?_)
        obtain ⟨rfl, hx42⟩ := h42
        refine gz_if_eq (pc := 45) (tgt := 51) dX3_findPart_45 (by decide) (by omega) (fun h45 => ?_) (fun h45 => ?_)
        · refine gz_iinc (pc := 51) dX3_findPart_51 rfl rfl rfl rfl ?_
          refine gz_goto (pc := 54) (tgt := 3) dX3_findPart_54 (by decide) ?_
          refine ih (p + 1) (by omega) (by omega) (by omega) (fun q h1 h2 => ?_)
          by_cases e : q = p
          · subst e
            intro hm
            first | exact h18 hm.1 | exact h30 hm.2.1 | (rcases hx42 with h9 | h9; exact absurd h9.1 (by omega); exact h9.2 hm.2.2)
          · exact hq q h1 (by omega)
        · refine gz_iload (pc := 48) dX3_findPart_48 rfl ?_
          refine gz_iret (pc := 50) dX3_findPart_50 rfl ?_
          refine ⟨rfl, Or.inr ⟨by omega, ⟨h18, h30, ?_⟩, hq⟩⟩
          rcases hx42 with h9 | h9
          · exact h9.2
          · exact absurd h9.1 (by omega)
set_option maxHeartbeats 4000000 in
set_option maxRecDepth 100000 in
theorem ct_X3_findPart (l : Launch) (D : va_G) (α : gz_P → Nat) (cA : Nat → ClassId) {I : gz_M} (hT : gz_T I) {r sz na nb : Nat} {b c : Int} (hr : gz_shp r = (0, sz, na, nb)) (hr2 : (Nat.blt r 40 && Nat.ble sz 65536) = true) (hb : gz_B b c na nb) (h8 : ∀ i, 0 ≤ I (r, b, c) i ∧ I (r, b, c) i ≤ 255) {s n g : Int} (hs : 0 ≤ s ∧ 0 ≤ n ∧ s + n ≤ sz ∧ n ≤ 32) (hg : 0 ≤ g ∧ g ≤ 60) : gz_V l D α cA RX3 cX3_findPart (some .int) 6 1 (gz_Qi fun x I' => I = I' ∧ (x = -1 ∧ (∀ q, 0 ≤ q → q < 120 → ¬ (I (13, 0, 0) q = n ∧ I (14, 0, 0) q = g ∧ I (11, 4, 0) q = 1 ∧ ∀ i, 0 ≤ i → i < n → I (12, 4, 0) (32 * q + i) = I (r, b, c) (s + i))) ∨ (0 ≤ x ∧ x < 120) ∧ (I (13, 0, 0) x = n ∧ I (14, 0, 0) x = g ∧ I (11, 4, 0) x = 1 ∧ ∀ i, 0 ≤ i → i < n → I (12, 4, 0) (32 * x + i) = I (r, b, c) (s + i)) ∧ ∀ q, 0 ≤ q → q < x → ¬ (I (13, 0, 0) q = n ∧ I (14, 0, 0) q = g ∧ I (11, 4, 0) q = 1 ∧ ∀ i, 0 ≤ i → i < n → I (12, 4, 0) (32 * q + i) = I (r, b, c) (s + i)))) I [some (.ref (α (3, 0, 0))), some (.ref (α (r, b, c))), some (gz_i (s)), some (gz_i (n)), some (gz_i (g)), none] [] 0 := by
  refine gz_iconst (pc := 0) dX3_findPart_0 ?_
  refine gz_istore (pc := 1) dX3_findPart_1 rfl rfl rfl ?_
  exact lp_X3_findPart l D α cA hT hr hr2 hb h8 hs hg 0 (by omega) (by omega) (fun q h1 h2 => by omega)
end
section
def gz_mkp (I : gz_M) (w : gz_P) (s n g x : Int) : gz_M := gz_up (gz_up (gz_up (gz_up (gz_up (gz_up (gz_up (gz_up (gz_cp I w (12, 4, 0) s (32 * x) n) (11, 4, 0) x 1) (13, 0, 0) x n) (14, 0, 0) x g) (3, 0, 0) 6 (I (3, 0, 0) 6 + 1)) (3, 0, 0) 7 (I (3, 0, 0) 7 + n)) (15, 0, 0) (I (3, 0, 0) 4) x) (3, 0, 0) 4 (I (3, 0, 0) 4 + 1)) (3, 0, 0) 5 (I (3, 0, 0) 5 + n)
theorem gz_mkp_13 {I : gz_M} {w : gz_P} {s n g x p : Int} : gz_mkp I w s n g x (13, 0, 0) p = if p = x then n else I (13, 0, 0) p := by
  unfold gz_mkp
  simp (decide := true) only [gz_up_r, gz_cp_r, gz_up_k, and_self, true_and]
theorem gz_mkp_14 {I : gz_M} {w : gz_P} {s n g x p : Int} : gz_mkp I w s n g x (14, 0, 0) p = if p = x then g else I (14, 0, 0) p := by
  unfold gz_mkp
  simp (decide := true) only [gz_up_r, gz_cp_r, gz_up_k, and_self, true_and]
theorem gz_mkp_11 {I : gz_M} {w : gz_P} {s n g x p a : Int} : gz_mkp I w s n g x (11, a, 0) p = if a = 4 ∧ p = x then 1 else I (11, a, 0) p := by
  unfold gz_mkp
  simp (decide := true) only [gz_up_r, gz_cp_r, gz_up_k, and_self, and_true]
theorem gz_mkp_12 {I : gz_M} {w : gz_P} {s n g x i a : Int} : gz_mkp I w s n g x (12, a, 0) i = if a = 4 ∧ 32 * x ≤ i ∧ i < 32 * x + n then I w (s + (i - 32 * x)) else I (12, a, 0) i := by
  unfold gz_mkp
  simp (decide := true) only [gz_up_r, gz_cp_k, and_true]
theorem gz_mkp_o {I : gz_M} {w : gz_P} {s n g x : Int} {q : gz_P} (h : q.1 ≠ 3 ∧ q.1 ≠ 11 ∧ q.1 ≠ 12 ∧ q.1 ≠ 13 ∧ q.1 ≠ 14 ∧ q.1 ≠ 15) : gz_mkp I w s n g x q = I q := by
  unfold gz_mkp
  rw [gz_up_ne (fun e => h.1 (by rw [e])), gz_up_ne (fun e => h.1 (by rw [e])), gz_up_ne (fun e => h.2.2.2.2.2 (by rw [e])), gz_up_ne (fun e => h.1 (by rw [e])), gz_up_ne (fun e => h.1 (by rw [e])), gz_up_ne (fun e => h.2.2.2.2.1 (by rw [e])), gz_up_ne (fun e => h.2.2.2.1 (by rw [e])), gz_up_ne (fun e => h.2.1 (by rw [e]))]
  funext i
  unfold gz_cp
  rw [if_neg (fun e => h.2.2.1 (by rw [e.1]))]
theorem gz_mkp_a {I : gz_M} (hT : gz_T I) {w : gz_P} {s n x : Int} (hn : 0 < n ∧ n ≤ 32) (hx : 0 ≤ x ∧ x < 120) : gz_aX (gz_mkp I w s n (gz_dg (fun i => I w (s + i)) n.toNat) x) = gz_add (gz_aX I) x (fun i => I w (s + i)) n := by
  funext c p i
  unfold gz_aX gz_add
  match c with
  | 0 =>
    show (if 0 ≤ p ∧ p < 120 then gz_mkp I w s n _ x (13, 0, 0) p else 0) = if p = x then n else if 0 ≤ p ∧ p < 120 then I (13, 0, 0) p else 0
    rw [gz_mkp_13]
    by_cases e : p = x
    · rw [if_pos e, if_pos e, if_pos (by omega)]
    · rw [if_neg e, if_neg e]
  | 1 =>
    show (if (0 ≤ p ∧ p < 120) ∧ 0 < gz_mkp I w s n _ x (13, 0, 0) p then gz_mkp I w s n _ x (14, 0, 0) p else 0) = if p = x then gz_dg (fun i => I w (s + i)) n.toNat else if (0 ≤ p ∧ p < 120) ∧ 0 < I (13, 0, 0) p then I (14, 0, 0) p else 0
    rw [gz_mkp_13, gz_mkp_14]
    by_cases e : p = x
    · rw [if_pos e, if_pos e, if_pos e, if_pos (by omega)]
    · rw [if_neg e, if_neg e, if_neg e]
  | 2 =>
    show (if (0 ≤ p ∧ p < 120) ∧ 0 < gz_mkp I w s n _ x (13, 0, 0) p then gz_mkp I w s n _ x (11, 4, 0) p else 0) = if p = x then 1 else if (0 ≤ p ∧ p < 120) ∧ 0 < I (13, 0, 0) p then I (11, 4, 0) p else 0
    rw [gz_mkp_13, gz_mkp_11]
    by_cases e : p = x
    · rw [if_pos e, if_pos e, if_pos (show (4 : Int) = 4 ∧ p = x from ⟨rfl, e⟩), if_pos (by omega)]
    · rw [if_neg e, if_neg e, if_neg (show ¬ ((4 : Int) = 4 ∧ p = x) from fun q => e q.2)]
  | 3 =>
    show (if (0 ≤ p ∧ p < 120) ∧ 0 ≤ i ∧ i < gz_mkp I w s n _ x (13, 0, 0) p then gz_mkp I w s n _ x (12, 4, 0) (32 * p + i) else 0) = if p = x then (if 0 ≤ i ∧ i < n then I w (s + i) else 0) else if (0 ≤ p ∧ p < 120) ∧ 0 ≤ i ∧ i < I (13, 0, 0) p then I (12, 4, 0) (32 * p + i) else 0
    rw [gz_mkp_13, gz_mkp_12]
    by_cases e : p = x
    · rw [if_pos e, if_pos e]
      by_cases hi : 0 ≤ i ∧ i < n
      · rw [if_pos hi, if_pos (by omega), if_pos (by omega), e, show s + (32 * x + i - 32 * x) = s + i by omega]
      · rw [if_neg hi, if_neg (fun q => hi q.2)]
    · rw [if_neg e, if_neg e]
      by_cases hi : (0 ≤ p ∧ p < 120) ∧ 0 ≤ i ∧ i < I (13, 0, 0) p
      · have := gz_t13 hT 0 0 p
        rw [if_pos hi, if_pos hi, if_neg (by omega)]
      · rw [if_neg hi, if_neg hi]
  | c + 4 =>
    show (0 : Int) = if p = x then 0 else 0
    rw [ite_self]
theorem gz_mt_X {I : gz_M} {f : Int → Int} {n q : Int} (hn : 0 < n) (hq : 0 ≤ q ∧ q < 120) : gz_mt (gz_aX I) f n q ↔ (I (13, 0, 0) q = n ∧ I (14, 0, 0) q = gz_dg f n.toNat ∧ I (11, 4, 0) q = 1 ∧ ∀ i, 0 ≤ i → i < n → I (12, 4, 0) (32 * q + i) = f i) := by
  unfold gz_mt gz_aX
  show ((if 0 ≤ q ∧ q < 120 then I (13, 0, 0) q else 0) = n ∧ (if (0 ≤ q ∧ q < 120) ∧ 0 < I (13, 0, 0) q then I (14, 0, 0) q else 0) = gz_dg f n.toNat ∧ (if (0 ≤ q ∧ q < 120) ∧ 0 < I (13, 0, 0) q then I (11, 4, 0) q else 0) = 1 ∧ ∀ i, 0 ≤ i → i < n → (if (0 ≤ q ∧ q < 120) ∧ 0 ≤ i ∧ i < I (13, 0, 0) q then I (12, 4, 0) (32 * q + i) else 0) = f i) ↔ _
  rw [if_pos hq]
  constructor
  · rintro ⟨h1, h2, h3, h4⟩
    rw [if_pos ⟨hq, by omega⟩] at h2 h3
    exact ⟨h1, h2, h3, fun i a b => by have := h4 i a b; rw [if_pos ⟨hq, a, by omega⟩] at this; exact this⟩
  · rintro ⟨h1, h2, h3, h4⟩
    rw [if_pos ⟨hq, by omega⟩, if_pos ⟨hq, by omega⟩]
    exact ⟨h1, h2, h3, fun i a b => by rw [if_pos ⟨hq, a, by omega⟩]; exact h4 i a b⟩
theorem gz_z_X {I : gz_M} {q : Int} (hq : 0 ≤ q ∧ q < 120) : gz_aX I 0 q 0 = 0 ↔ I (13, 0, 0) q = 0 := by
  show (if 0 ≤ q ∧ q < 120 then I (13, 0, 0) q else 0) = 0 ↔ _
  rw [if_pos hq]
theorem gz_cnt_lt {S : gz_S} {x : Int} (hx : 0 ≤ x ∧ x < 120) (h : S 0 x 0 = 0) : gz_cnt S < 120 := by
  unfold gz_cnt
  have h1 := gz_sm_up (f := fun p => if 0 < S 0 p 0 then 1 else 0) (g := fun p => if p = x then 1 else if 0 < S 0 p 0 then 1 else 0) (q := x) (fun i hi => if_neg hi) 120
  have h2 := gz_sm_in (f := fun p => if p = x then 1 else if 0 < S 0 p 0 then 1 else 0) (lo := 0) (hi := 1) (fun i => by split; omega; split <;> omega) 120
  rw [if_pos (by omega), if_pos rfl, if_neg (by rw [h]; omega)] at h1
  omega
theorem gz_tot_in {I : gz_M} (hT : gz_T I) : 0 ≤ gz_tot (gz_aX I) ∧ gz_tot (gz_aX I) ≤ 3840 := by
  have := gz_sm_in (f := fun p => gz_aX I 0 p 0) (lo := 0) (hi := 32) (fun p => by
    show 0 ≤ (if 0 ≤ p ∧ p < 120 then I (13, 0, 0) p else 0) ∧ (if 0 ≤ p ∧ p < 120 then I (13, 0, 0) p else 0) ≤ 32
    have := gz_t13 hT 0 0 p
    split <;> omega) 120
  unfold gz_tot
  omega
set_option maxHeartbeats 4000000 in
set_option maxRecDepth 100000 in
theorem ct_X3_makePart (l : Launch) (D : va_G) (α : gz_P → Nat) (cA : Nat → ClassId) {I : gz_M} (hT : gz_T I) {r sz na nb : Nat} {b c : Int} (hr : gz_shp r = (0, sz, na, nb)) (hr2 : (Nat.blt r 40 && Nat.blt 12 40 && Nat.ble sz 65536 && Nat.ble 3840 65536) = true) (hb : gz_B b c na nb) (h8 : ∀ i, 0 ≤ I (r, b, c) i ∧ I (r, b, c) i ≤ 255) {s n g : Int} (hs : 0 ≤ s ∧ 0 < n ∧ s + n ≤ sz ∧ n ≤ 32) (hg : 0 ≤ g ∧ g ≤ 60) (hE : I (3, 0, 0) 7 = gz_tot (gz_aX I)) (hF : 0 ≤ I (3, 0, 0) 4 ∧ I (3, 0, 0) 4 ≤ gz_cnt (gz_aX I)) : gz_V l D α cA RX3 cX3_makePart (some .int) 6 2 (gz_Qi fun x I' => (x = -1 ∧ I = I' ∧ ((∀ q, 0 ≤ q → q < 120 → ¬ I (13, 0, 0) q = 0) ∨ 2400 < I (3, 0, 0) 7 + n)) ∨ ((0 ≤ x ∧ x < 120) ∧ I (13, 0, 0) x = 0 ∧ (∀ q, 0 ≤ q → q < x → ¬ I (13, 0, 0) q = 0) ∧ I (3, 0, 0) 7 + n ≤ 2400 ∧ I' = gz_mkp I (r, b, c) s n g x)) I [some (.ref (α (3, 0, 0))), some (.ref (α (r, b, c))), some (gz_i (s)), some (gz_i (n)), some (gz_i (g)), none] [] 0 := by
  have e7 := gz_tot_in hT
  first | refine gz_aload_n (pc := 0) dX3_makePart_0 rfl ?_ | refine gz_aload_nN (pc := 0) dX3_makePart_0 rfl ?_
  refine gz_cV0i (pc := 1) dX3_makePart_1 wm_X3_75 my_X3_leastUnused rfl rfl rfl (by first | exact gz_B1 | (omega)) (ct_X3_leastUnused l D α cA hT) (fun x1 I1 h1 => ?_)
  obtain ⟨rfl, hx1⟩ := h1
  have hxr : -1 ≤ x1 ∧ x1 < 120 := by rcases hx1 with h | h <;> omega
  refine gz_istore (pc := 4) dX3_makePart_4 rfl rfl rfl ?_
  refine gz_iload (pc := 6) dX3_makePart_6 rfl ?_
  refine gz_iconst (pc := 8) dX3_makePart_8 ?_
  refine gz_icmp_eq (pc := 9) (tgt := 24) dX3_makePart_9 (by decide) (by omega) (by omega) (fun h9 => ?_) (fun h9 => ?_)
  · refine gz_iconst (pc := 24) dX3_makePart_24 ?_
    refine gz_iret (pc := 25) dX3_makePart_25 rfl ?_
    exact Or.inl ⟨rfl, rfl, by first | exact Or.inr (by omega) | (rcases hx1 with h | h; exact Or.inl h.2; exact absurd h9 (by omega))⟩
  · first | refine gz_aload_n (pc := 12) dX3_makePart_12 rfl ?_ | refine gz_aload_nN (pc := 12) dX3_makePart_12 rfl ?_
    refine gz_getI (pc := 13) 7 dX3_makePart_13 fl_X3_38 rfl rfl rfl rfl (by first | exact gz_B1 | (omega)) ?_
    refine gz_iload_n (pc := 16) dX3_makePart_16 rfl ?_
    refine gz_iadd (pc := 17) dX3_makePart_17 ?_
    refine gz_sipush (pc := 18) dX3_makePart_18 rfl ?_
    refine gz_icmp_le (pc := 21) (tgt := 26) dX3_makePart_21 (by decide) (by omega) (by omega) (fun h21 => ?_) (fun h21 => ?_)
    · have hx4 : (0 ≤ x1 ∧ x1 < 120) ∧ I (13, 0, 0) x1 = 0 ∧ ∀ q, 0 ≤ q → q < x1 → ¬ I (13, 0, 0) q = 0 := by
        rcases hx1 with h9 | h9
        · exact absurd h9.1 (fun e => absurd e (by omega))
        · exact h9
      have hx5 := hx4.1
      have hfc : I (3, 0, 0) 4 < 120 := by
        have := gz_cnt_lt (S := gz_aX I) hx4.1 ((gz_z_X hx4.1).mpr hx4.2.1)
        omega
      first | refine gz_aload_n (pc := 26) dX3_makePart_26 rfl ?_ | refine gz_aload_nN (pc := 26) dX3_makePart_26 rfl ?_
      refine gz_getr (pc := 27) dX3_makePart_27 fl_X3_12 rfl rfl rfl (by first | exact gz_B1 | (omega)) ?_
      refine gz_iload (pc := 30) dX3_makePart_30 rfl ?_
      first | refine gz_aload_n (pc := 32) dX3_makePart_32 rfl ?_ | refine gz_aload_nN (pc := 32) dX3_makePart_32 rfl ?_
      refine gz_iload_n (pc := 33) dX3_makePart_33 rfl ?_
      refine gz_iload_n (pc := 34) dX3_makePart_34 rfl ?_
      refine gz_cV4v (pc := 35) dX3_makePart_35 wm_X3_79 my_X1_put rfl rfl rfl (by first | exact gz_B1 | (omega)) (ct_X1_put l D α cA (a := 4) (by omega) hr hr2 hb hx5 (by omega)) (fun I35 h35 => ?_)
      subst h35
      first | refine gz_aload_n (pc := 38) dX3_makePart_38 rfl ?_ | refine gz_aload_nN (pc := 38) dX3_makePart_38 rfl ?_
      refine gz_getr (pc := 39) dX3_makePart_39 fl_X3_18 rfl rfl rfl (by first | exact gz_B1 | (omega)) ?_
      refine gz_iload (pc := 42) dX3_makePart_42 rfl ?_
      refine gz_iload_n (pc := 44) dX3_makePart_44 rfl ?_
      refine gz_iast (pc := 45) dX3_makePart_45 rfl rfl (by first | exact gz_B1 | (omega)) (by omega) ?_
      first | refine gz_aload_n (pc := 46) dX3_makePart_46 rfl ?_ | refine gz_aload_nN (pc := 46) dX3_makePart_46 rfl ?_
      refine gz_getr (pc := 47) dX3_makePart_47 fl_X3_22 rfl rfl rfl (by first | exact gz_B1 | (omega)) ?_
      refine gz_iload (pc := 50) dX3_makePart_50 rfl ?_
      refine gz_iload (pc := 52) dX3_makePart_52 rfl ?_
      refine gz_iast (pc := 54) dX3_makePart_54 rfl rfl (by first | exact gz_B1 | (omega)) (by omega) ?_
      first | refine gz_aload_n (pc := 55) dX3_makePart_55 rfl ?_ | refine gz_aload_nN (pc := 55) dX3_makePart_55 rfl ?_
      refine gz_dup (pc := 56) dX3_makePart_56 rfl ?_
      refine gz_getI (pc := 57) 6 dX3_makePart_57 fl_X3_35 rfl rfl rfl rfl (by first | exact gz_B1 | (omega)) ?_
      refine gz_iconst (pc := 60) dX3_makePart_60 ?_
      refine gz_iadd (pc := 61) dX3_makePart_61 ?_
      refine gz_putI (pc := 62) 6 dX3_makePart_62 fw_X3_35 rfl rfl rfl rfl (by first | exact gz_B1 | (omega)) (Or.inl rfl) ?_
      first | refine gz_aload_n (pc := 65) dX3_makePart_65 rfl ?_ | refine gz_aload_nN (pc := 65) dX3_makePart_65 rfl ?_
      refine gz_dup (pc := 66) dX3_makePart_66 rfl ?_
      refine gz_getI (pc := 67) 7 dX3_makePart_67 fl_X3_38 rfl rfl rfl rfl (by first | exact gz_B1 | (omega)) ?_
      refine gz_iload_n (pc := 70) dX3_makePart_70 rfl ?_
      refine gz_iadd (pc := 71) dX3_makePart_71 ?_
      refine gz_putI (pc := 72) 7 dX3_makePart_72 fw_X3_38 rfl rfl rfl rfl (by first | exact gz_B1 | (omega)) (Or.inl rfl) ?_
      first | refine gz_aload_n (pc := 75) dX3_makePart_75 rfl ?_ | refine gz_aload_nN (pc := 75) dX3_makePart_75 rfl ?_
      refine gz_getr (pc := 76) dX3_makePart_76 fl_X3_25 rfl rfl rfl (by first | exact gz_B1 | (omega)) ?_
      first | refine gz_aload_n (pc := 79) dX3_makePart_79 rfl ?_ | refine gz_aload_nN (pc := 79) dX3_makePart_79 rfl ?_
      refine gz_getI (pc := 80) 4 dX3_makePart_80 fl_X3_28 rfl rfl rfl rfl (by first | exact gz_B1 | (simp (decide := true) only [gz_up_r, gz_up_s, gz_cp_r, gz_up_k, gz_mkp, and_false, false_and, and_self, if_false, if_true, reduceIte, ite_false, true_and])) ?_
      refine gz_iload (pc := 83) dX3_makePart_83 rfl ?_
      refine gz_iast (pc := 85) dX3_makePart_85 rfl rfl (by first | exact gz_B1 | (simp (decide := true) only [gz_up_r, gz_up_s, gz_cp_r, gz_up_k, gz_mkp, and_false, false_and, and_self, if_false, if_true, reduceIte, ite_false, true_and]; omega)) (by simp (decide := true) only [gz_up_r, gz_up_s, gz_cp_r, gz_up_k, gz_mkp, and_false, false_and, and_self, if_false, if_true, reduceIte, ite_false, true_and]; omega) ?_
      first | refine gz_aload_n (pc := 86) dX3_makePart_86 rfl ?_ | refine gz_aload_nN (pc := 86) dX3_makePart_86 rfl ?_
      refine gz_dup (pc := 87) dX3_makePart_87 rfl ?_
      refine gz_getI (pc := 88) 4 dX3_makePart_88 fl_X3_28 rfl rfl rfl rfl (by first | exact gz_B1 | (omega)) ?_
      refine gz_iconst (pc := 91) dX3_makePart_91 ?_
      refine gz_iadd (pc := 92) dX3_makePart_92 ?_
      refine gz_putI (pc := 93) 4 dX3_makePart_93 fw_X3_28 rfl rfl rfl rfl (by first | exact gz_B1 | (omega)) (Or.inl rfl) ?_
      first | refine gz_aload_n (pc := 96) dX3_makePart_96 rfl ?_ | refine gz_aload_nN (pc := 96) dX3_makePart_96 rfl ?_
      refine gz_dup (pc := 97) dX3_makePart_97 rfl ?_
      refine gz_getI (pc := 98) 5 dX3_makePart_98 fl_X3_32 rfl rfl rfl rfl (by first | exact gz_B1 | (omega)) ?_
      refine gz_iload_n (pc := 101) dX3_makePart_101 rfl ?_
      refine gz_iadd (pc := 102) dX3_makePart_102 ?_
      refine gz_putI (pc := 103) 5 dX3_makePart_103 fw_X3_32 rfl rfl rfl rfl (by first | exact gz_B1 | (omega)) (Or.inl rfl) ?_
      refine gz_iload (pc := 106) dX3_makePart_106 rfl ?_
      refine gz_iret (pc := 108) dX3_makePart_108 rfl ?_
      refine Or.inr ⟨hx5, hx4.2.1, hx4.2.2, by omega, ?_⟩
      simp (decide := true) only [gz_up_r, gz_up_s, gz_cp_r, gz_up_k, gz_mkp, and_false, false_and, and_self, if_false, if_true, reduceIte, ite_false, true_and]
    · refine gz_iconst (pc := 24) dX3_makePart_24 ?_
      refine gz_iret (pc := 25) dX3_makePart_25 rfl ?_
      exact Or.inl ⟨rfl, rfl, by first | exact Or.inr (by omega) | (rcases hx1 with h | h; exact Or.inl h.2; exact absurd h9 (by omega))⟩
theorem gz_r4 {r sz : Nat} (h : (Nat.blt r 40 && Nat.ble sz 65536) = true) : (Nat.blt r 40 && Nat.blt 12 40 && Nat.ble sz 65536 && Nat.ble 3840 65536) = true := by
  rw [Bool.and_eq_true] at h
  rw [h.1, h.2]
  rfl
theorem gz_s1_hit {S : gz_S} {f : Int → Int} {n x : Int} (hx : 0 ≤ x ∧ x < 120) (h : gz_mt S f n x) (hm : ∀ q, 0 ≤ q → q < x → ¬ gz_mt S f n q) : gz_s1 S f n = (x, S) := by
  unfold gz_s1
  rw [gz_lst_eq hx h hm, if_neg (by omega)]
theorem gz_s1_new {S : gz_S} {f : Int → Int} {n x : Int} (hn : ∀ q, 0 ≤ q → q < 120 → ¬ gz_mt S f n q) (hx : 0 ≤ x ∧ x < 120) (h : S 0 x 0 = 0) (hm : ∀ q, 0 ≤ q → q < x → ¬ S 0 q 0 = 0) (ht : gz_tot S + n ≤ 2400) : gz_s1 S f n = (x, gz_add S x f n) := by
  unfold gz_s1
  rw [gz_lst_no hn, if_pos rfl, gz_lst_eq (P := fun p => S 0 p 0 = 0) hx h hm, if_neg (by omega)]
theorem gz_s1_no {S : gz_S} {f : Int → Int} {n : Int} (hn : ∀ q, 0 ≤ q → q < 120 → ¬ gz_mt S f n q) (h : (∀ q, 0 ≤ q → q < 120 → ¬ S 0 q 0 = 0) ∨ 2400 < gz_tot S + n) : gz_s1 S f n = (-1, S) := by
  unfold gz_s1
  rw [gz_lst_no hn, if_pos rfl, if_pos ?_]
  rcases h with h | h
  · exact Or.inl (gz_lst_no h)
  · exact Or.inr h
set_option maxHeartbeats 4000000 in
set_option maxRecDepth 100000 in
theorem ct_X3_partOf (l : Launch) (D : va_G) (α : gz_P → Nat) (cA : Nat → ClassId) {I : gz_M} (hT : gz_T I) {r sz na nb : Nat} {b c : Int} (hr : gz_shp r = (0, sz, na, nb)) (hr2 : (Nat.blt r 40 && Nat.ble sz 65536) = true) (hb : gz_B b c na nb) (h8 : ∀ i, 0 ≤ I (r, b, c) i ∧ I (r, b, c) i ≤ 255) {s n : Int} (hs : 0 ≤ s ∧ 0 < n ∧ s + n ≤ sz ∧ n ≤ 32) (hE : I (3, 0, 0) 7 = gz_tot (gz_aX I)) (hF : 0 ≤ I (3, 0, 0) 4 ∧ I (3, 0, 0) 4 ≤ gz_cnt (gz_aX I)) : gz_V l D α cA RX3 cX3_partOf (some .int) 6 3 (gz_Qi fun x I' => x = (gz_s1 (gz_aX I) (fun i => I (r, b, c) (s + i)) n).1 ∧ (I = I' ∧ (gz_s1 (gz_aX I) (fun i => I (r, b, c) (s + i)) n).2 = gz_aX I ∨ (0 ≤ x ∧ x < 120) ∧ I (13, 0, 0) x = 0 ∧ I (3, 0, 0) 7 + n ≤ 2400 ∧ I' = gz_mkp I (r, b, c) s n (gz_dg (fun i => I (r, b, c) (s + i)) n.toNat) x ∧ (gz_s1 (gz_aX I) (fun i => I (r, b, c) (s + i)) n).2 = gz_aX I')) I [some (.ref (α (3, 0, 0))), some (.ref (α (r, b, c))), some (gz_i (s)), some (gz_i (n)), none, none] [] 0 := by
  first | refine gz_aload_n (pc := 0) dX3_partOf_0 rfl ?_ | refine gz_aload_nN (pc := 0) dX3_partOf_0 rfl ?_
  refine gz_iload_n (pc := 1) dX3_partOf_1 rfl ?_
  refine gz_iload_n (pc := 2) dX3_partOf_2 rfl ?_
  refine gz_cN3i (pc := 3) dX3_partOf_3 rfl my_X4_digestOf rfl rfl (ct_X4_digestOf l D α cA hr hr2 hb h8 (by omega)) (fun x3 I3 h3 => ?_)
  obtain ⟨rfl, rfl⟩ := h3
  have hdg := gz_dg_in (fun i => I (r, b, c) (s + i)) n.toNat
  refine gz_istore (pc := 6) dX3_partOf_6 rfl rfl rfl ?_
  first | refine gz_aload_n (pc := 8) dX3_partOf_8 rfl ?_ | refine gz_aload_nN (pc := 8) dX3_partOf_8 rfl ?_
  first | refine gz_aload_n (pc := 9) dX3_partOf_9 rfl ?_ | refine gz_aload_nN (pc := 9) dX3_partOf_9 rfl ?_
  refine gz_iload_n (pc := 10) dX3_partOf_10 rfl ?_
  refine gz_iload_n (pc := 11) dX3_partOf_11 rfl ?_
  refine gz_iload (pc := 12) dX3_partOf_12 rfl ?_
  refine gz_cV4i (pc := 14) dX3_partOf_14 wm_X3_64 my_X3_findPart rfl rfl rfl (by first | exact gz_B1 | (omega)) (ct_X3_findPart l D α cA hT hr hr2 hb h8 (by omega) (by omega)) (fun x14 I14 h14 => ?_)
  obtain ⟨rfl, hx14⟩ := h14
  have hxr : -1 ≤ x14 ∧ x14 < 120 := by rcases hx14 with h | h <;> omega
  refine gz_istore (pc := 17) dX3_partOf_17 rfl rfl rfl ?_
  refine gz_iload (pc := 19) dX3_partOf_19 rfl ?_
  refine gz_iconst (pc := 21) dX3_partOf_21 ?_
  refine gz_icmp_ne (pc := 22) (tgt := 37) dX3_partOf_22 (by decide) (by omega) (by omega) (fun h22 => ?_) (fun h22 => ?_)
  · refine gz_iload (pc := 37) dX3_partOf_37 rfl ?_
    refine gz_iret (pc := 39) dX3_partOf_39 rfl ?_
    first
      | (rcases h31 with ⟨h9, rfl, h8⟩ | ⟨h4, h5, h6, h7, h9⟩
         · have e1 := gz_s1_no hno (h8.imp (fun h q a b => fun z => h q a b ((gz_z_X ⟨a, b⟩).mp z)) (fun h => by rw [← hE]; exact h))
           rw [e1]
           exact ⟨h9, Or.inl ⟨rfl, rfl⟩⟩
         · have e1 := gz_s1_new hno h4 ((gz_z_X h4).mpr h5) (fun q a b z => h6 q a b ((gz_z_X ⟨a, by omega⟩).mp z)) (by rw [← hE]; exact h7)
           rw [e1]
           refine ⟨rfl, Or.inr ⟨h4, h5, h7, h9, ?_⟩⟩
           rw [h9]
           exact (gz_mkp_a hT ⟨hs.2.1, hs.2.2.2⟩ h4).symm)
      | (rcases hx14 with h9 | h9
         · exact absurd h9.1 h22
         · have e1 := gz_s1_hit h9.1 ((gz_mt_X (f := (fun i => I (r, b, c) (s + i))) hs.2.1 h9.1).mpr h9.2.1) (fun q a b hm => h9.2.2 q a b ((gz_mt_X hs.2.1 ⟨a, by omega⟩).mp hm))
           rw [e1]
           exact ⟨rfl, Or.inl ⟨rfl, rfl⟩⟩)
  · first | refine gz_aload_n (pc := 25) dX3_partOf_25 rfl ?_ | refine gz_aload_nN (pc := 25) dX3_partOf_25 rfl ?_
    first | refine gz_aload_n (pc := 26) dX3_partOf_26 rfl ?_ | refine gz_aload_nN (pc := 26) dX3_partOf_26 rfl ?_
    refine gz_iload_n (pc := 27) dX3_partOf_27 rfl ?_
    refine gz_iload_n (pc := 28) dX3_partOf_28 rfl ?_
    refine gz_iload (pc := 29) dX3_partOf_29 rfl ?_
    refine gz_cV4i (pc := 31) dX3_partOf_31 wm_X3_68 my_X3_makePart rfl rfl rfl (by first | exact gz_B1 | (omega)) (ct_X3_makePart l D α cA hT hr (gz_r4 hr2) hb h8 hs (by omega) hE hF) (fun x31 I31 h31 => ?_)
    have hno : ∀ q, 0 ≤ q → q < 120 → ¬ gz_mt (gz_aX I) (fun i => I (r, b, c) (s + i)) n q := by
      intro q h1 h2 hm
      rcases hx14 with h9 | h9
      · exact h9.2 q h1 h2 ((gz_mt_X hs.2.1 ⟨h1, h2⟩).mp hm)
      · omega
    refine gz_goto (pc := 34) (tgt := 39) dX3_partOf_34 (by decide) ?_
    refine gz_iret (pc := 39) dX3_partOf_39 rfl ?_
    first
      | (rcases h31 with ⟨h9, rfl, h8⟩ | ⟨h4, h5, h6, h7, h9⟩
         · have e1 := gz_s1_no hno (h8.imp (fun h q a b => fun z => h q a b ((gz_z_X ⟨a, b⟩).mp z)) (fun h => by rw [← hE]; exact h))
           rw [e1]
           exact ⟨h9, Or.inl ⟨rfl, rfl⟩⟩
         · have e1 := gz_s1_new hno h4 ((gz_z_X h4).mpr h5) (fun q a b z => h6 q a b ((gz_z_X ⟨a, by omega⟩).mp z)) (by rw [← hE]; exact h7)
           rw [e1]
           refine ⟨rfl, Or.inr ⟨h4, h5, h7, h9, ?_⟩⟩
           rw [h9]
           exact (gz_mkp_a hT ⟨hs.2.1, hs.2.2.2⟩ h4).symm)
      | (rcases hx14 with h9 | h9
         · exact absurd h9.1 h22
         · have e1 := gz_s1_hit h9.1 ((gz_mt_X (f := (fun i => I (r, b, c) (s + i))) hs.2.1 h9.1).mpr h9.2.1) (fun q a b hm => h9.2.2 q a b ((gz_mt_X hs.2.1 ⟨a, by omega⟩).mp hm))
           rw [e1]
           exact ⟨rfl, Or.inl ⟨rfl, rfl⟩⟩)
theorem gz_tk1_13 {I : gz_M} {p q : Int} : gz_tk1 I p (13, 0, 0) q = if q = p then 0 else I (13, 0, 0) q := by
  unfold gz_tk1
  simp (decide := true) only [gz_up_r, gz_up_k, and_self, true_and]
theorem gz_tk1_11 {I : gz_M} {p q a : Int} : gz_tk1 I p (11, a, 0) q = if a = 4 ∧ q = p then 0 else I (11, a, 0) q := by
  unfold gz_tk1
  simp (decide := true) only [gz_up_r, gz_up_k, and_true]
theorem gz_tk1_3 {I : gz_M} {p i : Int} : gz_tk1 I p (3, 0, 0) i = if i = 7 then I (3, 0, 0) 7 - I (13, 0, 0) p else if i = 6 then I (3, 0, 0) 6 - 1 else I (3, 0, 0) i := by
  unfold gz_tk1
  simp (decide := true) only [gz_up_r, gz_up_k, and_self, true_and]
theorem gz_tk1_o {I : gz_M} {p : Int} {q : gz_P} (h : q ≠ (3, 0, 0) ∧ q ≠ (13, 0, 0) ∧ q ≠ (11, 4, 0)) : gz_tk1 I p q = I q := by
  unfold gz_tk1
  rw [gz_up_ne h.2.2, gz_up_ne h.2.1, gz_up_ne h.1, gz_up_ne h.1]
theorem gz_tk1_T {I : gz_M} (hT : gz_T I) {p : Int} (h6 : -100000 ≤ I (3, 0, 0) 6 ∧ I (3, 0, 0) 6 ≤ 100000) (h7 : -100000 ≤ I (3, 0, 0) 7 ∧ I (3, 0, 0) 7 ≤ 100000) : gz_T (gz_tk1 I p) := by
  have := gz_t13 hT 0 0 p
  exact gz_Tu11 (gz_Tu13 (gz_Tu3 (gz_Tu3 hT (by omega)) (by omega)) (by decide)) (by decide)
end
section
/-- how far P holds, from 0 on, below m -/
noncomputable def gz_rf (P : Int → Prop) : Nat → Int → Int
  | 0, k => k
  | n + 1, k => @ite _ (P k) (Classical.propDecidable _) (gz_rf P n (k + 1)) k
noncomputable def gz_rn (P : Int → Prop) (m : Int) : Int := gz_rf P m.toNat 0
theorem gz_rf_eq {P : Int → Prop} {x : Int} : ∀ (n : Nat) (k : Int), k ≤ x → x ≤ k + n → (∀ j, k ≤ j → j < x → P j) → (x = k + n ∨ ¬ P x) → gz_rf P n k = x
  | 0, k, h1, h2, _, _ => by unfold gz_rf; omega
  | n + 1, k, h1, h2, h3, h4 => by
    unfold gz_rf
    by_cases e : k = x
    · subst e
      rw [if_neg]
      rcases h4 with h4 | h4
      · omega
      · exact h4
    · rw [if_pos (h3 k (by omega) (by omega))]
      exact gz_rf_eq n (k + 1) (by omega) (by omega) (fun j a b => h3 j (by omega) b) (h4.imp (fun h => by omega) id)
theorem gz_rn_eq {P : Int → Prop} {x m : Int} (h0 : 0 ≤ x) (h1 : x ≤ m) (h3 : ∀ j, 0 ≤ j → j < x → P j) (h4 : x = m ∨ ¬ P x) : gz_rn P m = x := gz_rf_eq m.toNat 0 h0 (by omega) h3 (h4.imp (fun h => by omega) id)
theorem gz_rf_in {P : Int → Prop} : ∀ (n : Nat) (k : Int), k ≤ gz_rf P n k ∧ gz_rf P n k ≤ k + n
  | 0, k => by unfold gz_rf; omega
  | n + 1, k => by
    unfold gz_rf
    have := gz_rf_in (P := P) n (k + 1)
    split <;> omega
theorem gz_rn_in {P : Int → Prop} {m : Int} (h : 0 ≤ m) : 0 ≤ gz_rn P m ∧ gz_rn P m ≤ m := by
  have := gz_rf_in (P := P) m.toNat 0
  unfold gz_rn
  omega
theorem gz_rf_cong {P Q : Int → Prop} : ∀ (n : Nat) (k : Int), (∀ j, k ≤ j → j < k + n → (P j ↔ Q j)) → gz_rf P n k = gz_rf Q n k
  | 0, k, _ => rfl
  | n + 1, k, h => by
    unfold gz_rf
    rw [gz_rf_cong n (k + 1) (fun j a b => h j (by omega) (by omega))]
    by_cases e : P k
    · rw [if_pos e, if_pos ((h k (by omega) (by omega)).mp e)]
    · rw [if_neg e, if_neg (fun q => e ((h k (by omega) (by omega)).mpr q))]
theorem gz_rn_cong {P Q : Int → Prop} {m : Int} (h : ∀ j, 0 ≤ j → j < m → (P j ↔ Q j)) : gz_rn P m = gz_rn Q m := gz_rf_cong _ _ (fun j a b => h j a (by omega))
/-- PARTS at the beginning and at the end that two lists have in common -/
noncomputable def gz_sh (f : Int → Int) (n : Int) (g : Int → Int) (m : Int) : Int :=
  gz_rn (fun j => f j = g j) (if m < n then m else n) + gz_rn (fun j => f (n - 1 - j) = g (m - 1 - j)) ((if m < n then m else n) - gz_rn (fun j => f j = g j) (if m < n then m else n))
theorem gz_sh_in {f : Int → Int} {n : Int} {g : Int → Int} {m : Int} (hn : 0 ≤ n) (hm : 0 ≤ m) : 0 ≤ gz_sh f n g m ∧ gz_sh f n g m ≤ n := by
  unfold gz_sh
  have h1 := gz_rn_in (P := fun j => f j = g j) (m := if m < n then m else n) (by split <;> omega)
  have h2 := gz_rn_in (P := fun j => f (n - 1 - j) = g (m - 1 - j)) (m := (if m < n then m else n) - gz_rn (fun j => f j = g j) (if m < n then m else n)) (by omega)
  split at h1 <;> split at h2 <;> (try split) <;> omega
theorem gz_up_up {I : gz_M} {p : gz_P} {i j u v w : Int} : gz_up (gz_up (gz_up I p i u) p j v) p i w = gz_up (gz_up I p j v) p i w := by
  funext q k
  unfold gz_up
  by_cases h : q = p ∧ k = i
  · simp only [if_pos h]
  · simp only [if_neg h]
set_option maxHeartbeats 4000000 in
set_option maxRecDepth 100000 in
theorem ct_X0_begin (l : Launch) (D : va_G) (α : gz_P → Nat) (cA : Nat → ClassId) {I : gz_M} {k n t : Int} (hk : 0 ≤ k ∧ k < 12) : gz_V l D α cA RX0 cX0_begin none 3 0 (gz_Qv fun I' => I' = gz_up (gz_up (gz_up (gz_up (gz_up I (16, k, 0) 2 n) (16, k, 0) 3 1) (16, k, 0) 4 (-1)) (16, k, 0) 5 t) (16, k, 0) 7 0) I [some (.ref (α (16, k, 0))), some (gz_i (n)), some (gz_i (t))] [] 0 := by
  first | refine gz_aload_n (pc := 0) dX0_begin_0 rfl ?_ | refine gz_aload_nN (pc := 0) dX0_begin_0 rfl ?_
  refine gz_iload_n (pc := 1) dX0_begin_1 rfl ?_
  refine gz_putI (pc := 2) 2 dX0_begin_2 fw_X0_20 rfl rfl rfl rfl (by first | exact gz_B1 | (omega)) (Or.inl rfl) ?_
  first | refine gz_aload_n (pc := 5) dX0_begin_5 rfl ?_ | refine gz_aload_nN (pc := 5) dX0_begin_5 rfl ?_
  refine gz_iconst (pc := 6) dX0_begin_6 ?_
  refine gz_putI (pc := 7) 3 dX0_begin_7 fw_X0_24 rfl rfl rfl rfl (by first | exact gz_B1 | (omega)) (Or.inr ⟨rfl, by exact Or.inr rfl⟩) ?_
  first | refine gz_aload_n (pc := 10) dX0_begin_10 rfl ?_ | refine gz_aload_nN (pc := 10) dX0_begin_10 rfl ?_
  refine gz_iconst (pc := 11) dX0_begin_11 ?_
  refine gz_putI (pc := 12) 4 dX0_begin_12 fw_X0_28 rfl rfl rfl rfl (by first | exact gz_B1 | (omega)) (Or.inl rfl) ?_
  first | refine gz_aload_n (pc := 15) dX0_begin_15 rfl ?_ | refine gz_aload_nN (pc := 15) dX0_begin_15 rfl ?_
  refine gz_iload_n (pc := 16) dX0_begin_16 rfl ?_
  refine gz_putI (pc := 17) 5 dX0_begin_17 fw_X0_31 rfl rfl rfl rfl (by first | exact gz_B1 | (omega)) (Or.inl rfl) ?_
  first | refine gz_aload_n (pc := 20) dX0_begin_20 rfl ?_ | refine gz_aload_nN (pc := 20) dX0_begin_20 rfl ?_
  refine gz_iconst (pc := 21) dX0_begin_21 ?_
  refine gz_putI (pc := 22) 7 dX0_begin_22 fw_X0_37 rfl rfl rfl rfl (by first | exact gz_B1 | (omega)) (Or.inl rfl) ?_
  refine gz_vret (pc := 25) dX0_begin_25 rfl ?_
  rfl
set_option maxHeartbeats 4000000 in
set_option maxRecDepth 100000 in
theorem lp_X0_partCount (l : Launch) (D : va_G) (α : gz_P → Nat) (cA : Nat → ClassId) {I : gz_M} (hT : gz_T I) {k : Int} (hk : 0 ≤ k ∧ k < 12) : ∀ t, t ≤ I (16, k, 0) 5 → ∀ n : Int, 0 ≤ t → n = gz_sm (fun t => I (19, k, 0) t) t.toNat → gz_V l D α cA RX0 cX0_partCount (some .int) 3 0 (gz_Qi fun x I' => I = I' ∧ x = gz_sm (fun t => I (19, k, 0) t) (I (16, k, 0) 5).toNat) I [some (.ref (α (16, k, 0))), some (gz_i (n)), some (gz_i (t))] [] 4 := by
  refine gz_upto _ ?_
  intro t ht ih n h0 hn
  have e1 := gz_tm5 hT k 0
  have e2 := gz_sm_in (f := fun t => I (19, k, 0) t) (lo := 0) (hi := 75) (fun i => gz_t19 hT k 0 i) t.toNat
  have e3 := gz_t19 hT k 0 t
  refine gz_iload_n (pc := 4) dX0_partCount_4 rfl ?_
  first | refine gz_aload_n (pc := 5) dX0_partCount_5 rfl ?_ | refine gz_aload_nN (pc := 5) dX0_partCount_5 rfl ?_
  refine gz_getI (pc := 6) 5 dX0_partCount_6 fl_X0_31 rfl rfl rfl rfl (by first | exact gz_B1 | (omega)) ?_
  refine gz_icmp_ge (pc := 9) (tgt := 27) dX0_partCount_9 (by decide) (by omega) (by omega) (fun h9 => ?_) (fun h9 => ?_)
  · refine gz_iload_n (pc := 27) dX0_partCount_27 rfl ?_
    refine gz_iret (pc := 28) dX0_partCount_28 rfl ?_
    exact ⟨rfl, by rw [hn, show t = I (16, k, 0) 5 by omega]⟩
  · refine gz_iload_n (pc := 12) dX0_partCount_12 rfl ?_
    first | refine gz_aload_n (pc := 13) dX0_partCount_13 rfl ?_ | refine gz_aload_nN (pc := 13) dX0_partCount_13 rfl ?_
    refine gz_getr (pc := 14) dX0_partCount_14 fl_X0_16 rfl rfl rfl (by first | exact gz_B1 | (omega)) ?_
    refine gz_iload_n (pc := 17) dX0_partCount_17 rfl ?_
    refine gz_iald (pc := 18) dX0_partCount_18 rfl rfl (by first | exact gz_B1 | (omega)) (by omega) ?_
    refine gz_iadd (pc := 19) dX0_partCount_19 ?_
    refine gz_istore_n (pc := 20) dX0_partCount_20 rfl rfl rfl ?_
    refine gz_iinc (pc := 21) dX0_partCount_21 rfl rfl rfl rfl ?_
    refine gz_goto (pc := 24) (tgt := 4) dX0_partCount_24 (by decide) ?_
    refine ih (t + 1) (by omega) (by omega) _ (by omega) ?_
    rw [show (t + 1).toNat = t.toNat + 1 by omega]
    unfold gz_sm
    rw [← hn, Int.toNat_of_nonneg h0]
set_option maxHeartbeats 4000000 in
set_option maxRecDepth 100000 in
theorem ct_X0_partCount (l : Launch) (D : va_G) (α : gz_P → Nat) (cA : Nat → ClassId) {I : gz_M} (hT : gz_T I) {k : Int} (hk : 0 ≤ k ∧ k < 12) : gz_V l D α cA RX0 cX0_partCount (some .int) 3 0 (gz_Qi fun x I' => I = I' ∧ x = gz_sm (fun t => I (19, k, 0) t) (I (16, k, 0) 5).toNat) I [some (.ref (α (16, k, 0))), none, none] [] 0 := by
  refine gz_iconst (pc := 0) dX0_partCount_0 ?_
  refine gz_istore_n (pc := 1) dX0_partCount_1 rfl rfl rfl ?_
  refine gz_iconst (pc := 2) dX0_partCount_2 ?_
  refine gz_istore_n (pc := 3) dX0_partCount_3 rfl rfl rfl ?_
  exact lp_X0_partCount l D α cA hT hk 0 (by have := gz_tm5 hT k 0; omega) 0 (by omega) rfl
set_option maxHeartbeats 4000000 in
set_option maxRecDepth 100000 in
theorem lp_X0_sharedParts2 (l : Launch) (D : va_G) (α : gz_P → Nat) (cA : Nat → ClassId) {I : gz_M} (hT : gz_T I) {k k' t : Int} (hk : 0 ≤ k ∧ k < 12) (hk' : 0 ≤ k' ∧ k' < 12) (ht : 0 ≤ t ∧ t < 4) : ∀ a, a = gz_rn (fun j => I (18, k, t) j = I (18, k', t) j) (if (I (19, k', 0) t) < (I (19, k, 0) t) then (I (19, k', 0) t) else (I (19, k, 0) t)) → ∀ e, e ≤ (if (I (19, k', 0) t) < (I (19, k, 0) t) then (I (19, k', 0) t) else (I (19, k, 0) t)) - a → 0 ≤ e → (∀ j, 0 ≤ j → j < e → (fun j => I (18, k, t) ((I (19, k, 0) t) - 1 - j) = I (18, k', t) ((I (19, k', 0) t) - 1 - j)) j) → gz_V l D α cA RX0 cX0_sharedParts (some .int) 6 1 (gz_Qi fun x I' => I = I' ∧ x = gz_sh (I (18, k, t)) (I (19, k, 0) t) (I (18, k', t)) (I (19, k', 0) t)) I [some (.ref (α (16, k, 0))), some (.ref (α (16, k', 0))), some (gz_i (t)), some (gz_i ((if (I (19, k', 0) t) < (I (19, k, 0) t) then (I (19, k', 0) t) else (I (19, k, 0) t)))), some (gz_i (a)), some (gz_i (e))] [] 55 := by
  have e1 := gz_t19 hT k 0 t
  have e2 := gz_t19 hT k' 0 t
  have e3 : 0 ≤ (if (I (19, k', 0) t) < (I (19, k, 0) t) then (I (19, k', 0) t) else (I (19, k, 0) t)) ∧ (if (I (19, k', 0) t) < (I (19, k, 0) t) then (I (19, k', 0) t) else (I (19, k, 0) t)) ≤ (I (19, k, 0) t) ∧ (if (I (19, k', 0) t) < (I (19, k, 0) t) then (I (19, k', 0) t) else (I (19, k, 0) t)) ≤ (I (19, k', 0) t) := by split <;> omega
  intro a ha
  have e4 := gz_rn_in (P := (fun j => I (18, k, t) j = I (18, k', t) j)) (m := (if (I (19, k', 0) t) < (I (19, k, 0) t) then (I (19, k', 0) t) else (I (19, k, 0) t))) e3.1
  rw [← ha] at e4
  refine gz_upto _ ?_
  intro e he ih h0 hj
  have e5 := gz_t18 hT k t ((I (19, k, 0) t) - 1 - e)
  have e6 := gz_t18 hT k' t ((I (19, k', 0) t) - 1 - e)
  refine gz_iload (pc := 55) dX0_sharedParts_55 rfl ?_
  refine gz_iload_n (pc := 57) dX0_sharedParts_57 rfl ?_
  refine gz_iload (pc := 58) dX0_sharedParts_58 rfl ?_
  refine gz_isub (pc := 60) dX0_sharedParts_60 ?_
  refine gz_icmp_ge (pc := 61) (tgt := 109) dX0_sharedParts_61 (by decide) (by omega) (by omega) (fun h61 => ?_) (fun h61 => ?_)
  · refine gz_iload (pc := 109) dX0_sharedParts_109 rfl ?_
    refine gz_iload (pc := 111) dX0_sharedParts_111 rfl ?_
    refine gz_iadd (pc := 113) dX0_sharedParts_113 ?_
    refine gz_iret (pc := 114) dX0_sharedParts_114 rfl ?_
    refine ⟨rfl, ?_⟩
    unfold gz_sh
    rw [← ha, gz_rn_eq (P := (fun j => I (18, k, t) ((I (19, k, 0) t) - 1 - j) = I (18, k', t) ((I (19, k', 0) t) - 1 - j))) (x := e) h0 he hj (by first | exact Or.inl (by omega) | exact Or.inr h100)]
  · first | refine gz_aload_n (pc := 64) dX0_sharedParts_64 rfl ?_ | refine gz_aload_nN (pc := 64) dX0_sharedParts_64 rfl ?_
    refine gz_getr (pc := 65) dX0_sharedParts_65 fl_X0_11 rfl rfl rfl (by first | exact gz_B1 | (omega)) ?_
    refine gz_iload_n (pc := 68) dX0_sharedParts_68 rfl ?_
    first | refine gz_ald1 (pc := 69) dX0_sharedParts_69 (by omega) ?_ | refine gz_ald2 (pc := 69) dX0_sharedParts_69 (by omega) ?_ | refine gz_ald4 (pc := 69) dX0_sharedParts_69 (by omega) ?_ | refine gz_ald17 (pc := 69) dX0_sharedParts_69 (by first | exact gz_B1 | (omega)) (by omega) ?_
    first | refine gz_aload_n (pc := 70) dX0_sharedParts_70 rfl ?_ | refine gz_aload_nN (pc := 70) dX0_sharedParts_70 rfl ?_
    refine gz_getr (pc := 71) dX0_sharedParts_71 fl_X0_16 rfl rfl rfl (by first | exact gz_B1 | (omega)) ?_
    refine gz_iload_n (pc := 74) dX0_sharedParts_74 rfl ?_
    refine gz_iald (pc := 75) dX0_sharedParts_75 rfl rfl (by first | exact gz_B1 | (omega)) (by omega) ?_
    refine gz_iconst (pc := 76) dX0_sharedParts_76 ?_
    refine gz_isub (pc := 77) dX0_sharedParts_77 ?_
    refine gz_iload (pc := 78) dX0_sharedParts_78 rfl ?_
    refine gz_isub (pc := 80) dX0_sharedParts_80 ?_
    refine gz_iald (pc := 81) dX0_sharedParts_81 rfl rfl (by first | exact gz_B1 | (omega)) (by omega) ?_
    first | refine gz_aload_n (pc := 82) dX0_sharedParts_82 rfl ?_ | refine gz_aload_nN (pc := 82) dX0_sharedParts_82 rfl ?_
    refine gz_getr (pc := 83) dX0_sharedParts_83 fl_X0_11 rfl rfl rfl (by first | exact gz_B1 | (omega)) ?_
    refine gz_iload_n (pc := 86) dX0_sharedParts_86 rfl ?_
    first | refine gz_ald1 (pc := 87) dX0_sharedParts_87 (by omega) ?_ | refine gz_ald2 (pc := 87) dX0_sharedParts_87 (by omega) ?_ | refine gz_ald4 (pc := 87) dX0_sharedParts_87 (by omega) ?_ | refine gz_ald17 (pc := 87) dX0_sharedParts_87 (by first | exact gz_B1 | (omega)) (by omega) ?_
    first | refine gz_aload_n (pc := 88) dX0_sharedParts_88 rfl ?_ | refine gz_aload_nN (pc := 88) dX0_sharedParts_88 rfl ?_
    refine gz_getr (pc := 89) dX0_sharedParts_89 fl_X0_16 rfl rfl rfl (by first | exact gz_B1 | (omega)) ?_
    refine gz_iload_n (pc := 92) dX0_sharedParts_92 rfl ?_
    refine gz_iald (pc := 93) dX0_sharedParts_93 rfl rfl (by first | exact gz_B1 | (omega)) (by omega) ?_
    refine gz_iconst (pc := 94) dX0_sharedParts_94 ?_
    refine gz_isub (pc := 95) dX0_sharedParts_95 ?_
    refine gz_iload (pc := 96) dX0_sharedParts_96 rfl ?_
    refine gz_isub (pc := 98) dX0_sharedParts_98 ?_
    refine gz_iald (pc := 99) dX0_sharedParts_99 rfl rfl (by first | exact gz_B1 | (omega)) (by omega) ?_
    refine gz_icmp_ne (pc := 100) (tgt := 109) dX0_sharedParts_100 (by decide) (by omega) (by omega) (fun h100 => ?_) (fun h100 => ?_)
    · refine gz_iload (pc := 109) dX0_sharedParts_109 rfl ?_
      refine gz_iload (pc := 111) dX0_sharedParts_111 rfl ?_
      refine gz_iadd (pc := 113) dX0_sharedParts_113 ?_
      refine gz_iret (pc := 114) dX0_sharedParts_114 rfl ?_
      refine ⟨rfl, ?_⟩
      unfold gz_sh
      rw [← ha, gz_rn_eq (P := (fun j => I (18, k, t) ((I (19, k, 0) t) - 1 - j) = I (18, k', t) ((I (19, k', 0) t) - 1 - j))) (x := e) h0 he hj (by first | exact Or.inl (by omega) | exact Or.inr h100)]
    · refine gz_iinc (pc := 103) dX0_sharedParts_103 rfl rfl rfl rfl ?_
      refine gz_goto (pc := 106) (tgt := 55) dX0_sharedParts_106 (by decide) ?_
      refine ih (e + 1) (by omega) (by omega) (by omega) (fun j a1 a2 => ?_)
      by_cases q : j = e
      · rw [q]; exact h100
      · exact hj j a1 (by omega)
set_option maxHeartbeats 4000000 in
set_option maxRecDepth 100000 in
theorem lp_X0_sharedParts1 (l : Launch) (D : va_G) (α : gz_P → Nat) (cA : Nat → ClassId) {I : gz_M} (hT : gz_T I) {k k' t : Int} (hk : 0 ≤ k ∧ k < 12) (hk' : 0 ≤ k' ∧ k' < 12) (ht : 0 ≤ t ∧ t < 4) : ∀ a, a ≤ (if (I (19, k', 0) t) < (I (19, k, 0) t) then (I (19, k', 0) t) else (I (19, k, 0) t)) → 0 ≤ a → (∀ j, 0 ≤ j → j < a → (fun j => I (18, k, t) j = I (18, k', t) j) j) → gz_V l D α cA RX0 cX0_sharedParts (some .int) 6 1 (gz_Qi fun x I' => I = I' ∧ x = gz_sh (I (18, k, t)) (I (19, k, 0) t) (I (18, k', t)) (I (19, k', 0) t)) I [some (.ref (α (16, k, 0))), some (.ref (α (16, k', 0))), some (gz_i (t)), some (gz_i ((if (I (19, k', 0) t) < (I (19, k, 0) t) then (I (19, k', 0) t) else (I (19, k, 0) t)))), some (gz_i (a)), none] [] 19 := by
  have e1 := gz_t19 hT k 0 t
  have e2 := gz_t19 hT k' 0 t
  have e3 : 0 ≤ (if (I (19, k', 0) t) < (I (19, k, 0) t) then (I (19, k', 0) t) else (I (19, k, 0) t)) ∧ (if (I (19, k', 0) t) < (I (19, k, 0) t) then (I (19, k', 0) t) else (I (19, k, 0) t)) ≤ (I (19, k, 0) t) ∧ (if (I (19, k', 0) t) < (I (19, k, 0) t) then (I (19, k', 0) t) else (I (19, k, 0) t)) ≤ (I (19, k', 0) t) := by split <;> omega
  refine gz_upto _ ?_
  intro a ha ih h0 hj
  have e5 := gz_t18 hT k t a
  have e6 := gz_t18 hT k' t a
  refine gz_iload (pc := 19) dX0_sharedParts_19 rfl ?_
  refine gz_iload_n (pc := 21) dX0_sharedParts_21 rfl ?_
  refine gz_icmp_ge (pc := 22) (tgt := 52) dX0_sharedParts_22 (by decide) (by omega) (by omega) (fun h22 => ?_) (fun h22 => ?_)
  · refine gz_iconst (pc := 52) dX0_sharedParts_52 ?_
    refine gz_istore (pc := 53) dX0_sharedParts_53 rfl rfl rfl ?_
    exact lp_X0_sharedParts2 l D α cA hT hk hk' ht a (gz_rn_eq (P := (fun j => I (18, k, t) j = I (18, k', t) j)) h0 ha hj (by first | exact Or.inl (by omega) | exact Or.inr h43)).symm 0 (by omega) (by omega) (fun j a1 a2 => by omega)
  · first | refine gz_aload_n (pc := 25) dX0_sharedParts_25 rfl ?_ | refine gz_aload_nN (pc := 25) dX0_sharedParts_25 rfl ?_
    refine gz_getr (pc := 26) dX0_sharedParts_26 fl_X0_11 rfl rfl rfl (by first | exact gz_B1 | (omega)) ?_
    refine gz_iload_n (pc := 29) dX0_sharedParts_29 rfl ?_
    first | refine gz_ald1 (pc := 30) dX0_sharedParts_30 (by omega) ?_ | refine gz_ald2 (pc := 30) dX0_sharedParts_30 (by omega) ?_ | refine gz_ald4 (pc := 30) dX0_sharedParts_30 (by omega) ?_ | refine gz_ald17 (pc := 30) dX0_sharedParts_30 (by first | exact gz_B1 | (omega)) (by omega) ?_
    refine gz_iload (pc := 31) dX0_sharedParts_31 rfl ?_
    refine gz_iald (pc := 33) dX0_sharedParts_33 rfl rfl (by first | exact gz_B1 | (omega)) (by omega) ?_
    first | refine gz_aload_n (pc := 34) dX0_sharedParts_34 rfl ?_ | refine gz_aload_nN (pc := 34) dX0_sharedParts_34 rfl ?_
    refine gz_getr (pc := 35) dX0_sharedParts_35 fl_X0_11 rfl rfl rfl (by first | exact gz_B1 | (omega)) ?_
    refine gz_iload_n (pc := 38) dX0_sharedParts_38 rfl ?_
    first | refine gz_ald1 (pc := 39) dX0_sharedParts_39 (by omega) ?_ | refine gz_ald2 (pc := 39) dX0_sharedParts_39 (by omega) ?_ | refine gz_ald4 (pc := 39) dX0_sharedParts_39 (by omega) ?_ | refine gz_ald17 (pc := 39) dX0_sharedParts_39 (by first | exact gz_B1 | (omega)) (by omega) ?_
    refine gz_iload (pc := 40) dX0_sharedParts_40 rfl ?_
    refine gz_iald (pc := 42) dX0_sharedParts_42 rfl rfl (by first | exact gz_B1 | (omega)) (by omega) ?_
    refine gz_icmp_ne (pc := 43) (tgt := 52) dX0_sharedParts_43 (by decide) (by omega) (by omega) (fun h43 => ?_) (fun h43 => ?_)
    · refine gz_iconst (pc := 52) dX0_sharedParts_52 ?_
      refine gz_istore (pc := 53) dX0_sharedParts_53 rfl rfl rfl ?_
      exact lp_X0_sharedParts2 l D α cA hT hk hk' ht a (gz_rn_eq (P := (fun j => I (18, k, t) j = I (18, k', t) j)) h0 ha hj (by first | exact Or.inl (by omega) | exact Or.inr h43)).symm 0 (by omega) (by omega) (fun j a1 a2 => by omega)
    · refine gz_iinc (pc := 46) dX0_sharedParts_46 rfl rfl rfl rfl ?_
      refine gz_goto (pc := 49) (tgt := 19) dX0_sharedParts_49 (by decide) ?_
      refine ih (a + 1) (by omega) (by omega) (by omega) (fun j a1 a2 => ?_)
      by_cases q : j = a
      · rw [q]; exact h43
      · exact hj j a1 (by omega)
set_option maxHeartbeats 4000000 in
set_option maxRecDepth 100000 in
theorem ct_X0_sharedParts (l : Launch) (D : va_G) (α : gz_P → Nat) (cA : Nat → ClassId) {I : gz_M} (hT : gz_T I) {k k' t : Int} (hk : 0 ≤ k ∧ k < 12) (hk' : 0 ≤ k' ∧ k' < 12) (ht : 0 ≤ t ∧ t < 4) : gz_V l D α cA RX0 cX0_sharedParts (some .int) 6 1 (gz_Qi fun x I' => I = I' ∧ x = gz_sh (I (18, k, t)) (I (19, k, 0) t) (I (18, k', t)) (I (19, k', 0) t)) I [some (.ref (α (16, k, 0))), some (.ref (α (16, k', 0))), some (gz_i (t)), none, none, none] [] 0 := by
  have e1 := gz_t19 hT k 0 t
  have e2 := gz_t19 hT k' 0 t
  have e3 : 0 ≤ (if (I (19, k', 0) t) < (I (19, k, 0) t) then (I (19, k', 0) t) else (I (19, k, 0) t)) ∧ (if (I (19, k', 0) t) < (I (19, k, 0) t) then (I (19, k', 0) t) else (I (19, k, 0) t)) ≤ (I (19, k, 0) t) ∧ (if (I (19, k', 0) t) < (I (19, k, 0) t) then (I (19, k', 0) t) else (I (19, k, 0) t)) ≤ (I (19, k', 0) t) := by split <;> omega
  first | refine gz_aload_n (pc := 0) dX0_sharedParts_0 rfl ?_ | refine gz_aload_nN (pc := 0) dX0_sharedParts_0 rfl ?_
  refine gz_getr (pc := 1) dX0_sharedParts_1 fl_X0_16 rfl rfl rfl (by first | exact gz_B1 | (omega)) ?_
  refine gz_iload_n (pc := 4) dX0_sharedParts_4 rfl ?_
  refine gz_iald (pc := 5) dX0_sharedParts_5 rfl rfl (by first | exact gz_B1 | (omega)) (by omega) ?_
  first | refine gz_aload_n (pc := 6) dX0_sharedParts_6 rfl ?_ | refine gz_aload_nN (pc := 6) dX0_sharedParts_6 rfl ?_
  refine gz_getr (pc := 7) dX0_sharedParts_7 fl_X0_16 rfl rfl rfl (by first | exact gz_B1 | (omega)) ?_
  refine gz_iload_n (pc := 10) dX0_sharedParts_10 rfl ?_
  refine gz_iald (pc := 11) dX0_sharedParts_11 rfl rfl (by first | exact gz_B1 | (omega)) (by omega) ?_
  refine gz_min (pc := 12) dX0_sharedParts_12 wm_X0_51 rfl (by omega) (by omega) ?_
  refine gz_istore_n (pc := 15) dX0_sharedParts_15 rfl rfl rfl ?_
  refine gz_iconst (pc := 16) dX0_sharedParts_16 ?_
  refine gz_istore (pc := 17) dX0_sharedParts_17 rfl rfl rfl ?_
  exact lp_X0_sharedParts1 l D α cA hT hk hk' ht 0 (by omega) (by omega) (fun j a1 a2 => by omega)
end
section
set_option maxHeartbeats 4000000 in
set_option maxRecDepth 100000 in
theorem ct_X0_growUponN (l : Launch) (D : va_G) (α : gz_P → Nat) (cA : Nat → ClassId) {I : gz_M} (hT : gz_T I) {k : Int} (hk : 0 ≤ k ∧ k < 12) : gz_V l D α cA RX0 cX0_growUpon none 3 1 (gz_Qv fun I' => I' = gz_up I (16, k, 0) 6 (gz_sm (fun t => I (19, k, 0) t) (I (16, k, 0) 5).toNat)) I [some (.ref (α (16, k, 0))), some .null, none] [] 0 := by
  first | refine gz_aload_n (pc := 0) dX0_growUpon_0 rfl ?_ | refine gz_aload_nN (pc := 0) dX0_growUpon_0 rfl ?_
  first | refine gz_aload_n (pc := 1) dX0_growUpon_1 rfl ?_ | refine gz_aload_nN (pc := 1) dX0_growUpon_1 rfl ?_
  refine gz_cV0i (pc := 2) dX0_growUpon_2 wm_X0_43 my_X0_partCount rfl rfl rfl (by first | exact gz_B1 | (omega)) (ct_X0_partCount l D α cA hT hk) (fun x2 I2 h2 => ?_)
  obtain ⟨rfl, rfl⟩ := h2
  refine gz_putI (pc := 5) 6 dX0_growUpon_5 fw_X0_34 rfl rfl rfl rfl (by first | exact gz_B1 | (omega)) (Or.inl rfl) ?_
  first | refine gz_aload_n (pc := 8) dX0_growUpon_8 rfl ?_ | refine gz_aload_nN (pc := 8) dX0_growUpon_8 rfl ?_
  refine gz_ifnonnullN (pc := 9) dX0_growUpon_9 ?_
  refine gz_vret (pc := 12) dX0_growUpon_12 rfl ?_
  rfl
theorem gz_up_up2 {I : gz_M} {p : gz_P} {i v w : Int} : gz_up (gz_up I p i v) p i w = gz_up I p i w := by
  funext q k
  unfold gz_up
  by_cases h : q = p ∧ k = i
  · simp only [if_pos h]
  · simp only [if_neg h]
theorem gz_up_cm {I : gz_M} {p : gz_P} {i j v w : Int} (h : i ≠ j) : gz_up (gz_up I p i v) p j w = gz_up (gz_up I p j w) p i v := by
  funext q k
  unfold gz_up
  by_cases h1 : q = p ∧ k = i
  · have h2 : ¬ (q = p ∧ k = j) := fun e => h (h1.2.symm.trans e.2)
    simp only [if_pos h1, if_neg h2]
  · simp only [if_neg h1]
set_option maxHeartbeats 4000000 in
set_option maxRecDepth 100000 in
theorem lp_X0_growUpon (l : Launch) (D : va_G) (α : gz_P → Nat) (cA : Nat → ClassId) {I : gz_M} (hT : gz_T I) {k k' : Int} (hk : 0 ≤ k ∧ k < 12) (hk' : 0 ≤ k' ∧ k' < 12) : ∀ t, t ≤ (if I (16, k', 0) 5 < I (16, k, 0) 5 then I (16, k', 0) 5 else I (16, k, 0) 5) → 0 ≤ t → ∀ v, v = gz_sm (fun t => I (19, k, 0) t) (I (16, k, 0) 5).toNat - gz_sm (fun t => gz_sh (I (18, k, t)) (I (19, k, 0) t) (I (18, k', t)) (I (19, k', 0) t)) t.toNat → gz_V l D α cA RX0 cX0_growUpon none 3 2 (gz_Qv fun I' => I' = (gz_up (gz_up I (16, k, 0) 4 (I (16, k', 0) 2)) (16, k, 0) 6 (gz_sm (fun t => I (19, k, 0) t) (I (16, k, 0) 5).toNat - gz_sm (fun t => gz_sh (I (18, k, t)) (I (19, k, 0) t) (I (18, k', t)) (I (19, k', 0) t)) (if I (16, k', 0) 5 < I (16, k, 0) 5 then I (16, k', 0) 5 else I (16, k, 0) 5).toNat))) (gz_up (gz_up I (16, k, 0) 4 (I (16, k', 0) 2)) (16, k, 0) 6 (v)) [some (.ref (α (16, k, 0))), some (.ref (α (16, k', 0))), some (gz_i (t))] [] 23 := by
  have e1 := gz_tm5 hT k 0
  have e2 := gz_tm5 hT k' 0
  have e3 : 0 ≤ (if I (16, k', 0) 5 < I (16, k, 0) 5 then I (16, k', 0) 5 else I (16, k, 0) 5) ∧ (if I (16, k', 0) 5 < I (16, k, 0) 5 then I (16, k', 0) 5 else I (16, k, 0) 5) ≤ I (16, k, 0) 5 ∧ (if I (16, k', 0) 5 < I (16, k, 0) 5 then I (16, k', 0) 5 else I (16, k, 0) 5) ≤ I (16, k', 0) 5 ∧ ((if I (16, k', 0) 5 < I (16, k, 0) 5 then I (16, k', 0) 5 else I (16, k, 0) 5) = I (16, k, 0) 5 ∨ (if I (16, k', 0) 5 < I (16, k, 0) 5 then I (16, k', 0) 5 else I (16, k, 0) 5) = I (16, k', 0) 5) := by split <;> omega
  refine gz_upto _ ?_
  intro t ht ih h0 v hv
  have r5 : ∀ x, (gz_up (gz_up I (16, k, 0) 4 (I (16, k', 0) 2)) (16, k, 0) 6 (v)) (16, x, 0) 5 = I (16, x, 0) 5 := fun x => by simp (decide := true) only [gz_up_r, gz_up_s, gz_up_k, and_false, if_false, and_true, reduceIte]
  have r6 : (gz_up (gz_up I (16, k, 0) 4 (I (16, k', 0) 2)) (16, k, 0) 6 (v)) (16, k, 0) 6 = v := by simp (decide := true) only [gz_up_r, gz_up_s, gz_up_k, and_false, if_false, and_true, reduceIte]
  have r18 : ∀ x y, (gz_up (gz_up I (16, k, 0) 4 (I (16, k', 0) 2)) (16, k, 0) 6 (v)) (18, x, y) = I (18, x, y) := fun x y => by rw [gz_up_ne (gz_ne rfl), gz_up_ne (gz_ne rfl)]
  have r19 : ∀ x, (gz_up (gz_up I (16, k, 0) 4 (I (16, k', 0) 2)) (16, k, 0) 6 (v)) (19, x, 0) = I (19, x, 0) := fun x => by rw [gz_up_ne (gz_ne rfl), gz_up_ne (gz_ne rfl)]
  have e4 := gz_sm_in (f := (fun t => gz_sh (I (18, k, t)) (I (19, k, 0) t) (I (18, k', t)) (I (19, k', 0) t))) (lo := 0) (hi := 75) (fun i => by have a1 := gz_t19 hT k 0 i; have a2 := gz_t19 hT k' 0 i; have a3 := gz_sh_in (f := I (18, k, i)) (g := I (18, k', i)) a1.1 a2.1; exact ⟨a3.1, by omega⟩) t.toNat
  have e5 := gz_sm_in (f := fun t => I (19, k, 0) t) (lo := 0) (hi := 75) (fun i => gz_t19 hT k 0 i) (I (16, k, 0) 5).toNat
  have hT2 : gz_T (gz_up (gz_up I (16, k, 0) 4 (I (16, k', 0) 2)) (16, k, 0) 6 (v)) := gz_Tu16_6 (gz_Tu16_4 hT (gz_tm2 hT k' 0)) (by omega)
  refine gz_iload_n (pc := 23) dX0_growUpon_23 rfl ?_
  first | refine gz_aload_n (pc := 24) dX0_growUpon_24 rfl ?_ | refine gz_aload_nN (pc := 24) dX0_growUpon_24 rfl ?_
  refine gz_getI (pc := 25) 5 dX0_growUpon_25 fl_X0_31 rfl rfl rfl rfl (by first | exact gz_B1 | (omega)) ?_
  rw [r5]
  refine gz_icmp_ge (pc := 28) (tgt := 60) dX0_growUpon_28 (by decide) (by omega) (by omega) (fun h28 => ?_) (fun h28 => ?_)
  · refine gz_vret (pc := 60) dX0_growUpon_60 rfl ?_
    rw [hv, show (if I (16, k', 0) 5 < I (16, k, 0) 5 then I (16, k', 0) 5 else I (16, k, 0) 5) = t by omega]
  · refine gz_iload_n (pc := 31) dX0_growUpon_31 rfl ?_
    first | refine gz_aload_n (pc := 32) dX0_growUpon_32 rfl ?_ | refine gz_aload_nN (pc := 32) dX0_growUpon_32 rfl ?_
    refine gz_getI (pc := 33) 5 dX0_growUpon_33 fl_X0_31 rfl rfl rfl rfl (by first | exact gz_B1 | (omega)) ?_
    rw [r5]
    refine gz_icmp_ge (pc := 36) (tgt := 60) dX0_growUpon_36 (by decide) (by omega) (by omega) (fun h36 => ?_) (fun h36 => ?_)
    · refine gz_vret (pc := 60) dX0_growUpon_60 rfl ?_
      rw [hv, show (if I (16, k', 0) 5 < I (16, k, 0) 5 then I (16, k', 0) 5 else I (16, k, 0) 5) = t by omega]
    · first | refine gz_aload_n (pc := 39) dX0_growUpon_39 rfl ?_ | refine gz_aload_nN (pc := 39) dX0_growUpon_39 rfl ?_
      refine gz_dup (pc := 40) dX0_growUpon_40 rfl ?_
      refine gz_getI (pc := 41) 6 dX0_growUpon_41 fl_X0_34 rfl rfl rfl rfl (by first | exact gz_B1 | (omega)) ?_
      rw [r6]
      first | refine gz_aload_n (pc := 44) dX0_growUpon_44 rfl ?_ | refine gz_aload_nN (pc := 44) dX0_growUpon_44 rfl ?_
      first | refine gz_aload_n (pc := 45) dX0_growUpon_45 rfl ?_ | refine gz_aload_nN (pc := 45) dX0_growUpon_45 rfl ?_
      refine gz_iload_n (pc := 46) dX0_growUpon_46 rfl ?_
      refine gz_cV2i (pc := 47) dX0_growUpon_47 wm_X0_47 my_X0_sharedParts rfl rfl rfl (by first | exact gz_B1 | (omega)) (ct_X0_sharedParts l D α cA hT2 hk hk' (by omega)) (fun x47 I47 h47 => ?_)
      obtain ⟨rfl, rfl⟩ := h47
      refine gz_isub (pc := 50) dX0_growUpon_50 ?_
      refine gz_putI (pc := 51) 6 dX0_growUpon_51 fw_X0_34 rfl rfl rfl rfl (by first | exact gz_B1 | (omega)) (Or.inl rfl) ?_
      refine gz_iinc (pc := 54) dX0_growUpon_54 rfl rfl rfl rfl ?_
      refine gz_goto (pc := 57) (tgt := 23) dX0_growUpon_57 (by decide) ?_
      rw [r18, r18, r19, r19, gz_up_up2]
      refine ih (t + 1) (by omega) (by omega) (by omega) _ ?_
      rw [show (t + 1).toNat = t.toNat + 1 by omega, gz_sm_s, Int.toNat_of_nonneg h0]
      omega
set_option maxHeartbeats 4000000 in
set_option maxRecDepth 100000 in
theorem ct_X0_growUpon (l : Launch) (D : va_G) (α : gz_P → Nat) (cA : Nat → ClassId) {I : gz_M} (hT : gz_T I) {k k' : Int} (hk : 0 ≤ k ∧ k < 12) (hk' : 0 ≤ k' ∧ k' < 12) : gz_V l D α cA RX0 cX0_growUpon none 3 2 (gz_Qv fun I' => I' = (gz_up (gz_up I (16, k, 0) 4 (I (16, k', 0) 2)) (16, k, 0) 6 (gz_sm (fun t => I (19, k, 0) t) (I (16, k, 0) 5).toNat - gz_sm (fun t => gz_sh (I (18, k, t)) (I (19, k, 0) t) (I (18, k', t)) (I (19, k', 0) t)) (if I (16, k', 0) 5 < I (16, k, 0) 5 then I (16, k', 0) 5 else I (16, k, 0) 5).toNat))) I [some (.ref (α (16, k, 0))), some (.ref (α (16, k', 0))), none] [] 0 := by
  first | refine gz_aload_n (pc := 0) dX0_growUpon_0 rfl ?_ | refine gz_aload_nN (pc := 0) dX0_growUpon_0 rfl ?_
  first | refine gz_aload_n (pc := 1) dX0_growUpon_1 rfl ?_ | refine gz_aload_nN (pc := 1) dX0_growUpon_1 rfl ?_
  refine gz_cV0i (pc := 2) dX0_growUpon_2 wm_X0_43 my_X0_partCount rfl rfl rfl (by first | exact gz_B1 | (omega)) (ct_X0_partCount l D α cA hT hk) (fun x2 I2 h2 => ?_)
  obtain ⟨rfl, rfl⟩ := h2
  refine gz_putI (pc := 5) 6 dX0_growUpon_5 fw_X0_34 rfl rfl rfl rfl (by first | exact gz_B1 | (omega)) (Or.inl rfl) ?_
  first | refine gz_aload_n (pc := 8) dX0_growUpon_8 rfl ?_ | refine gz_aload_nN (pc := 8) dX0_growUpon_8 rfl ?_
  refine gz_ifnonnull (pc := 9) (tgt := 13) dX0_growUpon_9 (by decide) ?_
  first | refine gz_aload_n (pc := 13) dX0_growUpon_13 rfl ?_ | refine gz_aload_nN (pc := 13) dX0_growUpon_13 rfl ?_
  first | refine gz_aload_n (pc := 14) dX0_growUpon_14 rfl ?_ | refine gz_aload_nN (pc := 14) dX0_growUpon_14 rfl ?_
  refine gz_getI (pc := 15) 2 dX0_growUpon_15 fl_X0_20 rfl rfl rfl rfl (by first | exact gz_B1 | (omega)) ?_
  rw [show gz_up I (16, k, 0) 6 (gz_sm (fun t => I (19, k, 0) t) (I (16, k, 0) 5).toNat) (16, k', 0) 2 = I (16, k', 0) 2 by simp (decide := true) only [gz_up_r, gz_up_s, gz_up_k, and_false, if_false, and_true, reduceIte]]
  refine gz_putI (pc := 18) 4 dX0_growUpon_18 fw_X0_28 rfl rfl rfl rfl (by first | exact gz_B1 | (omega)) (Or.inl rfl) ?_
  refine gz_iconst (pc := 21) dX0_growUpon_21 ?_
  refine gz_istore_n (pc := 22) dX0_growUpon_22 rfl rfl rfl ?_
  have e1 := gz_tm5 hT k 0
  have e2 := gz_tm5 hT k' 0
  have e3 : 0 ≤ (if I (16, k', 0) 5 < I (16, k, 0) 5 then I (16, k', 0) 5 else I (16, k, 0) 5) ∧ (if I (16, k', 0) 5 < I (16, k, 0) 5 then I (16, k', 0) 5 else I (16, k, 0) 5) ≤ I (16, k, 0) 5 ∧ (if I (16, k', 0) 5 < I (16, k, 0) 5 then I (16, k', 0) 5 else I (16, k, 0) 5) ≤ I (16, k', 0) 5 ∧ ((if I (16, k', 0) 5 < I (16, k, 0) 5 then I (16, k', 0) 5 else I (16, k, 0) 5) = I (16, k, 0) 5 ∨ (if I (16, k', 0) 5 < I (16, k, 0) 5 then I (16, k', 0) 5 else I (16, k, 0) 5) = I (16, k', 0) 5) := by split <;> omega
  have e9 : gz_up (gz_up I (16, k, 0) 6 (gz_sm (fun t => I (19, k, 0) t) (I (16, k, 0) 5).toNat)) (16, k, 0) 4 (I (16, k', 0) 2) = (gz_up (gz_up I (16, k, 0) 4 (I (16, k', 0) 2)) (16, k, 0) 6 (gz_sm (fun t => I (19, k, 0) t) (I (16, k, 0) 5).toNat)) := gz_up_cm (by decide)
  rw [e9]
  exact lp_X0_growUpon l D α cA hT hk hk' 0 (by omega) (by omega) _ (Int.sub_zero _).symm
set_option maxHeartbeats 4000000 in
set_option maxRecDepth 100000 in
theorem lp_X0_hasAlikeList (l : Launch) (D : va_G) (α : gz_P → Nat) (cA : Nat → ClassId) {I : gz_M} (hT : gz_T I) {k k' : Int} (hk : 0 ≤ k ∧ k < 12) (hk' : 0 ≤ k' ∧ k' < 12) {t : Int} (ht : 0 ≤ t ∧ t < 4) : I (19, k, 0) t = I (19, k', 0) t → ∀ i, i ≤ I (19, k, 0) t → 0 ≤ i → (∀ j, 0 ≤ j → j < i → I (18, k, t) j = I (18, k', t) j) → gz_V l D α cA RX0 cX0_hasAlikeList (some .boolean) 4 0 (gz_Qi fun x I' => I = I' ∧ (x = 1 ∧ (I (19, k, 0) t = I (19, k', 0) t ∧ ∀ j, 0 ≤ j → j < I (19, k, 0) t → I (18, k, t) j = I (18, k', t) j) ∨ x = 0 ∧ ¬ (I (19, k, 0) t = I (19, k', 0) t ∧ ∀ j, 0 ≤ j → j < I (19, k, 0) t → I (18, k, t) j = I (18, k', t) j))) I [some (.ref (α (16, k, 0))), some (.ref (α (16, k', 0))), some (gz_i (t)), some (gz_i (i))] [] 19 := by
  intro hn
  have e1 := gz_t19 hT k 0 t
  refine gz_upto _ ?_
  intro i hi ih h0 hj
  have e5 := gz_t18 hT k t i
  have e6 := gz_t18 hT k' t i
  refine gz_iload_n (pc := 19) dX0_hasAlikeList_19 rfl ?_
  first | refine gz_aload_n (pc := 20) dX0_hasAlikeList_20 rfl ?_ | refine gz_aload_nN (pc := 20) dX0_hasAlikeList_20 rfl ?_
  refine gz_getr (pc := 21) dX0_hasAlikeList_21 fl_X0_16 rfl rfl rfl (by first | exact gz_B1 | (omega)) ?_
  refine gz_iload_n (pc := 24) dX0_hasAlikeList_24 rfl ?_
  refine gz_iald (pc := 25) dX0_hasAlikeList_25 rfl rfl (by first | exact gz_B1 | (omega)) (by omega) ?_
  refine gz_icmp_ge (pc := 26) (tgt := 56) dX0_hasAlikeList_26 (by decide) (by omega) (by omega) (fun h26 => ?_) (fun h26 => ?_)
  · refine gz_iconst (pc := 56) dX0_hasAlikeList_56 ?_
    refine gz_zret (pc := 57) dX0_hasAlikeList_57 rfl (by first | exact Or.inl rfl | exact Or.inr rfl | omega) ?_
    exact ⟨rfl, Or.inl ⟨rfl, hn, fun j a1 a2 => hj j a1 (by omega)⟩⟩
  · first | refine gz_aload_n (pc := 29) dX0_hasAlikeList_29 rfl ?_ | refine gz_aload_nN (pc := 29) dX0_hasAlikeList_29 rfl ?_
    refine gz_getr (pc := 30) dX0_hasAlikeList_30 fl_X0_11 rfl rfl rfl (by first | exact gz_B1 | (omega)) ?_
    refine gz_iload_n (pc := 33) dX0_hasAlikeList_33 rfl ?_
    first | refine gz_ald1 (pc := 34) dX0_hasAlikeList_34 (by omega) ?_ | refine gz_ald2 (pc := 34) dX0_hasAlikeList_34 (by omega) ?_ | refine gz_ald4 (pc := 34) dX0_hasAlikeList_34 (by omega) ?_ | refine gz_ald17 (pc := 34) dX0_hasAlikeList_34 (by first | exact gz_B1 | (omega)) (by omega) ?_
    refine gz_iload_n (pc := 35) dX0_hasAlikeList_35 rfl ?_
    refine gz_iald (pc := 36) dX0_hasAlikeList_36 rfl rfl (by first | exact gz_B1 | (omega)) (by omega) ?_
    first | refine gz_aload_n (pc := 37) dX0_hasAlikeList_37 rfl ?_ | refine gz_aload_nN (pc := 37) dX0_hasAlikeList_37 rfl ?_
    refine gz_getr (pc := 38) dX0_hasAlikeList_38 fl_X0_11 rfl rfl rfl (by first | exact gz_B1 | (omega)) ?_
    refine gz_iload_n (pc := 41) dX0_hasAlikeList_41 rfl ?_
    first | refine gz_ald1 (pc := 42) dX0_hasAlikeList_42 (by omega) ?_ | refine gz_ald2 (pc := 42) dX0_hasAlikeList_42 (by omega) ?_ | refine gz_ald4 (pc := 42) dX0_hasAlikeList_42 (by omega) ?_ | refine gz_ald17 (pc := 42) dX0_hasAlikeList_42 (by first | exact gz_B1 | (omega)) (by omega) ?_
    refine gz_iload_n (pc := 43) dX0_hasAlikeList_43 rfl ?_
    refine gz_iald (pc := 44) dX0_hasAlikeList_44 rfl rfl (by first | exact gz_B1 | (omega)) (by omega) ?_
    refine gz_icmp_eq (pc := 45) (tgt := 50) dX0_hasAlikeList_45 (by decide) (by omega) (by omega) (fun h45 => ?_) (fun h45 => ?_)
    · refine gz_iinc (pc := 50) dX0_hasAlikeList_50 rfl rfl rfl rfl ?_
      refine gz_goto (pc := 53) (tgt := 19) dX0_hasAlikeList_53 (by decide) ?_
      refine ih (i + 1) (by omega) (by omega) (by omega) (fun j a1 a2 => ?_)
      by_cases q : j = i
      · rw [q]; exact h45
      · exact hj j a1 (by omega)
    · refine gz_iconst (pc := 48) dX0_hasAlikeList_48 ?_
      refine gz_zret (pc := 49) dX0_hasAlikeList_49 rfl (by first | exact Or.inl rfl | exact Or.inr rfl | omega) ?_
      exact ⟨rfl, Or.inr ⟨rfl, fun q => h45 (q.2 i h0 (by omega))⟩⟩
set_option maxHeartbeats 4000000 in
set_option maxRecDepth 100000 in
theorem ct_X0_hasAlikeList (l : Launch) (D : va_G) (α : gz_P → Nat) (cA : Nat → ClassId) {I : gz_M} (hT : gz_T I) {k k' : Int} (hk : 0 ≤ k ∧ k < 12) (hk' : 0 ≤ k' ∧ k' < 12) {t : Int} (ht : 0 ≤ t ∧ t < 4) : gz_V l D α cA RX0 cX0_hasAlikeList (some .boolean) 4 0 (gz_Qi fun x I' => I = I' ∧ (x = 1 ∧ (I (19, k, 0) t = I (19, k', 0) t ∧ ∀ j, 0 ≤ j → j < I (19, k, 0) t → I (18, k, t) j = I (18, k', t) j) ∨ x = 0 ∧ ¬ (I (19, k, 0) t = I (19, k', 0) t ∧ ∀ j, 0 ≤ j → j < I (19, k, 0) t → I (18, k, t) j = I (18, k', t) j))) I [some (.ref (α (16, k, 0))), some (.ref (α (16, k', 0))), some (gz_i (t)), none] [] 0 := by
  have e1 := gz_t19 hT k 0 t
  have e2 := gz_t19 hT k' 0 t
  first | refine gz_aload_n (pc := 0) dX0_hasAlikeList_0 rfl ?_ | refine gz_aload_nN (pc := 0) dX0_hasAlikeList_0 rfl ?_
  refine gz_getr (pc := 1) dX0_hasAlikeList_1 fl_X0_16 rfl rfl rfl (by first | exact gz_B1 | (omega)) ?_
  refine gz_iload_n (pc := 4) dX0_hasAlikeList_4 rfl ?_
  refine gz_iald (pc := 5) dX0_hasAlikeList_5 rfl rfl (by first | exact gz_B1 | (omega)) (by omega) ?_
  first | refine gz_aload_n (pc := 6) dX0_hasAlikeList_6 rfl ?_ | refine gz_aload_nN (pc := 6) dX0_hasAlikeList_6 rfl ?_
  refine gz_getr (pc := 7) dX0_hasAlikeList_7 fl_X0_16 rfl rfl rfl (by first | exact gz_B1 | (omega)) ?_
  refine gz_iload_n (pc := 10) dX0_hasAlikeList_10 rfl ?_
  refine gz_iald (pc := 11) dX0_hasAlikeList_11 rfl rfl (by first | exact gz_B1 | (omega)) (by omega) ?_
  refine gz_icmp_eq (pc := 12) (tgt := 17) dX0_hasAlikeList_12 (by decide) (by omega) (by omega) (fun h12 => ?_) (fun h12 => ?_)
  · refine gz_iconst (pc := 17) dX0_hasAlikeList_17 ?_
    refine gz_istore_n (pc := 18) dX0_hasAlikeList_18 rfl rfl rfl ?_
    exact lp_X0_hasAlikeList l D α cA hT hk hk' ht h12 0 (by omega) (by omega) (fun j a1 a2 => by omega)
  · refine gz_iconst (pc := 15) dX0_hasAlikeList_15 ?_
    refine gz_zret (pc := 16) dX0_hasAlikeList_16 rfl (by first | exact Or.inl rfl | exact Or.inr rfl | omega) ?_
    exact ⟨rfl, Or.inr ⟨rfl, fun q => h12 q.1⟩⟩
set_option maxHeartbeats 4000000 in
set_option maxRecDepth 100000 in
theorem lp_X0_isAlike (l : Launch) (D : va_G) (α : gz_P → Nat) (cA : Nat → ClassId) {I : gz_M} (hT : gz_T I) {k k' : Int} (hk : 0 ≤ k ∧ k < 12) (hk' : 0 ≤ k' ∧ k' < 12) : I (16, k, 0) 5 = I (16, k', 0) 5 → ∀ i, i ≤ I (16, k, 0) 5 → 0 ≤ i → (∀ t, 0 ≤ t → t < i → (I (19, k, 0) t = I (19, k', 0) t ∧ ∀ j, 0 ≤ j → j < I (19, k, 0) t → I (18, k, t) j = I (18, k', t) j)) → gz_V l D α cA RX0 cX0_isAlike (some .boolean) 3 1 (gz_Qi fun x I' => I = I' ∧ (x = 1 ∧ (I (16, k, 0) 5 = I (16, k', 0) 5 ∧ ∀ t, 0 ≤ t → t < I (16, k, 0) 5 → (I (19, k, 0) t = I (19, k', 0) t ∧ ∀ j, 0 ≤ j → j < I (19, k, 0) t → I (18, k, t) j = I (18, k', t) j)) ∨ x = 0 ∧ ¬ (I (16, k, 0) 5 = I (16, k', 0) 5 ∧ ∀ t, 0 ≤ t → t < I (16, k, 0) 5 → (I (19, k, 0) t = I (19, k', 0) t ∧ ∀ j, 0 ≤ j → j < I (19, k, 0) t → I (18, k, t) j = I (18, k', t) j)))) I [some (.ref (α (16, k, 0))), some (.ref (α (16, k', 0))), some (gz_i (i))] [] 15 := by
  intro hn
  have e1 := gz_tm5 hT k 0
  refine gz_upto _ ?_
  intro i hi ih h0 hj
  refine gz_iload_n (pc := 15) dX0_isAlike_15 rfl ?_
  first | refine gz_aload_n (pc := 16) dX0_isAlike_16 rfl ?_ | refine gz_aload_nN (pc := 16) dX0_isAlike_16 rfl ?_
  refine gz_getI (pc := 17) 5 dX0_isAlike_17 fl_X0_31 rfl rfl rfl rfl (by first | exact gz_B1 | (omega)) ?_
  refine gz_icmp_ge (pc := 20) (tgt := 40) dX0_isAlike_20 (by decide) (by omega) (by omega) (fun h20 => ?_) (fun h20 => ?_)
  · refine gz_iconst (pc := 40) dX0_isAlike_40 ?_
    refine gz_zret (pc := 41) dX0_isAlike_41 rfl (by first | exact Or.inl rfl | exact Or.inr rfl | omega) ?_
    exact ⟨rfl, Or.inl ⟨rfl, hn, fun j a1 a2 => hj j a1 (by omega)⟩⟩
  · first | refine gz_aload_n (pc := 23) dX0_isAlike_23 rfl ?_ | refine gz_aload_nN (pc := 23) dX0_isAlike_23 rfl ?_
    first | refine gz_aload_n (pc := 24) dX0_isAlike_24 rfl ?_ | refine gz_aload_nN (pc := 24) dX0_isAlike_24 rfl ?_
    refine gz_iload_n (pc := 25) dX0_isAlike_25 rfl ?_
    refine gz_cV2i (pc := 26) dX0_isAlike_26 wm_X0_57 my_X0_hasAlikeList rfl rfl rfl (by first | exact gz_B1 | (omega)) (ct_X0_hasAlikeList l D α cA hT hk hk' (by omega)) (fun x26 I26 h26 => ?_)
    obtain ⟨rfl, hx26⟩ := h26
    have hxr : 0 ≤ x26 ∧ x26 ≤ 1 := by rcases hx26 with h | h <;> omega
    refine gz_if_ne (pc := 29) (tgt := 34) dX0_isAlike_29 (by decide) (by omega) (fun h29 => ?_) (fun h29 => ?_)
    · refine gz_iinc (pc := 34) dX0_isAlike_34 rfl rfl rfl rfl ?_
      refine gz_goto (pc := 37) (tgt := 15) dX0_isAlike_37 (by decide) ?_
      have hla : (I (19, k, 0) i = I (19, k', 0) i ∧ ∀ j, 0 ≤ j → j < I (19, k, 0) i → I (18, k, i) j = I (18, k', i) j) := by
        rcases hx26 with h | h
        · exact h.2
        · exact absurd h.1 h29
      refine ih (i + 1) (by omega) (by omega) (by omega) (fun j a1 a2 => ?_)
      by_cases q : j = i
      · rw [q]; exact hla
      · exact hj j a1 (by omega)
    · refine gz_iconst (pc := 32) dX0_isAlike_32 ?_
      refine gz_zret (pc := 33) dX0_isAlike_33 rfl (by first | exact Or.inl rfl | exact Or.inr rfl | omega) ?_
      refine ⟨rfl, Or.inr ⟨rfl, fun q => ?_⟩⟩
      rcases hx26 with h | h
      · omega
      · exact h.2 (q.2 i h0 (by omega))
set_option maxHeartbeats 4000000 in
set_option maxRecDepth 100000 in
theorem ct_X0_isAlike (l : Launch) (D : va_G) (α : gz_P → Nat) (cA : Nat → ClassId) {I : gz_M} (hT : gz_T I) {k k' : Int} (hk : 0 ≤ k ∧ k < 12) (hk' : 0 ≤ k' ∧ k' < 12) : gz_V l D α cA RX0 cX0_isAlike (some .boolean) 3 1 (gz_Qi fun x I' => I = I' ∧ (x = 1 ∧ (I (16, k, 0) 5 = I (16, k', 0) 5 ∧ ∀ t, 0 ≤ t → t < I (16, k, 0) 5 → (I (19, k, 0) t = I (19, k', 0) t ∧ ∀ j, 0 ≤ j → j < I (19, k, 0) t → I (18, k, t) j = I (18, k', t) j)) ∨ x = 0 ∧ ¬ (I (16, k, 0) 5 = I (16, k', 0) 5 ∧ ∀ t, 0 ≤ t → t < I (16, k, 0) 5 → (I (19, k, 0) t = I (19, k', 0) t ∧ ∀ j, 0 ≤ j → j < I (19, k, 0) t → I (18, k, t) j = I (18, k', t) j)))) I [some (.ref (α (16, k, 0))), some (.ref (α (16, k', 0))), none] [] 0 := by
  have e1 := gz_tm5 hT k 0
  have e2 := gz_tm5 hT k' 0
  first | refine gz_aload_n (pc := 0) dX0_isAlike_0 rfl ?_ | refine gz_aload_nN (pc := 0) dX0_isAlike_0 rfl ?_
  refine gz_getI (pc := 1) 5 dX0_isAlike_1 fl_X0_31 rfl rfl rfl rfl (by first | exact gz_B1 | (omega)) ?_
  first | refine gz_aload_n (pc := 4) dX0_isAlike_4 rfl ?_ | refine gz_aload_nN (pc := 4) dX0_isAlike_4 rfl ?_
  refine gz_getI (pc := 5) 5 dX0_isAlike_5 fl_X0_31 rfl rfl rfl rfl (by first | exact gz_B1 | (omega)) ?_
  refine gz_icmp_eq (pc := 8) (tgt := 13) dX0_isAlike_8 (by decide) (by omega) (by omega) (fun h8 => ?_) (fun h8 => ?_)
  · refine gz_iconst (pc := 13) dX0_isAlike_13 ?_
    refine gz_istore_n (pc := 14) dX0_isAlike_14 rfl rfl rfl ?_
    exact lp_X0_isAlike l D α cA hT hk hk' h8 0 (by omega) (by omega) (fun j a1 a2 => by omega)
  · refine gz_iconst (pc := 11) dX0_isAlike_11 ?_
    refine gz_zret (pc := 12) dX0_isAlike_12 rfl (by first | exact Or.inl rfl | exact Or.inr rfl | omega) ?_
    exact ⟨rfl, Or.inr ⟨rfl, fun q => h8 q.1⟩⟩
set_option maxHeartbeats 4000000 in
set_option maxRecDepth 100000 in
theorem lp_X0_names2 (l : Launch) (D : va_G) (α : gz_P → Nat) (cA : Nat → ClassId) {I : gz_M} (hT : gz_T I) {k p : Int} (hk : 0 ≤ k ∧ k < 12) (hp : -2147483648 ≤ p ∧ p ≤ 2147483647) : ∀ t, (0 ≤ t ∧ t < I (16, k, 0) 5) → ((∀ j, 0 ≤ j → j < I (19, k, 0) t → ¬ I (18, k, t) j = p) → gz_V l D α cA RX0 cX0_names (some .boolean) 4 0 (gz_Qi fun x I' => I = I' ∧ (x = 1 ∧ (∃ t j, (0 ≤ t ∧ t < I (16, k, 0) 5) ∧ (0 ≤ j ∧ j < I (19, k, 0) t) ∧ I (18, k, t) j = p) ∨ x = 0 ∧ ¬ (∃ t j, (0 ≤ t ∧ t < I (16, k, 0) 5) ∧ (0 ≤ j ∧ j < I (19, k, 0) t) ∧ I (18, k, t) j = p))) I [some (.ref (α (16, k, 0))), some (gz_i (p)), some (gz_i (t + 1)), some (gz_i (I (19, k, 0) t))] [] 2) → ∀ i, i ≤ I (19, k, 0) t → 0 ≤ i → (∀ j, 0 ≤ j → j < i → ¬ I (18, k, t) j = p) → gz_V l D α cA RX0 cX0_names (some .boolean) 4 0 (gz_Qi fun x I' => I = I' ∧ (x = 1 ∧ (∃ t j, (0 ≤ t ∧ t < I (16, k, 0) 5) ∧ (0 ≤ j ∧ j < I (19, k, 0) t) ∧ I (18, k, t) j = p) ∨ x = 0 ∧ ¬ (∃ t j, (0 ≤ t ∧ t < I (16, k, 0) 5) ∧ (0 ≤ j ∧ j < I (19, k, 0) t) ∧ I (18, k, t) j = p))) I [some (.ref (α (16, k, 0))), some (gz_i (p)), some (gz_i (t)), some (gz_i (i))] [] 12 := by
  intro t ht kk
  have e0 := gz_tm5 hT k 0
  have e1 := gz_t19 hT k 0 t
  refine gz_upto _ ?_
  intro i hi ih h0 hj
  have e5 := gz_t18 hT k t i
  refine gz_iload_n (pc := 12) dX0_names_12 rfl ?_
  first | refine gz_aload_n (pc := 13) dX0_names_13 rfl ?_ | refine gz_aload_nN (pc := 13) dX0_names_13 rfl ?_
  refine gz_getr (pc := 14) dX0_names_14 fl_X0_16 rfl rfl rfl (by first | exact gz_B1 | (omega)) ?_
  refine gz_iload_n (pc := 17) dX0_names_17 rfl ?_
  refine gz_iald (pc := 18) dX0_names_18 rfl rfl (by first | exact gz_B1 | (omega)) (by omega) ?_
  refine gz_icmp_ge (pc := 19) (tgt := 42) dX0_names_19 (by decide) (by omega) (by omega) (fun h19 => ?_) (fun h19 => ?_)
  · refine gz_iinc (pc := 42) dX0_names_42 rfl rfl rfl rfl ?_
    refine gz_goto (pc := 45) (tgt := 2) dX0_names_45 (by decide) ?_
    rw [show i = I (19, k, 0) t by omega] at hj ⊢
    exact kk hj
  · first | refine gz_aload_n (pc := 22) dX0_names_22 rfl ?_ | refine gz_aload_nN (pc := 22) dX0_names_22 rfl ?_
    refine gz_getr (pc := 23) dX0_names_23 fl_X0_11 rfl rfl rfl (by first | exact gz_B1 | (omega)) ?_
    refine gz_iload_n (pc := 26) dX0_names_26 rfl ?_
    first | refine gz_ald1 (pc := 27) dX0_names_27 (by omega) ?_ | refine gz_ald2 (pc := 27) dX0_names_27 (by omega) ?_ | refine gz_ald4 (pc := 27) dX0_names_27 (by omega) ?_ | refine gz_ald17 (pc := 27) dX0_names_27 (by first | exact gz_B1 | (omega)) (by omega) ?_
    refine gz_iload_n (pc := 28) dX0_names_28 rfl ?_
    refine gz_iald (pc := 29) dX0_names_29 rfl rfl (by first | exact gz_B1 | (omega)) (by omega) ?_
    refine gz_iload_n (pc := 30) dX0_names_30 rfl ?_
    refine gz_icmp_ne (pc := 31) (tgt := 36) dX0_names_31 (by decide) (by omega) (by omega) (fun h31 => ?_) (fun h31 => ?_)
    · refine gz_iinc (pc := 36) dX0_names_36 rfl rfl rfl rfl ?_
      refine gz_goto (pc := 39) (tgt := 12) dX0_names_39 (by decide) ?_
      refine ih (i + 1) (by omega) (by omega) (by omega) (fun j a1 a2 => ?_)
      by_cases q : j = i
      · rw [q]; exact h31
      · exact hj j a1 (by omega)
    · refine gz_iconst (pc := 34) dX0_names_34 ?_
      refine gz_zret (pc := 35) dX0_names_35 rfl (by first | exact Or.inl rfl | exact Or.inr rfl | omega) ?_
      exact ⟨rfl, Or.inl ⟨rfl, t, i, ht, by omega, h31⟩⟩
set_option maxHeartbeats 4000000 in
set_option maxRecDepth 100000 in
theorem lp_X0_names (l : Launch) (D : va_G) (α : gz_P → Nat) (cA : Nat → ClassId) {I : gz_M} (hT : gz_T I) {k p : Int} (hk : 0 ≤ k ∧ k < 12) (hp : -2147483648 ≤ p ∧ p ≤ 2147483647) : ∀ t, t ≤ I (16, k, 0) 5 → 0 ≤ t → (∀ u, 0 ≤ u → u < t → ∀ j, 0 ≤ j → j < I (19, k, 0) u → ¬ I (18, k, u) j = p) → ∀ o : Option Value, gz_V l D α cA RX0 cX0_names (some .boolean) 4 0 (gz_Qi fun x I' => I = I' ∧ (x = 1 ∧ (∃ t j, (0 ≤ t ∧ t < I (16, k, 0) 5) ∧ (0 ≤ j ∧ j < I (19, k, 0) t) ∧ I (18, k, t) j = p) ∨ x = 0 ∧ ¬ (∃ t j, (0 ≤ t ∧ t < I (16, k, 0) 5) ∧ (0 ≤ j ∧ j < I (19, k, 0) t) ∧ I (18, k, t) j = p))) I [some (.ref (α (16, k, 0))), some (gz_i (p)), some (gz_i (t)), o] [] 2 := by
  have e0 := gz_tm5 hT k 0
  refine gz_upto _ ?_
  intro t ht ih h0 hj o
  refine gz_iload_n (pc := 2) dX0_names_2 rfl ?_
  first | refine gz_aload_n (pc := 3) dX0_names_3 rfl ?_ | refine gz_aload_nN (pc := 3) dX0_names_3 rfl ?_
  refine gz_getI (pc := 4) 5 dX0_names_4 fl_X0_31 rfl rfl rfl rfl (by first | exact gz_B1 | (omega)) ?_
  refine gz_icmp_ge (pc := 7) (tgt := 48) dX0_names_7 (by decide) (by omega) (by omega) (fun h7 => ?_) (fun h7 => ?_)
  · refine gz_iconst (pc := 48) dX0_names_48 ?_
    refine gz_zret (pc := 49) dX0_names_49 rfl (by first | exact Or.inl rfl | exact Or.inr rfl | omega) ?_
    refine ⟨rfl, Or.inr ⟨rfl, ?_⟩⟩
    rintro ⟨u, j, a1, a2, a3⟩
    exact hj u a1.1 (by omega) j a2.1 a2.2 a3
  · refine gz_iconst (pc := 10) dX0_names_10 ?_
    refine gz_istore_n (pc := 11) dX0_names_11 rfl rfl rfl ?_
    refine lp_X0_names2 l D α cA hT hk hp t (by omega) (fun hz => ?_) 0 (by have := gz_t19 hT k 0 t; omega) (by omega) (fun j a1 a2 => by omega)
    exact ih (t + 1) (by omega) (by omega) (by omega) (fun u a1 a2 => by
      by_cases q : u = t
      · rw [q]; exact hz
      · exact hj u a1 (by omega)) _
set_option maxHeartbeats 4000000 in
set_option maxRecDepth 100000 in
theorem ct_X0_names (l : Launch) (D : va_G) (α : gz_P → Nat) (cA : Nat → ClassId) {I : gz_M} (hT : gz_T I) {k p : Int} (hk : 0 ≤ k ∧ k < 12) (hp : -2147483648 ≤ p ∧ p ≤ 2147483647) : gz_V l D α cA RX0 cX0_names (some .boolean) 4 0 (gz_Qi fun x I' => I = I' ∧ (x = 1 ∧ (∃ t j, (0 ≤ t ∧ t < I (16, k, 0) 5) ∧ (0 ≤ j ∧ j < I (19, k, 0) t) ∧ I (18, k, t) j = p) ∨ x = 0 ∧ ¬ (∃ t j, (0 ≤ t ∧ t < I (16, k, 0) 5) ∧ (0 ≤ j ∧ j < I (19, k, 0) t) ∧ I (18, k, t) j = p))) I [some (.ref (α (16, k, 0))), some (gz_i (p)), none, none] [] 0 := by
  refine gz_iconst (pc := 0) dX0_names_0 ?_
  refine gz_istore_n (pc := 1) dX0_names_1 rfl rfl rfl ?_
  exact lp_X0_names l D α cA hT hk hp 0 (by have := gz_tm5 hT k 0; omega) (by omega) (fun u a1 a2 => by omega) _
end
section
set_option maxHeartbeats 4000000 in
set_option maxRecDepth 100000 in
theorem lp_X4_totalStateBytes (l : Launch) (D : va_G) (α : gz_P → Nat) (cA : Nat → ClassId) {I : gz_M} (hT : gz_T I) : ∀ t, t ≤ I (0, 0, 0) 6 → ∀ n : Int, 0 ≤ t → n = gz_sm (fun t => I (7, t, 0) 2) t.toNat → gz_V l D α cA RX4 cX4_totalStateBytes (some .int) 3 0 (gz_Qi fun x I' => I = I' ∧ x = gz_sm (fun t => I (7, t, 0) 2) (I (0, 0, 0) 6).toNat) I [some (.ref (α (0, 0, 0))), some (gz_i (n)), some (gz_i (t))] [] 4 := by
  refine gz_upto _ ?_
  intro t ht ih n h0 hn
  have e1 := gz_tk hT 0 0
  have e2 := gz_sm_in (f := (fun t => I (7, t, 0) 2)) (lo := 0) (hi := 300) (fun i => gz_t7 hT i 0 2) t.toNat
  have e3 := gz_t7 hT t 0 2
  refine gz_iload_n (pc := 4) dX4_totalStateBytes_4 rfl ?_
  first | refine gz_aload_n (pc := 5) dX4_totalStateBytes_5 rfl ?_ | refine gz_aload_nN (pc := 5) dX4_totalStateBytes_5 rfl ?_
  refine gz_getI (pc := 6) 6 dX4_totalStateBytes_6 fl_X4_42 rfl rfl rfl rfl (by first | exact gz_B1 | (omega)) ?_
  refine gz_icmp_ge (pc := 9) (tgt := 30) dX4_totalStateBytes_9 (by decide) (by omega) (by omega) (fun h9 => ?_) (fun h9 => ?_)
  · refine gz_iload_n (pc := 30) dX4_totalStateBytes_30 rfl ?_
    refine gz_iret (pc := 31) dX4_totalStateBytes_31 rfl ?_
    exact ⟨rfl, by rw [hn, show t = I (0, 0, 0) 6 by omega]⟩
  · refine gz_iload_n (pc := 12) dX4_totalStateBytes_12 rfl ?_
    first | refine gz_aload_n (pc := 13) dX4_totalStateBytes_13 rfl ?_ | refine gz_aload_nN (pc := 13) dX4_totalStateBytes_13 rfl ?_
    refine gz_getr (pc := 14) dX4_totalStateBytes_14 fl_X4_11 rfl rfl rfl (by first | exact gz_B1 | (omega)) ?_
    refine gz_iload_n (pc := 17) dX4_totalStateBytes_17 rfl ?_
    first | refine gz_ald1 (pc := 18) dX4_totalStateBytes_18 (by omega) ?_ | refine gz_ald2 (pc := 18) dX4_totalStateBytes_18 (by omega) ?_ | refine gz_ald4 (pc := 18) dX4_totalStateBytes_18 (by omega) ?_ | refine gz_ald17 (pc := 18) dX4_totalStateBytes_18 (by first | exact gz_B1 | (omega)) (by omega) ?_
    refine gz_getI (pc := 19) 2 dX4_totalStateBytes_19 fl_X4_59 rfl rfl rfl rfl (by first | exact gz_B1 | (omega)) ?_
    refine gz_iadd (pc := 22) dX4_totalStateBytes_22 ?_
    refine gz_istore_n (pc := 23) dX4_totalStateBytes_23 rfl rfl rfl ?_
    refine gz_iinc (pc := 24) dX4_totalStateBytes_24 rfl rfl rfl rfl ?_
    refine gz_goto (pc := 27) (tgt := 4) dX4_totalStateBytes_27 (by decide) ?_
    refine ih (t + 1) (by omega) (by omega) _ (by omega) ?_
    rw [show (t + 1).toNat = t.toNat + 1 by omega, gz_sm_s, ← hn, Int.toNat_of_nonneg h0]
set_option maxHeartbeats 4000000 in
set_option maxRecDepth 100000 in
theorem ct_X4_totalStateBytes (l : Launch) (D : va_G) (α : gz_P → Nat) (cA : Nat → ClassId) {I : gz_M} (hT : gz_T I) : gz_V l D α cA RX4 cX4_totalStateBytes (some .int) 3 0 (gz_Qi fun x I' => I = I' ∧ x = gz_sm (fun t => I (7, t, 0) 2) (I (0, 0, 0) 6).toNat) I [some (.ref (α (0, 0, 0))), none, none] [] 0 := by
  refine gz_iconst (pc := 0) dX4_totalStateBytes_0 ?_
  refine gz_istore_n (pc := 1) dX4_totalStateBytes_1 rfl rfl rfl ?_
  refine gz_iconst (pc := 2) dX4_totalStateBytes_2 ?_
  refine gz_istore_n (pc := 3) dX4_totalStateBytes_3 rfl rfl rfl ?_
  exact lp_X4_totalStateBytes l D α cA hT 0 (by have := gz_tk hT 0 0; omega) 0 (by omega) rfl
theorem gz_sm_mono {f : Int → Int} (h : ∀ i, 0 ≤ f i) {a : Nat} : ∀ {b : Nat}, a ≤ b → gz_sm f a ≤ gz_sm f b
  | 0, hb => by rw [show a = 0 by omega]; exact Int.le_refl _
  | b + 1, hb => by
    by_cases e : a = b + 1
    · rw [e]; exact Int.le_refl _
    · have := gz_sm_mono h (a := a) (b := b) (by omega)
      rw [gz_sm_s]
      have := h b
      omega
set_option maxHeartbeats 4000000 in
set_option maxRecDepth 100000 in
theorem lp_X4_joinStates (l : Launch) (D : va_G) (α : gz_P → Nat) (cA : Nat → ClassId) {I0 : gz_M} (hT : gz_T I0) : ∀ t, t ≤ I0 (0, 0, 0) 6 → ∀ (n : Int) (I : gz_M), 0 ≤ t → n = gz_sm (fun t => I0 (7, t, 0) 2) t.toNat → gz_T I → (∀ q, q ≠ (5, 0, 0) → I q = I0 q) → (∀ u, 0 ≤ u → u < t → ∀ i, 0 ≤ i → i < I0 (7, u, 0) 2 → I (5, 0, 0) (gz_sm (fun t => I0 (7, t, 0) 2) u.toNat + i) = I0 (8, u, 0) i) → gz_V l D α cA RX4 cX4_joinStates none 3 1 (gz_Qv fun I' => gz_T I' ∧ (∀ q, q ≠ (5, 0, 0) → I' q = I0 q) ∧ ∀ t, 0 ≤ t → t < I0 (0, 0, 0) 6 → ∀ i, 0 ≤ i → i < I0 (7, t, 0) 2 → I' (5, 0, 0) (gz_sm (fun t => I0 (7, t, 0) 2) t.toNat + i) = I0 (8, t, 0) i) I [some (.ref (α (0, 0, 0))), some (gz_i (n)), some (gz_i (t))] [] 4 := by
  refine gz_upto _ ?_
  intro t ht ih n I h0 hn hTI hI hj
  have e1 := gz_tk hT 0 0
  have e2 := gz_sm_in (f := (fun t => I0 (7, t, 0) 2)) (lo := 0) (hi := 300) (fun i => gz_t7 hT i 0 2) t.toNat
  have e3 := gz_t7 hT t 0 2
  have r6 : I (0, 0, 0) 6 = I0 (0, 0, 0) 6 := by rw [hI _ (gz_ne rfl)]
  have r7 : I (7, t, 0) 2 = I0 (7, t, 0) 2 := by rw [hI _ (gz_ne rfl)]
  refine gz_iload_n (pc := 4) dX4_joinStates_4 rfl ?_
  first | refine gz_aload_n (pc := 5) dX4_joinStates_5 rfl ?_ | refine gz_aload_nN (pc := 5) dX4_joinStates_5 rfl ?_
  refine gz_getI (pc := 6) 6 dX4_joinStates_6 fl_X4_42 rfl rfl rfl rfl (by first | exact gz_B1 | (omega)) ?_
  rw [r6]
  refine gz_icmp_ge (pc := 9) (tgt := 57) dX4_joinStates_9 (by decide) (by omega) (by omega) (fun h9 => ?_) (fun h9 => ?_)
  · refine gz_vret (pc := 57) dX4_joinStates_57 rfl ?_
    exact ⟨hTI, hI, fun u a1 a2 => hj u a1 (by omega)⟩
  · first | refine gz_aload_n (pc := 12) dX4_joinStates_12 rfl ?_ | refine gz_aload_nN (pc := 12) dX4_joinStates_12 rfl ?_
    refine gz_getr (pc := 13) dX4_joinStates_13 fl_X4_11 rfl rfl rfl (by first | exact gz_B1 | (omega)) ?_
    refine gz_iload_n (pc := 16) dX4_joinStates_16 rfl ?_
    first | refine gz_ald1 (pc := 17) dX4_joinStates_17 (by omega) ?_ | refine gz_ald2 (pc := 17) dX4_joinStates_17 (by omega) ?_ | refine gz_ald4 (pc := 17) dX4_joinStates_17 (by omega) ?_ | refine gz_ald17 (pc := 17) dX4_joinStates_17 (by first | exact gz_B1 | (omega)) (by omega) ?_
    refine gz_getr (pc := 18) dX4_joinStates_18 fl_X4_66 rfl rfl rfl (by first | exact gz_B1 | (omega)) ?_
    refine gz_iconst (pc := 21) dX4_joinStates_21 ?_
    first | refine gz_aload_n (pc := 22) dX4_joinStates_22 rfl ?_ | refine gz_aload_nN (pc := 22) dX4_joinStates_22 rfl ?_
    refine gz_getr (pc := 23) dX4_joinStates_23 fl_X4_34 rfl rfl rfl (by first | exact gz_B1 | (omega)) ?_
    refine gz_iload_n (pc := 26) dX4_joinStates_26 rfl ?_
    first | refine gz_aload_n (pc := 27) dX4_joinStates_27 rfl ?_ | refine gz_aload_nN (pc := 27) dX4_joinStates_27 rfl ?_
    refine gz_getr (pc := 28) dX4_joinStates_28 fl_X4_11 rfl rfl rfl (by first | exact gz_B1 | (omega)) ?_
    refine gz_iload_n (pc := 31) dX4_joinStates_31 rfl ?_
    first | refine gz_ald1 (pc := 32) dX4_joinStates_32 (by omega) ?_ | refine gz_ald2 (pc := 32) dX4_joinStates_32 (by omega) ?_ | refine gz_ald4 (pc := 32) dX4_joinStates_32 (by omega) ?_ | refine gz_ald17 (pc := 32) dX4_joinStates_32 (by first | exact gz_B1 | (omega)) (by omega) ?_
    refine gz_getI (pc := 33) 2 dX4_joinStates_33 fl_X4_59 rfl rfl rfl rfl (by first | exact gz_B1 | (omega)) ?_
    rw [r7]
    refine gz_copy (pc := 36) dX4_joinStates_36 wm_X4_225 rfl rfl rfl rfl (Nat.le_of_ble_eq_true rfl) (by first | exact gz_B1 | (omega)) (by first | exact gz_B1 | (omega)) (by omega) ?_
    refine gz_iload_n (pc := 39) dX4_joinStates_39 rfl ?_
    first | refine gz_aload_n (pc := 40) dX4_joinStates_40 rfl ?_ | refine gz_aload_nN (pc := 40) dX4_joinStates_40 rfl ?_
    refine gz_getr (pc := 41) dX4_joinStates_41 fl_X4_11 rfl rfl rfl (by first | exact gz_B1 | (omega)) ?_
    refine gz_iload_n (pc := 44) dX4_joinStates_44 rfl ?_
    first | refine gz_ald1 (pc := 45) dX4_joinStates_45 (by omega) ?_ | refine gz_ald2 (pc := 45) dX4_joinStates_45 (by omega) ?_ | refine gz_ald4 (pc := 45) dX4_joinStates_45 (by omega) ?_ | refine gz_ald17 (pc := 45) dX4_joinStates_45 (by first | exact gz_B1 | (omega)) (by omega) ?_
    refine gz_getI (pc := 46) 2 dX4_joinStates_46 fl_X4_59 rfl rfl rfl rfl (by first | exact gz_B1 | (omega)) ?_
    rw [gz_cp_r (by decide), r7]
    refine gz_iadd (pc := 49) dX4_joinStates_49 ?_
    refine gz_istore_n (pc := 50) dX4_joinStates_50 rfl rfl rfl ?_
    refine gz_iinc (pc := 51) dX4_joinStates_51 rfl rfl rfl rfl ?_
    refine gz_goto (pc := 54) (tgt := 4) dX4_joinStates_54 (by decide) ?_
    refine ih (t + 1) (by omega) (by omega) _ _ (by omega) ?_ (gz_T_cp hTI (fun _ => ⟨rfl, rfl⟩) (fun _ => ⟨rfl, rfl⟩)) (fun q hq => ?_) (fun u a1 a2 i a3 a4 => ?_)
    · rw [show (t + 1).toNat = t.toNat + 1 by omega, gz_sm_s, ← hn, Int.toNat_of_nonneg h0]
    · rw [← hI q hq]
      funext j
      unfold gz_cp
      rw [if_neg (fun z => hq z.1)]
    · rw [gz_cp_k]
      by_cases z : u = t
      · subst z
        rw [if_pos (by omega), ← hn, show 0 + (n + i - n) = i by omega, hI _ (gz_ne rfl)]
      · have z2 : gz_sm (fun t => I0 (7, t, 0) 2) (u.toNat + 1) ≤ gz_sm (fun t => I0 (7, t, 0) 2) t.toNat := gz_sm_mono (fun i => (gz_t7 hT i 0 2).1) (by omega)
        rw [gz_sm_s, Int.toNat_of_nonneg a1] at z2
        rw [if_neg (by omega)]
        exact hj u a1 (by omega) i a3 a4
set_option maxHeartbeats 4000000 in
set_option maxRecDepth 100000 in
theorem ct_X4_joinStates (l : Launch) (D : va_G) (α : gz_P → Nat) (cA : Nat → ClassId) {I0 : gz_M} (hT : gz_T I0) : gz_V l D α cA RX4 cX4_joinStates none 3 1 (gz_Qv fun I' => gz_T I' ∧ (∀ q, q ≠ (5, 0, 0) → I' q = I0 q) ∧ ∀ t, 0 ≤ t → t < I0 (0, 0, 0) 6 → ∀ i, 0 ≤ i → i < I0 (7, t, 0) 2 → I' (5, 0, 0) (gz_sm (fun t => I0 (7, t, 0) 2) t.toNat + i) = I0 (8, t, 0) i) I0 [some (.ref (α (0, 0, 0))), none, none] [] 0 := by
  refine gz_iconst (pc := 0) dX4_joinStates_0 ?_
  refine gz_istore_n (pc := 1) dX4_joinStates_1 rfl rfl rfl ?_
  refine gz_iconst (pc := 2) dX4_joinStates_2 ?_
  refine gz_istore_n (pc := 3) dX4_joinStates_3 rfl rfl rfl ?_
  exact lp_X4_joinStates l D α cA hT 0 (by have := gz_tk hT 0 0; omega) 0 I0 (by omega) rfl hT (fun q _ => rfl) (fun u a1 a2 => by omega)
set_option maxHeartbeats 4000000 in
set_option maxRecDepth 100000 in
theorem lp_X4_becomeTasks (l : Launch) (D : va_G) (α : gz_P → Nat) (cA : Nat → ClassId) {I0 : gz_M} (hT : gz_T I0) {n : Int} (hn : 1 ≤ n ∧ n ≤ 4) : ∀ t, t ≤ 4 → ∀ I : gz_M, n ≤ t → gz_T I → (∀ q, (∀ u, n ≤ u → u < I0 (0, 0, 0) 6 → q ≠ (11, u, 0)) → I q = I0 q) → (∀ u, n ≤ u → u < t → u < I0 (0, 0, 0) 6 → ∀ i, 0 ≤ i → i < 120 → I (11, u, 0) i = 0) → gz_V l D α cA RX4 cX4_becomeTasks none 3 1 (gz_Qv fun I' => gz_T I' ∧ I' (0, 0, 0) 6 = n ∧ (∀ i, i ≠ 6 → I' (0, 0, 0) i = I0 (0, 0, 0) i) ∧ (∀ q, q ≠ (0, 0, 0) → (∀ t, n ≤ t → t < I0 (0, 0, 0) 6 → q ≠ (11, t, 0)) → I' q = I0 q) ∧ ∀ t, n ≤ t → t < I0 (0, 0, 0) 6 → ∀ i, 0 ≤ i → i < 120 → I' (11, t, 0) i = 0) I [some (.ref (α (0, 0, 0))), some (gz_i (n)), some (gz_i (t))] [] 2 := by
  refine gz_upto _ ?_
  intro t ht ih I h0 hTI hI hj
  have e1 := gz_tk hT 0 0
  have r6 : I (0, 0, 0) 6 = I0 (0, 0, 0) 6 := by rw [hI _ (fun u _ _ => gz_ne rfl)]
  refine gz_iload_n (pc := 2) dX4_becomeTasks_2 rfl ?_
  first | refine gz_aload_n (pc := 3) dX4_becomeTasks_3 rfl ?_ | refine gz_aload_nN (pc := 3) dX4_becomeTasks_3 rfl ?_
  refine gz_getI (pc := 4) 6 dX4_becomeTasks_4 fl_X4_42 rfl rfl rfl rfl (by first | exact gz_B1 | (omega)) ?_
  rw [r6]
  refine gz_icmp_ge (pc := 7) (tgt := 25) dX4_becomeTasks_7 (by decide) (by omega) (by omega) (fun h7 => ?_) (fun h7 => ?_)
  · first | refine gz_aload_n (pc := 25) dX4_becomeTasks_25 rfl ?_ | refine gz_aload_nN (pc := 25) dX4_becomeTasks_25 rfl ?_
    refine gz_iload_n (pc := 26) dX4_becomeTasks_26 rfl ?_
    refine gz_putI (pc := 27) 6 dX4_becomeTasks_27 fw_X4_42 rfl rfl rfl rfl (by first | exact gz_B1 | (omega)) (Or.inl rfl) ?_
    refine gz_vret (pc := 30) dX4_becomeTasks_30 rfl ?_
    refine ⟨gz_Tu0_6 hTI hn, gz_up_s, fun i hi => ?_, fun q h1 h2 => ?_, fun u a1 a2 i a3 a4 => ?_⟩
    · rw [gz_up_eq, if_neg hi, hI _ (fun u _ _ => gz_ne rfl)]
    · rw [gz_up_ne h1]; exact hI q h2
    · rw [gz_up_r (by decide)]; exact hj u a1 (by omega) a2 i a3 a4
  · first | refine gz_aload_n (pc := 10) dX4_becomeTasks_10 rfl ?_ | refine gz_aload_nN (pc := 10) dX4_becomeTasks_10 rfl ?_
    refine gz_getr (pc := 11) dX4_becomeTasks_11 fl_X4_17 rfl rfl rfl (by first | exact gz_B1 | (omega)) ?_
    refine gz_iload_n (pc := 14) dX4_becomeTasks_14 rfl ?_
    first | refine gz_ald1 (pc := 15) dX4_becomeTasks_15 (by omega) ?_ | refine gz_ald2 (pc := 15) dX4_becomeTasks_15 (by omega) ?_ | refine gz_ald4 (pc := 15) dX4_becomeTasks_15 (by omega) ?_ | refine gz_ald17 (pc := 15) dX4_becomeTasks_15 (by first | exact gz_B1 | (omega)) (by omega) ?_
    refine gz_cV0v (pc := 16) dX4_becomeTasks_16 wm_X4_231 my_X1_clear rfl rfl rfl (by first | exact gz_B1 | (omega)) (ct_X1_clear l D α cA (by omega) hTI) (fun I16 h16 => ?_)
    obtain ⟨c1, c2, c3⟩ := h16
    refine gz_iinc (pc := 19) dX4_becomeTasks_19 rfl rfl rfl rfl ?_
    refine gz_goto (pc := 22) (tgt := 2) dX4_becomeTasks_22 (by decide) ?_
    refine ih (t + 1) (by omega) (by omega) _ (by omega) c1 (fun q hq => ?_) (fun u a1 a2 a3 i a4 a5 => ?_)
    · rw [c2 q (hq t h0 (by omega))]
      exact hI q hq
    · by_cases z : u = t
      · rw [z]; exact c3 i a4 a5
      · rw [c2 _ (fun e => z (by injection e with _ e; injection e))]
        exact hj u a1 (by omega) a3 i a4 a5
set_option maxHeartbeats 4000000 in
set_option maxRecDepth 100000 in
theorem ct_X4_becomeTasks (l : Launch) (D : va_G) (α : gz_P → Nat) (cA : Nat → ClassId) {I0 : gz_M} (hT : gz_T I0) {n : Int} (hn : 1 ≤ n ∧ n ≤ 4) : gz_V l D α cA RX4 cX4_becomeTasks none 3 1 (gz_Qv fun I' => gz_T I' ∧ I' (0, 0, 0) 6 = n ∧ (∀ i, i ≠ 6 → I' (0, 0, 0) i = I0 (0, 0, 0) i) ∧ (∀ q, q ≠ (0, 0, 0) → (∀ t, n ≤ t → t < I0 (0, 0, 0) 6 → q ≠ (11, t, 0)) → I' q = I0 q) ∧ ∀ t, n ≤ t → t < I0 (0, 0, 0) 6 → ∀ i, 0 ≤ i → i < 120 → I' (11, t, 0) i = 0) I0 [some (.ref (α (0, 0, 0))), some (gz_i (n)), none] [] 0 := by
  refine gz_iload_n (pc := 0) dX4_becomeTasks_0 rfl ?_
  refine gz_istore_n (pc := 1) dX4_becomeTasks_1 rfl rfl rfl ?_
  exact lp_X4_becomeTasks l D α cA hT hn n (by omega) I0 (by omega) hT (fun q _ => rfl) (fun u a1 a2 => by omega)
set_option maxHeartbeats 4000000 in
set_option maxRecDepth 100000 in
theorem ct_X4_shareStart (l : Launch) (D : va_G) (α : gz_P → Nat) (cA : Nat → ClassId) {I : gz_M} {a t n : Int} (ha : 0 ≤ a ∧ a ≤ 1200) (ht : 0 ≤ t ∧ t ≤ 4) (hn : 1 ≤ n ∧ n ≤ 4) : gz_V l D α cA RX4 cX4_shareStart (some .int) 3 0 (gz_Qi fun x I' => I = I' ∧ x = a * t / n) I [some (gz_i (a)), some (gz_i (t)), some (gz_i (n))] [] 0 := by
  have h1 : 0 ≤ a * t := Int.mul_nonneg ha.1 ht.1
  have h2 : a * t ≤ 1200 * 4 := Int.mul_le_mul ha.2 ht.2 ht.1 (by decide)
  refine gz_iload_n (pc := 0) dX4_shareStart_0 rfl ?_
  refine gz_iload_n (pc := 1) dX4_shareStart_1 rfl ?_
  refine gz_imul (pc := 2) dX4_shareStart_2 ?_
  refine gz_iload_n (pc := 3) dX4_shareStart_3 rfl ?_
  refine gz_idiv (pc := 4) dX4_shareStart_4 (by omega) (by omega) ?_
  refine gz_iret (pc := 5) dX4_shareStart_5 rfl ?_
  exact ⟨rfl, rfl⟩
set_option maxHeartbeats 4000000 in
set_option maxRecDepth 100000 in
theorem lp_X4_heldMark (l : Launch) (D : va_G) (α : gz_P → Nat) (cA : Nat → ClassId) {I : gz_M} (hT : gz_T I) {m : Int} (hm : (-2147483648 ≤ m ∧ m ≤ 2147483647)) : ∀ i, i ≤ I (0, 0, 0) 7 → 0 ≤ i → (∀ j, 0 ≤ j → j < i → ¬ I (16, I (4, 0, 0) (j), 0) 2 = m) → gz_V l D α cA RX4 cX4_heldMark (some (.object "GrownSnapshots$Mark")) 3 0 (gz_Qr fun v I' => I = I' ∧ (v = .null ∧ (∀ j, 0 ≤ j → j < I (0, 0, 0) 7 → ¬ I (16, I (4, 0, 0) (j), 0) 2 = m) ∨ ∃ i, ((0 ≤ i ∧ i < I (0, 0, 0) 7) ∧ I (16, I (4, 0, 0) (i), 0) 2 = m ∧ ∀ j, 0 ≤ j → j < i → ¬ I (16, I (4, 0, 0) (j), 0) 2 = m) ∧ v = .ref (α (16, I (4, 0, 0) (i), 0)))) I [some (.ref (α (0, 0, 0))), some (gz_i (m)), some (gz_i (i))] [] 2 := by
  refine gz_upto _ ?_
  intro i hi ih h0 hj
  have e1 := gz_th hT 0 0
  have e2 := gz_t4 hT 0 0 i
  have e3 := gz_tm2 hT (I (4, 0, 0) (i)) 0
  refine gz_iload_n (pc := 2) dX4_heldMark_2 rfl ?_
  first | refine gz_aload_n (pc := 3) dX4_heldMark_3 rfl ?_ | refine gz_aload_nN (pc := 3) dX4_heldMark_3 rfl ?_
  refine gz_getI (pc := 4) 7 dX4_heldMark_4 fl_X4_46 rfl rfl rfl rfl (by first | exact gz_B1 | (omega)) ?_
  refine gz_icmp_ge (pc := 7) (tgt := 36) dX4_heldMark_7 (by decide) (by omega) (by omega) (fun h7 => ?_) (fun h7 => ?_)
  · refine gz_null (pc := 36) dX4_heldMark_36 ?_
    first | refine gz_aret (pc := 37) dX4_heldMark_37 rfl ?_ | refine gz_aretN (pc := 37) dX4_heldMark_37 rfl ?_
    exact ⟨rfl, Or.inl ⟨rfl, fun j a1 a2 => hj j a1 (by omega)⟩⟩
  · first | refine gz_aload_n (pc := 10) dX4_heldMark_10 rfl ?_ | refine gz_aload_nN (pc := 10) dX4_heldMark_10 rfl ?_
    refine gz_getr (pc := 11) dX4_heldMark_11 fl_X4_30 rfl rfl rfl (by first | exact gz_B1 | (omega)) ?_
    refine gz_iload_n (pc := 14) dX4_heldMark_14 rfl ?_
    first | refine gz_ald1 (pc := 15) dX4_heldMark_15 (by omega) ?_ | refine gz_ald2 (pc := 15) dX4_heldMark_15 (by omega) ?_ | refine gz_ald4 (pc := 15) dX4_heldMark_15 (by omega) ?_ | refine gz_ald17 (pc := 15) dX4_heldMark_15 (by first | exact gz_B1 | (omega)) (by omega) ?_
    refine gz_getI (pc := 16) 2 dX4_heldMark_16 fl_X4_122 rfl rfl rfl rfl (by first | exact gz_B1 | (omega)) ?_
    refine gz_iload_n (pc := 19) dX4_heldMark_19 rfl ?_
    refine gz_icmp_ne (pc := 20) (tgt := 30) dX4_heldMark_20 (by decide) (by omega) (by omega) (fun h20 => ?_) (fun h20 => ?_)
    · refine gz_iinc (pc := 30) dX4_heldMark_30 rfl rfl rfl rfl ?_
      refine gz_goto (pc := 33) (tgt := 2) dX4_heldMark_33 (by decide) ?_
      refine ih (i + 1) (by omega) (by omega) (by omega) (fun j a1 a2 => ?_)
      by_cases z : j = i
      · rw [z]; exact h20
      · exact hj j a1 (by omega)
    · first | refine gz_aload_n (pc := 23) dX4_heldMark_23 rfl ?_ | refine gz_aload_nN (pc := 23) dX4_heldMark_23 rfl ?_
      refine gz_getr (pc := 24) dX4_heldMark_24 fl_X4_30 rfl rfl rfl (by first | exact gz_B1 | (omega)) ?_
      refine gz_iload_n (pc := 27) dX4_heldMark_27 rfl ?_
      first | refine gz_ald1 (pc := 28) dX4_heldMark_28 (by omega) ?_ | refine gz_ald2 (pc := 28) dX4_heldMark_28 (by omega) ?_ | refine gz_ald4 (pc := 28) dX4_heldMark_28 (by omega) ?_ | refine gz_ald17 (pc := 28) dX4_heldMark_28 (by first | exact gz_B1 | (omega)) (by omega) ?_
      first | refine gz_aret (pc := 29) dX4_heldMark_29 rfl ?_ | refine gz_aretN (pc := 29) dX4_heldMark_29 rfl ?_
      exact ⟨rfl, Or.inr ⟨i, ⟨by omega, h20, hj⟩, rfl⟩⟩
set_option maxHeartbeats 4000000 in
set_option maxRecDepth 100000 in
theorem ct_X4_heldMark (l : Launch) (D : va_G) (α : gz_P → Nat) (cA : Nat → ClassId) {I : gz_M} (hT : gz_T I) {m : Int} (hm : (-2147483648 ≤ m ∧ m ≤ 2147483647)) : gz_V l D α cA RX4 cX4_heldMark (some (.object "GrownSnapshots$Mark")) 3 0 (gz_Qr fun v I' => I = I' ∧ (v = .null ∧ (∀ j, 0 ≤ j → j < I (0, 0, 0) 7 → ¬ I (16, I (4, 0, 0) (j), 0) 2 = m) ∨ ∃ i, ((0 ≤ i ∧ i < I (0, 0, 0) 7) ∧ I (16, I (4, 0, 0) (i), 0) 2 = m ∧ ∀ j, 0 ≤ j → j < i → ¬ I (16, I (4, 0, 0) (j), 0) 2 = m) ∧ v = .ref (α (16, I (4, 0, 0) (i), 0)))) I [some (.ref (α (0, 0, 0))), some (gz_i (m)), none] [] 0 := by
  refine gz_iconst (pc := 0) dX4_heldMark_0 ?_
  refine gz_istore_n (pc := 1) dX4_heldMark_1 rfl rfl rfl ?_
  exact lp_X4_heldMark l D α cA hT hm 0 (by have := gz_th hT 0 0; omega) (by omega) (fun j a1 a2 => by omega)
theorem gz_ixu {P : Int → Prop} {i j : Int} (hi : 0 ≤ i) (hj : 0 ≤ j) (h1 : P i) (h2 : P j) (m1 : ∀ k, 0 ≤ k → k < i → ¬ P k) (m2 : ∀ k, 0 ≤ k → k < j → ¬ P k) : i = j := by
  rcases Int.lt_trichotomy i j with h | h | h
  · exact absurd h1 (m2 i hi h)
  · exact h
  · exact absurd h2 (m1 j hj h)
set_option maxHeartbeats 4000000 in
set_option maxRecDepth 100000 in
theorem ct_X4_keptMark (l : Launch) (D : va_G) (α : gz_P → Nat) (cA : Nat → ClassId) {I : gz_M} (hT : gz_T I) {m : Int} (hm : (-2147483648 ≤ m ∧ m ≤ 2147483647)) : gz_V l D α cA RX4 cX4_keptMark (some (.object "GrownSnapshots$Mark")) 3 1 (gz_Qr fun v I' => I = I' ∧ (v = .null ∧ (∀ i, ((0 ≤ i ∧ i < I (0, 0, 0) 7) ∧ I (16, I (4, 0, 0) (i), 0) 2 = m ∧ ∀ j, 0 ≤ j → j < i → ¬ I (16, I (4, 0, 0) (j), 0) 2 = m) → I (16, I (4, 0, 0) (i), 0) 3 = 0) ∨ ∃ i, ((0 ≤ i ∧ i < I (0, 0, 0) 7) ∧ I (16, I (4, 0, 0) (i), 0) 2 = m ∧ ∀ j, 0 ≤ j → j < i → ¬ I (16, I (4, 0, 0) (j), 0) 2 = m) ∧ I (16, I (4, 0, 0) (i), 0) 3 = 1 ∧ v = .ref (α (16, I (4, 0, 0) (i), 0)))) I [some (.ref (α (0, 0, 0))), some (gz_i (m)), none] [] 0 := by
  first | refine gz_aload_n (pc := 0) dX4_keptMark_0 rfl ?_ | refine gz_aload_nN (pc := 0) dX4_keptMark_0 rfl ?_
  refine gz_iload_n (pc := 1) dX4_keptMark_1 rfl ?_
  refine gz_cV1r (pc := 2) dX4_keptMark_2 wm_X4_152 my_X4_heldMark rfl rfl rfl (by first | exact gz_B1 | (omega)) (ct_X4_heldMark l D α cA hT hm) (fun x2 I2 h2 => ?_)
  obtain ⟨rfl, ⟨rfl, hn⟩ | ⟨i, hi, rfl⟩⟩ := h2
  · first | refine gz_astore_n (pc := 5) dX4_keptMark_5 rfl rfl rfl ?_ | refine gz_astore_nN (pc := 5) dX4_keptMark_5 rfl rfl rfl ?_
    first | refine gz_aload_n (pc := 6) dX4_keptMark_6 rfl ?_ | refine gz_aload_nN (pc := 6) dX4_keptMark_6 rfl ?_
    refine gz_ifnullN (pc := 7) (tgt := 21) dX4_keptMark_7 (by decide) ?_
    refine gz_null (pc := 21) dX4_keptMark_21 ?_
    first | refine gz_aret (pc := 22) dX4_keptMark_22 rfl ?_ | refine gz_aretN (pc := 22) dX4_keptMark_22 rfl ?_
    exact ⟨rfl, Or.inl ⟨rfl, fun i hi => absurd hi.2.1 (hn i hi.1.1 hi.1.2)⟩⟩
  · have e2 := gz_t4 hT 0 0 i
    have e3 := gz_tm3 hT (I (4, 0, 0) (i)) 0
    have uq : ∀ i2, ((0 ≤ i2 ∧ i2 < I (0, 0, 0) 7) ∧ I (16, I (4, 0, 0) (i2), 0) 2 = m ∧ ∀ j, 0 ≤ j → j < i2 → ¬ I (16, I (4, 0, 0) (j), 0) 2 = m) → i2 = i := fun i2 h => gz_ixu (P := fun j => I (16, I (4, 0, 0) (j), 0) 2 = m) h.1.1 hi.1.1 h.2.1 hi.2.1 h.2.2 hi.2.2
    first | refine gz_astore_n (pc := 5) dX4_keptMark_5 rfl rfl rfl ?_ | refine gz_astore_nN (pc := 5) dX4_keptMark_5 rfl rfl rfl ?_
    first | refine gz_aload_n (pc := 6) dX4_keptMark_6 rfl ?_ | refine gz_aload_nN (pc := 6) dX4_keptMark_6 rfl ?_
    refine gz_ifnull (pc := 7) dX4_keptMark_7 ?_
    first | refine gz_aload_n (pc := 10) dX4_keptMark_10 rfl ?_ | refine gz_aload_nN (pc := 10) dX4_keptMark_10 rfl ?_
    refine gz_getI (pc := 11) 3 dX4_keptMark_11 fl_X4_129 rfl rfl rfl rfl (by first | exact gz_B1 | (omega)) ?_
    refine gz_if_eq (pc := 14) (tgt := 21) dX4_keptMark_14 (by decide) (by omega) (fun h14 => ?_) (fun h14 => ?_)
    · refine gz_null (pc := 21) dX4_keptMark_21 ?_
      first | refine gz_aret (pc := 22) dX4_keptMark_22 rfl ?_ | refine gz_aretN (pc := 22) dX4_keptMark_22 rfl ?_
      first | exact ⟨rfl, Or.inr ⟨i, hi, by omega, rfl⟩⟩ | exact ⟨rfl, Or.inl ⟨rfl, fun i2 h => by rw [uq i2 h]; omega⟩⟩
    · first | refine gz_aload_n (pc := 17) dX4_keptMark_17 rfl ?_ | refine gz_aload_nN (pc := 17) dX4_keptMark_17 rfl ?_
      refine gz_goto (pc := 18) (tgt := 22) dX4_keptMark_18 (by decide) ?_
      first | refine gz_aret (pc := 22) dX4_keptMark_22 rfl ?_ | refine gz_aretN (pc := 22) dX4_keptMark_22 rfl ?_
      first | exact ⟨rfl, Or.inr ⟨i, hi, by omega, rfl⟩⟩ | exact ⟨rfl, Or.inl ⟨rfl, fun i2 h => by rw [uq i2 h]; omega⟩⟩
set_option maxHeartbeats 4000000 in
set_option maxRecDepth 100000 in
theorem lp_X4_latestKept (l : Launch) (D : va_G) (α : gz_P → Nat) (cA : Nat → ClassId) {I : gz_M} (hT : gz_T I) : ∀ i, -1 ≤ i → i < I (0, 0, 0) 7 → (∀ j, i < j → j < I (0, 0, 0) 7 → I (16, I (4, 0, 0) (j), 0) 3 = 0) → gz_V l D α cA RX4 cX4_latestKept (some (.object "GrownSnapshots$Mark")) 2 0 (gz_Qr fun v I' => I = I' ∧ (v = .null ∧ (∀ j, 0 ≤ j → j < I (0, 0, 0) 7 → I (16, I (4, 0, 0) (j), 0) 3 = 0) ∨ ∃ i, (0 ≤ i ∧ i < I (0, 0, 0) 7) ∧ I (16, I (4, 0, 0) (i), 0) 3 = 1 ∧ (∀ j, i < j → j < I (0, 0, 0) 7 → I (16, I (4, 0, 0) (j), 0) 3 = 0) ∧ v = .ref (α (16, I (4, 0, 0) (i), 0)))) I [some (.ref (α (0, 0, 0))), some (gz_i (i))] [] 7 := by
  refine gz_downto _ ?_
  intro i hi ih hi2 hj
  have e1 := gz_th hT 0 0
  have e2 := gz_t4 hT 0 0 i
  have e3 := gz_tm3 hT (I (4, 0, 0) (i)) 0
  refine gz_iload_n (pc := 7) dX4_latestKept_7 rfl ?_
  refine gz_if_lt (pc := 8) (tgt := 36) dX4_latestKept_8 (by decide) (by omega) (fun h8 => ?_) (fun h8 => ?_)
  · refine gz_null (pc := 36) dX4_latestKept_36 ?_
    first | refine gz_aret (pc := 37) dX4_latestKept_37 rfl ?_ | refine gz_aretN (pc := 37) dX4_latestKept_37 rfl ?_
    exact ⟨rfl, Or.inl ⟨rfl, fun j a1 a2 => hj j (by omega) a2⟩⟩
  · first | refine gz_aload_n (pc := 11) dX4_latestKept_11 rfl ?_ | refine gz_aload_nN (pc := 11) dX4_latestKept_11 rfl ?_
    refine gz_getr (pc := 12) dX4_latestKept_12 fl_X4_30 rfl rfl rfl (by first | exact gz_B1 | (omega)) ?_
    refine gz_iload_n (pc := 15) dX4_latestKept_15 rfl ?_
    first | refine gz_ald1 (pc := 16) dX4_latestKept_16 (by omega) ?_ | refine gz_ald2 (pc := 16) dX4_latestKept_16 (by omega) ?_ | refine gz_ald4 (pc := 16) dX4_latestKept_16 (by omega) ?_ | refine gz_ald17 (pc := 16) dX4_latestKept_16 (by first | exact gz_B1 | (omega)) (by omega) ?_
    refine gz_getI (pc := 17) 3 dX4_latestKept_17 fl_X4_129 rfl rfl rfl rfl (by first | exact gz_B1 | (omega)) ?_
    refine gz_if_eq (pc := 20) (tgt := 30) dX4_latestKept_20 (by decide) (by omega) (fun h20 => ?_) (fun h20 => ?_)
    · refine gz_iinc (pc := 30) dX4_latestKept_30 rfl rfl rfl rfl ?_
      refine gz_goto (pc := 33) (tgt := 7) dX4_latestKept_33 (by decide) ?_
      refine ih (i + -1) (by omega) (by omega) (by omega) (fun j a1 a2 => ?_)
      by_cases z : j = i
      · rw [z]; exact h20
      · exact hj j (by omega) a2
    · first | refine gz_aload_n (pc := 23) dX4_latestKept_23 rfl ?_ | refine gz_aload_nN (pc := 23) dX4_latestKept_23 rfl ?_
      refine gz_getr (pc := 24) dX4_latestKept_24 fl_X4_30 rfl rfl rfl (by first | exact gz_B1 | (omega)) ?_
      refine gz_iload_n (pc := 27) dX4_latestKept_27 rfl ?_
      first | refine gz_ald1 (pc := 28) dX4_latestKept_28 (by omega) ?_ | refine gz_ald2 (pc := 28) dX4_latestKept_28 (by omega) ?_ | refine gz_ald4 (pc := 28) dX4_latestKept_28 (by omega) ?_ | refine gz_ald17 (pc := 28) dX4_latestKept_28 (by first | exact gz_B1 | (omega)) (by omega) ?_
      first | refine gz_aret (pc := 29) dX4_latestKept_29 rfl ?_ | refine gz_aretN (pc := 29) dX4_latestKept_29 rfl ?_
      exact ⟨rfl, Or.inr ⟨i, by omega, by omega, hj, rfl⟩⟩
set_option maxHeartbeats 4000000 in
set_option maxRecDepth 100000 in
theorem ct_X4_latestKept (l : Launch) (D : va_G) (α : gz_P → Nat) (cA : Nat → ClassId) {I : gz_M} (hT : gz_T I) : gz_V l D α cA RX4 cX4_latestKept (some (.object "GrownSnapshots$Mark")) 2 0 (gz_Qr fun v I' => I = I' ∧ (v = .null ∧ (∀ j, 0 ≤ j → j < I (0, 0, 0) 7 → I (16, I (4, 0, 0) (j), 0) 3 = 0) ∨ ∃ i, (0 ≤ i ∧ i < I (0, 0, 0) 7) ∧ I (16, I (4, 0, 0) (i), 0) 3 = 1 ∧ (∀ j, i < j → j < I (0, 0, 0) 7 → I (16, I (4, 0, 0) (j), 0) 3 = 0) ∧ v = .ref (α (16, I (4, 0, 0) (i), 0)))) I [some (.ref (α (0, 0, 0))), none] [] 0 := by
  first | refine gz_aload_n (pc := 0) dX4_latestKept_0 rfl ?_ | refine gz_aload_nN (pc := 0) dX4_latestKept_0 rfl ?_
  refine gz_getI (pc := 1) 7 dX4_latestKept_1 fl_X4_46 rfl rfl rfl rfl (by first | exact gz_B1 | (omega)) ?_
  refine gz_iconst (pc := 4) dX4_latestKept_4 ?_
  refine gz_isub (pc := 5) dX4_latestKept_5 ?_
  refine gz_istore_n (pc := 6) dX4_latestKept_6 rfl rfl rfl ?_
  exact lp_X4_latestKept l D α cA hT (I (0, 0, 0) 7 - 1) (by have := gz_th hT 0 0; omega) (by omega) (fun j a1 a2 => by omega)
set_option maxHeartbeats 4000000 in
set_option maxRecDepth 100000 in
theorem lp_X4_keptCount (l : Launch) (D : va_G) (α : gz_P → Nat) (cA : Nat → ClassId) {I : gz_M} (hT : gz_T I) : ∀ i, i ≤ I (0, 0, 0) 7 → ∀ n : Int, 0 ≤ i → n = gz_sm (fun j => I (16, I (4, 0, 0) (j), 0) 3) i.toNat → gz_V l D α cA RX4 cX4_keptCount (some .int) 3 0 (gz_Qi fun x I' => I = I' ∧ x = gz_sm (fun j => I (16, I (4, 0, 0) (j), 0) 3) (I (0, 0, 0) 7).toNat) I [some (.ref (α (0, 0, 0))), some (gz_i (n)), some (gz_i (i))] [] 4 := by
  refine gz_upto _ ?_
  intro i hi ih n h0 hn
  have e1 := gz_th hT 0 0
  have e2 := gz_t4 hT 0 0 i
  have e3 := gz_tm3 hT (I (4, 0, 0) (i)) 0
  have e4 := gz_sm_in (f := (fun j => I (16, I (4, 0, 0) (j), 0) 3)) (lo := 0) (hi := 1) (fun j => gz_tm3 hT (I (4, 0, 0) (j)) 0) i.toNat
  refine gz_iload_n (pc := 4) dX4_keptCount_4 rfl ?_
  first | refine gz_aload_n (pc := 5) dX4_keptCount_5 rfl ?_ | refine gz_aload_nN (pc := 5) dX4_keptCount_5 rfl ?_
  refine gz_getI (pc := 6) 7 dX4_keptCount_6 fl_X4_46 rfl rfl rfl rfl (by first | exact gz_B1 | (omega)) ?_
  refine gz_icmp_ge (pc := 9) (tgt := 33) dX4_keptCount_9 (by decide) (by omega) (by omega) (fun h9 => ?_) (fun h9 => ?_)
  · refine gz_iload_n (pc := 33) dX4_keptCount_33 rfl ?_
    refine gz_iret (pc := 34) dX4_keptCount_34 rfl ?_
    exact ⟨rfl, by rw [hn, show i = I (0, 0, 0) 7 by omega]⟩
  · first | refine gz_aload_n (pc := 12) dX4_keptCount_12 rfl ?_ | refine gz_aload_nN (pc := 12) dX4_keptCount_12 rfl ?_
    refine gz_getr (pc := 13) dX4_keptCount_13 fl_X4_30 rfl rfl rfl (by first | exact gz_B1 | (omega)) ?_
    refine gz_iload_n (pc := 16) dX4_keptCount_16 rfl ?_
    first | refine gz_ald1 (pc := 17) dX4_keptCount_17 (by omega) ?_ | refine gz_ald2 (pc := 17) dX4_keptCount_17 (by omega) ?_ | refine gz_ald4 (pc := 17) dX4_keptCount_17 (by omega) ?_ | refine gz_ald17 (pc := 17) dX4_keptCount_17 (by first | exact gz_B1 | (omega)) (by omega) ?_
    refine gz_getI (pc := 18) 3 dX4_keptCount_18 fl_X4_129 rfl rfl rfl rfl (by first | exact gz_B1 | (omega)) ?_
    refine gz_if_eq (pc := 21) (tgt := 27) dX4_keptCount_21 (by decide) (by omega) (fun h21 => ?_) (fun h21 => ?_)
    · refine gz_iinc (pc := 27) dX4_keptCount_27 rfl rfl rfl rfl ?_
      refine gz_goto (pc := 30) (tgt := 4) dX4_keptCount_30 (by decide) ?_
      refine ih (i + 1) (by omega) (by omega) _ (by omega) ?_
      rw [show (i + 1).toNat = i.toNat + 1 by omega, gz_sm_s, ← hn, Int.toNat_of_nonneg h0]
      omega
    · refine gz_iinc (pc := 24) dX4_keptCount_24 rfl rfl rfl rfl ?_
      refine gz_iinc (pc := 27) dX4_keptCount_27 rfl rfl rfl rfl ?_
      refine gz_goto (pc := 30) (tgt := 4) dX4_keptCount_30 (by decide) ?_
      refine ih (i + 1) (by omega) (by omega) _ (by omega) ?_
      rw [show (i + 1).toNat = i.toNat + 1 by omega, gz_sm_s, ← hn, Int.toNat_of_nonneg h0]
      omega
set_option maxHeartbeats 4000000 in
set_option maxRecDepth 100000 in
theorem ct_X4_keptCount (l : Launch) (D : va_G) (α : gz_P → Nat) (cA : Nat → ClassId) {I : gz_M} (hT : gz_T I) : gz_V l D α cA RX4 cX4_keptCount (some .int) 3 0 (gz_Qi fun x I' => I = I' ∧ x = gz_sm (fun j => I (16, I (4, 0, 0) (j), 0) 3) (I (0, 0, 0) 7).toNat) I [some (.ref (α (0, 0, 0))), none, none] [] 0 := by
  refine gz_iconst (pc := 0) dX4_keptCount_0 ?_
  refine gz_istore_n (pc := 1) dX4_keptCount_1 rfl rfl rfl ?_
  refine gz_iconst (pc := 2) dX4_keptCount_2 ?_
  refine gz_istore_n (pc := 3) dX4_keptCount_3 rfl rfl rfl ?_
  exact lp_X4_keptCount l D α cA hT 0 (by have := gz_th hT 0 0; omega) 0 (by omega) rfl
end
section
set_option maxHeartbeats 4000000 in
set_option maxRecDepth 100000 in
theorem lp_X4_keptNaming (l : Launch) (D : va_G) (α : gz_P → Nat) (cA : Nat → ClassId) {I : gz_M} (hT : gz_T I) {p : Int} (hp : (-2147483648 ≤ p ∧ p ≤ 2147483647)) : ∀ i, i ≤ I (0, 0, 0) 7 → ∀ n : Int, 0 ≤ i → n = gz_sm (fun j => gz_b (I (16, I (4, 0, 0) (j), 0) 3 = 1 ∧ gz_nmd I (I (4, 0, 0) (j)) p)) i.toNat → gz_V l D α cA RX4 cX4_keptNaming (some .int) 4 1 (gz_Qi fun x I' => I = I' ∧ x = gz_sm (fun j => gz_b (I (16, I (4, 0, 0) (j), 0) 3 = 1 ∧ gz_nmd I (I (4, 0, 0) (j)) p)) (I (0, 0, 0) 7).toNat) I [some (.ref (α (0, 0, 0))), some (gz_i (p)), some (gz_i (n)), some (gz_i (i))] [] 4 := by
  refine gz_upto _ ?_
  intro i hi ih n h0 hn
  have e1 := gz_th hT 0 0
  have e2 := gz_t4 hT 0 0 i
  have e3 := gz_tm3 hT (I (4, 0, 0) (i)) 0
  have e4 := gz_sm_in (f := (fun j => gz_b (I (16, I (4, 0, 0) (j), 0) 3 = 1 ∧ gz_nmd I (I (4, 0, 0) (j)) p))) (lo := 0) (hi := 1) (fun j => gz_b_in _) i.toNat
  refine gz_iload_n (pc := 4) dX4_keptNaming_4 rfl ?_
  first | refine gz_aload_n (pc := 5) dX4_keptNaming_5 rfl ?_ | refine gz_aload_nN (pc := 5) dX4_keptNaming_5 rfl ?_
  refine gz_getI (pc := 6) 7 dX4_keptNaming_6 fl_X4_46 rfl rfl rfl rfl (by first | exact gz_B1 | (omega)) ?_
  refine gz_icmp_ge (pc := 9) (tgt := 46) dX4_keptNaming_9 (by decide) (by omega) (by omega) (fun h9 => ?_) (fun h9 => ?_)
  · refine gz_iload_n (pc := 46) dX4_keptNaming_46 rfl ?_
    refine gz_iret (pc := 47) dX4_keptNaming_47 rfl ?_
    exact ⟨rfl, by rw [hn, show i = I (0, 0, 0) 7 by omega]⟩
  · first | refine gz_aload_n (pc := 12) dX4_keptNaming_12 rfl ?_ | refine gz_aload_nN (pc := 12) dX4_keptNaming_12 rfl ?_
    refine gz_getr (pc := 13) dX4_keptNaming_13 fl_X4_30 rfl rfl rfl (by first | exact gz_B1 | (omega)) ?_
    refine gz_iload_n (pc := 16) dX4_keptNaming_16 rfl ?_
    first | refine gz_ald1 (pc := 17) dX4_keptNaming_17 (by omega) ?_ | refine gz_ald2 (pc := 17) dX4_keptNaming_17 (by omega) ?_ | refine gz_ald4 (pc := 17) dX4_keptNaming_17 (by omega) ?_ | refine gz_ald17 (pc := 17) dX4_keptNaming_17 (by first | exact gz_B1 | (omega)) (by omega) ?_
    refine gz_getI (pc := 18) 3 dX4_keptNaming_18 fl_X4_129 rfl rfl rfl rfl (by first | exact gz_B1 | (omega)) ?_
    refine gz_if_eq (pc := 21) (tgt := 40) dX4_keptNaming_21 (by decide) (by omega) (fun h21 => ?_) (fun h21 => ?_)
    · refine gz_iinc (pc := 40) dX4_keptNaming_40 rfl rfl rfl rfl ?_
      refine gz_goto (pc := 43) (tgt := 4) dX4_keptNaming_43 (by decide) ?_
      first
        | exact absurd h34 (by decide)
        | (refine ih (i + 1) (by omega) (by omega) _ (by omega) ?_
           rw [show (i + 1).toNat = i.toNat + 1 by omega, gz_sm_s, ← hn, Int.toNat_of_nonneg h0]
           first
             | (rw [gz_b1 ⟨hk1, hnm⟩]; done)
             | (rw [gz_b0 (fun z => hnm z.2)]; omega)
             | (rw [gz_b0 (fun z => by omega)]; omega))
    · have hk1 : I (16, I (4, 0, 0) (i), 0) 3 = 1 := by omega
      first | refine gz_aload_n (pc := 24) dX4_keptNaming_24 rfl ?_ | refine gz_aload_nN (pc := 24) dX4_keptNaming_24 rfl ?_
      refine gz_getr (pc := 25) dX4_keptNaming_25 fl_X4_30 rfl rfl rfl (by first | exact gz_B1 | (omega)) ?_
      refine gz_iload_n (pc := 28) dX4_keptNaming_28 rfl ?_
      first | refine gz_ald1 (pc := 29) dX4_keptNaming_29 (by omega) ?_ | refine gz_ald2 (pc := 29) dX4_keptNaming_29 (by omega) ?_ | refine gz_ald4 (pc := 29) dX4_keptNaming_29 (by omega) ?_ | refine gz_ald17 (pc := 29) dX4_keptNaming_29 (by first | exact gz_B1 | (omega)) (by omega) ?_
      refine gz_iload_n (pc := 30) dX4_keptNaming_30 rfl ?_
      refine gz_cV1i (pc := 31) dX4_keptNaming_31 wm_X4_274 my_X0_names rfl rfl rfl (by first | exact gz_B1 | (omega)) (ct_X0_names l D α cA hT (by omega) hp) (fun x31 I31 h31 => ?_)
      obtain ⟨rfl, ⟨rfl, hnm⟩ | ⟨rfl, hnm⟩⟩ := h31
      · refine gz_if_eq (pc := 34) (tgt := 40) dX4_keptNaming_34 (by decide) (by omega) (fun h34 => ?_) (fun h34 => ?_)
        · refine gz_iinc (pc := 40) dX4_keptNaming_40 rfl rfl rfl rfl ?_
          refine gz_goto (pc := 43) (tgt := 4) dX4_keptNaming_43 (by decide) ?_
          first
            | exact absurd h34 (by decide)
            | (refine ih (i + 1) (by omega) (by omega) _ (by omega) ?_
               rw [show (i + 1).toNat = i.toNat + 1 by omega, gz_sm_s, ← hn, Int.toNat_of_nonneg h0]
               first
                 | (rw [gz_b1 ⟨hk1, hnm⟩]; done)
                 | (rw [gz_b0 (fun z => hnm z.2)]; omega)
                 | (rw [gz_b0 (fun z => by omega)]; omega))
        · refine gz_iinc (pc := 37) dX4_keptNaming_37 rfl rfl rfl rfl ?_
          refine gz_iinc (pc := 40) dX4_keptNaming_40 rfl rfl rfl rfl ?_
          refine gz_goto (pc := 43) (tgt := 4) dX4_keptNaming_43 (by decide) ?_
          first
            | exact absurd h34 (by decide)
            | (refine ih (i + 1) (by omega) (by omega) _ (by omega) ?_
               rw [show (i + 1).toNat = i.toNat + 1 by omega, gz_sm_s, ← hn, Int.toNat_of_nonneg h0]
               first
                 | (rw [gz_b1 ⟨hk1, hnm⟩]; done)
                 | (rw [gz_b0 (fun z => hnm z.2)]; omega)
                 | (rw [gz_b0 (fun z => by omega)]; omega))
      · refine gz_if_eq (pc := 34) (tgt := 40) dX4_keptNaming_34 (by decide) (by omega) (fun h34 => ?_) (fun h34 => ?_)
        · refine gz_iinc (pc := 40) dX4_keptNaming_40 rfl rfl rfl rfl ?_
          refine gz_goto (pc := 43) (tgt := 4) dX4_keptNaming_43 (by decide) ?_
          first
            | exact absurd h34 (by decide)
            | (refine ih (i + 1) (by omega) (by omega) _ (by omega) ?_
               rw [show (i + 1).toNat = i.toNat + 1 by omega, gz_sm_s, ← hn, Int.toNat_of_nonneg h0]
               first
                 | (rw [gz_b1 ⟨hk1, hnm⟩]; done)
                 | (rw [gz_b0 (fun z => hnm z.2)]; omega)
                 | (rw [gz_b0 (fun z => by omega)]; omega))
        · refine gz_iinc (pc := 37) dX4_keptNaming_37 rfl rfl rfl rfl ?_
          refine gz_iinc (pc := 40) dX4_keptNaming_40 rfl rfl rfl rfl ?_
          refine gz_goto (pc := 43) (tgt := 4) dX4_keptNaming_43 (by decide) ?_
          first
            | exact absurd h34 (by decide)
            | (refine ih (i + 1) (by omega) (by omega) _ (by omega) ?_
               rw [show (i + 1).toNat = i.toNat + 1 by omega, gz_sm_s, ← hn, Int.toNat_of_nonneg h0]
               first
                 | (rw [gz_b1 ⟨hk1, hnm⟩]; done)
                 | (rw [gz_b0 (fun z => hnm z.2)]; omega)
                 | (rw [gz_b0 (fun z => by omega)]; omega))
set_option maxHeartbeats 4000000 in
set_option maxRecDepth 100000 in
theorem ct_X4_keptNaming (l : Launch) (D : va_G) (α : gz_P → Nat) (cA : Nat → ClassId) {I : gz_M} (hT : gz_T I) {p : Int} (hp : (-2147483648 ≤ p ∧ p ≤ 2147483647)) : gz_V l D α cA RX4 cX4_keptNaming (some .int) 4 1 (gz_Qi fun x I' => I = I' ∧ x = gz_sm (fun j => gz_b (I (16, I (4, 0, 0) (j), 0) 3 = 1 ∧ gz_nmd I (I (4, 0, 0) (j)) p)) (I (0, 0, 0) 7).toNat) I [some (.ref (α (0, 0, 0))), some (gz_i (p)), none, none] [] 0 := by
  refine gz_iconst (pc := 0) dX4_keptNaming_0 ?_
  refine gz_istore_n (pc := 1) dX4_keptNaming_1 rfl rfl rfl ?_
  refine gz_iconst (pc := 2) dX4_keptNaming_2 ?_
  refine gz_istore_n (pc := 3) dX4_keptNaming_3 rfl rfl rfl ?_
  exact lp_X4_keptNaming l D α cA hT hp 0 (by have := gz_th hT 0 0; omega) 0 (by omega) rfl
set_option maxHeartbeats 4000000 in
set_option maxRecDepth 100000 in
theorem lp_X4_isBase (l : Launch) (D : va_G) (α : gz_P → Nat) (cA : Nat → ClassId) {I : gz_M} (hT : gz_T I) {m : Int} (hm : (-2147483648 ≤ m ∧ m ≤ 2147483647)) : ∀ i, i ≤ I (0, 0, 0) 7 → 0 ≤ i → (∀ j, 0 ≤ j → j < i → ¬ I (16, I (4, 0, 0) (j), 0) 4 = m) → gz_V l D α cA RX4 cX4_isBase (some .boolean) 3 0 (gz_Qi fun x I' => I = I' ∧ (x = 1 ∧ (∃ j, (0 ≤ j ∧ j < I (0, 0, 0) 7) ∧ I (16, I (4, 0, 0) (j), 0) 4 = m) ∨ x = 0 ∧ ¬ (∃ j, (0 ≤ j ∧ j < I (0, 0, 0) 7) ∧ I (16, I (4, 0, 0) (j), 0) 4 = m))) I [some (.ref (α (0, 0, 0))), some (gz_i (m)), some (gz_i (i))] [] 2 := by
  refine gz_upto _ ?_
  intro i hi ih h0 hj
  have e1 := gz_th hT 0 0
  have e2 := gz_t4 hT 0 0 i
  have e3 := gz_tm4 hT (I (4, 0, 0) (i)) 0
  refine gz_iload_n (pc := 2) dX4_isBase_2 rfl ?_
  first | refine gz_aload_n (pc := 3) dX4_isBase_3 rfl ?_ | refine gz_aload_nN (pc := 3) dX4_isBase_3 rfl ?_
  refine gz_getI (pc := 4) 7 dX4_isBase_4 fl_X4_46 rfl rfl rfl rfl (by first | exact gz_B1 | (omega)) ?_
  refine gz_icmp_ge (pc := 7) (tgt := 31) dX4_isBase_7 (by decide) (by omega) (by omega) (fun h7 => ?_) (fun h7 => ?_)
  · refine gz_iconst (pc := 31) dX4_isBase_31 ?_
    refine gz_zret (pc := 32) dX4_isBase_32 rfl (by first | exact Or.inl rfl | exact Or.inr rfl | omega) ?_
    refine ⟨rfl, Or.inr ⟨rfl, ?_⟩⟩
    rintro ⟨j, a1, a2⟩
    exact hj j a1.1 (by omega) a2
  · first | refine gz_aload_n (pc := 10) dX4_isBase_10 rfl ?_ | refine gz_aload_nN (pc := 10) dX4_isBase_10 rfl ?_
    refine gz_getr (pc := 11) dX4_isBase_11 fl_X4_30 rfl rfl rfl (by first | exact gz_B1 | (omega)) ?_
    refine gz_iload_n (pc := 14) dX4_isBase_14 rfl ?_
    first | refine gz_ald1 (pc := 15) dX4_isBase_15 (by omega) ?_ | refine gz_ald2 (pc := 15) dX4_isBase_15 (by omega) ?_ | refine gz_ald4 (pc := 15) dX4_isBase_15 (by omega) ?_ | refine gz_ald17 (pc := 15) dX4_isBase_15 (by first | exact gz_B1 | (omega)) (by omega) ?_
    refine gz_getI (pc := 16) 4 dX4_isBase_16 fl_X4_155 rfl rfl rfl rfl (by first | exact gz_B1 | (omega)) ?_
    refine gz_iload_n (pc := 19) dX4_isBase_19 rfl ?_
    refine gz_icmp_ne (pc := 20) (tgt := 25) dX4_isBase_20 (by decide) (by omega) (by omega) (fun h20 => ?_) (fun h20 => ?_)
    · refine gz_iinc (pc := 25) dX4_isBase_25 rfl rfl rfl rfl ?_
      refine gz_goto (pc := 28) (tgt := 2) dX4_isBase_28 (by decide) ?_
      refine ih (i + 1) (by omega) (by omega) (by omega) (fun j a1 a2 => ?_)
      by_cases z : j = i
      · rw [z]; exact h20
      · exact hj j a1 (by omega)
    · refine gz_iconst (pc := 23) dX4_isBase_23 ?_
      refine gz_zret (pc := 24) dX4_isBase_24 rfl (by first | exact Or.inl rfl | exact Or.inr rfl | omega) ?_
      exact ⟨rfl, Or.inl ⟨rfl, i, by omega, h20⟩⟩
set_option maxHeartbeats 4000000 in
set_option maxRecDepth 100000 in
theorem ct_X4_isBase (l : Launch) (D : va_G) (α : gz_P → Nat) (cA : Nat → ClassId) {I : gz_M} (hT : gz_T I) {m : Int} (hm : (-2147483648 ≤ m ∧ m ≤ 2147483647)) : gz_V l D α cA RX4 cX4_isBase (some .boolean) 3 0 (gz_Qi fun x I' => I = I' ∧ (x = 1 ∧ (∃ j, (0 ≤ j ∧ j < I (0, 0, 0) 7) ∧ I (16, I (4, 0, 0) (j), 0) 4 = m) ∨ x = 0 ∧ ¬ (∃ j, (0 ≤ j ∧ j < I (0, 0, 0) 7) ∧ I (16, I (4, 0, 0) (j), 0) 4 = m))) I [some (.ref (α (0, 0, 0))), some (gz_i (m)), none] [] 0 := by
  refine gz_iconst (pc := 0) dX4_isBase_0 ?_
  refine gz_istore_n (pc := 1) dX4_isBase_1 rfl rfl rfl ?_
  exact lp_X4_isBase l D α cA hT hm 0 (by have := gz_th hT 0 0; omega) (by omega) (fun j a1 a2 => by omega)
set_option maxHeartbeats 4000000 in
set_option maxRecDepth 100000 in
theorem ct_X4_shelfOf (l : Launch) (D : va_G) (α : gz_P → Nat) (cA : Nat → ClassId) {I : gz_M} (hT : gz_T I) {t : Int} (ht : (-2147483648 ≤ t ∧ t ≤ 2147483647)) : gz_V l D α cA RX4 cX4_shelfOf (some (.object "GrownSnapshots$Shelf")) 2 1 (gz_Qr fun v I' => I = I' ∧ (v = .null ∧ ¬ (t = -1 ∨ 0 ≤ t ∧ t < I (0, 0, 0) 6) ∨ ∃ a, v = .ref (α (10, a, 0)) ∧ (t = -1 ∧ a = 4 ∨ (0 ≤ t ∧ t < I (0, 0, 0) 6) ∧ a = t))) I [some (.ref (α (0, 0, 0))), some (gz_i (t))] [] 0 := by
  refine gz_iload_n (pc := 0) dX4_shelfOf_0 rfl ?_
  refine gz_iconst (pc := 1) dX4_shelfOf_1 ?_
  refine gz_icmp_ne (pc := 2) (tgt := 13) dX4_shelfOf_2 (by decide) (by omega) (by omega) (fun h2 => ?_) (fun h2 => ?_)
  · first | refine gz_aload_n (pc := 13) dX4_shelfOf_13 rfl ?_ | refine gz_aload_nN (pc := 13) dX4_shelfOf_13 rfl ?_
    refine gz_iload_n (pc := 14) dX4_shelfOf_14 rfl ?_
    refine gz_cV1i (pc := 15) dX4_shelfOf_15 wm_X4_55 my_X4_isTask rfl rfl rfl (by first | exact gz_B1 | (omega)) (ct_X4_isTask l D α cA ht (gz_tk hT 0 0)) (fun x15 I15 h15 => ?_)
    obtain ⟨rfl, hx15⟩ := h15
    have e1 := gz_tk hT 0 0
    refine gz_if_eq (pc := 18) (tgt := 30) dX4_shelfOf_18 (by decide) (by omega) (fun h18 => ?_) (fun h18 => ?_)
    · refine gz_null (pc := 30) dX4_shelfOf_30 ?_
      first | refine gz_aret (pc := 31) dX4_shelfOf_31 rfl ?_ | refine gz_aretN (pc := 31) dX4_shelfOf_31 rfl ?_
      first | exact ⟨rfl, Or.inl ⟨rfl, by omega⟩⟩ | exact ⟨rfl, Or.inr ⟨t, rfl, Or.inr ⟨by omega, rfl⟩⟩⟩
    · first | refine gz_aload_n (pc := 21) dX4_shelfOf_21 rfl ?_ | refine gz_aload_nN (pc := 21) dX4_shelfOf_21 rfl ?_
      refine gz_getr (pc := 22) dX4_shelfOf_22 fl_X4_17 rfl rfl rfl (by first | exact gz_B1 | (omega)) ?_
      refine gz_iload_n (pc := 25) dX4_shelfOf_25 rfl ?_
      first | refine gz_ald1 (pc := 26) dX4_shelfOf_26 (by omega) ?_ | refine gz_ald2 (pc := 26) dX4_shelfOf_26 (by omega) ?_ | refine gz_ald4 (pc := 26) dX4_shelfOf_26 (by omega) ?_ | refine gz_ald17 (pc := 26) dX4_shelfOf_26 (by first | exact gz_B1 | (omega)) (by omega) ?_
      refine gz_goto (pc := 27) (tgt := 31) dX4_shelfOf_27 (by decide) ?_
      first | refine gz_aret (pc := 31) dX4_shelfOf_31 rfl ?_ | refine gz_aretN (pc := 31) dX4_shelfOf_31 rfl ?_
      first | exact ⟨rfl, Or.inl ⟨rfl, by omega⟩⟩ | exact ⟨rfl, Or.inr ⟨t, rfl, Or.inr ⟨by omega, rfl⟩⟩⟩
  · first | refine gz_aload_n (pc := 5) dX4_shelfOf_5 rfl ?_ | refine gz_aload_nN (pc := 5) dX4_shelfOf_5 rfl ?_
    refine gz_getr (pc := 6) dX4_shelfOf_6 fl_X4_24 rfl rfl rfl (by first | exact gz_B1 | (omega)) ?_
    refine gz_getr (pc := 9) dX4_shelfOf_9 fl_X4_187 rfl rfl rfl (by first | exact gz_B1 | (omega)) ?_
    first | refine gz_aret (pc := 12) dX4_shelfOf_12 rfl ?_ | refine gz_aretN (pc := 12) dX4_shelfOf_12 rfl ?_
    exact ⟨rfl, Or.inr ⟨4, rfl, Or.inl ⟨h2, rfl⟩⟩⟩
set_option maxHeartbeats 4000000 in
set_option maxRecDepth 100000 in
theorem lp_X4_copyCount (l : Launch) (D : va_G) (α : gz_P → Nat) (cA : Nat → ClassId) {I : gz_M} (hT : gz_T I) {p : Int} (hp : 0 ≤ p ∧ p < 120) : ∀ t, t ≤ I (0, 0, 0) 6 → ∀ n : Int, 0 ≤ t → n = gz_sm (fun t => I (11, t, 0) p) t.toNat → gz_V l D α cA RX4 cX4_copyCount (some .int) 4 0 (gz_Qi fun x I' => I = I' ∧ x = gz_sm (fun t => I (11, t, 0) p) (I (0, 0, 0) 6).toNat) I [some (.ref (α (0, 0, 0))), some (gz_i (p)), some (gz_i (n)), some (gz_i (t))] [] 4 := by
  refine gz_upto _ ?_
  intro t ht ih n h0 hn
  have e1 := gz_tk hT 0 0
  have e2 := gz_sm_in (f := (fun t => I (11, t, 0) p)) (lo := 0) (hi := 1) (fun i => gz_t11 hT i 0 p) t.toNat
  have e3 := gz_t11 hT t 0 p
  refine gz_iload_n (pc := 4) dX4_copyCount_4 rfl ?_
  first | refine gz_aload_n (pc := 5) dX4_copyCount_5 rfl ?_ | refine gz_aload_nN (pc := 5) dX4_copyCount_5 rfl ?_
  refine gz_getI (pc := 6) 6 dX4_copyCount_6 fl_X4_42 rfl rfl rfl rfl (by first | exact gz_B1 | (omega)) ?_
  refine gz_icmp_ge (pc := 9) (tgt := 35) dX4_copyCount_9 (by decide) (by omega) (by omega) (fun h9 => ?_) (fun h9 => ?_)
  · refine gz_iload_n (pc := 35) dX4_copyCount_35 rfl ?_
    refine gz_iret (pc := 36) dX4_copyCount_36 rfl ?_
    exact ⟨rfl, by rw [hn, show t = I (0, 0, 0) 6 by omega]⟩
  · first | refine gz_aload_n (pc := 12) dX4_copyCount_12 rfl ?_ | refine gz_aload_nN (pc := 12) dX4_copyCount_12 rfl ?_
    refine gz_getr (pc := 13) dX4_copyCount_13 fl_X4_17 rfl rfl rfl (by first | exact gz_B1 | (omega)) ?_
    refine gz_iload_n (pc := 16) dX4_copyCount_16 rfl ?_
    first | refine gz_ald1 (pc := 17) dX4_copyCount_17 (by omega) ?_ | refine gz_ald2 (pc := 17) dX4_copyCount_17 (by omega) ?_ | refine gz_ald4 (pc := 17) dX4_copyCount_17 (by omega) ?_ | refine gz_ald17 (pc := 17) dX4_copyCount_17 (by first | exact gz_B1 | (omega)) (by omega) ?_
    refine gz_getr (pc := 18) dX4_copyCount_18 fl_X4_207 rfl rfl rfl (by first | exact gz_B1 | (omega)) ?_
    refine gz_iload_n (pc := 21) dX4_copyCount_21 rfl ?_
    refine gz_zald (pc := 22) dX4_copyCount_22 rfl rfl (by first | exact gz_B1 | (omega)) (by omega) ?_
    refine gz_if_eq (pc := 23) (tgt := 29) dX4_copyCount_23 (by decide) (by omega) (fun h23 => ?_) (fun h23 => ?_)
    · refine gz_iinc (pc := 29) dX4_copyCount_29 rfl rfl rfl rfl ?_
      refine gz_goto (pc := 32) (tgt := 4) dX4_copyCount_32 (by decide) ?_
      refine ih (t + 1) (by omega) (by omega) _ (by omega) ?_
      rw [show (t + 1).toNat = t.toNat + 1 by omega, gz_sm_s, ← hn, Int.toNat_of_nonneg h0]
      omega
    · refine gz_iinc (pc := 26) dX4_copyCount_26 rfl rfl rfl rfl ?_
      refine gz_iinc (pc := 29) dX4_copyCount_29 rfl rfl rfl rfl ?_
      refine gz_goto (pc := 32) (tgt := 4) dX4_copyCount_32 (by decide) ?_
      refine ih (t + 1) (by omega) (by omega) _ (by omega) ?_
      rw [show (t + 1).toNat = t.toNat + 1 by omega, gz_sm_s, ← hn, Int.toNat_of_nonneg h0]
      omega
set_option maxHeartbeats 4000000 in
set_option maxRecDepth 100000 in
theorem ct_X4_copyCount (l : Launch) (D : va_G) (α : gz_P → Nat) (cA : Nat → ClassId) {I : gz_M} (hT : gz_T I) {p : Int} (hp : 0 ≤ p ∧ p < 120) : gz_V l D α cA RX4 cX4_copyCount (some .int) 4 0 (gz_Qi fun x I' => I = I' ∧ x = gz_sm (fun t => I (11, t, 0) p) (I (0, 0, 0) 6).toNat) I [some (.ref (α (0, 0, 0))), some (gz_i (p)), none, none] [] 0 := by
  refine gz_iconst (pc := 0) dX4_copyCount_0 ?_
  refine gz_istore_n (pc := 1) dX4_copyCount_1 rfl rfl rfl ?_
  refine gz_iconst (pc := 2) dX4_copyCount_2 ?_
  refine gz_istore_n (pc := 3) dX4_copyCount_3 rfl rfl rfl ?_
  exact lp_X4_copyCount l D α cA hT hp 0 (by have := gz_tk hT 0 0; omega) 0 (by omega) rfl
set_option maxHeartbeats 4000000 in
set_option maxRecDepth 100000 in
theorem lp_X4_allCopies (l : Launch) (D : va_G) (α : gz_P → Nat) (cA : Nat → ClassId) {I : gz_M} (hT : gz_T I) : ∀ p, p ≤ 120 → ∀ n : Int, 0 ≤ p → n = gz_sm (fun p => gz_sm (fun t => I (11, t, 0) p) (I (0, 0, 0) 6).toNat) p.toNat → gz_V l D α cA RX4 cX4_allCopies (some .int) 3 1 (gz_Qi fun x I' => I = I' ∧ x = gz_sm (fun p => gz_sm (fun t => I (11, t, 0) p) (I (0, 0, 0) 6).toNat) 120) I [some (.ref (α (0, 0, 0))), some (gz_i (n)), some (gz_i (p))] [] 4 := by
  refine gz_upto _ ?_
  intro p hp ih n h0 hn
  have e2 := gz_sm_in (f := (fun p => gz_sm (fun t => I (11, t, 0) p) (I (0, 0, 0) 6).toNat)) (lo := 0) (hi := 4) (fun p => by have a1 := gz_sm_in (f := fun t => I (11, t, 0) p) (lo := 0) (hi := 1) (fun i => gz_t11 hT i 0 p) (I (0, 0, 0) 6).toNat; have a2 := gz_tk hT 0 0; show 0 ≤ gz_sm _ _ ∧ gz_sm _ _ ≤ 4; omega) p.toNat
  refine gz_iload_n (pc := 4) dX4_allCopies_4 rfl ?_
  refine gz_bipush (pc := 5) dX4_allCopies_5 rfl ?_
  refine gz_icmp_ge (pc := 7) (tgt := 24) dX4_allCopies_7 (by decide) (by omega) (by omega) (fun h7 => ?_) (fun h7 => ?_)
  · refine gz_iload_n (pc := 24) dX4_allCopies_24 rfl ?_
    refine gz_iret (pc := 25) dX4_allCopies_25 rfl ?_
    exact ⟨rfl, by rw [hn, show p = 120 by omega]; rfl⟩
  · refine gz_iload_n (pc := 10) dX4_allCopies_10 rfl ?_
    first | refine gz_aload_n (pc := 11) dX4_allCopies_11 rfl ?_ | refine gz_aload_nN (pc := 11) dX4_allCopies_11 rfl ?_
    refine gz_iload_n (pc := 12) dX4_allCopies_12 rfl ?_
    refine gz_cV1i (pc := 13) dX4_allCopies_13 wm_X4_195 my_X4_copyCount rfl rfl rfl (by first | exact gz_B1 | (omega)) (ct_X4_copyCount l D α cA hT (by omega)) (fun x13 I13 h13 => ?_)
    obtain ⟨rfl, rfl⟩ := h13
    refine gz_iadd (pc := 16) dX4_allCopies_16 ?_
    refine gz_istore_n (pc := 17) dX4_allCopies_17 rfl rfl rfl ?_
    refine gz_iinc (pc := 18) dX4_allCopies_18 rfl rfl rfl rfl ?_
    refine gz_goto (pc := 21) (tgt := 4) dX4_allCopies_21 (by decide) ?_
    refine ih (p + 1) (by omega) (by omega) _ (by omega) ?_
    rw [show (p + 1).toNat = p.toNat + 1 by omega, gz_sm_s, ← hn, Int.toNat_of_nonneg h0]
set_option maxHeartbeats 4000000 in
set_option maxRecDepth 100000 in
theorem ct_X4_allCopies (l : Launch) (D : va_G) (α : gz_P → Nat) (cA : Nat → ClassId) {I : gz_M} (hT : gz_T I) : gz_V l D α cA RX4 cX4_allCopies (some .int) 3 1 (gz_Qi fun x I' => I = I' ∧ x = gz_sm (fun p => gz_sm (fun t => I (11, t, 0) p) (I (0, 0, 0) 6).toNat) 120) I [some (.ref (α (0, 0, 0))), none, none] [] 0 := by
  refine gz_iconst (pc := 0) dX4_allCopies_0 ?_
  refine gz_istore_n (pc := 1) dX4_allCopies_1 rfl rfl rfl ?_
  refine gz_iconst (pc := 2) dX4_allCopies_2 ?_
  refine gz_istore_n (pc := 3) dX4_allCopies_3 rfl rfl rfl ?_
  exact lp_X4_allCopies l D α cA hT 0 (by omega) 0 (by omega) rfl
set_option maxHeartbeats 4000000 in
set_option maxRecDepth 100000 in
theorem ct_X4_isReadable (l : Launch) (D : va_G) (α : gz_P → Nat) (cA : Nat → ClassId) {I : gz_M} (hT : gz_T I) {p t : Int} (hp : 0 ≤ p ∧ p < 120) (ht : 0 ≤ t ∧ t < 4) : gz_V l D α cA RX4 cX4_isReadable (some .boolean) 3 2 (gz_Qi fun x I' => I = I' ∧ (x = 1 ∧ gz_rdb I t p ∨ x = 0 ∧ ¬ gz_rdb I t p)) I [some (.ref (α (0, 0, 0))), some (gz_i (p)), some (gz_i (t))] [] 0 := by
  first | refine gz_aload_n (pc := 0) dX4_isReadable_0 rfl ?_ | refine gz_aload_nN (pc := 0) dX4_isReadable_0 rfl ?_
  refine gz_getr (pc := 1) dX4_isReadable_1 fl_X4_24 rfl rfl rfl (by first | exact gz_B1 | (omega)) ?_
  refine gz_iload_n (pc := 4) dX4_isReadable_4 rfl ?_
  first | refine gz_aload_n (pc := 5) dX4_isReadable_5 rfl ?_ | refine gz_aload_nN (pc := 5) dX4_isReadable_5 rfl ?_
  refine gz_getr (pc := 6) dX4_isReadable_6 fl_X4_17 rfl rfl rfl (by first | exact gz_B1 | (omega)) ?_
  refine gz_iload_n (pc := 9) dX4_isReadable_9 rfl ?_
  first | refine gz_ald1 (pc := 10) dX4_isReadable_10 (by omega) ?_ | refine gz_ald2 (pc := 10) dX4_isReadable_10 (by omega) ?_ | refine gz_ald4 (pc := 10) dX4_isReadable_10 (by omega) ?_ | refine gz_ald17 (pc := 10) dX4_isReadable_10 (by first | exact gz_B1 | (omega)) (by omega) ?_
  refine gz_cV2i (pc := 11) dX4_isReadable_11 wm_X4_191 my_X3_isSound rfl rfl rfl (by first | exact gz_B1 | (omega)) (ct_X3_isSound l D α cA hT hp (by omega)) (fun x11 I11 h11 => ?_)
  obtain ⟨rfl, hx11⟩ := h11
  have hxr : 0 ≤ x11 ∧ x11 ≤ 1 := by rcases hx11 with h | h <;> omega
  refine gz_if_ne (pc := 14) (tgt := 35) dX4_isReadable_14 (by decide) (by omega) (fun h14 => ?_) (fun h14 => ?_)
  · refine gz_iconst (pc := 35) dX4_isReadable_35 ?_
    refine gz_goto (pc := 36) (tgt := 40) dX4_isReadable_36 (by decide) ?_
    refine gz_zret (pc := 40) dX4_isReadable_40 rfl (by first | exact Or.inl rfl | exact Or.inr rfl | omega) ?_
    first
      | exact ⟨rfl, Or.inl ⟨rfl, Or.inr (by rcases hx29 with h | h; exact h.2; omega)⟩⟩
      | exact ⟨rfl, Or.inl ⟨rfl, Or.inl (by rcases hx11 with h | h; exact h.2; omega)⟩⟩
      | exact ⟨rfl, Or.inr ⟨rfl, fun z => z.elim (fun z => by rcases hx11 with h | h; omega; exact h.2 z) (fun z => by rcases hx29 with h | h; omega; exact h.2 z)⟩⟩
  · first | refine gz_aload_n (pc := 17) dX4_isReadable_17 rfl ?_ | refine gz_aload_nN (pc := 17) dX4_isReadable_17 rfl ?_
    refine gz_getr (pc := 18) dX4_isReadable_18 fl_X4_24 rfl rfl rfl (by first | exact gz_B1 | (omega)) ?_
    refine gz_iload_n (pc := 21) dX4_isReadable_21 rfl ?_
    first | refine gz_aload_n (pc := 22) dX4_isReadable_22 rfl ?_ | refine gz_aload_nN (pc := 22) dX4_isReadable_22 rfl ?_
    refine gz_getr (pc := 23) dX4_isReadable_23 fl_X4_24 rfl rfl rfl (by first | exact gz_B1 | (omega)) ?_
    refine gz_getr (pc := 26) dX4_isReadable_26 fl_X4_187 rfl rfl rfl (by first | exact gz_B1 | (omega)) ?_
    refine gz_cV2i (pc := 29) dX4_isReadable_29 wm_X4_191 my_X3_isSound rfl rfl rfl (by first | exact gz_B1 | (omega)) (ct_X3_isSound l D α cA hT hp (by omega)) (fun x29 I29 h29 => ?_)
    obtain ⟨rfl, hx29⟩ := h29
    have hxs : 0 ≤ x29 ∧ x29 ≤ 1 := by rcases hx29 with h | h <;> omega
    refine gz_if_eq (pc := 32) (tgt := 39) dX4_isReadable_32 (by decide) (by omega) (fun h32 => ?_) (fun h32 => ?_)
    · refine gz_iconst (pc := 39) dX4_isReadable_39 ?_
      refine gz_zret (pc := 40) dX4_isReadable_40 rfl (by first | exact Or.inl rfl | exact Or.inr rfl | omega) ?_
      first
        | exact ⟨rfl, Or.inl ⟨rfl, Or.inr (by rcases hx29 with h | h; exact h.2; omega)⟩⟩
        | exact ⟨rfl, Or.inl ⟨rfl, Or.inl (by rcases hx11 with h | h; exact h.2; omega)⟩⟩
        | exact ⟨rfl, Or.inr ⟨rfl, fun z => z.elim (fun z => by rcases hx11 with h | h; omega; exact h.2 z) (fun z => by rcases hx29 with h | h; omega; exact h.2 z)⟩⟩
    · refine gz_iconst (pc := 35) dX4_isReadable_35 ?_
      refine gz_goto (pc := 36) (tgt := 40) dX4_isReadable_36 (by decide) ?_
      refine gz_zret (pc := 40) dX4_isReadable_40 rfl (by first | exact Or.inl rfl | exact Or.inr rfl | omega) ?_
      first
        | exact ⟨rfl, Or.inl ⟨rfl, Or.inr (by rcases hx29 with h | h; exact h.2; omega)⟩⟩
        | exact ⟨rfl, Or.inl ⟨rfl, Or.inl (by rcases hx11 with h | h; exact h.2; omega)⟩⟩
        | exact ⟨rfl, Or.inr ⟨rfl, fun z => z.elim (fun z => by rcases hx11 with h | h; omega; exact h.2 z) (fun z => by rcases hx29 with h | h; omega; exact h.2 z)⟩⟩
set_option maxHeartbeats 4000000 in
set_option maxRecDepth 100000 in
theorem lp_X4_isUsable2 (l : Launch) (D : va_G) (α : gz_P → Nat) (cA : Nat → ClassId) {I : gz_M} (hT : gz_T I) {k : Int} (hk : 0 ≤ k ∧ k < 12) : ∀ t, (0 ≤ t ∧ t < I (16, k, 0) 5) → ((∀ j, 0 ≤ j → j < I (19, k, 0) t → gz_rdb I t (I (18, k, t) j)) → gz_V l D α cA RX4 cX4_isUsable (some .boolean) 4 3 (gz_Qi fun x I' => I = I' ∧ (x = 1 ∧ gz_usb I k ∨ x = 0 ∧ ¬ gz_usb I k)) I [some (.ref (α (0, 0, 0))), some (.ref (α (16, k, 0))), some (gz_i (t + 1)), some (gz_i (I (19, k, 0) t))] [] 11) → ∀ i, i ≤ I (19, k, 0) t → 0 ≤ i → (∀ j, 0 ≤ j → j < i → gz_rdb I t (I (18, k, t) j)) → gz_V l D α cA RX4 cX4_isUsable (some .boolean) 4 3 (gz_Qi fun x I' => I = I' ∧ (x = 1 ∧ gz_usb I k ∨ x = 0 ∧ ¬ gz_usb I k)) I [some (.ref (α (0, 0, 0))), some (.ref (α (16, k, 0))), some (gz_i (t)), some (gz_i (i))] [] 21 := by
  intro t ht kk
  have e0 := gz_tm5 hT k 0
  have e1 := gz_t19 hT k 0 t
  refine gz_upto _ ?_
  intro i hi ih h0 hj
  have e5 := gz_t18 hT k t i
  refine gz_iload_n (pc := 21) dX4_isUsable_21 rfl ?_
  first | refine gz_aload_n (pc := 22) dX4_isUsable_22 rfl ?_ | refine gz_aload_nN (pc := 22) dX4_isUsable_22 rfl ?_
  refine gz_getr (pc := 23) dX4_isUsable_23 fl_X4_167 rfl rfl rfl (by first | exact gz_B1 | (omega)) ?_
  refine gz_iload_n (pc := 26) dX4_isUsable_26 rfl ?_
  refine gz_iald (pc := 27) dX4_isUsable_27 rfl rfl (by first | exact gz_B1 | (omega)) (by omega) ?_
  refine gz_icmp_ge (pc := 28) (tgt := 55) dX4_isUsable_28 (by decide) (by omega) (by omega) (fun h28 => ?_) (fun h28 => ?_)
  · refine gz_iinc (pc := 55) dX4_isUsable_55 rfl rfl rfl rfl ?_
    refine gz_goto (pc := 58) (tgt := 11) dX4_isUsable_58 (by decide) ?_
    rw [show i = I (19, k, 0) t by omega] at hj ⊢
    exact kk hj
  · first | refine gz_aload_n (pc := 31) dX4_isUsable_31 rfl ?_ | refine gz_aload_nN (pc := 31) dX4_isUsable_31 rfl ?_
    first | refine gz_aload_n (pc := 32) dX4_isUsable_32 rfl ?_ | refine gz_aload_nN (pc := 32) dX4_isUsable_32 rfl ?_
    refine gz_getr (pc := 33) dX4_isUsable_33 fl_X4_170 rfl rfl rfl (by first | exact gz_B1 | (omega)) ?_
    refine gz_iload_n (pc := 36) dX4_isUsable_36 rfl ?_
    first | refine gz_ald1 (pc := 37) dX4_isUsable_37 (by omega) ?_ | refine gz_ald2 (pc := 37) dX4_isUsable_37 (by omega) ?_ | refine gz_ald4 (pc := 37) dX4_isUsable_37 (by omega) ?_ | refine gz_ald17 (pc := 37) dX4_isUsable_37 (by first | exact gz_B1 | (omega)) (by omega) ?_
    refine gz_iload_n (pc := 38) dX4_isUsable_38 rfl ?_
    refine gz_iald (pc := 39) dX4_isUsable_39 rfl rfl (by first | exact gz_B1 | (omega)) (by omega) ?_
    refine gz_iload_n (pc := 40) dX4_isUsable_40 rfl ?_
    refine gz_cV2i (pc := 41) dX4_isUsable_41 wm_X4_277 my_X4_isReadable rfl rfl rfl (by first | exact gz_B1 | (omega)) (ct_X4_isReadable l D α cA hT (by omega) (by omega)) (fun x41 I41 h41 => ?_)
    obtain ⟨rfl, hx41⟩ := h41
    have hxr : 0 ≤ x41 ∧ x41 ≤ 1 := by rcases hx41 with h | h <;> omega
    refine gz_if_ne (pc := 44) (tgt := 49) dX4_isUsable_44 (by decide) (by omega) (fun h44 => ?_) (fun h44 => ?_)
    · refine gz_iinc (pc := 49) dX4_isUsable_49 rfl rfl rfl rfl ?_
      refine gz_goto (pc := 52) (tgt := 21) dX4_isUsable_52 (by decide) ?_
      refine ih (i + 1) (by omega) (by omega) (by omega) (fun j a1 a2 => ?_)
      by_cases q : j = i
      · rw [q]
        rcases hx41 with h | h
        · exact h.2
        · omega
      · exact hj j a1 (by omega)
    · refine gz_iconst (pc := 47) dX4_isUsable_47 ?_
      refine gz_zret (pc := 48) dX4_isUsable_48 rfl (by first | exact Or.inl rfl | exact Or.inr rfl | omega) ?_
      refine ⟨rfl, Or.inr ⟨rfl, fun z => ?_⟩⟩
      rcases hx41 with h | h
      · omega
      · exact h.2 (z.2 t ht.1 ht.2 i h0 (by omega))
set_option maxHeartbeats 4000000 in
set_option maxRecDepth 100000 in
theorem lp_X4_isUsable (l : Launch) (D : va_G) (α : gz_P → Nat) (cA : Nat → ClassId) {I : gz_M} (hT : gz_T I) {k : Int} (hk : 0 ≤ k ∧ k < 12) : I (16, k, 0) 3 = 1 → ∀ t, t ≤ I (16, k, 0) 5 → 0 ≤ t → (∀ u, 0 ≤ u → u < t → ∀ j, 0 ≤ j → j < I (19, k, 0) u → gz_rdb I u (I (18, k, u) j)) → ∀ o : Option Value, gz_V l D α cA RX4 cX4_isUsable (some .boolean) 4 3 (gz_Qi fun x I' => I = I' ∧ (x = 1 ∧ gz_usb I k ∨ x = 0 ∧ ¬ gz_usb I k)) I [some (.ref (α (0, 0, 0))), some (.ref (α (16, k, 0))), some (gz_i (t)), o] [] 11 := by
  intro hkp
  have e0 := gz_tm5 hT k 0
  refine gz_upto _ ?_
  intro t ht ih h0 hj o
  refine gz_iload_n (pc := 11) dX4_isUsable_11 rfl ?_
  first | refine gz_aload_n (pc := 12) dX4_isUsable_12 rfl ?_ | refine gz_aload_nN (pc := 12) dX4_isUsable_12 rfl ?_
  refine gz_getI (pc := 13) 5 dX4_isUsable_13 fl_X4_142 rfl rfl rfl rfl (by first | exact gz_B1 | (omega)) ?_
  refine gz_icmp_ge (pc := 16) (tgt := 61) dX4_isUsable_16 (by decide) (by omega) (by omega) (fun h16 => ?_) (fun h16 => ?_)
  · refine gz_iconst (pc := 61) dX4_isUsable_61 ?_
    refine gz_zret (pc := 62) dX4_isUsable_62 rfl (by first | exact Or.inl rfl | exact Or.inr rfl | omega) ?_
    exact ⟨rfl, Or.inl ⟨rfl, hkp, fun u a1 a2 => hj u a1 (by omega)⟩⟩
  · refine gz_iconst (pc := 19) dX4_isUsable_19 ?_
    refine gz_istore_n (pc := 20) dX4_isUsable_20 rfl rfl rfl ?_
    refine lp_X4_isUsable2 l D α cA hT hk t (by omega) (fun hz => ?_) 0 (by have := gz_t19 hT k 0 t; omega) (by omega) (fun j a1 a2 => by omega)
    exact ih (t + 1) (by omega) (by omega) (by omega) (fun u a1 a2 => by
      by_cases q : u = t
      · rw [q]; exact hz
      · exact hj u a1 (by omega)) _
set_option maxHeartbeats 4000000 in
set_option maxRecDepth 100000 in
theorem ct_X4_isUsable (l : Launch) (D : va_G) (α : gz_P → Nat) (cA : Nat → ClassId) {I : gz_M} (hT : gz_T I) {k : Int} (hk : 0 ≤ k ∧ k < 12) : gz_V l D α cA RX4 cX4_isUsable (some .boolean) 4 3 (gz_Qi fun x I' => I = I' ∧ (x = 1 ∧ gz_usb I k ∨ x = 0 ∧ ¬ gz_usb I k)) I [some (.ref (α (0, 0, 0))), some (.ref (α (16, k, 0))), none, none] [] 0 := by
  have e0 := gz_tm3 hT k 0
  first | refine gz_aload_n (pc := 0) dX4_isUsable_0 rfl ?_ | refine gz_aload_nN (pc := 0) dX4_isUsable_0 rfl ?_
  refine gz_getI (pc := 1) 3 dX4_isUsable_1 fl_X4_129 rfl rfl rfl rfl (by first | exact gz_B1 | (omega)) ?_
  refine gz_if_ne (pc := 4) (tgt := 9) dX4_isUsable_4 (by decide) (by omega) (fun h4 => ?_) (fun h4 => ?_)
  · refine gz_iconst (pc := 9) dX4_isUsable_9 ?_
    refine gz_istore_n (pc := 10) dX4_isUsable_10 rfl rfl rfl ?_
    exact lp_X4_isUsable l D α cA hT hk (by omega) 0 (by have := gz_tm5 hT k 0; omega) (by omega) (fun u a1 a2 => by omega) _
  · refine gz_iconst (pc := 7) dX4_isUsable_7 ?_
    refine gz_zret (pc := 8) dX4_isUsable_8 rfl (by first | exact Or.inl rfl | exact Or.inr rfl | omega) ?_
    exact ⟨rfl, Or.inr ⟨rfl, fun z => by have := z.1; omega⟩⟩
set_option maxHeartbeats 4000000 in
set_option maxRecDepth 100000 in
theorem lp_X4_latestUsable (l : Launch) (D : va_G) (α : gz_P → Nat) (cA : Nat → ClassId) {I : gz_M} (hT : gz_T I) {m : Int} (hm : (-2147483648 ≤ m ∧ m ≤ 2147483647)) : ∀ i, -1 ≤ i → i < I (0, 0, 0) 7 → (∀ j, i < j → j < I (0, 0, 0) 7 → ¬ (I (16, I (4, 0, 0) (j), 0) 2 ≤ m ∧ gz_usb I (I (4, 0, 0) (j)))) → gz_V l D α cA RX4 cX4_latestUsable (some (.object "GrownSnapshots$Mark")) 3 4 (gz_Qr fun v I' => I = I' ∧ (v = .null ∧ (∀ j, 0 ≤ j → j < I (0, 0, 0) 7 → ¬ (I (16, I (4, 0, 0) (j), 0) 2 ≤ m ∧ gz_usb I (I (4, 0, 0) (j)))) ∨ ∃ i, (0 ≤ i ∧ i < I (0, 0, 0) 7) ∧ (I (16, I (4, 0, 0) (i), 0) 2 ≤ m ∧ gz_usb I (I (4, 0, 0) (i))) ∧ (∀ j, i < j → j < I (0, 0, 0) 7 → ¬ (I (16, I (4, 0, 0) (j), 0) 2 ≤ m ∧ gz_usb I (I (4, 0, 0) (j)))) ∧ v = .ref (α (16, I (4, 0, 0) (i), 0)))) I [some (.ref (α (0, 0, 0))), some (gz_i (m)), some (gz_i (i))] [] 7 := by
  refine gz_downto _ ?_
  intro i hi ih hi2 hj
  have e1 := gz_th hT 0 0
  have e2 := gz_t4 hT 0 0 i
  have e3 := gz_tm2 hT (I (4, 0, 0) (i)) 0
  refine gz_iload_n (pc := 7) dX4_latestUsable_7 rfl ?_
  refine gz_if_lt (pc := 8) (tgt := 50) dX4_latestUsable_8 (by decide) (by omega) (fun h8 => ?_) (fun h8 => ?_)
  · refine gz_null (pc := 50) dX4_latestUsable_50 ?_
    first | refine gz_aret (pc := 51) dX4_latestUsable_51 rfl ?_ | refine gz_aretN (pc := 51) dX4_latestUsable_51 rfl ?_
    exact ⟨rfl, Or.inl ⟨rfl, fun j a1 a2 => hj j (by omega) a2⟩⟩
  · first | refine gz_aload_n (pc := 11) dX4_latestUsable_11 rfl ?_ | refine gz_aload_nN (pc := 11) dX4_latestUsable_11 rfl ?_
    refine gz_getr (pc := 12) dX4_latestUsable_12 fl_X4_30 rfl rfl rfl (by first | exact gz_B1 | (omega)) ?_
    refine gz_iload_n (pc := 15) dX4_latestUsable_15 rfl ?_
    first | refine gz_ald1 (pc := 16) dX4_latestUsable_16 (by omega) ?_ | refine gz_ald2 (pc := 16) dX4_latestUsable_16 (by omega) ?_ | refine gz_ald4 (pc := 16) dX4_latestUsable_16 (by omega) ?_ | refine gz_ald17 (pc := 16) dX4_latestUsable_16 (by first | exact gz_B1 | (omega)) (by omega) ?_
    refine gz_getI (pc := 17) 2 dX4_latestUsable_17 fl_X4_122 rfl rfl rfl rfl (by first | exact gz_B1 | (omega)) ?_
    refine gz_iload_n (pc := 20) dX4_latestUsable_20 rfl ?_
    refine gz_icmp_gt (pc := 21) (tgt := 44) dX4_latestUsable_21 (by decide) (by omega) (by omega) (fun h21 => ?_) (fun h21 => ?_)
    · refine gz_iinc (pc := 44) dX4_latestUsable_44 rfl rfl rfl rfl ?_
      refine gz_goto (pc := 47) (tgt := 7) dX4_latestUsable_47 (by decide) ?_
      refine ih (i + -1) (by omega) (by omega) (by omega) (fun j a1 a2 => ?_)
      by_cases z : j = i
      · rw [z]
        intro hz
        first | (have := hz.1; omega) | (rcases hx31 with h | h; omega; exact h.2 hz.2)
      · exact hj j (by omega) a2
    · first | refine gz_aload_n (pc := 24) dX4_latestUsable_24 rfl ?_ | refine gz_aload_nN (pc := 24) dX4_latestUsable_24 rfl ?_
      first | refine gz_aload_n (pc := 25) dX4_latestUsable_25 rfl ?_ | refine gz_aload_nN (pc := 25) dX4_latestUsable_25 rfl ?_
      refine gz_getr (pc := 26) dX4_latestUsable_26 fl_X4_30 rfl rfl rfl (by first | exact gz_B1 | (omega)) ?_
      refine gz_iload_n (pc := 29) dX4_latestUsable_29 rfl ?_
      first | refine gz_ald1 (pc := 30) dX4_latestUsable_30 (by omega) ?_ | refine gz_ald2 (pc := 30) dX4_latestUsable_30 (by omega) ?_ | refine gz_ald4 (pc := 30) dX4_latestUsable_30 (by omega) ?_ | refine gz_ald17 (pc := 30) dX4_latestUsable_30 (by first | exact gz_B1 | (omega)) (by omega) ?_
      refine gz_cV1i (pc := 31) dX4_latestUsable_31 wm_X4_149 my_X4_isUsable rfl rfl rfl (by first | exact gz_B1 | (omega)) (ct_X4_isUsable l D α cA hT (by omega)) (fun x31 I31 h31 => ?_)
      obtain ⟨rfl, hx31⟩ := h31
      have hxr : 0 ≤ x31 ∧ x31 ≤ 1 := by rcases hx31 with h | h <;> omega
      refine gz_if_eq (pc := 34) (tgt := 44) dX4_latestUsable_34 (by decide) (by omega) (fun h34 => ?_) (fun h34 => ?_)
      · refine gz_iinc (pc := 44) dX4_latestUsable_44 rfl rfl rfl rfl ?_
        refine gz_goto (pc := 47) (tgt := 7) dX4_latestUsable_47 (by decide) ?_
        refine ih (i + -1) (by omega) (by omega) (by omega) (fun j a1 a2 => ?_)
        by_cases z : j = i
        · rw [z]
          intro hz
          first | (have := hz.1; omega) | (rcases hx31 with h | h; omega; exact h.2 hz.2)
        · exact hj j (by omega) a2
      · first | refine gz_aload_n (pc := 37) dX4_latestUsable_37 rfl ?_ | refine gz_aload_nN (pc := 37) dX4_latestUsable_37 rfl ?_
        refine gz_getr (pc := 38) dX4_latestUsable_38 fl_X4_30 rfl rfl rfl (by first | exact gz_B1 | (omega)) ?_
        refine gz_iload_n (pc := 41) dX4_latestUsable_41 rfl ?_
        first | refine gz_ald1 (pc := 42) dX4_latestUsable_42 (by omega) ?_ | refine gz_ald2 (pc := 42) dX4_latestUsable_42 (by omega) ?_ | refine gz_ald4 (pc := 42) dX4_latestUsable_42 (by omega) ?_ | refine gz_ald17 (pc := 42) dX4_latestUsable_42 (by first | exact gz_B1 | (omega)) (by omega) ?_
        first | refine gz_aret (pc := 43) dX4_latestUsable_43 rfl ?_ | refine gz_aretN (pc := 43) dX4_latestUsable_43 rfl ?_
        refine ⟨rfl, Or.inr ⟨i, by omega, ⟨by omega, ?_⟩, hj, rfl⟩⟩
        rcases hx31 with h | h
        · exact h.2
        · omega
set_option maxHeartbeats 4000000 in
set_option maxRecDepth 100000 in
theorem ct_X4_latestUsable (l : Launch) (D : va_G) (α : gz_P → Nat) (cA : Nat → ClassId) {I : gz_M} (hT : gz_T I) {m : Int} (hm : (-2147483648 ≤ m ∧ m ≤ 2147483647)) : gz_V l D α cA RX4 cX4_latestUsable (some (.object "GrownSnapshots$Mark")) 3 4 (gz_Qr fun v I' => I = I' ∧ (v = .null ∧ (∀ j, 0 ≤ j → j < I (0, 0, 0) 7 → ¬ (I (16, I (4, 0, 0) (j), 0) 2 ≤ m ∧ gz_usb I (I (4, 0, 0) (j)))) ∨ ∃ i, (0 ≤ i ∧ i < I (0, 0, 0) 7) ∧ (I (16, I (4, 0, 0) (i), 0) 2 ≤ m ∧ gz_usb I (I (4, 0, 0) (i))) ∧ (∀ j, i < j → j < I (0, 0, 0) 7 → ¬ (I (16, I (4, 0, 0) (j), 0) 2 ≤ m ∧ gz_usb I (I (4, 0, 0) (j)))) ∧ v = .ref (α (16, I (4, 0, 0) (i), 0)))) I [some (.ref (α (0, 0, 0))), some (gz_i (m)), none] [] 0 := by
  first | refine gz_aload_n (pc := 0) dX4_latestUsable_0 rfl ?_ | refine gz_aload_nN (pc := 0) dX4_latestUsable_0 rfl ?_
  refine gz_getI (pc := 1) 7 dX4_latestUsable_1 fl_X4_46 rfl rfl rfl rfl (by first | exact gz_B1 | (omega)) ?_
  refine gz_iconst (pc := 4) dX4_latestUsable_4 ?_
  refine gz_isub (pc := 5) dX4_latestUsable_5 ?_
  refine gz_istore_n (pc := 6) dX4_latestUsable_6 rfl rfl rfl ?_
  exact lp_X4_latestUsable l D α cA hT hm (I (0, 0, 0) 7 - 1) (by have := gz_th hT 0 0; omega) (by omega) (fun j a1 a2 => by omega)
end
