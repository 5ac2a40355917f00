-- ===== PART A: goes FIRST, ahead of the names: the tables' words, and 'selects' of the private methods out of them =====
/-- a private method of a class that the tables say can be made, by its rows of tables_1 -/
def lw_okq (q : MethodName × Nat) : Prop := (q.1.cls ≠ "java/lang/invoke/MethodHandle" ∧ q.1.cls ≠ "java/lang/invoke/VarHandle") ∧ Cond.instantiable q.1.cls q.2 ∈ tables_1 ∧ Cond.privateMethod q.1 ∈ tables_1 ∧ Cond.instanceMethod q.1 ∈ tables_1
theorem lw_p0 : lw_okq (⟨"BufferRoom", "begin", "()V"⟩, 14) := ⟨⟨by decide +kernel, by decide +kernel⟩, List.mem_of_getElem? (i := 18) (by decide +kernel), List.mem_of_getElem? (i := 345) (by decide +kernel), List.mem_of_getElem? (i := 346) (by decide +kernel)⟩
theorem lw_p1 : lw_okq (⟨"BufferRoom", "renew", "()V"⟩, 14) := ⟨⟨by decide +kernel, by decide +kernel⟩, List.mem_of_getElem? (i := 18) (by decide +kernel), List.mem_of_getElem? (i := 353) (by decide +kernel), List.mem_of_getElem? (i := 354) (by decide +kernel)⟩
theorem lw_p2 : lw_okq (⟨"BufferRoom$Timeline", "findOrder", "()Z"⟩, 9) := ⟨⟨by decide +kernel, by decide +kernel⟩, List.mem_of_getElem? (i := 128) (by decide +kernel), List.mem_of_getElem? (i := 386) (by decide +kernel), List.mem_of_getElem? (i := 387) (by decide +kernel)⟩
theorem lw_p3 : lw_okq (⟨"BufferRoom$Timeline", "leastReady", "(I)I"⟩, 9) := ⟨⟨by decide +kernel, by decide +kernel⟩, List.mem_of_getElem? (i := 128) (by decide +kernel), List.mem_of_getElem? (i := 390) (by decide +kernel), List.mem_of_getElem? (i := 391) (by decide +kernel)⟩
theorem lw_p4 : lw_okq (⟨"BufferRoom$Timeline", "findLives", "()V"⟩, 9) := ⟨⟨by decide +kernel, by decide +kernel⟩, List.mem_of_getElem? (i := 128) (by decide +kernel), List.mem_of_getElem? (i := 398) (by decide +kernel), List.mem_of_getElem? (i := 399) (by decide +kernel)⟩
theorem lw_p5 : lw_okq (⟨"BufferRoom$Timeline", "findLoads", "()V"⟩, 9) := ⟨⟨by decide +kernel, by decide +kernel⟩, List.mem_of_getElem? (i := 128) (by decide +kernel), List.mem_of_getElem? (i := 402) (by decide +kernel), List.mem_of_getElem? (i := 403) (by decide +kernel)⟩
theorem lw_p6 : lw_okq (⟨"BufferRoom$Loads", "isFirst", "(II)Z"⟩, 4) := ⟨⟨by decide +kernel, by decide +kernel⟩, List.mem_of_getElem? (i := 134) (by decide +kernel), List.mem_of_getElem? (i := 410) (by decide +kernel), List.mem_of_getElem? (i := 411) (by decide +kernel)⟩
theorem lw_p7 : lw_okq (⟨"BufferRoom$Reader", "goTo", "(I)V"⟩, 5) := ⟨⟨by decide +kernel, by decide +kernel⟩, List.mem_of_getElem? (i := 26) (by decide +kernel), List.mem_of_getElem? (i := 486) (by decide +kernel), List.mem_of_getElem? (i := 487) (by decide +kernel)⟩
theorem lw_p8 : lw_okq (⟨"BufferRoom$Reader", "readStatement", "()Z"⟩, 5) := ⟨⟨by decide +kernel, by decide +kernel⟩, List.mem_of_getElem? (i := 26) (by decide +kernel), List.mem_of_getElem? (i := 490) (by decide +kernel), List.mem_of_getElem? (i := 491) (by decide +kernel)⟩
theorem lw_p9 : lw_okq (⟨"BufferRoom$Reader", "bufferHere", "()I"⟩, 5) := ⟨⟨by decide +kernel, by decide +kernel⟩, List.mem_of_getElem? (i := 26) (by decide +kernel), List.mem_of_getElem? (i := 494) (by decide +kernel), List.mem_of_getElem? (i := 495) (by decide +kernel)⟩
theorem lw_p10 : lw_okq (⟨"BufferRoom$Reader", "digitHere", "()I"⟩, 5) := ⟨⟨by decide +kernel, by decide +kernel⟩, List.mem_of_getElem? (i := 26) (by decide +kernel), List.mem_of_getElem? (i := 498) (by decide +kernel), List.mem_of_getElem? (i := 499) (by decide +kernel)⟩
theorem lw_p11 : lw_okq (⟨"BufferRoom$Reader", "readStep", "(I)Z"⟩, 5) := ⟨⟨by decide +kernel, by decide +kernel⟩, List.mem_of_getElem? (i := 26) (by decide +kernel), List.mem_of_getElem? (i := 503) (by decide +kernel), List.mem_of_getElem? (i := 504) (by decide +kernel)⟩
theorem lw_p12 : lw_okq (⟨"BufferRoom$Reader", "readReads", "(I)V"⟩, 5) := ⟨⟨by decide +kernel, by decide +kernel⟩, List.mem_of_getElem? (i := 26) (by decide +kernel), List.mem_of_getElem? (i := 511) (by decide +kernel), List.mem_of_getElem? (i := 512) (by decide +kernel)⟩
theorem lw_p13 : lw_okq (⟨"BufferRoom$Reader", "skip", "(I)Z"⟩, 5) := ⟨⟨by decide +kernel, by decide +kernel⟩, List.mem_of_getElem? (i := 26) (by decide +kernel), List.mem_of_getElem? (i := 527) (by decide +kernel), List.mem_of_getElem? (i := 528) (by decide +kernel)⟩
theorem lw_p14 : lw_okq (⟨"BufferRoom$Reader", "readWrite", "(I)Z"⟩, 5) := ⟨⟨by decide +kernel, by decide +kernel⟩, List.mem_of_getElem? (i := 26) (by decide +kernel), List.mem_of_getElem? (i := 531) (by decide +kernel), List.mem_of_getElem? (i := 532) (by decide +kernel)⟩
theorem lw_p15 : lw_okq (⟨"BufferRoom$Reader", "readTime", "(I)Z"⟩, 5) := ⟨⟨by decide +kernel, by decide +kernel⟩, List.mem_of_getElem? (i := 26) (by decide +kernel), List.mem_of_getElem? (i := 539) (by decide +kernel), List.mem_of_getElem? (i := 540) (by decide +kernel)⟩
def lw_privs_1 : List (MethodName × Nat) := [(⟨"BufferRoom", "begin", "()V"⟩, 14), (⟨"BufferRoom", "renew", "()V"⟩, 14), (⟨"BufferRoom$Timeline", "findOrder", "()Z"⟩, 9), (⟨"BufferRoom$Timeline", "leastReady", "(I)I"⟩, 9), (⟨"BufferRoom$Timeline", "findLives", "()V"⟩, 9), (⟨"BufferRoom$Timeline", "findLoads", "()V"⟩, 9), (⟨"BufferRoom$Loads", "isFirst", "(II)Z"⟩, 4), (⟨"BufferRoom$Reader", "goTo", "(I)V"⟩, 5), (⟨"BufferRoom$Reader", "readStatement", "()Z"⟩, 5), (⟨"BufferRoom$Reader", "bufferHere", "()I"⟩, 5), (⟨"BufferRoom$Reader", "digitHere", "()I"⟩, 5), (⟨"BufferRoom$Reader", "readStep", "(I)Z"⟩, 5), (⟨"BufferRoom$Reader", "readReads", "(I)V"⟩, 5), (⟨"BufferRoom$Reader", "skip", "(I)Z"⟩, 5), (⟨"BufferRoom$Reader", "readWrite", "(I)Z"⟩, 5), (⟨"BufferRoom$Reader", "readTime", "(I)Z"⟩, 5)]
theorem lw_r1 : ∀ q ∈ lw_privs_1, lw_okq q := List.forall_mem_cons.mpr ⟨lw_p0, List.forall_mem_cons.mpr ⟨lw_p1, List.forall_mem_cons.mpr ⟨lw_p2, List.forall_mem_cons.mpr ⟨lw_p3, List.forall_mem_cons.mpr ⟨lw_p4, List.forall_mem_cons.mpr ⟨lw_p5, List.forall_mem_cons.mpr ⟨lw_p6, List.forall_mem_cons.mpr ⟨lw_p7, List.forall_mem_cons.mpr ⟨lw_p8, List.forall_mem_cons.mpr ⟨lw_p9, List.forall_mem_cons.mpr ⟨lw_p10, List.forall_mem_cons.mpr ⟨lw_p11, List.forall_mem_cons.mpr ⟨lw_p12, List.forall_mem_cons.mpr ⟨lw_p13, List.forall_mem_cons.mpr ⟨lw_p14, List.forall_mem_cons.mpr ⟨lw_p15, fun _ h => absurd h List.not_mem_nil⟩⟩⟩⟩⟩⟩⟩⟩⟩⟩⟩⟩⟩⟩⟩⟩
theorem lw_p16 : lw_okq (⟨"BufferRoom$Reader", "readNumber", "()I"⟩, 5) := ⟨⟨by decide +kernel, by decide +kernel⟩, List.mem_of_getElem? (i := 26) (by decide +kernel), List.mem_of_getElem? (i := 543) (by decide +kernel), List.mem_of_getElem? (i := 544) (by decide +kernel)⟩
theorem lw_p17 : lw_okq (⟨"BufferRoom$Reader", "readWanted", "(I)Z"⟩, 5) := ⟨⟨by decide +kernel, by decide +kernel⟩, List.mem_of_getElem? (i := 26) (by decide +kernel), List.mem_of_getElem? (i := 547) (by decide +kernel), List.mem_of_getElem? (i := 548) (by decide +kernel)⟩
theorem lw_p18 : lw_okq (⟨"BufferRoom$Reader", "readSize", "(I)Z"⟩, 5) := ⟨⟨by decide +kernel, by decide +kernel⟩, List.mem_of_getElem? (i := 26) (by decide +kernel), List.mem_of_getElem? (i := 551) (by decide +kernel), List.mem_of_getElem? (i := 552) (by decide +kernel)⟩
theorem lw_p19 : lw_okq (⟨"BufferRoom$Reader", "readTerm", "(I)Z"⟩, 5) := ⟨⟨by decide +kernel, by decide +kernel⟩, List.mem_of_getElem? (i := 26) (by decide +kernel), List.mem_of_getElem? (i := 555) (by decide +kernel), List.mem_of_getElem? (i := 556) (by decide +kernel)⟩
theorem lw_p20 : lw_okq (⟨"BufferRoom", "refusalOfPlace", "(I)I"⟩, 14) := ⟨⟨by decide +kernel, by decide +kernel⟩, List.mem_of_getElem? (i := 18) (by decide +kernel), List.mem_of_getElem? (i := 590) (by decide +kernel), List.mem_of_getElem? (i := 591) (by decide +kernel)⟩
theorem lw_p21 : lw_okq (⟨"BufferRoom$Orders", "leastFrom", "(LBufferRoom$Loads;I)I"⟩, 4) := ⟨⟨by decide +kernel, by decide +kernel⟩, List.mem_of_getElem? (i := 209) (by decide +kernel), List.mem_of_getElem? (i := 640) (by decide +kernel), List.mem_of_getElem? (i := 641) (by decide +kernel)⟩
theorem lw_p22 : lw_okq (⟨"BufferRoom$Orders", "peakThrough", "(LBufferRoom$Loads;III)I"⟩, 4) := ⟨⟨by decide +kernel, by decide +kernel⟩, List.mem_of_getElem? (i := 209) (by decide +kernel), List.mem_of_getElem? (i := 647) (by decide +kernel), List.mem_of_getElem? (i := 648) (by decide +kernel)⟩
theorem lw_p23 : lw_okq (⟨"BufferRoom$Orders", "findRow", "(LBufferRoom$Loads;)V"⟩, 4) := ⟨⟨by decide +kernel, by decide +kernel⟩, List.mem_of_getElem? (i := 209) (by decide +kernel), List.mem_of_getElem? (i := 654) (by decide +kernel), List.mem_of_getElem? (i := 655) (by decide +kernel)⟩
theorem lw_p24 : lw_okq (⟨"BufferRoom$Orders", "firstWithin", "(LBufferRoom$Loads;I)I"⟩, 4) := ⟨⟨by decide +kernel, by decide +kernel⟩, List.mem_of_getElem? (i := 209) (by decide +kernel), List.mem_of_getElem? (i := 658) (by decide +kernel), List.mem_of_getElem? (i := 659) (by decide +kernel)⟩
theorem lw_p25 : lw_okq (⟨"BufferRoom", "refusalOfBuffers", "(I)I"⟩, 14) := ⟨⟨by decide +kernel, by decide +kernel⟩, List.mem_of_getElem? (i := 18) (by decide +kernel), List.mem_of_getElem? (i := 666) (by decide +kernel), List.mem_of_getElem? (i := 667) (by decide +kernel)⟩
theorem lw_p26 : lw_okq (⟨"BufferRoom$Heights", "extend", "(III)V"⟩, 6) := ⟨⟨by decide +kernel, by decide +kernel⟩, List.mem_of_getElem? (i := 232) (by decide +kernel), List.mem_of_getElem? (i := 675) (by decide +kernel), List.mem_of_getElem? (i := 676) (by decide +kernel)⟩
theorem lw_p27 : lw_okq (⟨"BufferRoom$Heights", "put", "(IIII)V"⟩, 6) := ⟨⟨by decide +kernel, by decide +kernel⟩, List.mem_of_getElem? (i := 232) (by decide +kernel), List.mem_of_getElem? (i := 682) (by decide +kernel), List.mem_of_getElem? (i := 683) (by decide +kernel)⟩
theorem lw_p28 : lw_okq (⟨"BufferRoom$Heights", "lowestPlace", "(II)I"⟩, 6) := ⟨⟨by decide +kernel, by decide +kernel⟩, List.mem_of_getElem? (i := 232) (by decide +kernel), List.mem_of_getElem? (i := 686) (by decide +kernel), List.mem_of_getElem? (i := 687) (by decide +kernel)⟩
theorem lw_p29 : lw_okq (⟨"BufferRoom$Heights", "firstHit", "(III)I"⟩, 6) := ⟨⟨by decide +kernel, by decide +kernel⟩, List.mem_of_getElem? (i := 232) (by decide +kernel), List.mem_of_getElem? (i := 690) (by decide +kernel), List.mem_of_getElem? (i := 691) (by decide +kernel)⟩
theorem lw_p30 : lw_okq (⟨"BufferRoom$Heights", "upperEnd", "(I)I"⟩, 6) := ⟨⟨by decide +kernel, by decide +kernel⟩, List.mem_of_getElem? (i := 232) (by decide +kernel), List.mem_of_getElem? (i := 701) (by decide +kernel), List.mem_of_getElem? (i := 702) (by decide +kernel)⟩
theorem lw_p31 : lw_okq (⟨"BufferRoom", "plannedTogether", "(II)Z"⟩, 14) := ⟨⟨by decide +kernel, by decide +kernel⟩, List.mem_of_getElem? (i := 18) (by decide +kernel), List.mem_of_getElem? (i := 722) (by decide +kernel), List.mem_of_getElem? (i := 723) (by decide +kernel)⟩
def lw_privs_2 : List (MethodName × Nat) := [(⟨"BufferRoom$Reader", "readNumber", "()I"⟩, 5), (⟨"BufferRoom$Reader", "readWanted", "(I)Z"⟩, 5), (⟨"BufferRoom$Reader", "readSize", "(I)Z"⟩, 5), (⟨"BufferRoom$Reader", "readTerm", "(I)Z"⟩, 5), (⟨"BufferRoom", "refusalOfPlace", "(I)I"⟩, 14), (⟨"BufferRoom$Orders", "leastFrom", "(LBufferRoom$Loads;I)I"⟩, 4), (⟨"BufferRoom$Orders", "peakThrough", "(LBufferRoom$Loads;III)I"⟩, 4), (⟨"BufferRoom$Orders", "findRow", "(LBufferRoom$Loads;)V"⟩, 4), (⟨"BufferRoom$Orders", "firstWithin", "(LBufferRoom$Loads;I)I"⟩, 4), (⟨"BufferRoom", "refusalOfBuffers", "(I)I"⟩, 14), (⟨"BufferRoom$Heights", "extend", "(III)V"⟩, 6), (⟨"BufferRoom$Heights", "put", "(IIII)V"⟩, 6), (⟨"BufferRoom$Heights", "lowestPlace", "(II)I"⟩, 6), (⟨"BufferRoom$Heights", "firstHit", "(III)I"⟩, 6), (⟨"BufferRoom$Heights", "upperEnd", "(I)I"⟩, 6), (⟨"BufferRoom", "plannedTogether", "(II)Z"⟩, 14)]
theorem lw_r2 : ∀ q ∈ lw_privs_2, lw_okq q := List.forall_mem_cons.mpr ⟨lw_p16, List.forall_mem_cons.mpr ⟨lw_p17, List.forall_mem_cons.mpr ⟨lw_p18, List.forall_mem_cons.mpr ⟨lw_p19, List.forall_mem_cons.mpr ⟨lw_p20, List.forall_mem_cons.mpr ⟨lw_p21, List.forall_mem_cons.mpr ⟨lw_p22, List.forall_mem_cons.mpr ⟨lw_p23, List.forall_mem_cons.mpr ⟨lw_p24, List.forall_mem_cons.mpr ⟨lw_p25, List.forall_mem_cons.mpr ⟨lw_p26, List.forall_mem_cons.mpr ⟨lw_p27, List.forall_mem_cons.mpr ⟨lw_p28, List.forall_mem_cons.mpr ⟨lw_p29, List.forall_mem_cons.mpr ⟨lw_p30, List.forall_mem_cons.mpr ⟨lw_p31, fun _ h => absurd h List.not_mem_nil⟩⟩⟩⟩⟩⟩⟩⟩⟩⟩⟩⟩⟩⟩⟩⟩
theorem lw_p32 : lw_okq (⟨"BufferRoom$Sending", "buffersOf", "(I)I"⟩, 3) := ⟨⟨by decide +kernel, by decide +kernel⟩, List.mem_of_getElem? (i := 259) (by decide +kernel), List.mem_of_getElem? (i := 742) (by decide +kernel), List.mem_of_getElem? (i := 743) (by decide +kernel)⟩
theorem lw_p33 : lw_okq (⟨"BufferRoom$Sending", "timeOf", "(II)I"⟩, 3) := ⟨⟨by decide +kernel, by decide +kernel⟩, List.mem_of_getElem? (i := 259) (by decide +kernel), List.mem_of_getElem? (i := 746) (by decide +kernel), List.mem_of_getElem? (i := 747) (by decide +kernel)⟩
theorem lw_p34 : lw_okq (⟨"BufferRoom$Sending", "fits", "(II)Z"⟩, 3) := ⟨⟨by decide +kernel, by decide +kernel⟩, List.mem_of_getElem? (i := 259) (by decide +kernel), List.mem_of_getElem? (i := 761) (by decide +kernel), List.mem_of_getElem? (i := 762) (by decide +kernel)⟩
theorem lw_p35 : lw_okq (⟨"BufferRoom$Sending", "outAt", "(II)I"⟩, 3) := ⟨⟨by decide +kernel, by decide +kernel⟩, List.mem_of_getElem? (i := 259) (by decide +kernel), List.mem_of_getElem? (i := 765) (by decide +kernel), List.mem_of_getElem? (i := 766) (by decide +kernel)⟩
theorem lw_p36 : lw_okq (⟨"BufferRoom$Pairing", "mostBehind", "(II)I"⟩, 3) := ⟨⟨by decide +kernel, by decide +kernel⟩, List.mem_of_getElem? (i := 276) (by decide +kernel), List.mem_of_getElem? (i := 787) (by decide +kernel), List.mem_of_getElem? (i := 788) (by decide +kernel)⟩
theorem lw_p37 : lw_okq (⟨"BufferRoom$Floor", "putGiven", "(LBufferRoom$Timeline;)V"⟩, 5) := ⟨⟨by decide +kernel, by decide +kernel⟩, List.mem_of_getElem? (i := 292) (by decide +kernel), List.mem_of_getElem? (i := 813) (by decide +kernel), List.mem_of_getElem? (i := 814) (by decide +kernel)⟩
theorem lw_p38 : lw_okq (⟨"BufferRoom$Floor", "placeFor", "(I[I)I"⟩, 5) := ⟨⟨by decide +kernel, by decide +kernel⟩, List.mem_of_getElem? (i := 292) (by decide +kernel), List.mem_of_getElem? (i := 821) (by decide +kernel), List.mem_of_getElem? (i := 822) (by decide +kernel)⟩
theorem lw_p39 : lw_okq (⟨"BufferRoom$Floor", "lowestFrom", "(I[I)I"⟩, 5) := ⟨⟨by decide +kernel, by decide +kernel⟩, List.mem_of_getElem? (i := 292) (by decide +kernel), List.mem_of_getElem? (i := 825) (by decide +kernel), List.mem_of_getElem? (i := 826) (by decide +kernel)⟩
theorem lw_p40 : lw_okq (⟨"BufferRoom$Floor", "isBetter", "(II)Z"⟩, 5) := ⟨⟨by decide +kernel, by decide +kernel⟩, List.mem_of_getElem? (i := 292) (by decide +kernel), List.mem_of_getElem? (i := 829) (by decide +kernel), List.mem_of_getElem? (i := 830) (by decide +kernel)⟩
theorem lw_p41 : lw_okq (⟨"BufferRoom$Floor", "putWritten", "(II[I)V"⟩, 5) := ⟨⟨by decide +kernel, by decide +kernel⟩, List.mem_of_getElem? (i := 292) (by decide +kernel), List.mem_of_getElem? (i := 833) (by decide +kernel), List.mem_of_getElem? (i := 834) (by decide +kernel)⟩
theorem lw_p42 : lw_okq (⟨"BufferRoom$Floor", "lowestBut", "(I)I"⟩, 5) := ⟨⟨by decide +kernel, by decide +kernel⟩, List.mem_of_getElem? (i := 292) (by decide +kernel), List.mem_of_getElem? (i := 850) (by decide +kernel), List.mem_of_getElem? (i := 851) (by decide +kernel)⟩
theorem lw_p43 : lw_okq (⟨"BufferRoomModel", "begins", "()V"⟩, 54) := ⟨⟨by decide +kernel, by decide +kernel⟩, List.mem_of_getElem? (i := 933) (by decide +kernel), List.mem_of_getElem? (i := 1114) (by decide +kernel), List.mem_of_getElem? (i := 1115) (by decide +kernel)⟩
theorem lw_p44 : lw_okq (⟨"BufferRoomModel", "readsOne", "()Z"⟩, 54) := ⟨⟨by decide +kernel, by decide +kernel⟩, List.mem_of_getElem? (i := 933) (by decide +kernel), List.mem_of_getElem? (i := 1118) (by decide +kernel), List.mem_of_getElem? (i := 1119) (by decide +kernel)⟩
theorem lw_p45 : lw_okq (⟨"BufferRoomModel", "here", "()I"⟩, 54) := ⟨⟨by decide +kernel, by decide +kernel⟩, List.mem_of_getElem? (i := 933) (by decide +kernel), List.mem_of_getElem? (i := 1122) (by decide +kernel), List.mem_of_getElem? (i := 1123) (by decide +kernel)⟩
theorem lw_p46 : lw_okq (⟨"BufferRoomModel", "readsStep", "()Z"⟩, 54) := ⟨⟨by decide +kernel, by decide +kernel⟩, List.mem_of_getElem? (i := 933) (by decide +kernel), List.mem_of_getElem? (i := 1126) (by decide +kernel), List.mem_of_getElem? (i := 1127) (by decide +kernel)⟩
theorem lw_p47 : lw_okq (⟨"BufferRoomModel", "isRead", "(III)Z"⟩, 54) := ⟨⟨by decide +kernel, by decide +kernel⟩, List.mem_of_getElem? (i := 933) (by decide +kernel), List.mem_of_getElem? (i := 1130) (by decide +kernel), List.mem_of_getElem? (i := 1131) (by decide +kernel)⟩
def lw_privs_3 : List (MethodName × Nat) := [(⟨"BufferRoom$Sending", "buffersOf", "(I)I"⟩, 3), (⟨"BufferRoom$Sending", "timeOf", "(II)I"⟩, 3), (⟨"BufferRoom$Sending", "fits", "(II)Z"⟩, 3), (⟨"BufferRoom$Sending", "outAt", "(II)I"⟩, 3), (⟨"BufferRoom$Pairing", "mostBehind", "(II)I"⟩, 3), (⟨"BufferRoom$Floor", "putGiven", "(LBufferRoom$Timeline;)V"⟩, 5), (⟨"BufferRoom$Floor", "placeFor", "(I[I)I"⟩, 5), (⟨"BufferRoom$Floor", "lowestFrom", "(I[I)I"⟩, 5), (⟨"BufferRoom$Floor", "isBetter", "(II)Z"⟩, 5), (⟨"BufferRoom$Floor", "putWritten", "(II[I)V"⟩, 5), (⟨"BufferRoom$Floor", "lowestBut", "(I)I"⟩, 5), (⟨"BufferRoomModel", "begins", "()V"⟩, 54), (⟨"BufferRoomModel", "readsOne", "()Z"⟩, 54), (⟨"BufferRoomModel", "here", "()I"⟩, 54), (⟨"BufferRoomModel", "readsStep", "()Z"⟩, 54), (⟨"BufferRoomModel", "isRead", "(III)Z"⟩, 54)]
theorem lw_r3 : ∀ q ∈ lw_privs_3, lw_okq q := List.forall_mem_cons.mpr ⟨lw_p32, List.forall_mem_cons.mpr ⟨lw_p33, List.forall_mem_cons.mpr ⟨lw_p34, List.forall_mem_cons.mpr ⟨lw_p35, List.forall_mem_cons.mpr ⟨lw_p36, List.forall_mem_cons.mpr ⟨lw_p37, List.forall_mem_cons.mpr ⟨lw_p38, List.forall_mem_cons.mpr ⟨lw_p39, List.forall_mem_cons.mpr ⟨lw_p40, List.forall_mem_cons.mpr ⟨lw_p41, List.forall_mem_cons.mpr ⟨lw_p42, List.forall_mem_cons.mpr ⟨lw_p43, List.forall_mem_cons.mpr ⟨lw_p44, List.forall_mem_cons.mpr ⟨lw_p45, List.forall_mem_cons.mpr ⟨lw_p46, List.forall_mem_cons.mpr ⟨lw_p47, fun _ h => absurd h List.not_mem_nil⟩⟩⟩⟩⟩⟩⟩⟩⟩⟩⟩⟩⟩⟩⟩⟩
theorem lw_p48 : lw_okq (⟨"BufferRoomModel", "eats", "(I)Z"⟩, 54) := ⟨⟨by decide +kernel, by decide +kernel⟩, List.mem_of_getElem? (i := 933) (by decide +kernel), List.mem_of_getElem? (i := 1134) (by decide +kernel), List.mem_of_getElem? (i := 1135) (by decide +kernel)⟩
theorem lw_p49 : lw_okq (⟨"BufferRoomModel", "isWritten", "(I)Z"⟩, 54) := ⟨⟨by decide +kernel, by decide +kernel⟩, List.mem_of_getElem? (i := 933) (by decide +kernel), List.mem_of_getElem? (i := 1138) (by decide +kernel), List.mem_of_getElem? (i := 1139) (by decide +kernel)⟩
theorem lw_p50 : lw_okq (⟨"BufferRoomModel", "number", "()I"⟩, 54) := ⟨⟨by decide +kernel, by decide +kernel⟩, List.mem_of_getElem? (i := 933) (by decide +kernel), List.mem_of_getElem? (i := 1142) (by decide +kernel), List.mem_of_getElem? (i := 1143) (by decide +kernel)⟩
theorem lw_p51 : lw_okq (⟨"BufferRoomModel", "readsSize", "(I)Z"⟩, 54) := ⟨⟨by decide +kernel, by decide +kernel⟩, List.mem_of_getElem? (i := 933) (by decide +kernel), List.mem_of_getElem? (i := 1146) (by decide +kernel), List.mem_of_getElem? (i := 1147) (by decide +kernel)⟩
theorem lw_p52 : lw_okq (⟨"BufferRoomModel", "takes", "()V"⟩, 54) := ⟨⟨by decide +kernel, by decide +kernel⟩, List.mem_of_getElem? (i := 933) (by decide +kernel), List.mem_of_getElem? (i := 1150) (by decide +kernel), List.mem_of_getElem? (i := 1151) (by decide +kernel)⟩
theorem lw_p53 : lw_okq (⟨"BufferRoomModel", "isReady", "(II)Z"⟩, 54) := ⟨⟨by decide +kernel, by decide +kernel⟩, List.mem_of_getElem? (i := 933) (by decide +kernel), List.mem_of_getElem? (i := 1179) (by decide +kernel), List.mem_of_getElem? (i := 1180) (by decide +kernel)⟩
theorem lw_p54 : lw_okq (⟨"BufferRoomModel", "writerOf", "(I)I"⟩, 54) := ⟨⟨by decide +kernel, by decide +kernel⟩, List.mem_of_getElem? (i := 933) (by decide +kernel), List.mem_of_getElem? (i := 1183) (by decide +kernel), List.mem_of_getElem? (i := 1184) (by decide +kernel)⟩
theorem lw_p55 : lw_okq (⟨"BufferRoomModel", "isPlace", "(I)Z"⟩, 54) := ⟨⟨by decide +kernel, by decide +kernel⟩, List.mem_of_getElem? (i := 933) (by decide +kernel), List.mem_of_getElem? (i := 1191) (by decide +kernel), List.mem_of_getElem? (i := 1192) (by decide +kernel)⟩
theorem lw_p56 : lw_okq (⟨"BufferRoomModel", "orders", "()Z"⟩, 54) := ⟨⟨by decide +kernel, by decide +kernel⟩, List.mem_of_getElem? (i := 933) (by decide +kernel), List.mem_of_getElem? (i := 1195) (by decide +kernel), List.mem_of_getElem? (i := 1196) (by decide +kernel)⟩
theorem lw_p57 : lw_okq (⟨"BufferRoomModel", "lives", "(I)V"⟩, 54) := ⟨⟨by decide +kernel, by decide +kernel⟩, List.mem_of_getElem? (i := 933) (by decide +kernel), List.mem_of_getElem? (i := 1199) (by decide +kernel), List.mem_of_getElem? (i := 1200) (by decide +kernel)⟩
theorem lw_p58 : lw_okq (⟨"BufferRoomModel", "doesRead", "(II)Z"⟩, 54) := ⟨⟨by decide +kernel, by decide +kernel⟩, List.mem_of_getElem? (i := 933) (by decide +kernel), List.mem_of_getElem? (i := 1203) (by decide +kernel), List.mem_of_getElem? (i := 1204) (by decide +kernel)⟩
theorem lw_p59 : lw_okq (⟨"BufferRoomModel", "loadAt", "(I)I"⟩, 54) := ⟨⟨by decide +kernel, by decide +kernel⟩, List.mem_of_getElem? (i := 933) (by decide +kernel), List.mem_of_getElem? (i := 1211) (by decide +kernel), List.mem_of_getElem? (i := 1212) (by decide +kernel)⟩
theorem lw_p60 : lw_okq (⟨"BufferRoomModel", "scratch", "(I)I"⟩, 54) := ⟨⟨by decide +kernel, by decide +kernel⟩, List.mem_of_getElem? (i := 933) (by decide +kernel), List.mem_of_getElem? (i := 1215) (by decide +kernel), List.mem_of_getElem? (i := 1216) (by decide +kernel)⟩
theorem lw_p61 : lw_okq (⟨"BufferRoomModel", "sizeOf", "(I)I"⟩, 54) := ⟨⟨by decide +kernel, by decide +kernel⟩, List.mem_of_getElem? (i := 933) (by decide +kernel), List.mem_of_getElem? (i := 1219) (by decide +kernel), List.mem_of_getElem? (i := 1220) (by decide +kernel)⟩
theorem lw_p62 : lw_okq (⟨"BufferRoomModel", "isAlive", "(II)Z"⟩, 54) := ⟨⟨by decide +kernel, by decide +kernel⟩, List.mem_of_getElem? (i := 933) (by decide +kernel), List.mem_of_getElem? (i := 1223) (by decide +kernel), List.mem_of_getElem? (i := 1224) (by decide +kernel)⟩
theorem lw_p63 : lw_okq (⟨"BufferRoomModel", "overAt", "(I)I"⟩, 54) := ⟨⟨by decide +kernel, by decide +kernel⟩, List.mem_of_getElem? (i := 933) (by decide +kernel), List.mem_of_getElem? (i := 1227) (by decide +kernel), List.mem_of_getElem? (i := 1228) (by decide +kernel)⟩
def lw_privs_4 : List (MethodName × Nat) := [(⟨"BufferRoomModel", "eats", "(I)Z"⟩, 54), (⟨"BufferRoomModel", "isWritten", "(I)Z"⟩, 54), (⟨"BufferRoomModel", "number", "()I"⟩, 54), (⟨"BufferRoomModel", "readsSize", "(I)Z"⟩, 54), (⟨"BufferRoomModel", "takes", "()V"⟩, 54), (⟨"BufferRoomModel", "isReady", "(II)Z"⟩, 54), (⟨"BufferRoomModel", "writerOf", "(I)I"⟩, 54), (⟨"BufferRoomModel", "isPlace", "(I)Z"⟩, 54), (⟨"BufferRoomModel", "orders", "()Z"⟩, 54), (⟨"BufferRoomModel", "lives", "(I)V"⟩, 54), (⟨"BufferRoomModel", "doesRead", "(II)Z"⟩, 54), (⟨"BufferRoomModel", "loadAt", "(I)I"⟩, 54), (⟨"BufferRoomModel", "scratch", "(I)I"⟩, 54), (⟨"BufferRoomModel", "sizeOf", "(I)I"⟩, 54), (⟨"BufferRoomModel", "isAlive", "(II)Z"⟩, 54), (⟨"BufferRoomModel", "overAt", "(I)I"⟩, 54)]
theorem lw_r4 : ∀ q ∈ lw_privs_4, lw_okq q := List.forall_mem_cons.mpr ⟨lw_p48, List.forall_mem_cons.mpr ⟨lw_p49, List.forall_mem_cons.mpr ⟨lw_p50, List.forall_mem_cons.mpr ⟨lw_p51, List.forall_mem_cons.mpr ⟨lw_p52, List.forall_mem_cons.mpr ⟨lw_p53, List.forall_mem_cons.mpr ⟨lw_p54, List.forall_mem_cons.mpr ⟨lw_p55, List.forall_mem_cons.mpr ⟨lw_p56, List.forall_mem_cons.mpr ⟨lw_p57, List.forall_mem_cons.mpr ⟨lw_p58, List.forall_mem_cons.mpr ⟨lw_p59, List.forall_mem_cons.mpr ⟨lw_p60, List.forall_mem_cons.mpr ⟨lw_p61, List.forall_mem_cons.mpr ⟨lw_p62, List.forall_mem_cons.mpr ⟨lw_p63, fun _ h => absurd h List.not_mem_nil⟩⟩⟩⟩⟩⟩⟩⟩⟩⟩⟩⟩⟩⟩⟩⟩
theorem lw_p64 : lw_okq (⟨"BufferRoomModel", "isBuffer", "(I)Z"⟩, 54) := ⟨⟨by decide +kernel, by decide +kernel⟩, List.mem_of_getElem? (i := 933) (by decide +kernel), List.mem_of_getElem? (i := 1243) (by decide +kernel), List.mem_of_getElem? (i := 1244) (by decide +kernel)⟩
theorem lw_p65 : lw_okq (⟨"BufferRoomModel", "peakBy", "(II)I"⟩, 54) := ⟨⟨by decide +kernel, by decide +kernel⟩, List.mem_of_getElem? (i := 933) (by decide +kernel), List.mem_of_getElem? (i := 1255) (by decide +kernel), List.mem_of_getElem? (i := 1256) (by decide +kernel)⟩
theorem lw_p66 : lw_okq (⟨"BufferRoomModel", "loadOf", "(II)I"⟩, 54) := ⟨⟨by decide +kernel, by decide +kernel⟩, List.mem_of_getElem? (i := 933) (by decide +kernel), List.mem_of_getElem? (i := 1259) (by decide +kernel), List.mem_of_getElem? (i := 1260) (by decide +kernel)⟩
theorem lw_p67 : lw_okq (⟨"BufferRoomModel", "isNeeded", "(II)Z"⟩, 54) := ⟨⟨by decide +kernel, by decide +kernel⟩, List.mem_of_getElem? (i := 933) (by decide +kernel), List.mem_of_getElem? (i := 1263) (by decide +kernel), List.mem_of_getElem? (i := 1264) (by decide +kernel)⟩
theorem lw_p68 : lw_okq (⟨"BufferRoomModel", "barred", "(I)I"⟩, 54) := ⟨⟨by decide +kernel, by decide +kernel⟩, List.mem_of_getElem? (i := 933) (by decide +kernel), List.mem_of_getElem? (i := 1271) (by decide +kernel), List.mem_of_getElem? (i := 1272) (by decide +kernel)⟩
theorem lw_p69 : lw_okq (⟨"BufferRoomModel", "laysRow", "(II)I"⟩, 54) := ⟨⟨by decide +kernel, by decide +kernel⟩, List.mem_of_getElem? (i := 933) (by decide +kernel), List.mem_of_getElem? (i := 1275) (by decide +kernel), List.mem_of_getElem? (i := 1276) (by decide +kernel)⟩
theorem lw_p70 : lw_okq (⟨"BufferRoomModel", "shares", "(II)Z"⟩, 54) := ⟨⟨by decide +kernel, by decide +kernel⟩, List.mem_of_getElem? (i := 933) (by decide +kernel), List.mem_of_getElem? (i := 1279) (by decide +kernel), List.mem_of_getElem? (i := 1280) (by decide +kernel)⟩
theorem lw_p71 : lw_okq (⟨"BufferRoomModel", "nextRow", "(I)Z"⟩, 54) := ⟨⟨by decide +kernel, by decide +kernel⟩, List.mem_of_getElem? (i := 933) (by decide +kernel), List.mem_of_getElem? (i := 1286) (by decide +kernel), List.mem_of_getElem? (i := 1287) (by decide +kernel)⟩
theorem lw_p72 : lw_okq (⟨"BufferRoomModel", "doClash", "(II)Z"⟩, 54) := ⟨⟨by decide +kernel, by decide +kernel⟩, List.mem_of_getElem? (i := 933) (by decide +kernel), List.mem_of_getElem? (i := 1303) (by decide +kernel), List.mem_of_getElem? (i := 1304) (by decide +kernel)⟩
theorem lw_p73 : lw_okq (⟨"BufferRoomModel", "timeOut", "(II)I"⟩, 54) := ⟨⟨by decide +kernel, by decide +kernel⟩, List.mem_of_getElem? (i := 933) (by decide +kernel), List.mem_of_getElem? (i := 1311) (by decide +kernel), List.mem_of_getElem? (i := 1312) (by decide +kernel)⟩
theorem lw_p74 : lw_okq (⟨"BufferRoomModel", "isOut", "(II)Z"⟩, 54) := ⟨⟨by decide +kernel, by decide +kernel⟩, List.mem_of_getElem? (i := 933) (by decide +kernel), List.mem_of_getElem? (i := 1315) (by decide +kernel), List.mem_of_getElem? (i := 1316) (by decide +kernel)⟩
theorem lw_p75 : lw_okq (⟨"BufferRoomModel", "fits", "(II)Z"⟩, 54) := ⟨⟨by decide +kernel, by decide +kernel⟩, List.mem_of_getElem? (i := 933) (by decide +kernel), List.mem_of_getElem? (i := 1319) (by decide +kernel), List.mem_of_getElem? (i := 1320) (by decide +kernel)⟩
theorem lw_p76 : lw_okq (⟨"BufferRoomModel", "holds", "()V"⟩, 54) := ⟨⟨by decide +kernel, by decide +kernel⟩, List.mem_of_getElem? (i := 933) (by decide +kernel), List.mem_of_getElem? (i := 1331) (by decide +kernel), List.mem_of_getElem? (i := 1332) (by decide +kernel)⟩
theorem lw_p77 : lw_okq (⟨"BufferRoomModel", "pairBy", "(I)I"⟩, 54) := ⟨⟨by decide +kernel, by decide +kernel⟩, List.mem_of_getElem? (i := 933) (by decide +kernel), List.mem_of_getElem? (i := 1335) (by decide +kernel), List.mem_of_getElem? (i := 1336) (by decide +kernel)⟩
theorem lw_p78 : lw_okq (⟨"BufferRoomModel", "goes", "()V"⟩, 54) := ⟨⟨by decide +kernel, by decide +kernel⟩, List.mem_of_getElem? (i := 933) (by decide +kernel), List.mem_of_getElem? (i := 1351) (by decide +kernel), List.mem_of_getElem? (i := 1352) (by decide +kernel)⟩
theorem lw_p79 : lw_okq (⟨"BufferRoomModel", "puts", "(I)V"⟩, 54) := ⟨⟨by decide +kernel, by decide +kernel⟩, List.mem_of_getElem? (i := 933) (by decide +kernel), List.mem_of_getElem? (i := 1355) (by decide +kernel), List.mem_of_getElem? (i := 1356) (by decide +kernel)⟩
def lw_privs_5 : List (MethodName × Nat) := [(⟨"BufferRoomModel", "isBuffer", "(I)Z"⟩, 54), (⟨"BufferRoomModel", "peakBy", "(II)I"⟩, 54), (⟨"BufferRoomModel", "loadOf", "(II)I"⟩, 54), (⟨"BufferRoomModel", "isNeeded", "(II)Z"⟩, 54), (⟨"BufferRoomModel", "barred", "(I)I"⟩, 54), (⟨"BufferRoomModel", "laysRow", "(II)I"⟩, 54), (⟨"BufferRoomModel", "shares", "(II)Z"⟩, 54), (⟨"BufferRoomModel", "nextRow", "(I)Z"⟩, 54), (⟨"BufferRoomModel", "doClash", "(II)Z"⟩, 54), (⟨"BufferRoomModel", "timeOut", "(II)I"⟩, 54), (⟨"BufferRoomModel", "isOut", "(II)Z"⟩, 54), (⟨"BufferRoomModel", "fits", "(II)Z"⟩, 54), (⟨"BufferRoomModel", "holds", "()V"⟩, 54), (⟨"BufferRoomModel", "pairBy", "(I)I"⟩, 54), (⟨"BufferRoomModel", "goes", "()V"⟩, 54), (⟨"BufferRoomModel", "puts", "(I)V"⟩, 54)]
theorem lw_r5 : ∀ q ∈ lw_privs_5, lw_okq q := List.forall_mem_cons.mpr ⟨lw_p64, List.forall_mem_cons.mpr ⟨lw_p65, List.forall_mem_cons.mpr ⟨lw_p66, List.forall_mem_cons.mpr ⟨lw_p67, List.forall_mem_cons.mpr ⟨lw_p68, List.forall_mem_cons.mpr ⟨lw_p69, List.forall_mem_cons.mpr ⟨lw_p70, List.forall_mem_cons.mpr ⟨lw_p71, List.forall_mem_cons.mpr ⟨lw_p72, List.forall_mem_cons.mpr ⟨lw_p73, List.forall_mem_cons.mpr ⟨lw_p74, List.forall_mem_cons.mpr ⟨lw_p75, List.forall_mem_cons.mpr ⟨lw_p76, List.forall_mem_cons.mpr ⟨lw_p77, List.forall_mem_cons.mpr ⟨lw_p78, List.forall_mem_cons.mpr ⟨lw_p79, fun _ h => absurd h List.not_mem_nil⟩⟩⟩⟩⟩⟩⟩⟩⟩⟩⟩⟩⟩⟩⟩⟩
theorem lw_p80 : lw_okq (⟨"BufferRoomModel", "nextAbove", "(I)I"⟩, 54) := ⟨⟨by decide +kernel, by decide +kernel⟩, List.mem_of_getElem? (i := 933) (by decide +kernel), List.mem_of_getElem? (i := 1359) (by decide +kernel), List.mem_of_getElem? (i := 1360) (by decide +kernel)⟩
theorem lw_p81 : lw_okq (⟨"BufferRoomModel", "endAt", "(I)I"⟩, 54) := ⟨⟨by decide +kernel, by decide +kernel⟩, List.mem_of_getElem? (i := 933) (by decide +kernel), List.mem_of_getElem? (i := 1363) (by decide +kernel), List.mem_of_getElem? (i := 1364) (by decide +kernel)⟩
theorem lw_p82 : lw_okq (⟨"BufferRoomModel", "top", "()I"⟩, 54) := ⟨⟨by decide +kernel, by decide +kernel⟩, List.mem_of_getElem? (i := 933) (by decide +kernel), List.mem_of_getElem? (i := 1367) (by decide +kernel), List.mem_of_getElem? (i := 1368) (by decide +kernel)⟩
def lw_privs_6 : List (MethodName × Nat) := [(⟨"BufferRoomModel", "nextAbove", "(I)I"⟩, 54), (⟨"BufferRoomModel", "endAt", "(I)I"⟩, 54), (⟨"BufferRoomModel", "top", "()I"⟩, 54)]
theorem lw_r6 : ∀ q ∈ lw_privs_6, lw_okq q := List.forall_mem_cons.mpr ⟨lw_p80, List.forall_mem_cons.mpr ⟨lw_p81, List.forall_mem_cons.mpr ⟨lw_p82, fun _ h => absurd h List.not_mem_nil⟩⟩⟩
def lw_privs : List (MethodName × Nat) := lw_privs_1 ++ (lw_privs_2 ++ (lw_privs_3 ++ (lw_privs_4 ++ (lw_privs_5 ++ (lw_privs_6)))))
def lw_tbl : List Cond := k2_sels lw_privs ++ tables_1
theorem lw_privs_ok : ∀ q ∈ lw_privs, lw_okq q := by
  show ∀ q ∈ lw_privs_1 ++ (lw_privs_2 ++ (lw_privs_3 ++ (lw_privs_4 ++ (lw_privs_5 ++ (lw_privs_6))))), lw_okq q
  exact List.forall_mem_append.mpr ⟨lw_r1, List.forall_mem_append.mpr ⟨lw_r2, List.forall_mem_append.mpr ⟨lw_r3, List.forall_mem_append.mpr ⟨lw_r4, List.forall_mem_append.mpr ⟨lw_r5, lw_r6⟩⟩⟩⟩⟩
-- names of classes, fields, methods (from the printed NAMES), tables of the abstract machine
def RX0 : String := "BufferRoom$Floor"
def TX0 : u_T := fun k => match k with
  | 0 => ("BufferRoom$Floor", "place", "I", false)
  | 1 => ("BufferRoom$Floor", "high", "I", false)
  | 2 => ("BufferRoom$Floor", "fit", "I", false)
  | 3 => ("BufferRoom$Floor", "at", "[I", true)
  | _ => ("BufferRoom$Floor", "worth", "[I", true)
def tyX0 : Nat → FieldType := fun k => match k with
  | 0 => .int
  | 1 => .int
  | 2 => .int
  | 3 => .array .int
  | _ => .array .int
abbrev wsX00 : List Cond := u_ws RX0 TX0 5
theorem nmX0 : ∀ a, a < 5 → ∀ b, b < 5 → a ≠ b → (TX0 a).2.1 ≠ (TX0 b).2.1 := by decide +kernel
theorem tyX0_ok : ∀ k, k < 5 → parseFieldDescriptor (TX0 k).2.2.1 = some (tyX0 k) := by decide +kernel
abbrev cX0_init : ByteArray := prog_2_method_1_code
def yX0_init : MethodName := ⟨RX0, "<init>", "()V"⟩
abbrev cX0_empty : ByteArray := prog_2_method_2_code
def yX0_empty : MethodName := ⟨RX0, "empty", "()V"⟩
abbrev cX0_takeFrom : ByteArray := prog_2_method_3_code
def yX0_takeFrom : MethodName := ⟨RX0, "takeFrom", "(LBufferRoom$Floor;)V"⟩
abbrev cX0_walk : ByteArray := prog_2_method_4_code
def yX0_walk : MethodName := ⟨RX0, "walk", "(LBufferRoom$Timeline;)V"⟩
abbrev cX0_putGiven : ByteArray := prog_2_method_5_code
def yX0_putGiven : MethodName := ⟨RX0, "putGiven", "(LBufferRoom$Timeline;)V"⟩
abbrev cX0_putWritten : ByteArray := prog_2_method_6_code
def yX0_putWritten : MethodName := ⟨RX0, "putWritten", "(II[I)V"⟩
abbrev cX0_placeFor : ByteArray := prog_2_method_7_code
def yX0_placeFor : MethodName := ⟨RX0, "placeFor", "(I[I)I"⟩
abbrev cX0_isBetter : ByteArray := prog_2_method_8_code
def yX0_isBetter : MethodName := ⟨RX0, "isBetter", "(II)Z"⟩
abbrev cX0_lowestFrom : ByteArray := prog_2_method_9_code
def yX0_lowestFrom : MethodName := ⟨RX0, "lowestFrom", "(I[I)I"⟩
abbrev cX0_top : ByteArray := prog_2_method_10_code
def yX0_top : MethodName := ⟨RX0, "top", "([I)I"⟩
abbrev cX0_moveDown : ByteArray := prog_2_method_11_code
def yX0_moveDown : MethodName := ⟨RX0, "moveDown", "([I)I"⟩
abbrev cX0_lowestBut : ByteArray := prog_2_method_12_code
def yX0_lowestBut : MethodName := ⟨RX0, "lowestBut", "(I)I"⟩
abbrev cX0_whoHolds : ByteArray := prog_2_method_13_code
def yX0_whoHolds : MethodName := ⟨RX0, "whoHolds", "(I[I)I"⟩
def RX1 : String := "BufferRoom$Heights"
def TX1 : u_T := fun k => match k with
  | 0 => ("BufferRoom$Heights", "times", "LBufferRoom$Timeline;", false)
  | 1 => ("BufferRoom$Heights", "sheet", "LBufferRoom$Sheet;", false)
  | 2 => ("BufferRoom$Heights", "lowest", "I", false)
  | 3 => ("BufferRoom$Heights", "at", "[I", true)
  | 4 => ("BufferRoom$Heights", "foundCount", "I", false)
  | _ => ("BufferRoom$Heights", "found", "[I", true)
def tyX1 : Nat → FieldType := fun k => match k with
  | 0 => .object "BufferRoom$Timeline"
  | 1 => .object "BufferRoom$Sheet"
  | 2 => .int
  | 3 => .array .int
  | 4 => .int
  | _ => .array .int
abbrev wsX10 : List Cond := u_ws RX1 TX1 6
theorem nmX1 : ∀ a, a < 6 → ∀ b, b < 6 → a ≠ b → (TX1 a).2.1 ≠ (TX1 b).2.1 := by decide +kernel
theorem tyX1_ok : ∀ k, k < 6 → parseFieldDescriptor (TX1 k).2.2.1 = some (tyX1 k) := by decide +kernel
abbrev cX1_init : ByteArray := prog_3_method_1_code
def yX1_init : MethodName := ⟨RX1, "<init>", "()V"⟩
abbrev cX1_find : ByteArray := prog_3_method_2_code
def yX1_find : MethodName := ⟨RX1, "find", "(LBufferRoom$Timeline;LBufferRoom$Sheet;)I"⟩
abbrev cX1_extend : ByteArray := prog_3_method_3_code
def yX1_extend : MethodName := ⟨RX1, "extend", "(III)V"⟩
abbrev cX1_put : ByteArray := prog_3_method_4_code
def yX1_put : MethodName := ⟨RX1, "put", "(IIII)V"⟩
abbrev cX1_upperEnd : ByteArray := prog_3_method_5_code
def yX1_upperEnd : MethodName := ⟨RX1, "upperEnd", "(I)I"⟩
abbrev cX1_lowestPlace : ByteArray := prog_3_method_6_code
def yX1_lowestPlace : MethodName := ⟨RX1, "lowestPlace", "(II)I"⟩
abbrev cX1_firstHit : ByteArray := prog_3_method_7_code
def yX1_firstHit : MethodName := ⟨RX1, "firstHit", "(III)I"⟩
def RX2 : String := "BufferRoom$Kinds"
def TX2 : u_T := fun k => match k with
  | _ => ("", "", "", false)
def tyX2 : Nat → FieldType := fun k => match k with
  | _ => .int
abbrev wsX20 : List Cond := u_ws RX2 TX2 0
theorem nmX2 : ∀ a, a < 0 → ∀ b, b < 0 → a ≠ b → (TX2 a).2.1 ≠ (TX2 b).2.1 := by decide +kernel
theorem tyX2_ok : ∀ k, k < 0 → parseFieldDescriptor (TX2 k).2.2.1 = some (tyX2 k) := by decide +kernel
abbrev cX2_isKind : ByteArray := prog_4_method_2_code
def yX2_isKind : MethodName := ⟨RX2, "isKind", "(I)Z"⟩
abbrev cX2_isOne : ByteArray := prog_4_method_3_code
def yX2_isOne : MethodName := ⟨RX2, "isOne", "(II)Z"⟩
abbrev cX2_isOver : ByteArray := prog_4_method_4_code
def yX2_isOver : MethodName := ⟨RX2, "isOver", "(I)Z"⟩
abbrev cX2_ticks : ByteArray := prog_4_method_5_code
def yX2_ticks : MethodName := ⟨RX2, "ticks", "(II)I"⟩
abbrev cX2_scratch : ByteArray := prog_4_method_6_code
def yX2_scratch : MethodName := ⟨RX2, "scratch", "(III)I"⟩
def RX3 : String := "BufferRoom$Loads"
def TX3 : u_T := fun k => match k with
  | 0 => ("BufferRoom$Loads", "program", "LBufferRoom$Program;", false)
  | 1 => ("BufferRoom$Loads", "size", "[I", true)
  | 2 => ("BufferRoom$Loads", "scratch", "[I", true)
  | _ => ("BufferRoom$Loads", "isOver", "[Z", true)
def tyX3 : Nat → FieldType := fun k => match k with
  | 0 => .object "BufferRoom$Program"
  | 1 => .array .int
  | 2 => .array .int
  | _ => .array .boolean
abbrev wsX30 : List Cond := u_ws RX3 TX3 4
theorem nmX3 : ∀ a, a < 4 → ∀ b, b < 4 → a ≠ b → (TX3 a).2.1 ≠ (TX3 b).2.1 := by decide +kernel
theorem tyX3_ok : ∀ k, k < 4 → parseFieldDescriptor (TX3 k).2.2.1 = some (tyX3 k) := by decide +kernel
abbrev cX3_init : ByteArray := prog_5_method_1_code
def yX3_init : MethodName := ⟨RX3, "<init>", "()V"⟩
abbrev cX3_measure : ByteArray := prog_5_method_2_code
def yX3_measure : MethodName := ⟨RX3, "measure", "(LBufferRoom$Program;[I)V"⟩
abbrev cX3_overAt : ByteArray := prog_5_method_3_code
def yX3_overAt : MethodName := ⟨RX3, "overAt", "(II)I"⟩
abbrev cX3_isFirst : ByteArray := prog_5_method_4_code
def yX3_isFirst : MethodName := ⟨RX3, "isFirst", "(II)Z"⟩
abbrev cX3_heldAfter : ByteArray := prog_5_method_5_code
def yX3_heldAfter : MethodName := ⟨RX3, "heldAfter", "(I)I"⟩
abbrev cX3_loadAt : ByteArray := prog_5_method_6_code
def yX3_loadAt : MethodName := ⟨RX3, "loadAt", "(III)I"⟩
def RX4 : String := "BufferRoom$Orders"
def TX4 : u_T := fun k => match k with
  | 0 => ("BufferRoom$Orders", "isFound", "Z", false)
  | 1 => ("BufferRoom$Orders", "heaps", "I", false)
  | 2 => ("BufferRoom$Orders", "least", "[I", true)
  | _ => ("BufferRoom$Orders", "row", "[I", true)
def tyX4 : Nat → FieldType := fun k => match k with
  | 0 => .boolean
  | 1 => .int
  | 2 => .array .int
  | _ => .array .int
abbrev wsX40 : List Cond := u_ws RX4 TX4 4
theorem nmX4 : ∀ a, a < 4 → ∀ b, b < 4 → a ≠ b → (TX4 a).2.1 ≠ (TX4 b).2.1 := by decide +kernel
theorem tyX4_ok : ∀ k, k < 4 → parseFieldDescriptor (TX4 k).2.2.1 = some (tyX4 k) := by decide +kernel
abbrev cX4_init : ByteArray := prog_6_method_1_code
def yX4_init : MethodName := ⟨RX4, "<init>", "()V"⟩
abbrev cX4_find : ByteArray := prog_6_method_2_code
def yX4_find : MethodName := ⟨RX4, "find", "(LBufferRoom$Loads;)V"⟩
abbrev cX4_leastFrom : ByteArray := prog_6_method_3_code
def yX4_leastFrom : MethodName := ⟨RX4, "leastFrom", "(LBufferRoom$Loads;I)I"⟩
abbrev cX4_peakThrough : ByteArray := prog_6_method_4_code
def yX4_peakThrough : MethodName := ⟨RX4, "peakThrough", "(LBufferRoom$Loads;III)I"⟩
abbrev cX4_findRow : ByteArray := prog_6_method_5_code
def yX4_findRow : MethodName := ⟨RX4, "findRow", "(LBufferRoom$Loads;)V"⟩
abbrev cX4_firstWithin : ByteArray := prog_6_method_6_code
def yX4_firstWithin : MethodName := ⟨RX4, "firstWithin", "(LBufferRoom$Loads;I)I"⟩
def RX5 : String := "BufferRoom$Pairing"
def TX5 : u_T := fun k => match k with
  | 0 => ("BufferRoom$Pairing", "times", "LBufferRoom$Timeline;", false)
  | 1 => ("BufferRoom$Pairing", "start", "[I", true)
  | _ => ("BufferRoom$Pairing", "end", "[I", true)
def tyX5 : Nat → FieldType := fun k => match k with
  | 0 => .object "BufferRoom$Timeline"
  | 1 => .array .int
  | _ => .array .int
abbrev wsX50 : List Cond := u_ws RX5 TX5 3
theorem nmX5 : ∀ a, a < 3 → ∀ b, b < 3 → a ≠ b → (TX5 a).2.1 ≠ (TX5 b).2.1 := by decide +kernel
theorem tyX5_ok : ∀ k, k < 3 → parseFieldDescriptor (TX5 k).2.2.1 = some (tyX5 k) := by decide +kernel
abbrev cX5_init : ByteArray := prog_7_method_1_code
def yX5_init : MethodName := ⟨RX5, "<init>", "()V"⟩
abbrev cX5_spread : ByteArray := prog_7_method_2_code
def yX5_spread : MethodName := ⟨RX5, "spread", "(LBufferRoom$Timeline;)V"⟩
abbrev cX5_together : ByteArray := prog_7_method_3_code
def yX5_together : MethodName := ⟨RX5, "together", "(I)I"⟩
abbrev cX5_mostBehind : ByteArray := prog_7_method_4_code
def yX5_mostBehind : MethodName := ⟨RX5, "mostBehind", "(II)I"⟩
abbrev cX5_bestOf : ByteArray := prog_7_method_5_code
def yX5_bestOf : MethodName := ⟨RX5, "bestOf", "(I)I"⟩
def RX6 : String := "BufferRoom$Program"
def TX6 : u_T := fun k => match k with
  | 0 => ("BufferRoom$Program", "terms", "[I", true)
  | 1 => ("BufferRoom$Program", "numbers", "[I", true)
  | 2 => ("BufferRoom$Program", "letters", "[I", true)
  | 3 => ("BufferRoom$Program", "wanted", "[Z", true)
  | 4 => ("BufferRoom$Program", "writer", "[I", true)
  | 5 => ("BufferRoom$Program", "readers", "[I", true)
  | 6 => ("BufferRoom$Program", "steps", "I", false)
  | 7 => ("BufferRoom$Program", "kind", "[I", true)
  | 8 => ("BufferRoom$Program", "time", "[I", true)
  | 9 => ("BufferRoom$Program", "written", "[I", true)
  | 10 => ("BufferRoom$Program", "readCount", "[I", true)
  | _ => ("BufferRoom$Program", "reads", "[I", true)
def tyX6 : Nat → FieldType := fun k => match k with
  | 0 => .array .int
  | 1 => .array .int
  | 2 => .array .int
  | 3 => .array .boolean
  | 4 => .array .int
  | 5 => .array .int
  | 6 => .int
  | 7 => .array .int
  | 8 => .array .int
  | 9 => .array .int
  | 10 => .array .int
  | _ => .array .int
abbrev wsX60 : List Cond := u_ws RX6 TX6 12
theorem nmX6 : ∀ a, a < 12 → ∀ b, b < 12 → a ≠ b → (TX6 a).2.1 ≠ (TX6 b).2.1 := by decide +kernel
theorem tyX6_ok : ∀ k, k < 12 → parseFieldDescriptor (TX6 k).2.2.1 = some (tyX6 k) := by decide +kernel
abbrev cX6_init : ByteArray := prog_8_method_1_code
def yX6_init : MethodName := ⟨RX6, "<init>", "()V"⟩
abbrev cX6_clear : ByteArray := prog_8_method_2_code
def yX6_clear : MethodName := ⟨RX6, "clear", "()V"⟩
abbrev cX6_has : ByteArray := prog_8_method_3_code
def yX6_has : MethodName := ⟨RX6, "has", "(I)Z"⟩
abbrev cX6_hasStep : ByteArray := prog_8_method_4_code
def yX6_hasStep : MethodName := ⟨RX6, "hasStep", "(I)Z"⟩
abbrev cX6_addTerm : ByteArray := prog_8_method_5_code
def yX6_addTerm : MethodName := ⟨RX6, "addTerm", "(III)V"⟩
abbrev cX6_addStep : ByteArray := prog_8_method_6_code
def yX6_addStep : MethodName := ⟨RX6, "addStep", "(I)I"⟩
abbrev cX6_addRead : ByteArray := prog_8_method_7_code
def yX6_addRead : MethodName := ⟨RX6, "addRead", "(II)V"⟩
abbrev cX6_addWrite : ByteArray := prog_8_method_8_code
def yX6_addWrite : MethodName := ⟨RX6, "addWrite", "(II)V"⟩
abbrev cX6_isRead : ByteArray := prog_8_method_9_code
def yX6_isRead : MethodName := ⟨RX6, "isRead", "(II)Z"⟩
abbrev cX6_sizeOf : ByteArray := prog_8_method_10_code
def yX6_sizeOf : MethodName := ⟨RX6, "sizeOf", "(I[I)I"⟩
abbrev cX6_ticksOf : ByteArray := prog_8_method_11_code
def yX6_ticksOf : MethodName := ⟨RX6, "ticksOf", "(I)I"⟩
abbrev cX6_ticksOfAll : ByteArray := prog_8_method_12_code
def yX6_ticksOfAll : MethodName := ⟨RX6, "ticksOfAll", "()I"⟩
abbrev cX6_isReady : ByteArray := prog_8_method_13_code
def yX6_isReady : MethodName := ⟨RX6, "isReady", "(II)Z"⟩
def RX7 : String := "BufferRoom$Reader"
def TX7 : u_T := fun k => match k with
  | 0 => ("BufferRoom$Reader", "bytes", "[I", true)
  | 1 => ("BufferRoom$Reader", "length", "I", false)
  | 2 => ("BufferRoom$Reader", "at", "I", false)
  | 3 => ("BufferRoom$Reader", "here", "I", false)
  | _ => ("BufferRoom$Reader", "into", "LBufferRoom$Program;", false)
def tyX7 : Nat → FieldType := fun k => match k with
  | 0 => .array .int
  | 1 => .int
  | 2 => .int
  | 3 => .int
  | _ => .object "BufferRoom$Program"
abbrev wsX70 : List Cond := u_ws RX7 TX7 5
theorem nmX7 : ∀ a, a < 5 → ∀ b, b < 5 → a ≠ b → (TX7 a).2.1 ≠ (TX7 b).2.1 := by decide +kernel
theorem tyX7_ok : ∀ k, k < 5 → parseFieldDescriptor (TX7 k).2.2.1 = some (tyX7 k) := by decide +kernel
abbrev cX7_init : ByteArray := prog_9_method_1_code
def yX7_init : MethodName := ⟨RX7, "<init>", "()V"⟩
abbrev cX7_append : ByteArray := prog_9_method_2_code
def yX7_append : MethodName := ⟨RX7, "append", "(JI)V"⟩
abbrev cX7_readInto : ByteArray := prog_9_method_3_code
def yX7_readInto : MethodName := ⟨RX7, "readInto", "(LBufferRoom$Program;)I"⟩
abbrev cX7_readStatement : ByteArray := prog_9_method_4_code
def yX7_readStatement : MethodName := ⟨RX7, "readStatement", "()Z"⟩
abbrev cX7_readWanted : ByteArray := prog_9_method_5_code
def yX7_readWanted : MethodName := ⟨RX7, "readWanted", "(I)Z"⟩
abbrev cX7_readSize : ByteArray := prog_9_method_6_code
def yX7_readSize : MethodName := ⟨RX7, "readSize", "(I)Z"⟩
abbrev cX7_readTerm : ByteArray := prog_9_method_7_code
def yX7_readTerm : MethodName := ⟨RX7, "readTerm", "(I)Z"⟩
abbrev cX7_readStep : ByteArray := prog_9_method_8_code
def yX7_readStep : MethodName := ⟨RX7, "readStep", "(I)Z"⟩
abbrev cX7_readReads : ByteArray := prog_9_method_9_code
def yX7_readReads : MethodName := ⟨RX7, "readReads", "(I)V"⟩
abbrev cX7_readWrite : ByteArray := prog_9_method_10_code
def yX7_readWrite : MethodName := ⟨RX7, "readWrite", "(I)Z"⟩
abbrev cX7_readTime : ByteArray := prog_9_method_11_code
def yX7_readTime : MethodName := ⟨RX7, "readTime", "(I)Z"⟩
abbrev cX7_readNumber : ByteArray := prog_9_method_12_code
def yX7_readNumber : MethodName := ⟨RX7, "readNumber", "()I"⟩
abbrev cX7_skip : ByteArray := prog_9_method_13_code
def yX7_skip : MethodName := ⟨RX7, "skip", "(I)Z"⟩
abbrev cX7_digitHere : ByteArray := prog_9_method_14_code
def yX7_digitHere : MethodName := ⟨RX7, "digitHere", "()I"⟩
abbrev cX7_bufferHere : ByteArray := prog_9_method_15_code
def yX7_bufferHere : MethodName := ⟨RX7, "bufferHere", "()I"⟩
abbrev cX7_goTo : ByteArray := prog_9_method_16_code
def yX7_goTo : MethodName := ⟨RX7, "goTo", "(I)V"⟩
def RX8 : String := "BufferRoom$Sending"
def TX8 : u_T := fun k => match k with
  | 0 => ("BufferRoom$Sending", "found", "I", false)
  | 1 => ("BufferRoom$Sending", "times", "LBufferRoom$Timeline;", false)
  | _ => ("BufferRoom$Sending", "sheet", "LBufferRoom$Sheet;", false)
def tyX8 : Nat → FieldType := fun k => match k with
  | 0 => .int
  | 1 => .object "BufferRoom$Timeline"
  | _ => .object "BufferRoom$Sheet"
abbrev wsX80 : List Cond := u_ws RX8 TX8 3
theorem nmX8 : ∀ a, a < 3 → ∀ b, b < 3 → a ≠ b → (TX8 a).2.1 ≠ (TX8 b).2.1 := by decide +kernel
theorem tyX8_ok : ∀ k, k < 3 → parseFieldDescriptor (TX8 k).2.2.1 = some (tyX8 k) := by decide +kernel
abbrev cX8_init : ByteArray := prog_10_method_1_code
def yX8_init : MethodName := ⟨RX8, "<init>", "()V"⟩
abbrev cX8_find : ByteArray := prog_10_method_2_code
def yX8_find : MethodName := ⟨RX8, "find", "(LBufferRoom$Timeline;LBufferRoom$Sheet;II)I"⟩
abbrev cX8_buffersOf : ByteArray := prog_10_method_3_code
def yX8_buffersOf : MethodName := ⟨RX8, "buffersOf", "(I)I"⟩
abbrev cX8_timeOf : ByteArray := prog_10_method_4_code
def yX8_timeOf : MethodName := ⟨RX8, "timeOf", "(II)I"⟩
abbrev cX8_fits : ByteArray := prog_10_method_5_code
def yX8_fits : MethodName := ⟨RX8, "fits", "(II)Z"⟩
abbrev cX8_outAt : ByteArray := prog_10_method_6_code
def yX8_outAt : MethodName := ⟨RX8, "outAt", "(II)I"⟩
def RX9 : String := "BufferRoom$Sheet"
def TX9 : u_T := fun k => match k with
  | 0 => ("BufferRoom$Sheet", "sort", "I", false)
  | 1 => ("BufferRoom$Sheet", "size", "I", false)
  | _ => ("BufferRoom$Sheet", "numbers", "[I", true)
def tyX9 : Nat → FieldType := fun k => match k with
  | 0 => .int
  | 1 => .int
  | _ => .array .int
abbrev wsX90 : List Cond := u_ws RX9 TX9 3
theorem nmX9 : ∀ a, a < 3 → ∀ b, b < 3 → a ≠ b → (TX9 a).2.1 ≠ (TX9 b).2.1 := by decide +kernel
theorem tyX9_ok : ∀ k, k < 3 → parseFieldDescriptor (TX9 k).2.2.1 = some (tyX9 k) := by decide +kernel
abbrev cX9_init : ByteArray := prog_11_method_1_code
def yX9_init : MethodName := ⟨RX9, "<init>", "()V"⟩
abbrev cX9_become : ByteArray := prog_11_method_2_code
def yX9_become : MethodName := ⟨RX9, "become", "(II)V"⟩
abbrev cX9_put : ByteArray := prog_11_method_3_code
def yX9_put : MethodName := ⟨RX9, "put", "(II)V"⟩
abbrev cX9_spans : ByteArray := prog_11_method_4_code
def yX9_spans : MethodName := ⟨RX9, "spans", "(II)Z"⟩
def RX10 : String := "BufferRoom$Timeline"
def TX10 : u_T := fun k => match k with
  | 0 => ("BufferRoom$Timeline", "loads", "LBufferRoom$Loads;", true)
  | 1 => ("BufferRoom$Timeline", "program", "LBufferRoom$Program;", false)
  | 2 => ("BufferRoom$Timeline", "told", "Z", false)
  | 3 => ("BufferRoom$Timeline", "ordered", "Z", false)
  | 4 => ("BufferRoom$Timeline", "row", "[I", true)
  | 5 => ("BufferRoom$Timeline", "overs", "[I", true)
  | 6 => ("BufferRoom$Timeline", "held", "[I", true)
  | 7 => ("BufferRoom$Timeline", "from", "[I", true)
  | _ => ("BufferRoom$Timeline", "till", "[I", true)
def tyX10 : Nat → FieldType := fun k => match k with
  | 0 => .object "BufferRoom$Loads"
  | 1 => .object "BufferRoom$Program"
  | 2 => .boolean
  | 3 => .boolean
  | 4 => .array .int
  | 5 => .array .int
  | 6 => .array .int
  | 7 => .array .int
  | _ => .array .int
abbrev wsX100 : List Cond := u_ws RX10 TX10 9
theorem nmX10 : ∀ a, a < 9 → ∀ b, b < 9 → a ≠ b → (TX10 a).2.1 ≠ (TX10 b).2.1 := by decide +kernel
theorem tyX10_ok : ∀ k, k < 9 → parseFieldDescriptor (TX10 k).2.2.1 = some (tyX10 k) := by decide +kernel
abbrev cX10_init : ByteArray := prog_12_method_1_code
def yX10_init : MethodName := ⟨RX10, "<init>", "()V"⟩
abbrev cX10_renew : ByteArray := prog_12_method_2_code
def yX10_renew : MethodName := ⟨RX10, "renew", "(LBufferRoom$Program;[I)V"⟩
abbrev cX10_firstWrong : ByteArray := prog_12_method_3_code
def yX10_firstWrong : MethodName := ⟨RX10, "firstWrong", "(LBufferRoom$Program;LBufferRoom$Sheet;)I"⟩
abbrev cX10_tell : ByteArray := prog_12_method_4_code
def yX10_tell : MethodName := ⟨RX10, "tell", "(LBufferRoom$Sheet;)V"⟩
abbrev cX10_findOrder : ByteArray := prog_12_method_5_code
def yX10_findOrder : MethodName := ⟨RX10, "findOrder", "()Z"⟩
abbrev cX10_leastReady : ByteArray := prog_12_method_6_code
def yX10_leastReady : MethodName := ⟨RX10, "leastReady", "(I)I"⟩
abbrev cX10_findLives : ByteArray := prog_12_method_7_code
def yX10_findLives : MethodName := ⟨RX10, "findLives", "()V"⟩
abbrev cX10_findLoads : ByteArray := prog_12_method_8_code
def yX10_findLoads : MethodName := ⟨RX10, "findLoads", "()V"⟩
abbrev cX10_placeOfPeak : ByteArray := prog_12_method_9_code
def yX10_placeOfPeak : MethodName := ⟨RX10, "placeOfPeak", "()I"⟩
abbrev cX10_isAlive : ByteArray := prog_12_method_10_code
def yX10_isAlive : MethodName := ⟨RX10, "isAlive", "(I)Z"⟩
abbrev cX10_areAlive : ByteArray := prog_12_method_11_code
def yX10_areAlive : MethodName := ⟨RX10, "areAlive", "(II)Z"⟩
abbrev cX10_hinder : ByteArray := prog_12_method_12_code
def yX10_hinder : MethodName := ⟨RX10, "hinder", "(II)Z"⟩
abbrev cX10_idlePlaces : ByteArray := prog_12_method_13_code
def yX10_idlePlaces : MethodName := ⟨RX10, "idlePlaces", "(I)I"⟩
def RX11 : String := "BufferRoom"
def TX11 : u_T := fun k => match k with
  | 0 => ("BufferRoom", "reader", "LBufferRoom$Reader;", true)
  | 1 => ("BufferRoom", "program", "LBufferRoom$Program;", false)
  | 2 => ("BufferRoom", "draft", "LBufferRoom$Program;", false)
  | 3 => ("BufferRoom", "times", "LBufferRoom$Timeline;", true)
  | 4 => ("BufferRoom", "orders", "LBufferRoom$Orders;", true)
  | 5 => ("BufferRoom", "heights", "LBufferRoom$Heights;", true)
  | 6 => ("BufferRoom", "plan", "[I", true)
  | 7 => ("BufferRoom", "sending", "LBufferRoom$Sending;", true)
  | 8 => ("BufferRoom", "pairing", "LBufferRoom$Pairing;", true)
  | 9 => ("BufferRoom", "floor", "LBufferRoom$Floor;", true)
  | 10 => ("BufferRoom", "kept", "LBufferRoom$Floor;", true)
  | 11 => ("BufferRoom", "isKept", "Z", false)
  | 12 => ("BufferRoom", "sheets", "[LBufferRoom$Sheet;", true)
  | _ => ("BufferRoom", "programs", "I", false)
def tyX11 : Nat → FieldType := fun k => match k with
  | 0 => .object "BufferRoom$Reader"
  | 1 => .object "BufferRoom$Program"
  | 2 => .object "BufferRoom$Program"
  | 3 => .object "BufferRoom$Timeline"
  | 4 => .object "BufferRoom$Orders"
  | 5 => .object "BufferRoom$Heights"
  | 6 => .array .int
  | 7 => .object "BufferRoom$Sending"
  | 8 => .object "BufferRoom$Pairing"
  | 9 => .object "BufferRoom$Floor"
  | 10 => .object "BufferRoom$Floor"
  | 11 => .boolean
  | 12 => .array (.object "BufferRoom$Sheet")
  | _ => .int
abbrev wsX110 : List Cond := u_ws RX11 TX11 14
theorem nmX11 : ∀ a, a < 14 → ∀ b, b < 14 → a ≠ b → (TX11 a).2.1 ≠ (TX11 b).2.1 := by decide +kernel
theorem tyX11_ok : ∀ k, k < 14 → parseFieldDescriptor (TX11 k).2.2.1 = some (tyX11 k) := by decide +kernel
abbrev cX11_init : ByteArray := prog_1_method_1_code
def yX11_init : MethodName := ⟨RX11, "<init>", "()V"⟩
abbrev cX11_feed : ByteArray := prog_1_method_2_code
def yX11_feed : MethodName := ⟨RX11, "feed", "(JI)I"⟩
abbrev cX11_program : ByteArray := prog_1_method_3_code
def yX11_program : MethodName := ⟨RX11, "program", "()I"⟩
abbrev cX11_letter : ByteArray := prog_1_method_4_code
def yX11_letter : MethodName := ⟨RX11, "letter", "(II)I"⟩
abbrev cX11_order : ByteArray := prog_1_method_5_code
def yX11_order : MethodName := ⟨RX11, "order", "(I)I"⟩
abbrev cX11_orderTold : ByteArray := prog_1_method_6_code
def yX11_orderTold : MethodName := ⟨RX11, "orderTold", "(I)I"⟩
abbrev cX11_load : ByteArray := prog_1_method_7_code
def yX11_load : MethodName := ⟨RX11, "load", "(I)I"⟩
abbrev cX11_over : ByteArray := prog_1_method_8_code
def yX11_over : MethodName := ⟨RX11, "over", "(I)I"⟩
abbrev cX11_peak : ByteArray := prog_1_method_9_code
def yX11_peak : MethodName := ⟨RX11, "peak", "(I)I"⟩
abbrev cX11_bufferTold : ByteArray := prog_1_method_10_code
def yX11_bufferTold : MethodName := ⟨RX11, "bufferTold", "(II)I"⟩
abbrev cX11_stepTold : ByteArray := prog_1_method_11_code
def yX11_stepTold : MethodName := ⟨RX11, "stepTold", "(II)I"⟩
abbrev cX11_leastPeak : ByteArray := prog_1_method_12_code
def yX11_leastPeak : MethodName := ⟨RX11, "leastPeak", "(I)I"⟩
abbrev cX11_height : ByteArray := prog_1_method_13_code
def yX11_height : MethodName := ⟨RX11, "height", "(I)I"⟩
abbrev cX11_heightAt : ByteArray := prog_1_method_14_code
def yX11_heightAt : MethodName := ⟨RX11, "heightAt", "(I)I"⟩
abbrev cX11_lay : ByteArray := prog_1_method_15_code
def yX11_lay : MethodName := ⟨RX11, "lay", "(II)I"⟩
abbrev cX11_clash : ByteArray := prog_1_method_16_code
def yX11_clash : MethodName := ⟨RX11, "clash", "()I"⟩
abbrev cX11_sendOut : ByteArray := prog_1_method_17_code
def yX11_sendOut : MethodName := ⟨RX11, "sendOut", "(III)I"⟩
abbrev cX11_outs : ByteArray := prog_1_method_18_code
def yX11_outs : MethodName := ⟨RX11, "outs", "()I"⟩
abbrev cX11_pair : ByteArray := prog_1_method_19_code
def yX11_pair : MethodName := ⟨RX11, "pair", "(I)I"⟩
abbrev cX11_bestPhase : ByteArray := prog_1_method_20_code
def yX11_bestPhase : MethodName := ⟨RX11, "bestPhase", "(I)I"⟩
abbrev cX11_rule : ByteArray := prog_1_method_21_code
def yX11_rule : MethodName := ⟨RX11, "rule", "(I)I"⟩
abbrev cX11_go : ByteArray := prog_1_method_22_code
def yX11_go : MethodName := ⟨RX11, "go", "(I)I"⟩
abbrev cX11_compact : ByteArray := prog_1_method_23_code
def yX11_compact : MethodName := ⟨RX11, "compact", "()I"⟩
abbrev cX11_roomTold : ByteArray := prog_1_method_24_code
def yX11_roomTold : MethodName := ⟨RX11, "roomTold", "(II)I"⟩
abbrev cX11_holder : ByteArray := prog_1_method_25_code
def yX11_holder : MethodName := ⟨RX11, "holder", "(I)I"⟩
abbrev cX11_again : ByteArray := prog_1_method_26_code
def yX11_again : MethodName := ⟨RX11, "again", "()I"⟩
abbrev cX11_image : ByteArray := prog_1_method_27_code
def yX11_image : MethodName := ⟨RX11, "image", "()I"⟩
abbrev cX11_back : ByteArray := prog_1_method_28_code
def yX11_back : MethodName := ⟨RX11, "back", "()I"⟩
abbrev cX11_kindTold : ByteArray := prog_1_method_29_code
def yX11_kindTold : MethodName := ⟨RX11, "kindTold", "(IIII)I"⟩
abbrev cX11_count : ByteArray := prog_1_method_30_code
def yX11_count : MethodName := ⟨RX11, "count", "(I)I"⟩
abbrev cX11_sheet : ByteArray := prog_1_method_31_code
def yX11_sheet : MethodName := ⟨RX11, "sheet", "(III)I"⟩
abbrev cX11_cell : ByteArray := prog_1_method_32_code
def yX11_cell : MethodName := ⟨RX11, "cell", "(III)I"⟩
abbrev cX11_copy : ByteArray := prog_1_method_33_code
def yX11_copy : MethodName := ⟨RX11, "copy", "(IIIII)I"⟩
abbrev cX11_lays : ByteArray := prog_1_method_34_code
def yX11_lays : MethodName := ⟨RX11, "lays", "(IIII)I"⟩
abbrev cX11_taken : ByteArray := prog_1_method_35_code
def yX11_taken : MethodName := ⟨RX11, "taken", "(III)I"⟩
abbrev cX11_isSheet : ByteArray := prog_1_method_36_code
def yX11_isSheet : MethodName := ⟨RX11, "isSheet", "(I)Z"⟩
abbrev cX11_isSort : ByteArray := prog_1_method_37_code
def yX11_isSort : MethodName := ⟨RX11, "isSort", "(I)Z"⟩
abbrev cX11_isPlanned : ByteArray := prog_1_method_38_code
def yX11_isPlanned : MethodName := ⟨RX11, "isPlanned", "(I)Z"⟩
abbrev cX11_shareCells : ByteArray := prog_1_method_39_code
def yX11_shareCells : MethodName := ⟨RX11, "shareCells", "(IIII)Z"⟩
abbrev cX11_begin : ByteArray := prog_1_method_40_code
def yX11_begin : MethodName := ⟨RX11, "begin", "()V"⟩
abbrev cX11_renew : ByteArray := prog_1_method_41_code
def yX11_renew : MethodName := ⟨RX11, "renew", "()V"⟩
abbrev cX11_refusalOfPlace : ByteArray := prog_1_method_42_code
def yX11_refusalOfPlace : MethodName := ⟨RX11, "refusalOfPlace", "(I)I"⟩
abbrev cX11_refusalOfBuffers : ByteArray := prog_1_method_43_code
def yX11_refusalOfBuffers : MethodName := ⟨RX11, "refusalOfBuffers", "(I)I"⟩
abbrev cX11_plannedTogether : ByteArray := prog_1_method_44_code
def yX11_plannedTogether : MethodName := ⟨RX11, "plannedTogether", "(II)Z"⟩
def RX12 : String := "BufferRoomModel"
def TX12 : u_T := fun k => match k with
  | 0 => ("BufferRoomModel", "tape", "[I", true)
  | 1 => ("BufferRoomModel", "taped", "I", false)
  | 2 => ("BufferRoomModel", "taken", "I", false)
  | 3 => ("BufferRoomModel", "worth", "[I", true)
  | 4 => ("BufferRoomModel", "steps", "I", false)
  | 5 => ("BufferRoomModel", "isThere", "[Z", true)
  | 6 => ("BufferRoomModel", "terms", "[I", true)
  | 7 => ("BufferRoomModel", "termNumber", "[I", true)
  | 8 => ("BufferRoomModel", "termLetter", "[I", true)
  | 9 => ("BufferRoomModel", "wanted", "[Z", true)
  | 10 => ("BufferRoomModel", "kind", "[I", true)
  | 11 => ("BufferRoomModel", "time", "[I", true)
  | 12 => ("BufferRoomModel", "writes", "[I", true)
  | 13 => ("BufferRoomModel", "reads", "[I", true)
  | 14 => ("BufferRoomModel", "readOf", "[I", true)
  | 15 => ("BufferRoomModel", "newSteps", "I", false)
  | 16 => ("BufferRoomModel", "newThere", "[Z", true)
  | 17 => ("BufferRoomModel", "newTerms", "[I", true)
  | 18 => ("BufferRoomModel", "newNumber", "[I", true)
  | 19 => ("BufferRoomModel", "newLetter", "[I", true)
  | 20 => ("BufferRoomModel", "newWanted", "[Z", true)
  | 21 => ("BufferRoomModel", "newKind", "[I", true)
  | 22 => ("BufferRoomModel", "newTime", "[I", true)
  | 23 => ("BufferRoomModel", "newWrites", "[I", true)
  | 24 => ("BufferRoomModel", "newReads", "[I", true)
  | 25 => ("BufferRoomModel", "newReadOf", "[I", true)
  | 26 => ("BufferRoomModel", "isTold", "Z", false)
  | 27 => ("BufferRoomModel", "toldOrder", "[I", true)
  | 28 => ("BufferRoomModel", "plan", "[I", true)
  | 29 => ("BufferRoomModel", "outSet", "I", false)
  | 30 => ("BufferRoomModel", "heights", "I", false)
  | 31 => ("BufferRoomModel", "heightOf", "[I", true)
  | 32 => ("BufferRoomModel", "place", "I", false)
  | 33 => ("BufferRoomModel", "high", "I", false)
  | 34 => ("BufferRoomModel", "rule", "I", false)
  | 35 => ("BufferRoomModel", "lies", "[I", true)
  | 36 => ("BufferRoomModel", "hasImage", "Z", false)
  | 37 => ("BufferRoomModel", "imagePlace", "I", false)
  | 38 => ("BufferRoomModel", "imageHigh", "I", false)
  | 39 => ("BufferRoomModel", "imageRule", "I", false)
  | 40 => ("BufferRoomModel", "imageLies", "[I", true)
  | 41 => ("BufferRoomModel", "imageWorth", "[I", true)
  | 42 => ("BufferRoomModel", "sheetSort", "[I", true)
  | 43 => ("BufferRoomModel", "sheetSize", "[I", true)
  | 44 => ("BufferRoomModel", "cells", "[I", true)
  | 45 => ("BufferRoomModel", "at", "I", false)
  | 46 => ("BufferRoomModel", "ord", "[I", true)
  | 47 => ("BufferRoomModel", "from", "[I", true)
  | 48 => ("BufferRoomModel", "till", "[I", true)
  | 49 => ("BufferRoomModel", "best", "[I", true)
  | 50 => ("BufferRoomModel", "row", "[I", true)
  | 51 => ("BufferRoomModel", "laid", "[I", true)
  | 52 => ("BufferRoomModel", "held", "[I", true)
  | _ => ("BufferRoomModel", "ticksAll", "I", false)
def tyX12 : Nat → FieldType := fun k => match k with
  | 0 => .array .int
  | 1 => .int
  | 2 => .int
  | 3 => .array .int
  | 4 => .int
  | 5 => .array .boolean
  | 6 => .array .int
  | 7 => .array .int
  | 8 => .array .int
  | 9 => .array .boolean
  | 10 => .array .int
  | 11 => .array .int
  | 12 => .array .int
  | 13 => .array .int
  | 14 => .array .int
  | 15 => .int
  | 16 => .array .boolean
  | 17 => .array .int
  | 18 => .array .int
  | 19 => .array .int
  | 20 => .array .boolean
  | 21 => .array .int
  | 22 => .array .int
  | 23 => .array .int
  | 24 => .array .int
  | 25 => .array .int
  | 26 => .boolean
  | 27 => .array .int
  | 28 => .array .int
  | 29 => .int
  | 30 => .int
  | 31 => .array .int
  | 32 => .int
  | 33 => .int
  | 34 => .int
  | 35 => .array .int
  | 36 => .boolean
  | 37 => .int
  | 38 => .int
  | 39 => .int
  | 40 => .array .int
  | 41 => .array .int
  | 42 => .array .int
  | 43 => .array .int
  | 44 => .array .int
  | 45 => .int
  | 46 => .array .int
  | 47 => .array .int
  | 48 => .array .int
  | 49 => .array .int
  | 50 => .array .int
  | 51 => .array .int
  | 52 => .array .int
  | _ => .int
abbrev wsX120 : List Cond := u_ws RX12 TX12 54
theorem nmX12 : ∀ a, a < 54 → ∀ b, b < 54 → a ≠ b → (TX12 a).2.1 ≠ (TX12 b).2.1 := by decide +kernel
theorem tyX12_ok : ∀ k, k < 54 → parseFieldDescriptor (TX12 k).2.2.1 = some (tyX12 k) := by decide +kernel
abbrev cX12_init : ByteArray := prog_14_method_1_code
def yX12_init : MethodName := ⟨RX12, "<init>", "()V"⟩
abbrev cX12_in : ByteArray := prog_14_method_3_code
def yX12_in : MethodName := ⟨RX12, "in", "(III)Z"⟩
abbrev cX12_feed : ByteArray := prog_14_method_4_code
def yX12_feed : MethodName := ⟨RX12, "feed", "(JI)I"⟩
abbrev cX12_here : ByteArray := prog_14_method_5_code
def yX12_here : MethodName := ⟨RX12, "here", "()I"⟩
abbrev cX12_number : ByteArray := prog_14_method_6_code
def yX12_number : MethodName := ⟨RX12, "number", "()I"⟩
abbrev cX12_eats : ByteArray := prog_14_method_7_code
def yX12_eats : MethodName := ⟨RX12, "eats", "(I)Z"⟩
abbrev cX12_readsSize : ByteArray := prog_14_method_8_code
def yX12_readsSize : MethodName := ⟨RX12, "readsSize", "(I)Z"⟩
abbrev cX12_isWritten : ByteArray := prog_14_method_9_code
def yX12_isWritten : MethodName := ⟨RX12, "isWritten", "(I)Z"⟩
abbrev cX12_isRead : ByteArray := prog_14_method_10_code
def yX12_isRead : MethodName := ⟨RX12, "isRead", "(III)Z"⟩
abbrev cX12_readsStep : ByteArray := prog_14_method_11_code
def yX12_readsStep : MethodName := ⟨RX12, "readsStep", "()Z"⟩
abbrev cX12_readsOne : ByteArray := prog_14_method_12_code
def yX12_readsOne : MethodName := ⟨RX12, "readsOne", "()Z"⟩
abbrev cX12_begins : ByteArray := prog_14_method_13_code
def yX12_begins : MethodName := ⟨RX12, "begins", "()V"⟩
abbrev cX12_takes : ByteArray := prog_14_method_14_code
def yX12_takes : MethodName := ⟨RX12, "takes", "()V"⟩
abbrev cX12_program : ByteArray := prog_14_method_15_code
def yX12_program : MethodName := ⟨RX12, "program", "()I"⟩
abbrev cX12_letter : ByteArray := prog_14_method_16_code
def yX12_letter : MethodName := ⟨RX12, "letter", "(II)I"⟩
abbrev cX12_isBuffer : ByteArray := prog_14_method_17_code
def yX12_isBuffer : MethodName := ⟨RX12, "isBuffer", "(I)Z"⟩
abbrev cX12_sizeOf : ByteArray := prog_14_method_18_code
def yX12_sizeOf : MethodName := ⟨RX12, "sizeOf", "(I)I"⟩
abbrev cX12_ticksOf : ByteArray := prog_14_method_19_code
def yX12_ticksOf : MethodName := ⟨RX12, "ticksOf", "(II)I"⟩
abbrev cX12_scratchOf : ByteArray := prog_14_method_20_code
def yX12_scratchOf : MethodName := ⟨RX12, "scratchOf", "(III)I"⟩
abbrev cX12_isOver : ByteArray := prog_14_method_21_code
def yX12_isOver : MethodName := ⟨RX12, "isOver", "(I)Z"⟩
abbrev cX12_kindTold : ByteArray := prog_14_method_22_code
def yX12_kindTold : MethodName := ⟨RX12, "kindTold", "(IIII)I"⟩
abbrev cX12_scratch : ByteArray := prog_14_method_23_code
def yX12_scratch : MethodName := ⟨RX12, "scratch", "(I)I"⟩
abbrev cX12_doesRead : ByteArray := prog_14_method_24_code
def yX12_doesRead : MethodName := ⟨RX12, "doesRead", "(II)Z"⟩
abbrev cX12_writerOf : ByteArray := prog_14_method_25_code
def yX12_writerOf : MethodName := ⟨RX12, "writerOf", "(I)I"⟩
abbrev cX12_isReady : ByteArray := prog_14_method_26_code
def yX12_isReady : MethodName := ⟨RX12, "isReady", "(II)Z"⟩
abbrev cX12_orders : ByteArray := prog_14_method_27_code
def yX12_orders : MethodName := ⟨RX12, "orders", "()Z"⟩
abbrev cX12_lives : ByteArray := prog_14_method_28_code
def yX12_lives : MethodName := ⟨RX12, "lives", "(I)V"⟩
abbrev cX12_isAlive : ByteArray := prog_14_method_29_code
def yX12_isAlive : MethodName := ⟨RX12, "isAlive", "(II)Z"⟩
abbrev cX12_order : ByteArray := prog_14_method_30_code
def yX12_order : MethodName := ⟨RX12, "order", "(I)I"⟩
abbrev cX12_isPlace : ByteArray := prog_14_method_31_code
def yX12_isPlace : MethodName := ⟨RX12, "isPlace", "(I)Z"⟩
abbrev cX12_orderTold : ByteArray := prog_14_method_32_code
def yX12_orderTold : MethodName := ⟨RX12, "orderTold", "(I)I"⟩
abbrev cX12_overAt : ByteArray := prog_14_method_33_code
def yX12_overAt : MethodName := ⟨RX12, "overAt", "(I)I"⟩
abbrev cX12_loadAt : ByteArray := prog_14_method_34_code
def yX12_loadAt : MethodName := ⟨RX12, "loadAt", "(I)I"⟩
abbrev cX12_load : ByteArray := prog_14_method_35_code
def yX12_load : MethodName := ⟨RX12, "load", "(I)I"⟩
abbrev cX12_over : ByteArray := prog_14_method_36_code
def yX12_over : MethodName := ⟨RX12, "over", "(I)I"⟩
abbrev cX12_peak : ByteArray := prog_14_method_37_code
def yX12_peak : MethodName := ⟨RX12, "peak", "(I)I"⟩
abbrev cX12_bufferTold : ByteArray := prog_14_method_38_code
def yX12_bufferTold : MethodName := ⟨RX12, "bufferTold", "(II)I"⟩
abbrev cX12_stepTold : ByteArray := prog_14_method_39_code
def yX12_stepTold : MethodName := ⟨RX12, "stepTold", "(II)I"⟩
abbrev cX12_isNeeded : ByteArray := prog_14_method_40_code
def yX12_isNeeded : MethodName := ⟨RX12, "isNeeded", "(II)Z"⟩
abbrev cX12_loadOf : ByteArray := prog_14_method_41_code
def yX12_loadOf : MethodName := ⟨RX12, "loadOf", "(II)I"⟩
abbrev cX12_peakBy : ByteArray := prog_14_method_42_code
def yX12_peakBy : MethodName := ⟨RX12, "peakBy", "(II)I"⟩
abbrev cX12_leastPeak : ByteArray := prog_14_method_43_code
def yX12_leastPeak : MethodName := ⟨RX12, "leastPeak", "(I)I"⟩
abbrev cX12_shares : ByteArray := prog_14_method_44_code
def yX12_shares : MethodName := ⟨RX12, "shares", "(II)Z"⟩
abbrev cX12_meet : ByteArray := prog_14_method_45_code
def yX12_meet : MethodName := ⟨RX12, "meet", "(IIII)Z"⟩
abbrev cX12_laysRow : ByteArray := prog_14_method_46_code
def yX12_laysRow : MethodName := ⟨RX12, "laysRow", "(II)I"⟩
abbrev cX12_nextRow : ByteArray := prog_14_method_47_code
def yX12_nextRow : MethodName := ⟨RX12, "nextRow", "(I)Z"⟩
abbrev cX12_barred : ByteArray := prog_14_method_48_code
def yX12_barred : MethodName := ⟨RX12, "barred", "(I)I"⟩
abbrev cX12_height : ByteArray := prog_14_method_49_code
def yX12_height : MethodName := ⟨RX12, "height", "(I)I"⟩
abbrev cX12_heightAt : ByteArray := prog_14_method_50_code
def yX12_heightAt : MethodName := ⟨RX12, "heightAt", "(I)I"⟩
abbrev cX12_lay : ByteArray := prog_14_method_51_code
def yX12_lay : MethodName := ⟨RX12, "lay", "(II)I"⟩
abbrev cX12_doClash : ByteArray := prog_14_method_52_code
def yX12_doClash : MethodName := ⟨RX12, "doClash", "(II)Z"⟩
abbrev cX12_clash : ByteArray := prog_14_method_53_code
def yX12_clash : MethodName := ⟨RX12, "clash", "()I"⟩
abbrev cX12_isOut : ByteArray := prog_14_method_54_code
def yX12_isOut : MethodName := ⟨RX12, "isOut", "(II)Z"⟩
abbrev cX12_timeOut : ByteArray := prog_14_method_55_code
def yX12_timeOut : MethodName := ⟨RX12, "timeOut", "(II)I"⟩
abbrev cX12_fits : ByteArray := prog_14_method_56_code
def yX12_fits : MethodName := ⟨RX12, "fits", "(II)Z"⟩
abbrev cX12_sendOut : ByteArray := prog_14_method_57_code
def yX12_sendOut : MethodName := ⟨RX12, "sendOut", "(III)I"⟩
abbrev cX12_outs : ByteArray := prog_14_method_58_code
def yX12_outs : MethodName := ⟨RX12, "outs", "()I"⟩
abbrev cX12_holds : ByteArray := prog_14_method_59_code
def yX12_holds : MethodName := ⟨RX12, "holds", "()V"⟩
abbrev cX12_pairBy : ByteArray := prog_14_method_60_code
def yX12_pairBy : MethodName := ⟨RX12, "pairBy", "(I)I"⟩
abbrev cX12_pair : ByteArray := prog_14_method_61_code
def yX12_pair : MethodName := ⟨RX12, "pair", "(I)I"⟩
abbrev cX12_bestPhase : ByteArray := prog_14_method_62_code
def yX12_bestPhase : MethodName := ⟨RX12, "bestPhase", "(I)I"⟩
abbrev cX12_rule : ByteArray := prog_14_method_63_code
def yX12_rule : MethodName := ⟨RX12, "rule", "(I)I"⟩
abbrev cX12_top : ByteArray := prog_14_method_64_code
def yX12_top : MethodName := ⟨RX12, "top", "()I"⟩
abbrev cX12_nextAbove : ByteArray := prog_14_method_65_code
def yX12_nextAbove : MethodName := ⟨RX12, "nextAbove", "(I)I"⟩
abbrev cX12_puts : ByteArray := prog_14_method_66_code
def yX12_puts : MethodName := ⟨RX12, "puts", "(I)V"⟩
abbrev cX12_endAt : ByteArray := prog_14_method_67_code
def yX12_endAt : MethodName := ⟨RX12, "endAt", "(I)I"⟩
abbrev cX12_goes : ByteArray := prog_14_method_68_code
def yX12_goes : MethodName := ⟨RX12, "goes", "()V"⟩
abbrev cX12_go : ByteArray := prog_14_method_69_code
def yX12_go : MethodName := ⟨RX12, "go", "(I)I"⟩
abbrev cX12_compact : ByteArray := prog_14_method_70_code
def yX12_compact : MethodName := ⟨RX12, "compact", "()I"⟩
abbrev cX12_roomTold : ByteArray := prog_14_method_71_code
def yX12_roomTold : MethodName := ⟨RX12, "roomTold", "(II)I"⟩
abbrev cX12_holder : ByteArray := prog_14_method_72_code
def yX12_holder : MethodName := ⟨RX12, "holder", "(I)I"⟩
abbrev cX12_again : ByteArray := prog_14_method_73_code
def yX12_again : MethodName := ⟨RX12, "again", "()I"⟩
abbrev cX12_image : ByteArray := prog_14_method_74_code
def yX12_image : MethodName := ⟨RX12, "image", "()I"⟩
abbrev cX12_back : ByteArray := prog_14_method_75_code
def yX12_back : MethodName := ⟨RX12, "back", "()I"⟩
abbrev cX12_count : ByteArray := prog_14_method_76_code
def yX12_count : MethodName := ⟨RX12, "count", "(I)I"⟩
abbrev cX12_sheet : ByteArray := prog_14_method_77_code
def yX12_sheet : MethodName := ⟨RX12, "sheet", "(III)I"⟩
abbrev cX12_cell : ByteArray := prog_14_method_78_code
def yX12_cell : MethodName := ⟨RX12, "cell", "(III)I"⟩
abbrev cX12_copy : ByteArray := prog_14_method_79_code
def yX12_copy : MethodName := ⟨RX12, "copy", "(IIIII)I"⟩
abbrev cX12_lays : ByteArray := prog_14_method_80_code
def yX12_lays : MethodName := ⟨RX12, "lays", "(IIII)I"⟩
abbrev cX12_isUnder : ByteArray := prog_14_method_81_code
def yX12_isUnder : MethodName := ⟨RX12, "isUnder", "(II)Z"⟩
abbrev cX12_taken : ByteArray := prog_14_method_82_code
def yX12_taken : MethodName := ⟨RX12, "taken", "(III)I"⟩
def RJ6 : String := "java/lang/Integer"
abbrev cJ6_bitCount_0f7a4 : ByteArray := prog_15_method_49_code
def yJ6_bitCount_0f7a4 : MethodName := ⟨RJ6, "bitCount", "(I)I"⟩
def RJ9 : String := "java/lang/Math"
abbrev cJ9_max_7cf53 : ByteArray := prog_16_method_65_code
def yJ9_max_7cf53 : MethodName := ⟨RJ9, "max", "(II)I"⟩
abbrev cJ9_min_7cf53 : ByteArray := prog_16_method_69_code
def yJ9_min_7cf53 : MethodName := ⟨RJ9, "min", "(II)I"⟩
def RJ10 : String := "java/lang/System"
def RL : String := "BufferRoomLaw"
abbrev vwCl : List vw_C := [(RX0, TX0, 5), (RX1, TX1, 6), (RX3, TX3, 4), (RX4, TX4, 4), (RX5, TX5, 3), (RX6, TX6, 12), (RX7, TX7, 5), (RX8, TX8, 3), (RX9, TX9, 3), (RX10, TX10, 9), (RX11, TX11, 14), (RX12, TX12, 54)]
abbrev abMI : Type := MethodName × ByteArray × Nat × Option FieldType × Nat × Nat × Nat × Nat
def abCN : List String := [RX0, RX1, RX2, RX3, RX4, RX5, RX6, RX7, RX8, RX9, RX10, RX11, RX12, RL, RJ6, RJ9, RJ10]
def abMT : List abMI := [
  (yX0_init, cX0_init, 1, none, 0, 0, 378, 93),
  (yX0_empty, cX0_empty, 2, none, 0, 0, 434, 93),
  (yX0_takeFrom, cX0_takeFrom, 2, none, 1, 0, 960, 93),
  (yX0_walk, cX0_walk, 5, none, 1, 0, 894, 93),
  (yX0_putGiven, cX0_putGiven, 3, none, 1, 0, 898, 93),
  (yX0_putWritten, cX0_putWritten, 4, none, 3, 0, 918, 93),
  (yX0_placeFor, cX0_placeFor, 9, (some .int), 2, 0, 906, 93),
  (yX0_isBetter, cX0_isBetter, 3, (some .boolean), 2, 0, 914, 93),
  (yX0_lowestFrom, cX0_lowestFrom, 5, (some .int), 2, 0, 910, 93),
  (yX0_top, cX0_top, 4, (some .int), 1, 0, 922, 93),
  (yX0_moveDown, cX0_moveDown, 7, (some .int), 1, 0, 931, 93),
  (yX0_lowestBut, cX0_lowestBut, 4, (some .int), 1, 0, 935, 93),
  (yX0_whoHolds, cX0_whoHolds, 4, (some .int), 2, 0, 948, 93),
  (yX1_init, cX1_init, 1, none, 0, 1, 318, 90),
  (yX1_find, cX1_find, 3, (some .int), 2, 1, 755, 90),
  (yX1_extend, cX1_extend, 5, none, 3, 1, 760, 90),
  (yX1_put, cX1_put, 5, none, 4, 1, 767, 90),
  (yX1_upperEnd, cX1_upperEnd, 2, (some .int), 1, 1, 786, 90),
  (yX1_lowestPlace, cX1_lowestPlace, 6, (some .int), 2, 1, 771, 90),
  (yX1_firstHit, cX1_firstHit, 8, (some .int), 3, 1, 775, 90),
  (yX2_isKind, cX2_isKind, 1, (some .boolean), 1, 2, 465, 95),
  (yX2_isOne, cX2_isOne, 4, (some .boolean), 2, 2, 462, 95),
  (yX2_isOver, cX2_isOver, 1, (some .boolean), 1, 2, 459, 95),
  (yX2_ticks, cX2_ticks, 2, (some .int), 2, 2, 698, 95),
  (yX2_scratch, cX2_scratch, 3, (some .int), 3, 2, 453, 95),
  (yX3_init, cX3_init, 1, none, 0, 3, 220, 88),
  (yX3_measure, cX3_measure, 6, none, 2, 3, 446, 88),
  (yX3_overAt, cX3_overAt, 8, (some .int), 2, 3, 491, 88),
  (yX3_isFirst, cX3_isFirst, 3, (some .boolean), 2, 3, 495, 88),
  (yX3_heldAfter, cX3_heldAfter, 6, (some .int), 1, 3, 499, 88),
  (yX3_loadAt, cX3_loadAt, 7, (some .int), 3, 3, 503, 88),
  (yX4_init, cX4_init, 1, none, 0, 4, 295, 89),
  (yX4_find, cX4_find, 4, none, 1, 4, 721, 89),
  (yX4_leastFrom, cX4_leastFrom, 6, (some .int), 2, 4, 725, 89),
  (yX4_peakThrough, cX4_peakThrough, 5, (some .int), 4, 4, 732, 89),
  (yX4_findRow, cX4_findRow, 5, none, 1, 4, 739, 89),
  (yX4_firstWithin, cX4_firstWithin, 5, (some .int), 2, 4, 743, 89),
  (yX5_init, cX5_init, 1, none, 0, 5, 362, 92),
  (yX5_spread, cX5_spread, 4, none, 1, 5, 862, 92),
  (yX5_together, cX5_together, 4, (some .int), 1, 5, 868, 92),
  (yX5_mostBehind, cX5_mostBehind, 6, (some .int), 2, 5, 872, 92),
  (yX5_bestOf, cX5_bestOf, 6, (some .int), 1, 5, 881, 92),
  (yX6_init, cX6_init, 1, none, 0, 6, 136, 86),
  (yX6_clear, cX6_clear, 2, none, 0, 6, 209, 86),
  (yX6_has, cX6_has, 2, (some .boolean), 1, 6, 600, 86),
  (yX6_hasStep, cX6_hasStep, 2, (some .boolean), 1, 6, 663, 86),
  (yX6_addTerm, cX6_addTerm, 5, none, 3, 6, 644, 86),
  (yX6_addStep, cX6_addStep, 3, (some .int), 1, 6, 592, 86),
  (yX6_addRead, cX6_addRead, 3, none, 2, 6, 608, 86),
  (yX6_addWrite, cX6_addWrite, 3, none, 2, 6, 620, 86),
  (yX6_isRead, cX6_isRead, 3, (some .boolean), 2, 6, 604, 86),
  (yX6_sizeOf, cX6_sizeOf, 5, (some .int), 2, 6, 450, 86),
  (yX6_ticksOf, cX6_ticksOf, 2, (some .int), 1, 6, 695, 86),
  (yX6_ticksOfAll, cX6_ticksOfAll, 3, (some .int), 0, 6, 691, 86),
  (yX6_isReady, cX6_isReady, 5, (some .boolean), 2, 6, 479, 86),
  (yX7_init, cX7_init, 1, none, 0, 7, 112, 85),
  (yX7_append, cX7_append, 5, none, 2, 7, 558, 85),
  (yX7_readInto, cX7_readInto, 3, (some .int), 1, 7, 566, 85),
  (yX7_readStatement, cX7_readStatement, 3, (some .boolean), 0, 7, 575, 85),
  (yX7_readWanted, cX7_readWanted, 2, (some .boolean), 1, 7, 632, 85),
  (yX7_readSize, cX7_readSize, 3, (some .boolean), 1, 7, 636, 85),
  (yX7_readTerm, cX7_readTerm, 4, (some .boolean), 1, 7, 640, 85),
  (yX7_readStep, cX7_readStep, 3, (some .boolean), 1, 7, 588, 85),
  (yX7_readReads, cX7_readReads, 4, none, 1, 7, 596, 85),
  (yX7_readWrite, cX7_readWrite, 3, (some .boolean), 1, 7, 616, 85),
  (yX7_readTime, cX7_readTime, 2, (some .boolean), 1, 7, 624, 85),
  (yX7_readNumber, cX7_readNumber, 3, (some .int), 0, 7, 628, 85),
  (yX7_skip, cX7_skip, 2, (some .boolean), 1, 7, 612, 85),
  (yX7_digitHere, cX7_digitHere, 1, (some .int), 0, 7, 583, 85),
  (yX7_bufferHere, cX7_bufferHere, 1, (some .int), 0, 7, 579, 85),
  (yX7_goTo, cX7_goTo, 2, none, 1, 7, 571, 85),
  (yX8_init, cX8_init, 1, none, 0, 8, 345, 91),
  (yX8_find, cX8_find, 9, (some .int), 4, 8, 823, 91),
  (yX8_buffersOf, cX8_buffersOf, 4, (some .int), 1, 8, 827, 91),
  (yX8_timeOf, cX8_timeOf, 7, (some .int), 2, 8, 831, 91),
  (yX8_fits, cX8_fits, 4, (some .boolean), 2, 8, 846, 91),
  (yX8_outAt, cX8_outAt, 5, (some .int), 2, 8, 850, 91),
  (yX9_init, cX9_init, 1, none, 0, 9, 406, 94),
  (yX9_become, cX9_become, 4, none, 2, 9, 988, 94),
  (yX9_put, cX9_put, 3, none, 2, 9, 1000, 94),
  (yX9_spans, cX9_spans, 3, (some .boolean), 2, 9, 996, 94),
  (yX10_init, cX10_init, 1, none, 0, 10, 214, 87),
  (yX10_renew, cX10_renew, 3, none, 2, 10, 442, 87),
  (yX10_firstWrong, cX10_firstWrong, 6, (some .int), 2, 10, 659, 87),
  (yX10_tell, cX10_tell, 3, none, 1, 10, 667, 87),
  (yX10_findOrder, cX10_findOrder, 4, (some .boolean), 0, 10, 471, 87),
  (yX10_leastReady, cX10_leastReady, 3, (some .int), 1, 10, 475, 87),
  (yX10_findLives, cX10_findLives, 4, none, 0, 10, 483, 87),
  (yX10_findLoads, cX10_findLoads, 4, none, 0, 10, 487, 87),
  (yX10_placeOfPeak, cX10_placeOfPeak, 3, (some .int), 0, 10, 702, 87),
  (yX10_isAlive, cX10_isAlive, 2, (some .boolean), 1, 10, 902, 87),
  (yX10_areAlive, cX10_areAlive, 3, (some .boolean), 2, 10, 779, 87),
  (yX10_hinder, cX10_hinder, 6, (some .boolean), 2, 10, 812, 87),
  (yX10_idlePlaces, cX10_idlePlaces, 5, (some .int), 1, 10, 835, 87),
  (yX11_init, cX11_init, 2, none, 0, 11, 104, 84),
  (yX11_feed, cX11_feed, 4, (some .int), 2, 11, 554, 84),
  (yX11_program, cX11_program, 3, (some .int), 0, 11, 562, 84),
  (yX11_letter, cX11_letter, 4, (some .int), 2, 11, 648, 84),
  (yX11_order, cX11_order, 4, (some .int), 1, 11, 652, 84),
  (yX11_orderTold, cX11_orderTold, 3, (some .int), 1, 11, 671, 84),
  (yX11_load, cX11_load, 3, (some .int), 1, 11, 679, 84),
  (yX11_over, cX11_over, 3, (some .int), 1, 11, 683, 84),
  (yX11_peak, cX11_peak, 3, (some .int), 1, 11, 687, 84),
  (yX11_bufferTold, cX11_bufferTold, 3, (some .int), 2, 11, 706, 84),
  (yX11_stepTold, cX11_stepTold, 3, (some .int), 2, 11, 711, 84),
  (yX11_leastPeak, cX11_leastPeak, 2, (some .int), 1, 11, 717, 84),
  (yX11_height, cX11_height, 3, (some .int), 1, 11, 747, 84),
  (yX11_heightAt, cX11_heightAt, 2, (some .int), 1, 11, 791, 84),
  (yX11_lay, cX11_lay, 4, (some .int), 2, 11, 795, 84),
  (yX11_clash, cX11_clash, 3, (some .int), 0, 11, 803, 84),
  (yX11_sendOut, cX11_sendOut, 6, (some .int), 3, 11, 819, 84),
  (yX11_outs, cX11_outs, 1, (some .int), 0, 11, 854, 84),
  (yX11_pair, cX11_pair, 2, (some .int), 1, 11, 858, 84),
  (yX11_bestPhase, cX11_bestPhase, 2, (some .int), 1, 11, 877, 84),
  (yX11_rule, cX11_rule, 3, (some .int), 1, 11, 886, 84),
  (yX11_go, cX11_go, 3, (some .int), 1, 11, 890, 84),
  (yX11_compact, cX11_compact, 1, (some .int), 0, 11, 927, 84),
  (yX11_roomTold, cX11_roomTold, 3, (some .int), 2, 11, 939, 84),
  (yX11_holder, cX11_holder, 2, (some .int), 1, 11, 944, 84),
  (yX11_again, cX11_again, 2, (some .int), 0, 11, 952, 84),
  (yX11_image, cX11_image, 1, (some .int), 0, 11, 956, 84),
  (yX11_back, cX11_back, 1, (some .int), 0, 11, 965, 84),
  (yX11_kindTold, cX11_kindTold, 5, (some .int), 4, 11, 969, 84),
  (yX11_count, cX11_count, 2, (some .int), 1, 11, 977, 84),
  (yX11_sheet, cX11_sheet, 4, (some .int), 3, 11, 981, 84),
  (yX11_cell, cX11_cell, 4, (some .int), 3, 11, 992, 84),
  (yX11_copy, cX11_copy, 8, (some .int), 5, 11, 1004, 84),
  (yX11_lays, cX11_lays, 10, (some .int), 4, 11, 1009, 84),
  (yX11_taken, cX11_taken, 5, (some .int), 3, 11, 1013, 84),
  (yX11_isSheet, cX11_isSheet, 1, (some .boolean), 1, 11, 655, 84),
  (yX11_isSort, cX11_isSort, 1, (some .boolean), 1, 11, 984, 84),
  (yX11_isPlanned, cX11_isPlanned, 1, (some .boolean), 1, 11, 798, 84),
  (yX11_shareCells, cX11_shareCells, 4, (some .boolean), 4, 11, 782, 84),
  (yX11_begin, cX11_begin, 2, none, 0, 11, 430, 84),
  (yX11_renew, cX11_renew, 1, none, 0, 11, 438, 84),
  (yX11_refusalOfPlace, cX11_refusalOfPlace, 2, (some .int), 1, 11, 675, 84),
  (yX11_refusalOfBuffers, cX11_refusalOfBuffers, 4, (some .int), 1, 11, 751, 84),
  (yX11_plannedTogether, cX11_plannedTogether, 4, (some .boolean), 2, 11, 807, 84),
  (yX12_init, cX12_init, 1, none, 0, 12, 1019, 97),
  (yX12_in, cX12_in, 3, (some .boolean), 3, 12, 1190, 97),
  (yX12_feed, cX12_feed, 5, (some .int), 2, 12, 1187, 97),
  (yX12_here, cX12_here, 1, (some .int), 0, 12, 1207, 97),
  (yX12_number, cX12_number, 3, (some .int), 0, 12, 1227, 97),
  (yX12_eats, cX12_eats, 3, (some .boolean), 1, 12, 1219, 97),
  (yX12_readsSize, cX12_readsSize, 5, (some .boolean), 1, 12, 1231, 97),
  (yX12_isWritten, cX12_isWritten, 3, (some .boolean), 1, 12, 1223, 97),
  (yX12_isRead, cX12_isRead, 5, (some .boolean), 3, 12, 1215, 97),
  (yX12_readsStep, cX12_readsStep, 4, (some .boolean), 0, 12, 1211, 97),
  (yX12_readsOne, cX12_readsOne, 4, (some .boolean), 0, 12, 1203, 97),
  (yX12_begins, cX12_begins, 2, none, 0, 12, 1199, 97),
  (yX12_takes, cX12_takes, 3, none, 0, 12, 1235, 97),
  (yX12_program, cX12_program, 2, (some .int), 0, 12, 1195, 97),
  (yX12_letter, cX12_letter, 4, (some .int), 2, 12, 1243, 97),
  (yX12_isBuffer, cX12_isBuffer, 2, (some .boolean), 1, 12, 1328, 97),
  (yX12_sizeOf, cX12_sizeOf, 5, (some .int), 1, 12, 1304, 97),
  (yX12_ticksOf, cX12_ticksOf, 2, (some .int), 2, 12, 1250, 97),
  (yX12_scratchOf, cX12_scratchOf, 3, (some .int), 3, 12, 1253, 97),
  (yX12_isOver, cX12_isOver, 1, (some .boolean), 1, 12, 1256, 97),
  (yX12_kindTold, cX12_kindTold, 5, (some .int), 4, 12, 1247, 97),
  (yX12_scratch, cX12_scratch, 4, (some .int), 1, 12, 1300, 97),
  (yX12_doesRead, cX12_doesRead, 4, (some .boolean), 2, 12, 1288, 97),
  (yX12_writerOf, cX12_writerOf, 3, (some .int), 1, 12, 1268, 97),
  (yX12_isReady, cX12_isReady, 5, (some .boolean), 2, 12, 1264, 97),
  (yX12_orders, cX12_orders, 4, (some .boolean), 0, 12, 1280, 97),
  (yX12_lives, cX12_lives, 3, none, 1, 12, 1284, 97),
  (yX12_isAlive, cX12_isAlive, 3, (some .boolean), 2, 12, 1308, 97),
  (yX12_order, cX12_order, 5, (some .int), 1, 12, 1260, 97),
  (yX12_isPlace, cX12_isPlace, 2, (some .boolean), 1, 12, 1276, 97),
  (yX12_orderTold, cX12_orderTold, 2, (some .int), 1, 12, 1272, 97),
  (yX12_overAt, cX12_overAt, 5, (some .int), 1, 12, 1312, 97),
  (yX12_loadAt, cX12_loadAt, 6, (some .int), 1, 12, 1296, 97),
  (yX12_load, cX12_load, 2, (some .int), 1, 12, 1292, 97),
  (yX12_over, cX12_over, 2, (some .int), 1, 12, 1316, 97),
  (yX12_peak, cX12_peak, 6, (some .int), 1, 12, 1320, 97),
  (yX12_bufferTold, cX12_bufferTold, 3, (some .int), 2, 12, 1324, 97),
  (yX12_stepTold, cX12_stepTold, 3, (some .int), 2, 12, 1332, 97),
  (yX12_isNeeded, cX12_isNeeded, 4, (some .boolean), 2, 12, 1348, 97),
  (yX12_loadOf, cX12_loadOf, 10, (some .int), 2, 12, 1344, 97),
  (yX12_peakBy, cX12_peakBy, 5, (some .int), 2, 12, 1340, 97),
  (yX12_leastPeak, cX12_leastPeak, 7, (some .int), 1, 12, 1336, 97),
  (yX12_shares, cX12_shares, 4, (some .boolean), 2, 12, 1364, 97),
  (yX12_meet, cX12_meet, 4, (some .boolean), 4, 12, 1367, 97),
  (yX12_laysRow, cX12_laysRow, 11, (some .int), 2, 12, 1360, 97),
  (yX12_nextRow, cX12_nextRow, 8, (some .boolean), 1, 12, 1371, 97),
  (yX12_barred, cX12_barred, 3, (some .int), 1, 12, 1356, 97),
  (yX12_height, cX12_height, 8, (some .int), 1, 12, 1352, 97),
  (yX12_heightAt, cX12_heightAt, 2, (some .int), 1, 12, 1375, 97),
  (yX12_lay, cX12_lay, 4, (some .int), 2, 12, 1379, 97),
  (yX12_doClash, cX12_doClash, 7, (some .boolean), 2, 12, 1388, 97),
  (yX12_clash, cX12_clash, 3, (some .int), 0, 12, 1384, 97),
  (yX12_isOut, cX12_isOut, 3, (some .boolean), 2, 12, 1400, 97),
  (yX12_timeOut, cX12_timeOut, 5, (some .int), 2, 12, 1396, 97),
  (yX12_fits, cX12_fits, 6, (some .boolean), 2, 12, 1404, 97),
  (yX12_sendOut, cX12_sendOut, 9, (some .int), 3, 12, 1392, 97),
  (yX12_outs, cX12_outs, 1, (some .int), 0, 12, 1408, 97),
  (yX12_holds, cX12_holds, 5, none, 0, 12, 1416, 97),
  (yX12_pairBy, cX12_pairBy, 5, (some .int), 1, 12, 1420, 97),
  (yX12_pair, cX12_pair, 2, (some .int), 1, 12, 1412, 97),
  (yX12_bestPhase, cX12_bestPhase, 6, (some .int), 1, 12, 1424, 97),
  (yX12_rule, cX12_rule, 3, (some .int), 1, 12, 1428, 97),
  (yX12_top, cX12_top, 3, (some .int), 0, 12, 1452, 97),
  (yX12_nextAbove, cX12_nextAbove, 4, (some .int), 1, 12, 1444, 97),
  (yX12_puts, cX12_puts, 9, none, 1, 12, 1440, 97),
  (yX12_endAt, cX12_endAt, 4, (some .int), 1, 12, 1448, 97),
  (yX12_goes, cX12_goes, 5, none, 0, 12, 1436, 97),
  (yX12_go, cX12_go, 3, (some .int), 1, 12, 1432, 97),
  (yX12_compact, cX12_compact, 7, (some .int), 0, 12, 1456, 97),
  (yX12_roomTold, cX12_roomTold, 3, (some .int), 2, 12, 1460, 97),
  (yX12_holder, cX12_holder, 3, (some .int), 1, 12, 1464, 97),
  (yX12_again, cX12_again, 3, (some .int), 0, 12, 1239, 97),
  (yX12_image, cX12_image, 2, (some .int), 0, 12, 1469, 97),
  (yX12_back, cX12_back, 2, (some .int), 0, 12, 1473, 97),
  (yX12_count, cX12_count, 2, (some .int), 1, 12, 1477, 97),
  (yX12_sheet, cX12_sheet, 5, (some .int), 3, 12, 1481, 97),
  (yX12_cell, cX12_cell, 4, (some .int), 3, 12, 1485, 97),
  (yX12_copy, cX12_copy, 10, (some .int), 5, 12, 1489, 97),
  (yX12_lays, cX12_lays, 10, (some .int), 4, 12, 1493, 97),
  (yX12_isUnder, cX12_isUnder, 2, (some .boolean), 2, 12, 1501, 97),
  (yX12_taken, cX12_taken, 4, (some .int), 3, 12, 1498, 97),
  (yJ6_bitCount_0f7a4, cJ6_bitCount_0f7a4, 1, (some .int), 1, 14, 839, 99),
  (x, code, maxLocals, ret, 1, 13, 0, 0)]
def abFT : List (Nat × Nat × Nat × Nat × Nat) := [
  (28681, 6, 0, 0, 114), (28687, 6, 1, 0, 115), (45144, 6, 1, 1, 116), (28704, 6, 2, 0, 117), (28749, 6, 3, 0, 118), (28691, 6, 4, 0, 119), (24585, 5, 0, 0, 138), (45382, 5, 0, 1, 139),
  (24591, 5, 1, 0, 140), (24594, 5, 2, 0, 141), (24597, 5, 3, 0, 142), (12347, 5, 3, 1, 143), (28727, 5, 3, 1, 144), (41054, 5, 3, 1, 145), (45227, 5, 3, 1, 146), (24601, 5, 4, 0, 147),
  (84, 5, 4, 1, 148), (12354, 5, 4, 1, 149), (28780, 5, 4, 1, 150), (45224, 5, 4, 1, 151), (24604, 5, 5, 0, 152), (12344, 5, 5, 1, 153), (24622, 5, 6, 0, 154), (16412, 5, 6, 1, 155),
  (20508, 5, 6, 1, 156), (12320, 5, 6, 1, 157), (45159, 5, 6, 1, 158), (41038, 5, 6, 1, 159), (32834, 5, 6, 1, 160), (28756, 5, 6, 1, 161), (24607, 5, 7, 0, 162), (12330, 5, 7, 1, 163),
  (45243, 5, 7, 1, 164), (24610, 5, 8, 0, 165), (28786, 5, 8, 1, 166), (24613, 5, 9, 0, 167), (12333, 5, 9, 1, 168), (56, 5, 9, 1, 169), (41045, 5, 9, 1, 170), (45249, 5, 9, 1, 171),
  (24616, 5, 10, 0, 172), (12324, 5, 10, 1, 173), (41048, 5, 10, 1, 174), (45240, 5, 10, 1, 175), (24619, 5, 11, 0, 176), (12327, 5, 11, 1, 177), (41051, 5, 11, 1, 178), (45258, 5, 11, 1, 179),
  (12310, 2, 0, 0, 222), (16406, 2, 0, 1, 223), (12297, 2, 1, 0, 224), (40, 2, 1, 1, 225), (32826, 2, 1, 1, 226), (4168, 2, 1, 1, 227), (45220, 2, 1, 1, 228), (12303, 2, 2, 0, 229),
  (72, 2, 2, 1, 230), (45252, 2, 2, 1, 231), (12306, 2, 3, 0, 232), (45255, 2, 3, 1, 233), (40972, 9, 0, 0, 243), (34, 9, 0, 1, 244), (32822, 9, 0, 1, 245), (4162, 9, 0, 1, 246),
  (45216, 9, 0, 1, 247), (40994, 9, 1, 0, 248), (20502, 9, 1, 1, 249), (52, 9, 1, 1, 250), (32830, 9, 1, 1, 251), (41002, 9, 2, 0, 252), (45357, 9, 2, 1, 253), (41010, 9, 3, 0, 254),
  (45202, 9, 3, 1, 255), (40978, 9, 4, 0, 256), (20514, 9, 4, 1, 257), (45, 9, 4, 1, 258), (45193, 9, 4, 1, 259), (40982, 9, 5, 0, 260), (61, 9, 5, 1, 261), (45199, 9, 5, 1, 262),
  (40985, 9, 6, 0, 263), (20527, 9, 6, 1, 264), (32839, 9, 6, 1, 265), (45196, 9, 6, 1, 266), (40988, 9, 7, 0, 267), (45231, 9, 7, 1, 268), (40991, 9, 8, 0, 269), (81, 9, 8, 1, 270),
  (45234, 9, 8, 1, 271), (16402, 3, 0, 0, 297), (45391, 3, 0, 1, 298), (16418, 3, 1, 0, 299), (45265, 3, 1, 1, 300), (16393, 3, 2, 0, 301), (45268, 3, 2, 1, 302), (16399, 3, 3, 0, 303),
  (45271, 3, 3, 1, 304), (4114, 1, 0, 0, 320), (4118, 1, 1, 0, 321), (4132, 1, 2, 0, 322), (4105, 1, 3, 0, 323), (4128, 1, 4, 0, 324), (45278, 1, 4, 1, 325), (4111, 1, 5, 0, 326),
  (45281, 1, 5, 1, 327), (32805, 7, 0, 0, 347), (45298, 7, 0, 1, 348), (32777, 7, 1, 0, 349), (32783, 7, 2, 0, 350), (20498, 4, 0, 0, 364), (20489, 4, 1, 0, 365), (20495, 4, 2, 0, 366),
  (18, 0, 0, 0, 380), (45162, 0, 0, 1, 381), (22, 0, 1, 0, 382), (45320, 0, 1, 1, 383), (25, 0, 2, 0, 384), (45310, 0, 2, 1, 385), (9, 0, 3, 0, 386), (45326, 0, 3, 1, 387),
  (15, 0, 4, 0, 388), (45165, 0, 4, 1, 389), (36873, 8, 0, 0, 408), (45175, 8, 0, 1, 409), (36883, 8, 1, 0, 410), (4122, 8, 1, 1, 411), (32787, 8, 1, 1, 412), (41019, 8, 1, 1, 413),
  (45178, 8, 1, 1, 414), (36879, 8, 2, 0, 415), (41025, 8, 2, 1, 416), (32808, 8, 2, 1, 417), (4172, 8, 2, 1, 418), (45373, 8, 2, 1, 419), (45066, 10, 0, 0, 508), (45075, 10, 1, 0, 509),
  (45079, 10, 2, 0, 510), (45088, 10, 3, 0, 511), (45095, 10, 4, 0, 512), (45102, 10, 5, 0, 513), (45106, 10, 6, 0, 514), (45113, 10, 7, 0, 515), (45120, 10, 8, 0, 516), (45127, 10, 9, 0, 517),
  (45131, 10, 10, 0, 518), (45340, 10, 11, 0, 519), (45136, 10, 12, 0, 520), (45156, 10, 13, 0, 521), (49159, 11, 0, 0, 1021), (49281, 11, 1, 0, 1022), (49329, 11, 2, 0, 1023), (49165, 11, 3, 0, 1024),
  (49317, 11, 4, 0, 1025), (49168, 11, 5, 0, 1026), (49172, 11, 6, 0, 1027), (49175, 11, 7, 0, 1028), (49178, 11, 8, 0, 1029), (49181, 11, 9, 0, 1030), (49184, 11, 10, 0, 1031), (49187, 11, 11, 0, 1032),
  (49190, 11, 12, 0, 1033), (49193, 11, 13, 0, 1034), (49196, 11, 14, 0, 1035), (49301, 11, 15, 0, 1036), (49199, 11, 16, 0, 1037), (49202, 11, 17, 0, 1038), (49205, 11, 18, 0, 1039), (49208, 11, 19, 0, 1040),
  (49211, 11, 20, 0, 1041), (49214, 11, 21, 0, 1042), (49217, 11, 22, 0, 1043), (49220, 11, 23, 0, 1044), (49223, 11, 24, 0, 1045), (49226, 11, 25, 0, 1046), (49332, 11, 26, 0, 1047), (49229, 11, 27, 0, 1048),
  (49232, 11, 28, 0, 1049), (49436, 11, 29, 0, 1050), (49420, 11, 30, 0, 1051), (49235, 11, 31, 0, 1052), (49342, 11, 32, 0, 1053), (49463, 11, 33, 0, 1054), (49448, 11, 34, 0, 1055), (49238, 11, 35, 0, 1056),
  (49336, 11, 36, 0, 1057), (49469, 11, 37, 0, 1058), (49472, 11, 38, 0, 1059), (49475, 11, 39, 0, 1060), (49241, 11, 40, 0, 1061), (49244, 11, 41, 0, 1062), (49247, 11, 42, 0, 1063), (49250, 11, 43, 0, 1064),
  (49253, 11, 44, 0, 1065), (49287, 11, 45, 0, 1066), (49256, 11, 46, 0, 1067), (49259, 11, 47, 0, 1068), (49262, 11, 48, 0, 1069), (49265, 11, 49, 0, 1070), (49268, 11, 50, 0, 1071), (49271, 11, 51, 0, 1072),
  (49274, 11, 52, 0, 1073), (49439, 11, 53, 0, 1074)]
def abCT : List (Nat × Nat × Nat × Nat × Nat × Nat) := [
  (53257, 94, 4, 102, 103, 0), (45057, 0, 6, 105, 106, 107), (45065, 55, 5, 110, 111, 0), (28675, 0, 6, 113, 106, 107), (45074, 42, 5, 134, 135, 0), (24579, 0, 6, 137, 106, 107), (45082, 43, 0, 206, 207, 208), (45087, 81, 5, 212, 213, 0),
  (40963, 0, 6, 215, 106, 107), (40971, 25, 5, 218, 219, 0), (12291, 0, 6, 221, 106, 107), (45094, 31, 5, 293, 294, 0), (16387, 0, 6, 296, 106, 107), (45101, 13, 5, 316, 317, 0), (4099, 0, 6, 319, 106, 107), (45112, 71, 5, 343, 344, 0),
  (32771, 0, 6, 346, 106, 107), (45119, 37, 5, 360, 361, 0), (20483, 0, 6, 363, 106, 107), (45126, 0, 5, 376, 377, 0), (3, 0, 6, 379, 106, 107), (45140, 77, 5, 404, 405, 0), (36867, 0, 6, 407, 106, 107), (45141, 133, 0, 427, 429, 0),
  (45333, 1, 0, 431, 432, 433), (45168, 134, 0, 435, 437, 1), (45388, 82, 0, 439, 440, 441), (40998, 26, 0, 443, 444, 445), (12314, 51, 0, 447, 448, 449), (12336, 24, 2, 451, 452, 0), (8213, 0, 8, 454, 455, 456), (12341, 22, 2, 457, 458, 0),
  (8209, 21, 2, 460, 461, 0), (8201, 20, 2, 463, 464, 0), (41006, 85, 0, 468, 470, 2), (41041, 86, 0, 472, 474, 3), (41034, 54, 0, 476, 477, 478), (41013, 87, 0, 480, 482, 4), (41016, 88, 0, 484, 486, 5), (41058, 27, 0, 488, 489, 490),
  (12350, 28, 0, 492, 494, 6), (41062, 29, 0, 496, 497, 498), (41065, 30, 0, 500, 501, 502), (12357, 27, 0, 504, 489, 490), (12361, 0, 9, 505, 506, 507), (53263, 95, 0, 551, 552, 553), (45148, 56, 0, 555, 556, 557), (53268, 96, 0, 559, 560, 561),
  (45152, 57, 0, 563, 564, 565), (28695, 43, 0, 567, 207, 208), (28700, 70, 0, 568, 570, 7), (28707, 58, 0, 572, 574, 8), (28711, 69, 0, 576, 578, 9), (28715, 68, 0, 580, 582, 10), (28718, 20, 2, 584, 464, 0), (28724, 62, 0, 585, 587, 11),
  (28759, 47, 0, 589, 590, 591), (28763, 63, 0, 593, 595, 12), (28731, 44, 0, 597, 598, 599), (28772, 50, 0, 601, 602, 603), (28776, 48, 0, 605, 606, 607), (28740, 67, 0, 609, 611, 13), (28766, 64, 0, 613, 615, 14), (28783, 49, 0, 617, 618, 619),
  (28769, 65, 0, 621, 623, 15), (28746, 66, 0, 625, 627, 16), (28734, 59, 0, 629, 631, 17), (28737, 60, 0, 633, 635, 18), (28743, 61, 0, 637, 639, 19), (28752, 46, 0, 641, 642, 643), (53273, 97, 0, 645, 646, 647), (53278, 98, 0, 649, 650, 651),
  (45171, 129, 2, 653, 654, 0), (45181, 83, 0, 656, 657, 658), (41028, 45, 0, 660, 661, 662), (45185, 84, 0, 664, 665, 666), (53283, 99, 0, 668, 669, 670), (45189, 135, 0, 672, 674, 20), (53287, 100, 0, 676, 677, 678), (53291, 101, 0, 680, 681, 682),
  (53295, 102, 0, 684, 685, 686), (45206, 53, 0, 688, 689, 690), (24632, 52, 0, 692, 693, 694), (24626, 23, 2, 696, 697, 0), (45210, 89, 0, 699, 700, 701), (53299, 103, 0, 703, 704, 705), (45213, 44, 0, 707, 598, 599), (53303, 104, 0, 708, 709, 710),
  (45237, 45, 0, 712, 661, 662), (45246, 52, 0, 713, 693, 694), (53307, 105, 0, 714, 715, 716), (45261, 32, 0, 718, 719, 720), (16421, 33, 0, 722, 724, 21), (16430, 29, 0, 727, 497, 498), (16434, 54, 0, 728, 477, 478), (16438, 34, 0, 729, 731, 22),
  (16448, 30, 0, 733, 501, 502), (16452, 0, 8, 734, 455, 456), (16442, 0, 9, 735, 506, 507), (16426, 35, 0, 736, 738, 23), (16455, 36, 0, 740, 742, 24), (53311, 106, 0, 744, 745, 746), (45272, 136, 0, 748, 750, 25), (45275, 14, 0, 752, 753, 754),
  (4135, 15, 0, 757, 759, 26), (4139, 0, 7, 761, 763, 762), (4145, 16, 0, 764, 766, 27), (4149, 18, 0, 768, 770, 28), (4175, 19, 0, 772, 774, 29), (4179, 91, 0, 776, 777, 778), (4183, 132, 3, 780, 781, 0), (4153, 17, 0, 783, 785, 30),
  (4157, 0, 8, 787, 455, 456), (53315, 107, 0, 788, 789, 790), (53319, 108, 0, 792, 793, 794), (45284, 131, 2, 796, 797, 0), (53323, 109, 0, 800, 801, 802), (45287, 137, 0, 804, 806, 31), (45394, 132, 2, 808, 781, 0), (45291, 92, 0, 809, 810, 811),
  (41069, 91, 0, 813, 777, 778), (41072, 0, 8, 814, 455, 456), (41077, 0, 9, 815, 506, 507), (53327, 110, 0, 816, 817, 818), (45295, 72, 0, 820, 821, 822), (32793, 73, 0, 824, 826, 32), (32797, 74, 0, 828, 830, 33), (32812, 93, 0, 832, 833, 834),
  (41080, 50, 0, 836, 602, 603), (32817, 219, 2, 837, 838, 0), (32801, 75, 0, 843, 845, 34), (32842, 76, 0, 847, 849, 35), (53332, 111, 0, 851, 852, 853), (53336, 112, 0, 855, 856, 857), (45300, 38, 0, 859, 860, 861), (20517, 52, 0, 863, 693, 694),
  (20521, 0, 9, 864, 506, 507), (45304, 39, 0, 865, 866, 867), (20530, 40, 0, 869, 871, 36), (20533, 0, 8, 873, 455, 456), (53340, 113, 0, 874, 875, 876), (45307, 41, 0, 878, 879, 880), (20536, 39, 0, 882, 866, 867), (53344, 114, 0, 883, 884, 885),
  (53348, 115, 0, 887, 888, 889), (45313, 3, 0, 891, 892, 893), (48, 4, 0, 895, 897, 37), (87, 90, 0, 899, 900, 901), (91, 6, 0, 903, 905, 38), (95, 8, 0, 907, 909, 39), (98, 7, 0, 911, 913, 40), (64, 5, 0, 915, 917, 41),
  (68, 9, 0, 919, 920, 921), (75, 0, 8, 923, 455, 456), (53352, 116, 0, 924, 925, 926), (45316, 10, 0, 928, 929, 930), (102, 11, 0, 932, 934, 42), (53356, 117, 0, 936, 937, 938), (45323, 9, 0, 940, 920, 921), (53360, 118, 0, 941, 942, 943),
  (45329, 12, 0, 945, 946, 947), (53364, 119, 0, 949, 950, 951), (53368, 120, 0, 953, 954, 955), (45336, 2, 0, 957, 958, 959), (28, 0, 7, 961, 763, 762), (53372, 121, 0, 962, 963, 964), (53376, 122, 0, 966, 967, 968), (45343, 20, 2, 970, 464, 0),
  (45348, 23, 2, 971, 697, 0), (45352, 24, 2, 972, 452, 0), (45355, 22, 2, 973, 458, 0), (53381, 123, 0, 974, 975, 976), (53385, 124, 0, 978, 979, 980), (45360, 130, 2, 982, 983, 0), (45363, 78, 0, 985, 986, 987), (53389, 125, 0, 989, 990, 991),
  (45367, 80, 0, 993, 994, 995), (45370, 79, 0, 997, 998, 999), (53393, 126, 0, 1001, 1002, 1003), (45376, 0, 7, 1005, 763, 762), (53398, 127, 0, 1006, 1007, 1008), (53402, 128, 0, 1010, 1011, 1012), (45385, 21, 2, 1014, 461, 0), (53260, 138, 4, 1017, 1018, 0),
  (49153, 0, 6, 1020, 106, 107), (53267, 140, 0, 1184, 1185, 1186), (49277, 139, 2, 1188, 1189, 0), (53272, 151, 0, 1192, 1193, 1194), (49320, 149, 0, 1196, 1198, 43), (49323, 148, 0, 1200, 1202, 44), (49290, 141, 0, 1204, 1206, 45), (49310, 147, 0, 1208, 1210, 46),
  (49304, 146, 0, 1212, 1214, 47), (49297, 143, 0, 1216, 1218, 48), (49307, 145, 0, 1220, 1222, 49), (49294, 142, 0, 1224, 1226, 50), (49314, 144, 0, 1228, 1230, 51), (49326, 150, 0, 1232, 1234, 52), (49339, 209, 0, 1236, 1237, 1238), (53277, 152, 0, 1240, 1241, 1242),
  (53380, 158, 0, 1244, 1245, 1246), (49345, 155, 2, 1248, 1249, 0), (49349, 156, 2, 1251, 1252, 0), (49353, 157, 2, 1254, 1255, 0), (53282, 166, 0, 1257, 1258, 1259), (49363, 162, 0, 1261, 1263, 53), (49360, 161, 0, 1265, 1267, 54), (53286, 168, 0, 1269, 1270, 1271),
  (49374, 167, 0, 1273, 1275, 55), (49377, 163, 0, 1277, 1279, 56), (49367, 164, 0, 1281, 1283, 57), (49371, 160, 0, 1285, 1287, 58), (53290, 171, 0, 1289, 1290, 1291), (49389, 170, 0, 1293, 1295, 59), (49380, 159, 0, 1297, 1299, 60), (49356, 154, 0, 1301, 1303, 61),
  (49383, 165, 0, 1305, 1307, 62), (49386, 169, 0, 1309, 1311, 63), (53294, 172, 0, 1313, 1314, 1315), (53298, 173, 0, 1317, 1318, 1319), (53302, 174, 0, 1321, 1322, 1323), (49392, 153, 0, 1325, 1327, 64), (53306, 175, 0, 1329, 1330, 1331), (53310, 179, 0, 1333, 1334, 1335),
  (49401, 178, 0, 1337, 1339, 65), (49398, 177, 0, 1341, 1343, 66), (49395, 176, 0, 1345, 1347, 67), (53314, 185, 0, 1349, 1350, 1351), (49411, 184, 0, 1353, 1355, 68), (49414, 182, 0, 1357, 1359, 69), (49404, 180, 0, 1361, 1363, 70), (49407, 181, 2, 1365, 1366, 0),
  (49417, 183, 0, 1368, 1370, 71), (53318, 186, 0, 1372, 1373, 1374), (53322, 187, 0, 1376, 1377, 1378), (53326, 189, 0, 1381, 1382, 1383), (49424, 188, 0, 1385, 1387, 72), (53331, 193, 0, 1389, 1390, 1391), (49430, 191, 0, 1393, 1395, 73), (49427, 190, 0, 1397, 1399, 74),
  (49433, 192, 0, 1401, 1403, 75), (53335, 194, 0, 1405, 1406, 1407), (53339, 197, 0, 1409, 1410, 1411), (49442, 195, 0, 1413, 1415, 76), (49445, 196, 0, 1417, 1419, 77), (53343, 198, 0, 1421, 1422, 1423), (53347, 199, 0, 1425, 1426, 1427), (53351, 205, 0, 1429, 1430, 1431),
  (49466, 204, 0, 1433, 1435, 78), (49457, 202, 0, 1437, 1439, 79), (49451, 201, 0, 1441, 1443, 80), (49454, 203, 0, 1445, 1447, 81), (49460, 200, 0, 1449, 1451, 82), (53355, 206, 0, 1453, 1454, 1455), (53359, 207, 0, 1457, 1458, 1459), (53363, 208, 0, 1461, 1462, 1463),
  (53367, 209, 0, 1465, 1237, 1238), (53371, 210, 0, 1466, 1467, 1468), (53375, 211, 0, 1470, 1471, 1472), (53384, 212, 0, 1474, 1475, 1476), (53388, 213, 0, 1478, 1479, 1480), (53392, 214, 0, 1482, 1483, 1484), (53397, 215, 0, 1486, 1487, 1488), (53401, 216, 0, 1490, 1491, 1492),
  (49478, 187, 0, 1494, 1377, 1378), (53405, 218, 0, 1495, 1496, 1497), (49481, 217, 2, 1499, 1500, 0)]
def abNT : List (Nat × Nat × Nat × Nat × Nat) := [
  (53255, 10, 100, 101, 84), (45063, 6, 108, 109, 85), (45072, 5, 132, 133, 86), (45085, 9, 210, 211, 87), (40969, 2, 216, 217, 88), (45092, 3, 291, 292, 89), (45099, 1, 314, 315, 90), (45110, 7, 341, 342, 91),
  (45117, 4, 358, 359, 92), (45124, 0, 374, 375, 93), (45134, 8, 401, 403, 94), (53258, 11, 1015, 1016, 97)]
def abKT : List (Nat × Int32 × Nat) := [
  (16425, 2147483647, 726), (4131, 2147483647, 756), (45294, 100000, 799), (57609, 1431655765, 840), (57610, 858993459, 841), (57611, 252645135, 842), (49423, 99999, 1380)]
def abLT : List (Nat × Int64 × Nat) := [
  (49285, 255, 1191), (53261, 4294967295, 1502)]
def abST : List (Nat × Nat) := [
  (8205, 466)]
def abKs : List (List Nat) := [[0, 0, 0, 2, 2], [2, 2, 0, 2, 0, 2], [2, 2, 2, 2], [1, 0, 2, 2], [2, 2, 2], [2, 2, 2, 2, 2, 2, 0, 2, 2, 2, 2, 2], [2, 0, 0, 0, 2], [0, 2, 2], [0, 0, 2], [2, 2, 1, 1, 2, 2, 2, 2, 2], [2, 2, 2, 2, 2, 2, 2, 2, 2, 2, 2, 1, 2, 0], [2, 0, 0, 2, 0, 2, 2, 2, 2, 2, 2, 2, 2, 2, 2, 0, 2, 2, 2, 2, 2, 2, 2, 2, 2, 2, 1, 2, 2, 0, 0, 2, 0, 0, 0, 2, 1, 0, 0, 0, 2, 2, 2, 2, 2, 0, 2, 2, 2, 2, 2, 2, 2, 0]]
