section
-- ===== PART A: goes FIRST, ahead of the names: the tables' words, and 'selects' of the private methods out of them =====
/-- a private method of a class that the tables say can be made, by its rows of tables_1 -/
def lw_okq (q : MethodName × Nat) : Prop := (q.1.cls ≠ "java/lang/invoke/MethodHandle" ∧ q.1.cls ≠ "java/lang/invoke/VarHandle") ∧ Cond.instantiable q.1.cls q.2 ∈ tables_1 ∧ Cond.privateMethod q.1 ∈ tables_1 ∧ Cond.instanceMethod q.1 ∈ tables_1
theorem lw_p0 : lw_okq (⟨"RectFile$Tape", "readWord", "(Ljava/lang/String;)V"⟩, 11) := ⟨⟨by decide +kernel, by decide +kernel⟩, List.mem_of_getElem? (i := 33) (by decide +kernel), List.mem_of_getElem? (i := 478) (by decide +kernel), List.mem_of_getElem? (i := 479) (by decide +kernel)⟩
theorem lw_p1 : lw_okq (⟨"RectFile$Tape", "skipBlanks", "()V"⟩, 11) := ⟨⟨by decide +kernel, by decide +kernel⟩, List.mem_of_getElem? (i := 33) (by decide +kernel), List.mem_of_getElem? (i := 482) (by decide +kernel), List.mem_of_getElem? (i := 483) (by decide +kernel)⟩
theorem lw_p2 : lw_okq (⟨"RectFile$Tape", "signAt", "(I)I"⟩, 11) := ⟨⟨by decide +kernel, by decide +kernel⟩, List.mem_of_getElem? (i := 33) (by decide +kernel), List.mem_of_getElem? (i := 486) (by decide +kernel), List.mem_of_getElem? (i := 487) (by decide +kernel)⟩
theorem lw_p3 : lw_okq (⟨"RectFile$Tape", "blame", "(II)V"⟩, 11) := ⟨⟨by decide +kernel, by decide +kernel⟩, List.mem_of_getElem? (i := 33) (by decide +kernel), List.mem_of_getElem? (i := 541) (by decide +kernel), List.mem_of_getElem? (i := 542) (by decide +kernel)⟩
theorem lw_p4 : lw_okq (⟨"RectFile$Tape", "readNumbe\x72", "(IIZ)I"⟩, 11) := ⟨⟨by decide +kernel, by decide +kernel⟩, List.mem_of_getElem? (i := 33) (by decide +kernel), List.mem_of_getElem? (i := 545) (by decide +kernel), List.mem_of_getElem? (i := 546) (by decide +kernel)⟩
theorem lw_p5 : lw_okq (⟨"RectFile$Tape", "readDigits", "()I"⟩, 11) := ⟨⟨by decide +kernel, by decide +kernel⟩, List.mem_of_getElem? (i := 33) (by decide +kernel), List.mem_of_getElem? (i := 552) (by decide +kernel), List.mem_of_getElem? (i := 553) (by decide +kernel)⟩
theorem lw_p6 : lw_okq (⟨"RectFile$Tape", "goesOn", "()Z"⟩, 11) := ⟨⟨by decide +kernel, by decide +kernel⟩, List.mem_of_getElem? (i := 33) (by decide +kernel), List.mem_of_getElem? (i := 560) (by decide +kernel), List.mem_of_getElem? (i := 561) (by decide +kernel)⟩
theorem lw_p7 : lw_okq (⟨"RectFile$Tape", "readRect", "()V"⟩, 11) := ⟨⟨by decide +kernel, by decide +kernel⟩, List.mem_of_getElem? (i := 33) (by decide +kernel), List.mem_of_getElem? (i := 564) (by decide +kernel), List.mem_of_getElem? (i := 565) (by decide +kernel)⟩
theorem lw_p8 : lw_okq (⟨"RectFile$Tape", "isTold", "(I)Z"⟩, 11) := ⟨⟨by decide +kernel, by decide +kernel⟩, List.mem_of_getElem? (i := 33) (by decide +kernel), List.mem_of_getElem? (i := 569) (by decide +kernel), List.mem_of_getElem? (i := 570) (by decide +kernel)⟩
theorem lw_p9 : lw_okq (⟨"RectFile$Tree", "makeRoom", "(I)V"⟩, 13) := ⟨⟨by decide +kernel, by decide +kernel⟩, List.mem_of_getElem? (i := 314) (by decide +kernel), List.mem_of_getElem? (i := 585) (by decide +kernel), List.mem_of_getElem? (i := 586) (by decide +kernel)⟩
theorem lw_p10 : lw_okq (⟨"RectFile$Growe\x72", "await", "(II)V"⟩, 8) := ⟨⟨by decide +kernel, by decide +kernel⟩, List.mem_of_getElem? (i := 105) (by decide +kernel), List.mem_of_getElem? (i := 618) (by decide +kernel), List.mem_of_getElem? (i := 619) (by decide +kernel)⟩
theorem lw_p11 : lw_okq (⟨"RectFile$Growe\x72", "bringAll", "(LRectFile$Tree;)V"⟩, 8) := ⟨⟨by decide +kernel, by decide +kernel⟩, List.mem_of_getElem? (i := 105) (by decide +kernel), List.mem_of_getElem? (i := 623) (by decide +kernel), List.mem_of_getElem? (i := 624) (by decide +kernel)⟩
theorem lw_p12 : lw_okq (⟨"RectFile$Choose\x72", "bestEntry", "(LRectFile$Tree;I)I"⟩, 10) := ⟨⟨by decide +kernel, by decide +kernel⟩, List.mem_of_getElem? (i := 111) (by decide +kernel), List.mem_of_getElem? (i := 636) (by decide +kernel), List.mem_of_getElem? (i := 637) (by decide +kernel)⟩
theorem lw_p13 : lw_okq (⟨"RectFile$Choose\x72", "moreOverlap", "(LRectFile$Tree;II)I"⟩, 10) := ⟨⟨by decide +kernel, by decide +kernel⟩, List.mem_of_getElem? (i := 111) (by decide +kernel), List.mem_of_getElem? (i := 655) (by decide +kernel), List.mem_of_getElem? (i := 656) (by decide +kernel)⟩
theorem lw_p14 : lw_okq (⟨"RectFile$Choose\x72", "isBette\x72", "()Z"⟩, 10) := ⟨⟨by decide +kernel, by decide +kernel⟩, List.mem_of_getElem? (i := 111) (by decide +kernel), List.mem_of_getElem? (i := 663) (by decide +kernel), List.mem_of_getElem? (i := 664) (by decide +kernel)⟩
theorem lw_p15 : lw_okq (⟨"RectFile$Tree", "changeSides", "(IIIII)Z"⟩, 13) := ⟨⟨by decide +kernel, by decide +kernel⟩, List.mem_of_getElem? (i := 314) (by decide +kernel), List.mem_of_getElem? (i := 679) (by decide +kernel), List.mem_of_getElem? (i := 680) (by decide +kernel)⟩
def lw_privs_1 : List (MethodName × Nat) := [(⟨"RectFile$Tape", "readWord", "(Ljava/lang/String;)V"⟩, 11), (⟨"RectFile$Tape", "skipBlanks", "()V"⟩, 11), (⟨"RectFile$Tape", "signAt", "(I)I"⟩, 11), (⟨"RectFile$Tape", "blame", "(II)V"⟩, 11), (⟨"RectFile$Tape", "readNumbe\x72", "(IIZ)I"⟩, 11), (⟨"RectFile$Tape", "readDigits", "()I"⟩, 11), (⟨"RectFile$Tape", "goesOn", "()Z"⟩, 11), (⟨"RectFile$Tape", "readRect", "()V"⟩, 11), (⟨"RectFile$Tape", "isTold", "(I)Z"⟩, 11), (⟨"RectFile$Tree", "makeRoom", "(I)V"⟩, 13), (⟨"RectFile$Growe\x72", "await", "(II)V"⟩, 8), (⟨"RectFile$Growe\x72", "bringAll", "(LRectFile$Tree;)V"⟩, 8), (⟨"RectFile$Choose\x72", "bestEntry", "(LRectFile$Tree;I)I"⟩, 10), (⟨"RectFile$Choose\x72", "moreOverlap", "(LRectFile$Tree;II)I"⟩, 10), (⟨"RectFile$Choose\x72", "isBette\x72", "()Z"⟩, 10), (⟨"RectFile$Tree", "changeSides", "(IIIII)Z"⟩, 13)]
theorem lw_r1 : ∀ q ∈ lw_privs_1, lw_okq q := List.forall_mem_cons.mpr ⟨lw_p0, List.forall_mem_cons.mpr ⟨lw_p1, List.forall_mem_cons.mpr ⟨lw_p2, List.forall_mem_cons.mpr ⟨lw_p3, List.forall_mem_cons.mpr ⟨lw_p4, List.forall_mem_cons.mpr ⟨lw_p5, List.forall_mem_cons.mpr ⟨lw_p6, List.forall_mem_cons.mpr ⟨lw_p7, List.forall_mem_cons.mpr ⟨lw_p8, List.forall_mem_cons.mpr ⟨lw_p9, List.forall_mem_cons.mpr ⟨lw_p10, List.forall_mem_cons.mpr ⟨lw_p11, List.forall_mem_cons.mpr ⟨lw_p12, List.forall_mem_cons.mpr ⟨lw_p13, List.forall_mem_cons.mpr ⟨lw_p14, List.forall_mem_cons.mpr ⟨lw_p15, fun _ h => absurd h List.not_mem_nil⟩⟩⟩⟩⟩⟩⟩⟩⟩⟩⟩⟩⟩⟩⟩⟩
theorem lw_p16 : lw_okq (⟨"RectFile$Growe\x72", "wasReinserted", "(I)Z"⟩, 8) := ⟨⟨by decide +kernel, by decide +kernel⟩, List.mem_of_getElem? (i := 105) (by decide +kernel), List.mem_of_getElem? (i := 685) (by decide +kernel), List.mem_of_getElem? (i := 686) (by decide +kernel)⟩
theorem lw_p17 : lw_okq (⟨"RectFile$Growe\x72", "reinsert", "(LRectFile$Tree;I)V"⟩, 8) := ⟨⟨by decide +kernel, by decide +kernel⟩, List.mem_of_getElem? (i := 105) (by decide +kernel), List.mem_of_getElem? (i := 689) (by decide +kernel), List.mem_of_getElem? (i := 690) (by decide +kernel)⟩
theorem lw_p18 : lw_okq (⟨"RectFile$Growe\x72", "measureApart", "(LRectFile$Tree;I)V"⟩, 8) := ⟨⟨by decide +kernel, by decide +kernel⟩, List.mem_of_getElem? (i := 105) (by decide +kernel), List.mem_of_getElem? (i := 693) (by decide +kernel), List.mem_of_getElem? (i := 694) (by decide +kernel)⟩
theorem lw_p19 : lw_okq (⟨"RectFile$Growe\x72", "farthestApart", "(I)I"⟩, 8) := ⟨⟨by decide +kernel, by decide +kernel⟩, List.mem_of_getElem? (i := 105) (by decide +kernel), List.mem_of_getElem? (i := 701) (by decide +kernel), List.mem_of_getElem? (i := 702) (by decide +kernel)⟩
theorem lw_p20 : lw_okq (⟨"RectFile$Growe\x72", "closeGap", "(II)V"⟩, 8) := ⟨⟨by decide +kernel, by decide +kernel⟩, List.mem_of_getElem? (i := 105) (by decide +kernel), List.mem_of_getElem? (i := 709) (by decide +kernel), List.mem_of_getElem? (i := 710) (by decide +kernel)⟩
theorem lw_p21 : lw_okq (⟨"RectFile$Growe\x72", "split", "(LRectFile$Tree;I)I"⟩, 8) := ⟨⟨by decide +kernel, by decide +kernel⟩, List.mem_of_getElem? (i := 105) (by decide +kernel), List.mem_of_getElem? (i := 713) (by decide +kernel), List.mem_of_getElem? (i := 714) (by decide +kernel)⟩
theorem lw_p22 : lw_okq (⟨"RectFile$Splitte\x72", "arrange", "(LRectFile$Tree;II)V"⟩, 5) := ⟨⟨by decide +kernel, by decide +kernel⟩, List.mem_of_getElem? (i := 176) (by decide +kernel), List.mem_of_getElem? (i := 722) (by decide +kernel), List.mem_of_getElem? (i := 723) (by decide +kernel)⟩
theorem lw_p23 : lw_okq (⟨"RectFile$Splitte\x72", "margins", "(LRectFile$Tree;II)I"⟩, 5) := ⟨⟨by decide +kernel, by decide +kernel⟩, List.mem_of_getElem? (i := 176) (by decide +kernel), List.mem_of_getElem? (i := 730) (by decide +kernel), List.mem_of_getElem? (i := 731) (by decide +kernel)⟩
theorem lw_p24 : lw_okq (⟨"RectFile$Splitte\x72", "boxRun", "(LRectFile$Tree;IIILRectFile$Box;)V"⟩, 5) := ⟨⟨by decide +kernel, by decide +kernel⟩, List.mem_of_getElem? (i := 176) (by decide +kernel), List.mem_of_getElem? (i := 734) (by decide +kernel), List.mem_of_getElem? (i := 735) (by decide +kernel)⟩
theorem lw_p25 : lw_okq (⟨"RectFile$Splitte\x72", "chooseParting", "(LRectFile$Tree;II)V"⟩, 5) := ⟨⟨by decide +kernel, by decide +kernel⟩, List.mem_of_getElem? (i := 176) (by decide +kernel), List.mem_of_getElem? (i := 745) (by decide +kernel), List.mem_of_getElem? (i := 746) (by decide +kernel)⟩
theorem lw_p26 : lw_okq (⟨"RectFile", "numberPages", "()V"⟩, 12) := ⟨⟨by decide +kernel, by decide +kernel⟩, List.mem_of_getElem? (i := 25) (by decide +kernel), List.mem_of_getElem? (i := 758) (by decide +kernel), List.mem_of_getElem? (i := 759) (by decide +kernel)⟩
theorem lw_p27 : lw_okq (⟨"RectFile$Numbere\x72", "makeRoom", "(I)V"⟩, 2) := ⟨⟨by decide +kernel, by decide +kernel⟩, List.mem_of_getElem? (i := 227) (by decide +kernel), List.mem_of_getElem? (i := 766) (by decide +kernel), List.mem_of_getElem? (i := 767) (by decide +kernel)⟩
theorem lw_p28 : lw_okq (⟨"RectFile$Tree", "takeCountsFrom", "(LRectFile$Tree;)V"⟩, 13) := ⟨⟨by decide +kernel, by decide +kernel⟩, List.mem_of_getElem? (i := 314) (by decide +kernel), List.mem_of_getElem? (i := 775) (by decide +kernel), List.mem_of_getElem? (i := 776) (by decide +kernel)⟩
theorem lw_p29 : lw_okq (⟨"RectFile$Numbere\x72", "layPage", "(LRectFile$Tree;LRectFile$Tree;I)V"⟩, 2) := ⟨⟨by decide +kernel, by decide +kernel⟩, List.mem_of_getElem? (i := 227) (by decide +kernel), List.mem_of_getElem? (i := 780) (by decide +kernel), List.mem_of_getElem? (i := 781) (by decide +kernel)⟩
theorem lw_p30 : lw_okq (⟨"RectFile", "isInFile", "(I)Z"⟩, 12) := ⟨⟨by decide +kernel, by decide +kernel⟩, List.mem_of_getElem? (i := 25) (by decide +kernel), List.mem_of_getElem? (i := 816) (by decide +kernel), List.mem_of_getElem? (i := 817) (by decide +kernel)⟩
theorem lw_p31 : lw_okq (⟨"RectFile$Growe\x72", "awaitEntries", "(LRectFile$Tree;I)V"⟩, 8) := ⟨⟨by decide +kernel, by decide +kernel⟩, List.mem_of_getElem? (i := 105) (by decide +kernel), List.mem_of_getElem? (i := 824) (by decide +kernel), List.mem_of_getElem? (i := 825) (by decide +kernel)⟩
def lw_privs_2 : List (MethodName × Nat) := [(⟨"RectFile$Growe\x72", "wasReinserted", "(I)Z"⟩, 8), (⟨"RectFile$Growe\x72", "reinsert", "(LRectFile$Tree;I)V"⟩, 8), (⟨"RectFile$Growe\x72", "measureApart", "(LRectFile$Tree;I)V"⟩, 8), (⟨"RectFile$Growe\x72", "farthestApart", "(I)I"⟩, 8), (⟨"RectFile$Growe\x72", "closeGap", "(II)V"⟩, 8), (⟨"RectFile$Growe\x72", "split", "(LRectFile$Tree;I)I"⟩, 8), (⟨"RectFile$Splitte\x72", "arrange", "(LRectFile$Tree;II)V"⟩, 5), (⟨"RectFile$Splitte\x72", "margins", "(LRectFile$Tree;II)I"⟩, 5), (⟨"RectFile$Splitte\x72", "boxRun", "(LRectFile$Tree;IIILRectFile$Box;)V"⟩, 5), (⟨"RectFile$Splitte\x72", "chooseParting", "(LRectFile$Tree;II)V"⟩, 5), (⟨"RectFile", "numberPages", "()V"⟩, 12), (⟨"RectFile$Numbere\x72", "makeRoom", "(I)V"⟩, 2), (⟨"RectFile$Tree", "takeCountsFrom", "(LRectFile$Tree;)V"⟩, 13), (⟨"RectFile$Numbere\x72", "layPage", "(LRectFile$Tree;LRectFile$Tree;I)V"⟩, 2), (⟨"RectFile", "isInFile", "(I)Z"⟩, 12), (⟨"RectFile$Growe\x72", "awaitEntries", "(LRectFile$Tree;I)V"⟩, 8)]
theorem lw_r2 : ∀ q ∈ lw_privs_2, lw_okq q := List.forall_mem_cons.mpr ⟨lw_p16, List.forall_mem_cons.mpr ⟨lw_p17, List.forall_mem_cons.mpr ⟨lw_p18, List.forall_mem_cons.mpr ⟨lw_p19, List.forall_mem_cons.mpr ⟨lw_p20, List.forall_mem_cons.mpr ⟨lw_p21, List.forall_mem_cons.mpr ⟨lw_p22, List.forall_mem_cons.mpr ⟨lw_p23, List.forall_mem_cons.mpr ⟨lw_p24, List.forall_mem_cons.mpr ⟨lw_p25, List.forall_mem_cons.mpr ⟨lw_p26, List.forall_mem_cons.mpr ⟨lw_p27, List.forall_mem_cons.mpr ⟨lw_p28, List.forall_mem_cons.mpr ⟨lw_p29, List.forall_mem_cons.mpr ⟨lw_p30, List.forall_mem_cons.mpr ⟨lw_p31, fun _ h => absurd h List.not_mem_nil⟩⟩⟩⟩⟩⟩⟩⟩⟩⟩⟩⟩⟩⟩⟩⟩
theorem lw_p32 : lw_okq (⟨"RectFile$Tile\x72", "gathe\x72", "(LRectFile$Tree;)I"⟩, 1) := ⟨⟨by decide +kernel, by decide +kernel⟩, List.mem_of_getElem? (i := 240) (by decide +kernel), List.mem_of_getElem? (i := 847) (by decide +kernel), List.mem_of_getElem? (i := 848) (by decide +kernel)⟩
theorem lw_p33 : lw_okq (⟨"RectFile$Tile\x72", "arrange", "(LRectFile$Tree;III)V"⟩, 1) := ⟨⟨by decide +kernel, by decide +kernel⟩, List.mem_of_getElem? (i := 240) (by decide +kernel), List.mem_of_getElem? (i := 852) (by decide +kernel), List.mem_of_getElem? (i := 853) (by decide +kernel)⟩
theorem lw_p34 : lw_okq (⟨"RectFile$Tile\x72", "deal", "(LRectFile$Tree;II)I"⟩, 1) := ⟨⟨by decide +kernel, by decide +kernel⟩, List.mem_of_getElem? (i := 240) (by decide +kernel), List.mem_of_getElem? (i := 868) (by decide +kernel), List.mem_of_getElem? (i := 869) (by decide +kernel)⟩
theorem lw_p35 : lw_okq (⟨"RectFile", "isPage", "(I)Z"⟩, 12) := ⟨⟨by decide +kernel, by decide +kernel⟩, List.mem_of_getElem? (i := 25) (by decide +kernel), List.mem_of_getElem? (i := 882) (by decide +kernel), List.mem_of_getElem? (i := 883) (by decide +kernel)⟩
theorem lw_p36 : lw_okq (⟨"RectFile", "whyNoGraft", "(II)I"⟩, 12) := ⟨⟨by decide +kernel, by decide +kernel⟩, List.mem_of_getElem? (i := 25) (by decide +kernel), List.mem_of_getElem? (i := 886) (by decide +kernel), List.mem_of_getElem? (i := 887) (by decide +kernel)⟩
theorem lw_p37 : lw_okq (⟨"RectFile", "draw", "(I)I"⟩, 12) := ⟨⟨by decide +kernel, by decide +kernel⟩, List.mem_of_getElem? (i := 25) (by decide +kernel), List.mem_of_getElem? (i := 901) (by decide +kernel), List.mem_of_getElem? (i := 902) (by decide +kernel)⟩
theorem lw_p38 : lw_okq (⟨"RectFile$Seeke\x72", "makeRoom", "(I)V"⟩, 10) := ⟨⟨by decide +kernel, by decide +kernel⟩, List.mem_of_getElem? (i := 250) (by decide +kernel), List.mem_of_getElem? (i := 980) (by decide +kernel), List.mem_of_getElem? (i := 981) (by decide +kernel)⟩
theorem lw_p39 : lw_okq (⟨"RectFile$Seeke\x72", "await", "(II)V"⟩, 10) := ⟨⟨by decide +kernel, by decide +kernel⟩, List.mem_of_getElem? (i := 250) (by decide +kernel), List.mem_of_getElem? (i := 1009) (by decide +kernel), List.mem_of_getElem? (i := 1010) (by decide +kernel)⟩
theorem lw_p40 : lw_okq (⟨"RectFile$Seeke\x72", "move", "(II)V"⟩, 10) := ⟨⟨by decide +kernel, by decide +kernel⟩, List.mem_of_getElem? (i := 250) (by decide +kernel), List.mem_of_getElem? (i := 1014) (by decide +kernel), List.mem_of_getElem? (i := 1015) (by decide +kernel)⟩
theorem lw_p41 : lw_okq (⟨"RectFile$Seeke\x72", "dropFirst", "()V"⟩, 10) := ⟨⟨by decide +kernel, by decide +kernel⟩, List.mem_of_getElem? (i := 250) (by decide +kernel), List.mem_of_getElem? (i := 1018) (by decide +kernel), List.mem_of_getElem? (i := 1019) (by decide +kernel)⟩
theorem lw_p42 : lw_okq (⟨"RectFile$Seeke\x72", "lesserBelow", "(I)I"⟩, 10) := ⟨⟨by decide +kernel, by decide +kernel⟩, List.mem_of_getElem? (i := 250) (by decide +kernel), List.mem_of_getElem? (i := 1022) (by decide +kernel), List.mem_of_getElem? (i := 1023) (by decide +kernel)⟩
theorem lw_p43 : lw_okq (⟨"RectFile$Seeke\x72", "awaitEntries", "(LRectFile$Tree;III)V"⟩, 10) := ⟨⟨by decide +kernel, by decide +kernel⟩, List.mem_of_getElem? (i := 250) (by decide +kernel), List.mem_of_getElem? (i := 1026) (by decide +kernel), List.mem_of_getElem? (i := 1027) (by decide +kernel)⟩
theorem lw_p44 : lw_okq (⟨"RectFile$Measure\x72", "metBelow", "(LRectFile$Tree;I)I"⟩, 4) := ⟨⟨by decide +kernel, by decide +kernel⟩, List.mem_of_getElem? (i := 294) (by decide +kernel), List.mem_of_getElem? (i := 1046) (by decide +kernel), List.mem_of_getElem? (i := 1047) (by decide +kernel)⟩
theorem lw_p45 : lw_okq (⟨"RectFile$Measure\x72", "arrangeByLowY", "(LRectFile$Tree;)I"⟩, 4) := ⟨⟨by decide +kernel, by decide +kernel⟩, List.mem_of_getElem? (i := 294) (by decide +kernel), List.mem_of_getElem? (i := 1059) (by decide +kernel), List.mem_of_getElem? (i := 1060) (by decide +kernel)⟩
theorem lw_p46 : lw_okq (⟨"RectFile$Measure\x72", "arrangeEdges", "(LRectFile$Tree;I)I"⟩, 4) := ⟨⟨by decide +kernel, by decide +kernel⟩, List.mem_of_getElem? (i := 294) (by decide +kernel), List.mem_of_getElem? (i := 1063) (by decide +kernel), List.mem_of_getElem? (i := 1064) (by decide +kernel)⟩
theorem lw_p47 : lw_okq (⟨"RectFile$Measure\x72", "heightCovered", "(LRectFile$Tree;III)I"⟩, 4) := ⟨⟨by decide +kernel, by decide +kernel⟩, List.mem_of_getElem? (i := 294) (by decide +kernel), List.mem_of_getElem? (i := 1067) (by decide +kernel), List.mem_of_getElem? (i := 1068) (by decide +kernel)⟩
def lw_privs_3 : List (MethodName × Nat) := [(⟨"RectFile$Tile\x72", "gathe\x72", "(LRectFile$Tree;)I"⟩, 1), (⟨"RectFile$Tile\x72", "arrange", "(LRectFile$Tree;III)V"⟩, 1), (⟨"RectFile$Tile\x72", "deal", "(LRectFile$Tree;II)I"⟩, 1), (⟨"RectFile", "isPage", "(I)Z"⟩, 12), (⟨"RectFile", "whyNoGraft", "(II)I"⟩, 12), (⟨"RectFile", "draw", "(I)I"⟩, 12), (⟨"RectFile$Seeke\x72", "makeRoom", "(I)V"⟩, 10), (⟨"RectFile$Seeke\x72", "await", "(II)V"⟩, 10), (⟨"RectFile$Seeke\x72", "move", "(II)V"⟩, 10), (⟨"RectFile$Seeke\x72", "dropFirst", "()V"⟩, 10), (⟨"RectFile$Seeke\x72", "lesserBelow", "(I)I"⟩, 10), (⟨"RectFile$Seeke\x72", "awaitEntries", "(LRectFile$Tree;III)V"⟩, 10), (⟨"RectFile$Measure\x72", "metBelow", "(LRectFile$Tree;I)I"⟩, 4), (⟨"RectFile$Measure\x72", "arrangeByLowY", "(LRectFile$Tree;)I"⟩, 4), (⟨"RectFile$Measure\x72", "arrangeEdges", "(LRectFile$Tree;I)I"⟩, 4), (⟨"RectFile$Measure\x72", "heightCovered", "(LRectFile$Tree;III)I"⟩, 4)]
theorem lw_r3 : ∀ q ∈ lw_privs_3, lw_okq q := List.forall_mem_cons.mpr ⟨lw_p32, List.forall_mem_cons.mpr ⟨lw_p33, List.forall_mem_cons.mpr ⟨lw_p34, List.forall_mem_cons.mpr ⟨lw_p35, List.forall_mem_cons.mpr ⟨lw_p36, List.forall_mem_cons.mpr ⟨lw_p37, List.forall_mem_cons.mpr ⟨lw_p38, List.forall_mem_cons.mpr ⟨lw_p39, List.forall_mem_cons.mpr ⟨lw_p40, List.forall_mem_cons.mpr ⟨lw_p41, List.forall_mem_cons.mpr ⟨lw_p42, List.forall_mem_cons.mpr ⟨lw_p43, List.forall_mem_cons.mpr ⟨lw_p44, List.forall_mem_cons.mpr ⟨lw_p45, List.forall_mem_cons.mpr ⟨lw_p46, List.forall_mem_cons.mpr ⟨lw_p47, fun _ h => absurd h List.not_mem_nil⟩⟩⟩⟩⟩⟩⟩⟩⟩⟩⟩⟩⟩⟩⟩⟩
theorem lw_p48 : lw_okq (⟨"RectFile$Measure\x72", "overlapWithRow", "(LRectFile$Tree;I)J"⟩, 4) := ⟨⟨by decide +kernel, by decide +kernel⟩, List.mem_of_getElem? (i := 294) (by decide +kernel), List.mem_of_getElem? (i := 1127) (by decide +kernel), List.mem_of_getElem? (i := 1128) (by decide +kernel)⟩
theorem lw_p49 : lw_okq (⟨"RectFile$Tree", "hasLikeSides", "(LRectFile$Tree;I)Z"⟩, 13) := ⟨⟨by decide +kernel, by decide +kernel⟩, List.mem_of_getElem? (i := 314) (by decide +kernel), List.mem_of_getElem? (i := 1140) (by decide +kernel), List.mem_of_getElem? (i := 1141) (by decide +kernel)⟩
theorem lw_p50 : lw_okq (⟨"RectFile", "countInTree", "(I)I"⟩, 12) := ⟨⟨by decide +kernel, by decide +kernel⟩, List.mem_of_getElem? (i := 25) (by decide +kernel), List.mem_of_getElem? (i := 1148) (by decide +kernel), List.mem_of_getElem? (i := 1149) (by decide +kernel)⟩
theorem lw_p51 : lw_okq (⟨"RectFileModel", "puts", "(I)V"⟩, 37) := ⟨⟨by decide +kernel, by decide +kernel⟩, List.mem_of_getElem? (i := 1152) (by decide +kernel), List.mem_of_getElem? (i := 1275) (by decide +kernel), List.mem_of_getElem? (i := 1276) (by decide +kernel)⟩
theorem lw_p52 : lw_okq (⟨"RectFileModel", "readsFile", "()V"⟩, 37) := ⟨⟨by decide +kernel, by decide +kernel⟩, List.mem_of_getElem? (i := 1152) (by decide +kernel), List.mem_of_getElem? (i := 1287) (by decide +kernel), List.mem_of_getElem? (i := 1288) (by decide +kernel)⟩
theorem lw_p53 : lw_okq (⟨"RectFileModel", "next", "()I"⟩, 37) := ⟨⟨by decide +kernel, by decide +kernel⟩, List.mem_of_getElem? (i := 1152) (by decide +kernel), List.mem_of_getElem? (i := 1291) (by decide +kernel), List.mem_of_getElem? (i := 1292) (by decide +kernel)⟩
theorem lw_p54 : lw_okq (⟨"RectFileModel", "sign", "()I"⟩, 37) := ⟨⟨by decide +kernel, by decide +kernel⟩, List.mem_of_getElem? (i := 1152) (by decide +kernel), List.mem_of_getElem? (i := 1295) (by decide +kernel), List.mem_of_getElem? (i := 1296) (by decide +kernel)⟩
theorem lw_p55 : lw_okq (⟨"RectFileModel", "takes", "(Ljava/lang/String;)Z"⟩, 37) := ⟨⟨by decide +kernel, by decide +kernel⟩, List.mem_of_getElem? (i := 1152) (by decide +kernel), List.mem_of_getElem? (i := 1300) (by decide +kernel), List.mem_of_getElem? (i := 1301) (by decide +kernel)⟩
theorem lw_p56 : lw_okq (⟨"RectFileModel", "isRight", "()Z"⟩, 37) := ⟨⟨by decide +kernel, by decide +kernel⟩, List.mem_of_getElem? (i := 1152) (by decide +kernel), List.mem_of_getElem? (i := 1309) (by decide +kernel), List.mem_of_getElem? (i := 1310) (by decide +kernel)⟩
theorem lw_p57 : lw_okq (⟨"RectFileModel", "fails", "(II)V"⟩, 37) := ⟨⟨by decide +kernel, by decide +kernel⟩, List.mem_of_getElem? (i := 1152) (by decide +kernel), List.mem_of_getElem? (i := 1315) (by decide +kernel), List.mem_of_getElem? (i := 1316) (by decide +kernel)⟩
theorem lw_p58 : lw_okq (⟨"RectFileModel", "numbe\x72", "(IIZ)I"⟩, 37) := ⟨⟨by decide +kernel, by decide +kernel⟩, List.mem_of_getElem? (i := 1152) (by decide +kernel), List.mem_of_getElem? (i := 1319) (by decide +kernel), List.mem_of_getElem? (i := 1320) (by decide +kernel)⟩
theorem lw_p59 : lw_okq (⟨"RectFileModel", "readsRect", "()V"⟩, 37) := ⟨⟨by decide +kernel, by decide +kernel⟩, List.mem_of_getElem? (i := 1152) (by decide +kernel), List.mem_of_getElem? (i := 1330) (by decide +kernel), List.mem_of_getElem? (i := 1331) (by decide +kernel)⟩
theorem lw_p60 : lw_okq (⟨"RectFileModel", "freePage", "(I)I"⟩, 37) := ⟨⟨by decide +kernel, by decide +kernel⟩, List.mem_of_getElem? (i := 1152) (by decide +kernel), List.mem_of_getElem? (i := 1335) (by decide +kernel), List.mem_of_getElem? (i := 1336) (by decide +kernel)⟩
theorem lw_p61 : lw_okq (⟨"RectFileModel", "laysRect", "(IIIII)V"⟩, 37) := ⟨⟨by decide +kernel, by decide +kernel⟩, List.mem_of_getElem? (i := 1152) (by decide +kernel), List.mem_of_getElem? (i := 1342) (by decide +kernel), List.mem_of_getElem? (i := 1343) (by decide +kernel)⟩
theorem lw_p62 : lw_okq (⟨"RectFileModel", "putsRect", "(I)V"⟩, 37) := ⟨⟨by decide +kernel, by decide +kernel⟩, List.mem_of_getElem? (i := 1152) (by decide +kernel), List.mem_of_getElem? (i := 1349) (by decide +kernel), List.mem_of_getElem? (i := 1350) (by decide +kernel)⟩
theorem lw_p63 : lw_okq (⟨"RectFileModel", "clearsAgain", "()V"⟩, 37) := ⟨⟨by decide +kernel, by decide +kernel⟩, List.mem_of_getElem? (i := 1152) (by decide +kernel), List.mem_of_getElem? (i := 1353) (by decide +kernel), List.mem_of_getElem? (i := 1354) (by decide +kernel)⟩
def lw_privs_4 : List (MethodName × Nat) := [(⟨"RectFile$Measure\x72", "overlapWithRow", "(LRectFile$Tree;I)J"⟩, 4), (⟨"RectFile$Tree", "hasLikeSides", "(LRectFile$Tree;I)Z"⟩, 13), (⟨"RectFile", "countInTree", "(I)I"⟩, 12), (⟨"RectFileModel", "puts", "(I)V"⟩, 37), (⟨"RectFileModel", "readsFile", "()V"⟩, 37), (⟨"RectFileModel", "next", "()I"⟩, 37), (⟨"RectFileModel", "sign", "()I"⟩, 37), (⟨"RectFileModel", "takes", "(Ljava/lang/String;)Z"⟩, 37), (⟨"RectFileModel", "isRight", "()Z"⟩, 37), (⟨"RectFileModel", "fails", "(II)V"⟩, 37), (⟨"RectFileModel", "numbe\x72", "(IIZ)I"⟩, 37), (⟨"RectFileModel", "readsRect", "()V"⟩, 37), (⟨"RectFileModel", "freePage", "(I)I"⟩, 37), (⟨"RectFileModel", "laysRect", "(IIIII)V"⟩, 37), (⟨"RectFileModel", "putsRect", "(I)V"⟩, 37), (⟨"RectFileModel", "clearsAgain", "()V"⟩, 37)]
theorem lw_r4 : ∀ q ∈ lw_privs_4, lw_okq q := List.forall_mem_cons.mpr ⟨lw_p48, List.forall_mem_cons.mpr ⟨lw_p49, List.forall_mem_cons.mpr ⟨lw_p50, List.forall_mem_cons.mpr ⟨lw_p51, List.forall_mem_cons.mpr ⟨lw_p52, List.forall_mem_cons.mpr ⟨lw_p53, List.forall_mem_cons.mpr ⟨lw_p54, List.forall_mem_cons.mpr ⟨lw_p55, List.forall_mem_cons.mpr ⟨lw_p56, List.forall_mem_cons.mpr ⟨lw_p57, List.forall_mem_cons.mpr ⟨lw_p58, List.forall_mem_cons.mpr ⟨lw_p59, List.forall_mem_cons.mpr ⟨lw_p60, List.forall_mem_cons.mpr ⟨lw_p61, List.forall_mem_cons.mpr ⟨lw_p62, List.forall_mem_cons.mpr ⟨lw_p63, fun _ h => absurd h List.not_mem_nil⟩⟩⟩⟩⟩⟩⟩⟩⟩⟩⟩⟩⟩⟩⟩⟩
theorem lw_p64 : lw_okq (⟨"RectFileModel", "comes", "(II)V"⟩, 37) := ⟨⟨by decide +kernel, by decide +kernel⟩, List.mem_of_getElem? (i := 1152) (by decide +kernel), List.mem_of_getElem? (i := 1357) (by decide +kernel), List.mem_of_getElem? (i := 1358) (by decide +kernel)⟩
theorem lw_p65 : lw_okq (⟨"RectFileModel", "boxAt", "(II)I"⟩, 37) := ⟨⟨by decide +kernel, by decide +kernel⟩, List.mem_of_getElem? (i := 1152) (by decide +kernel), List.mem_of_getElem? (i := 1361) (by decide +kernel), List.mem_of_getElem? (i := 1362) (by decide +kernel)⟩
theorem lw_p66 : lw_okq (⟨"RectFileModel", "takesBox", "(I[I)V"⟩, 37) := ⟨⟨by decide +kernel, by decide +kernel⟩, List.mem_of_getElem? (i := 1152) (by decide +kernel), List.mem_of_getElem? (i := 1365) (by decide +kernel), List.mem_of_getElem? (i := 1366) (by decide +kernel)⟩
theorem lw_p67 : lw_okq (⟨"RectFileModel", "pageFo\x72", "(I)I"⟩, 37) := ⟨⟨by decide +kernel, by decide +kernel⟩, List.mem_of_getElem? (i := 1152) (by decide +kernel), List.mem_of_getElem? (i := 1369) (by decide +kernel), List.mem_of_getElem? (i := 1370) (by decide +kernel)⟩
theorem lw_p68 : lw_okq (⟨"RectFileModel", "chosen", "(I)I"⟩, 37) := ⟨⟨by decide +kernel, by decide +kernel⟩, List.mem_of_getElem? (i := 1152) (by decide +kernel), List.mem_of_getElem? (i := 1373) (by decide +kernel), List.mem_of_getElem? (i := 1374) (by decide +kernel)⟩
theorem lw_p69 : lw_okq (⟨"RectFileModel", "moreOverlap", "(II)J"⟩, 37) := ⟨⟨by decide +kernel, by decide +kernel⟩, List.mem_of_getElem? (i := 1152) (by decide +kernel), List.mem_of_getElem? (i := 1377) (by decide +kernel), List.mem_of_getElem? (i := 1378) (by decide +kernel)⟩
theorem lw_p70 : lw_okq (⟨"RectFileModel", "takesGrown", "(I)V"⟩, 37) := ⟨⟨by decide +kernel, by decide +kernel⟩, List.mem_of_getElem? (i := 1152) (by decide +kernel), List.mem_of_getElem? (i := 1381) (by decide +kernel), List.mem_of_getElem? (i := 1382) (by decide +kernel)⟩
theorem lw_p71 : lw_okq (⟨"RectFileModel", "comesLast", "(II)V"⟩, 37) := ⟨⟨by decide +kernel, by decide +kernel⟩, List.mem_of_getElem? (i := 1152) (by decide +kernel), List.mem_of_getElem? (i := 1392) (by decide +kernel), List.mem_of_getElem? (i := 1393) (by decide +kernel)⟩
theorem lw_p72 : lw_okq (⟨"RectFileModel", "belongs", "(II)V"⟩, 37) := ⟨⟨by decide +kernel, by decide +kernel⟩, List.mem_of_getElem? (i := 1152) (by decide +kernel), List.mem_of_getElem? (i := 1396) (by decide +kernel), List.mem_of_getElem? (i := 1397) (by decide +kernel)⟩
theorem lw_p73 : lw_okq (⟨"RectFileModel", "laysBoxes", "(I)V"⟩, 37) := ⟨⟨by decide +kernel, by decide +kernel⟩, List.mem_of_getElem? (i := 1152) (by decide +kernel), List.mem_of_getElem? (i := 1400) (by decide +kernel), List.mem_of_getElem? (i := 1401) (by decide +kernel)⟩
theorem lw_p74 : lw_okq (⟨"RectFileModel", "grows", "([II)V"⟩, 37) := ⟨⟨by decide +kernel, by decide +kernel⟩, List.mem_of_getElem? (i := 1152) (by decide +kernel), List.mem_of_getElem? (i := 1404) (by decide +kernel), List.mem_of_getElem? (i := 1405) (by decide +kernel)⟩
theorem lw_p75 : lw_okq (⟨"RectFileModel", "tooFull", "(I)V"⟩, 37) := ⟨⟨by decide +kernel, by decide +kernel⟩, List.mem_of_getElem? (i := 1152) (by decide +kernel), List.mem_of_getElem? (i := 1408) (by decide +kernel), List.mem_of_getElem? (i := 1409) (by decide +kernel)⟩
theorem lw_p76 : lw_okq (⟨"RectFileModel", "reinserts", "(I)V"⟩, 37) := ⟨⟨by decide +kernel, by decide +kernel⟩, List.mem_of_getElem? (i := 1152) (by decide +kernel), List.mem_of_getElem? (i := 1412) (by decide +kernel), List.mem_of_getElem? (i := 1413) (by decide +kernel)⟩
theorem lw_p77 : lw_okq (⟨"RectFileModel", "farOf", "(II)J"⟩, 37) := ⟨⟨by decide +kernel, by decide +kernel⟩, List.mem_of_getElem? (i := 1152) (by decide +kernel), List.mem_of_getElem? (i := 1416) (by decide +kernel), List.mem_of_getElem? (i := 1417) (by decide +kernel)⟩
theorem lw_p78 : lw_okq (⟨"RectFileModel", "goesOut", "(II)V"⟩, 37) := ⟨⟨by decide +kernel, by decide +kernel⟩, List.mem_of_getElem? (i := 1152) (by decide +kernel), List.mem_of_getElem? (i := 1420) (by decide +kernel), List.mem_of_getElem? (i := 1421) (by decide +kernel)⟩
theorem lw_p79 : lw_okq (⟨"RectFileModel", "splits", "(I)V"⟩, 37) := ⟨⟨by decide +kernel, by decide +kernel⟩, List.mem_of_getElem? (i := 1152) (by decide +kernel), List.mem_of_getElem? (i := 1424) (by decide +kernel), List.mem_of_getElem? (i := 1425) (by decide +kernel)⟩
def lw_privs_5 : List (MethodName × Nat) := [(⟨"RectFileModel", "comes", "(II)V"⟩, 37), (⟨"RectFileModel", "boxAt", "(II)I"⟩, 37), (⟨"RectFileModel", "takesBox", "(I[I)V"⟩, 37), (⟨"RectFileModel", "pageFo\x72", "(I)I"⟩, 37), (⟨"RectFileModel", "chosen", "(I)I"⟩, 37), (⟨"RectFileModel", "moreOverlap", "(II)J"⟩, 37), (⟨"RectFileModel", "takesGrown", "(I)V"⟩, 37), (⟨"RectFileModel", "comesLast", "(II)V"⟩, 37), (⟨"RectFileModel", "belongs", "(II)V"⟩, 37), (⟨"RectFileModel", "laysBoxes", "(I)V"⟩, 37), (⟨"RectFileModel", "grows", "([II)V"⟩, 37), (⟨"RectFileModel", "tooFull", "(I)V"⟩, 37), (⟨"RectFileModel", "reinserts", "(I)V"⟩, 37), (⟨"RectFileModel", "farOf", "(II)J"⟩, 37), (⟨"RectFileModel", "goesOut", "(II)V"⟩, 37), (⟨"RectFileModel", "splits", "(I)V"⟩, 37)]
theorem lw_r5 : ∀ q ∈ lw_privs_5, lw_okq q := List.forall_mem_cons.mpr ⟨lw_p64, List.forall_mem_cons.mpr ⟨lw_p65, List.forall_mem_cons.mpr ⟨lw_p66, List.forall_mem_cons.mpr ⟨lw_p67, List.forall_mem_cons.mpr ⟨lw_p68, List.forall_mem_cons.mpr ⟨lw_p69, List.forall_mem_cons.mpr ⟨lw_p70, List.forall_mem_cons.mpr ⟨lw_p71, List.forall_mem_cons.mpr ⟨lw_p72, List.forall_mem_cons.mpr ⟨lw_p73, List.forall_mem_cons.mpr ⟨lw_p74, List.forall_mem_cons.mpr ⟨lw_p75, List.forall_mem_cons.mpr ⟨lw_p76, List.forall_mem_cons.mpr ⟨lw_p77, List.forall_mem_cons.mpr ⟨lw_p78, List.forall_mem_cons.mpr ⟨lw_p79, fun _ h => absurd h List.not_mem_nil⟩⟩⟩⟩⟩⟩⟩⟩⟩⟩⟩⟩⟩⟩⟩⟩
theorem lw_p80 : lw_okq (⟨"RectFileModel", "margins", "(II)J"⟩, 37) := ⟨⟨by decide +kernel, by decide +kernel⟩, List.mem_of_getElem? (i := 1152) (by decide +kernel), List.mem_of_getElem? (i := 1428) (by decide +kernel), List.mem_of_getElem? (i := 1429) (by decide +kernel)⟩
theorem lw_p81 : lw_okq (⟨"RectFileModel", "laysOrde\x72", "(III)V"⟩, 37) := ⟨⟨by decide +kernel, by decide +kernel⟩, List.mem_of_getElem? (i := 1152) (by decide +kernel), List.mem_of_getElem? (i := 1432) (by decide +kernel), List.mem_of_getElem? (i := 1433) (by decide +kernel)⟩
theorem lw_p82 : lw_okq (⟨"RectFileModel", "isAhead", "(IIII)Z"⟩, 37) := ⟨⟨by decide +kernel, by decide +kernel⟩, List.mem_of_getElem? (i := 1152) (by decide +kernel), List.mem_of_getElem? (i := 1436) (by decide +kernel), List.mem_of_getElem? (i := 1437) (by decide +kernel)⟩
theorem lw_p83 : lw_okq (⟨"RectFileModel", "laysParting", "(III)V"⟩, 37) := ⟨⟨by decide +kernel, by decide +kernel⟩, List.mem_of_getElem? (i := 1152) (by decide +kernel), List.mem_of_getElem? (i := 1440) (by decide +kernel), List.mem_of_getElem? (i := 1441) (by decide +kernel)⟩
theorem lw_p84 : lw_okq (⟨"RectFileModel", "laysFrom", "([II)V"⟩, 37) := ⟨⟨by decide +kernel, by decide +kernel⟩, List.mem_of_getElem? (i := 1152) (by decide +kernel), List.mem_of_getElem? (i := 1451) (by decide +kernel), List.mem_of_getElem? (i := 1452) (by decide +kernel)⟩
theorem lw_p85 : lw_okq (⟨"RectFileModel", "isRect", "(I)Z"⟩, 37) := ⟨⟨by decide +kernel, by decide +kernel⟩, List.mem_of_getElem? (i := 1152) (by decide +kernel), List.mem_of_getElem? (i := 1464) (by decide +kernel), List.mem_of_getElem? (i := 1465) (by decide +kernel)⟩
theorem lw_p86 : lw_okq (⟨"RectFileModel", "remembers", "()V"⟩, 37) := ⟨⟨by decide +kernel, by decide +kernel⟩, List.mem_of_getElem? (i := 1152) (by decide +kernel), List.mem_of_getElem? (i := 1468) (by decide +kernel), List.mem_of_getElem? (i := 1469) (by decide +kernel)⟩
theorem lw_p87 : lw_okq (⟨"RectFileModel", "keepsIn", "([II)V"⟩, 37) := ⟨⟨by decide +kernel, by decide +kernel⟩, List.mem_of_getElem? (i := 1152) (by decide +kernel), List.mem_of_getElem? (i := 1472) (by decide +kernel), List.mem_of_getElem? (i := 1473) (by decide +kernel)⟩
theorem lw_p88 : lw_okq (⟨"RectFileModel", "pagesNow", "()I"⟩, 37) := ⟨⟨by decide +kernel, by decide +kernel⟩, List.mem_of_getElem? (i := 1152) (by decide +kernel), List.mem_of_getElem? (i := 1476) (by decide +kernel), List.mem_of_getElem? (i := 1477) (by decide +kernel)⟩
theorem lw_p89 : lw_okq (⟨"RectFileModel", "numbers", "()V"⟩, 37) := ⟨⟨by decide +kernel, by decide +kernel⟩, List.mem_of_getElem? (i := 1152) (by decide +kernel), List.mem_of_getElem? (i := 1480) (by decide +kernel), List.mem_of_getElem? (i := 1481) (by decide +kernel)⟩
theorem lw_p90 : lw_okq (⟨"RectFileModel", "numbersFrom", "(I)V"⟩, 37) := ⟨⟨by decide +kernel, by decide +kernel⟩, List.mem_of_getElem? (i := 1152) (by decide +kernel), List.mem_of_getElem? (i := 1484) (by decide +kernel), List.mem_of_getElem? (i := 1485) (by decide +kernel)⟩
theorem lw_p91 : lw_okq (⟨"RectFileModel", "removes", "(I)V"⟩, 37) := ⟨⟨by decide +kernel, by decide +kernel⟩, List.mem_of_getElem? (i := 1152) (by decide +kernel), List.mem_of_getElem? (i := 1492) (by decide +kernel), List.mem_of_getElem? (i := 1493) (by decide +kernel)⟩
theorem lw_p92 : lw_okq (⟨"RectFileModel", "comeAll", "(II)V"⟩, 37) := ⟨⟨by decide +kernel, by decide +kernel⟩, List.mem_of_getElem? (i := 1152) (by decide +kernel), List.mem_of_getElem? (i := 1496) (by decide +kernel), List.mem_of_getElem? (i := 1497) (by decide +kernel)⟩
theorem lw_p93 : lw_okq (⟨"RectFileModel", "laysSlices", "(I)V"⟩, 37) := ⟨⟨by decide +kernel, by decide +kernel⟩, List.mem_of_getElem? (i := 1152) (by decide +kernel), List.mem_of_getElem? (i := 1509) (by decide +kernel), List.mem_of_getElem? (i := 1510) (by decide +kernel)⟩
theorem lw_p94 : lw_okq (⟨"RectFileModel", "sorts", "(III)V"⟩, 37) := ⟨⟨by decide +kernel, by decide +kernel⟩, List.mem_of_getElem? (i := 1152) (by decide +kernel), List.mem_of_getElem? (i := 1513) (by decide +kernel), List.mem_of_getElem? (i := 1514) (by decide +kernel)⟩
theorem lw_p95 : lw_okq (⟨"RectFileModel", "isEarlie\x72", "(III)Z"⟩, 37) := ⟨⟨by decide +kernel, by decide +kernel⟩, List.mem_of_getElem? (i := 1152) (by decide +kernel), List.mem_of_getElem? (i := 1517) (by decide +kernel), List.mem_of_getElem? (i := 1518) (by decide +kernel)⟩
def lw_privs_6 : List (MethodName × Nat) := [(⟨"RectFileModel", "margins", "(II)J"⟩, 37), (⟨"RectFileModel", "laysOrde\x72", "(III)V"⟩, 37), (⟨"RectFileModel", "isAhead", "(IIII)Z"⟩, 37), (⟨"RectFileModel", "laysParting", "(III)V"⟩, 37), (⟨"RectFileModel", "laysFrom", "([II)V"⟩, 37), (⟨"RectFileModel", "isRect", "(I)Z"⟩, 37), (⟨"RectFileModel", "remembers", "()V"⟩, 37), (⟨"RectFileModel", "keepsIn", "([II)V"⟩, 37), (⟨"RectFileModel", "pagesNow", "()I"⟩, 37), (⟨"RectFileModel", "numbers", "()V"⟩, 37), (⟨"RectFileModel", "numbersFrom", "(I)V"⟩, 37), (⟨"RectFileModel", "removes", "(I)V"⟩, 37), (⟨"RectFileModel", "comeAll", "(II)V"⟩, 37), (⟨"RectFileModel", "laysSlices", "(I)V"⟩, 37), (⟨"RectFileModel", "sorts", "(III)V"⟩, 37), (⟨"RectFileModel", "isEarlie\x72", "(III)Z"⟩, 37)]
theorem lw_r6 : ∀ q ∈ lw_privs_6, lw_okq q := List.forall_mem_cons.mpr ⟨lw_p80, List.forall_mem_cons.mpr ⟨lw_p81, List.forall_mem_cons.mpr ⟨lw_p82, List.forall_mem_cons.mpr ⟨lw_p83, List.forall_mem_cons.mpr ⟨lw_p84, List.forall_mem_cons.mpr ⟨lw_p85, List.forall_mem_cons.mpr ⟨lw_p86, List.forall_mem_cons.mpr ⟨lw_p87, List.forall_mem_cons.mpr ⟨lw_p88, List.forall_mem_cons.mpr ⟨lw_p89, List.forall_mem_cons.mpr ⟨lw_p90, List.forall_mem_cons.mpr ⟨lw_p91, List.forall_mem_cons.mpr ⟨lw_p92, List.forall_mem_cons.mpr ⟨lw_p93, List.forall_mem_cons.mpr ⟨lw_p94, List.forall_mem_cons.mpr ⟨lw_p95, fun _ h => absurd h List.not_mem_nil⟩⟩⟩⟩⟩⟩⟩⟩⟩⟩⟩⟩⟩⟩⟩⟩
theorem lw_p96 : lw_okq (⟨"RectFileModel", "deals", "(II)I"⟩, 37) := ⟨⟨by decide +kernel, by decide +kernel⟩, List.mem_of_getElem? (i := 1152) (by decide +kernel), List.mem_of_getElem? (i := 1521) (by decide +kernel), List.mem_of_getElem? (i := 1522) (by decide +kernel)⟩
theorem lw_p97 : lw_okq (⟨"RectFileModel", "pageBy", "(I)I"⟩, 37) := ⟨⟨by decide +kernel, by decide +kernel⟩, List.mem_of_getElem? (i := 1152) (by decide +kernel), List.mem_of_getElem? (i := 1529) (by decide +kernel), List.mem_of_getElem? (i := 1530) (by decide +kernel)⟩
theorem lw_p98 : lw_okq (⟨"RectFileModel", "freeRect", "()I"⟩, 37) := ⟨⟨by decide +kernel, by decide +kernel⟩, List.mem_of_getElem? (i := 1152) (by decide +kernel), List.mem_of_getElem? (i := 1542) (by decide +kernel), List.mem_of_getElem? (i := 1543) (by decide +kernel)⟩
theorem lw_p99 : lw_okq (⟨"RectFileModel", "drawnOf", "(I)I"⟩, 37) := ⟨⟨by decide +kernel, by decide +kernel⟩, List.mem_of_getElem? (i := 1152) (by decide +kernel), List.mem_of_getElem? (i := 1546) (by decide +kernel), List.mem_of_getElem? (i := 1547) (by decide +kernel)⟩
theorem lw_p100 : lw_okq (⟨"RectFileModel", "rectMany", "()I"⟩, 37) := ⟨⟨by decide +kernel, by decide +kernel⟩, List.mem_of_getElem? (i := 1152) (by decide +kernel), List.mem_of_getElem? (i := 1558) (by decide +kernel), List.mem_of_getElem? (i := 1559) (by decide +kernel)⟩
theorem lw_p101 : lw_okq (⟨"RectFileModel", "isKept", "(I)Z"⟩, 37) := ⟨⟨by decide +kernel, by decide +kernel⟩, List.mem_of_getElem? (i := 1152) (by decide +kernel), List.mem_of_getElem? (i := 1566) (by decide +kernel), List.mem_of_getElem? (i := 1567) (by decide +kernel)⟩
theorem lw_p102 : lw_okq (⟨"RectFileModel", "rectsIn", "(I)I"⟩, 37) := ⟨⟨by decide +kernel, by decide +kernel⟩, List.mem_of_getElem? (i := 1152) (by decide +kernel), List.mem_of_getElem? (i := 1581) (by decide +kernel), List.mem_of_getElem? (i := 1582) (by decide +kernel)⟩
theorem lw_p103 : lw_okq (⟨"RectFileModel", "looks", "(IIIII)I"⟩, 37) := ⟨⟨by decide +kernel, by decide +kernel⟩, List.mem_of_getElem? (i := 1152) (by decide +kernel), List.mem_of_getElem? (i := 1597) (by decide +kernel), List.mem_of_getElem? (i := 1598) (by decide +kernel)⟩
theorem lw_p104 : lw_okq (⟨"RectFileModel", "meets", "(IIIII)Z"⟩, 37) := ⟨⟨by decide +kernel, by decide +kernel⟩, List.mem_of_getElem? (i := 1152) (by decide +kernel), List.mem_of_getElem? (i := 1601) (by decide +kernel), List.mem_of_getElem? (i := 1602) (by decide +kernel)⟩
theorem lw_p105 : lw_okq (⟨"RectFileModel", "comesToWait", "(IIJ)V"⟩, 37) := ⟨⟨by decide +kernel, by decide +kernel⟩, List.mem_of_getElem? (i := 1152) (by decide +kernel), List.mem_of_getElem? (i := 1612) (by decide +kernel), List.mem_of_getElem? (i := 1613) (by decide +kernel)⟩
theorem lw_p106 : lw_okq (⟨"RectFileModel", "firstWaiting", "()I"⟩, 37) := ⟨⟨by decide +kernel, by decide +kernel⟩, List.mem_of_getElem? (i := 1152) (by decide +kernel), List.mem_of_getElem? (i := 1616) (by decide +kernel), List.mem_of_getElem? (i := 1617) (by decide +kernel)⟩
theorem lw_p107 : lw_okq (⟨"RectFileModel", "goesAhead", "(II)Z"⟩, 37) := ⟨⟨by decide +kernel, by decide +kernel⟩, List.mem_of_getElem? (i := 1152) (by decide +kernel), List.mem_of_getElem? (i := 1620) (by decide +kernel), List.mem_of_getElem? (i := 1621) (by decide +kernel)⟩
theorem lw_p108 : lw_okq (⟨"RectFileModel", "farFrom", "(III)J"⟩, 37) := ⟨⟨by decide +kernel, by decide +kernel⟩, List.mem_of_getElem? (i := 1152) (by decide +kernel), List.mem_of_getElem? (i := 1624) (by decide +kernel), List.mem_of_getElem? (i := 1625) (by decide +kernel)⟩
theorem lw_p109 : lw_okq (⟨"RectFileModel", "laysCuts", "([II)V"⟩, 37) := ⟨⟨by decide +kernel, by decide +kernel⟩, List.mem_of_getElem? (i := 1152) (by decide +kernel), List.mem_of_getElem? (i := 1637) (by decide +kernel), List.mem_of_getElem? (i := 1638) (by decide +kernel)⟩
theorem lw_p110 : lw_okq (⟨"RectFileModel", "isCovered", "(IIII)Z"⟩, 37) := ⟨⟨by decide +kernel, by decide +kernel⟩, List.mem_of_getElem? (i := 1152) (by decide +kernel), List.mem_of_getElem? (i := 1641) (by decide +kernel), List.mem_of_getElem? (i := 1642) (by decide +kernel)⟩
theorem lw_p111 : lw_okq (⟨"RectFileModel", "bitsOf", "(I)J"⟩, 37) := ⟨⟨by decide +kernel, by decide +kernel⟩, List.mem_of_getElem? (i := 1152) (by decide +kernel), List.mem_of_getElem? (i := 1649) (by decide +kernel), List.mem_of_getElem? (i := 1650) (by decide +kernel)⟩
def lw_privs_7 : List (MethodName × Nat) := [(⟨"RectFileModel", "deals", "(II)I"⟩, 37), (⟨"RectFileModel", "pageBy", "(I)I"⟩, 37), (⟨"RectFileModel", "freeRect", "()I"⟩, 37), (⟨"RectFileModel", "drawnOf", "(I)I"⟩, 37), (⟨"RectFileModel", "rectMany", "()I"⟩, 37), (⟨"RectFileModel", "isKept", "(I)Z"⟩, 37), (⟨"RectFileModel", "rectsIn", "(I)I"⟩, 37), (⟨"RectFileModel", "looks", "(IIIII)I"⟩, 37), (⟨"RectFileModel", "meets", "(IIIII)Z"⟩, 37), (⟨"RectFileModel", "comesToWait", "(IIJ)V"⟩, 37), (⟨"RectFileModel", "firstWaiting", "()I"⟩, 37), (⟨"RectFileModel", "goesAhead", "(II)Z"⟩, 37), (⟨"RectFileModel", "farFrom", "(III)J"⟩, 37), (⟨"RectFileModel", "laysCuts", "([II)V"⟩, 37), (⟨"RectFileModel", "isCovered", "(IIII)Z"⟩, 37), (⟨"RectFileModel", "bitsOf", "(I)J"⟩, 37)]
theorem lw_r7 : ∀ q ∈ lw_privs_7, lw_okq q := List.forall_mem_cons.mpr ⟨lw_p96, List.forall_mem_cons.mpr ⟨lw_p97, List.forall_mem_cons.mpr ⟨lw_p98, List.forall_mem_cons.mpr ⟨lw_p99, List.forall_mem_cons.mpr ⟨lw_p100, List.forall_mem_cons.mpr ⟨lw_p101, List.forall_mem_cons.mpr ⟨lw_p102, List.forall_mem_cons.mpr ⟨lw_p103, List.forall_mem_cons.mpr ⟨lw_p104, List.forall_mem_cons.mpr ⟨lw_p105, List.forall_mem_cons.mpr ⟨lw_p106, List.forall_mem_cons.mpr ⟨lw_p107, List.forall_mem_cons.mpr ⟨lw_p108, List.forall_mem_cons.mpr ⟨lw_p109, List.forall_mem_cons.mpr ⟨lw_p110, List.forall_mem_cons.mpr ⟨lw_p111, fun _ h => absurd h List.not_mem_nil⟩⟩⟩⟩⟩⟩⟩⟩⟩⟩⟩⟩⟩⟩⟩⟩
theorem lw_p112 : lw_okq (⟨"RectFileModel", "isLike", "(III)Z"⟩, 37) := ⟨⟨by decide +kernel, by decide +kernel⟩, List.mem_of_getElem? (i := 1152) (by decide +kernel), List.mem_of_getElem? (i := 1690) (by decide +kernel), List.mem_of_getElem? (i := 1691) (by decide +kernel)⟩
theorem lw_p113 : lw_okq (⟨"RectFileModel", "isLikeRect", "(III)Z"⟩, 37) := ⟨⟨by decide +kernel, by decide +kernel⟩, List.mem_of_getElem? (i := 1152) (by decide +kernel), List.mem_of_getElem? (i := 1694) (by decide +kernel), List.mem_of_getElem? (i := 1695) (by decide +kernel)⟩
theorem lw_p114 : lw_okq (⟨"RectFileModel", "shown", "(I)I"⟩, 37) := ⟨⟨by decide +kernel, by decide +kernel⟩, List.mem_of_getElem? (i := 1152) (by decide +kernel), List.mem_of_getElem? (i := 1702) (by decide +kernel), List.mem_of_getElem? (i := 1703) (by decide +kernel)⟩
def lw_privs_8 : List (MethodName × Nat) := [(⟨"RectFileModel", "isLike", "(III)Z"⟩, 37), (⟨"RectFileModel", "isLikeRect", "(III)Z"⟩, 37), (⟨"RectFileModel", "shown", "(I)I"⟩, 37)]
theorem lw_r8 : ∀ q ∈ lw_privs_8, lw_okq q := List.forall_mem_cons.mpr ⟨lw_p112, List.forall_mem_cons.mpr ⟨lw_p113, List.forall_mem_cons.mpr ⟨lw_p114, fun _ h => absurd h List.not_mem_nil⟩⟩⟩
def lw_privs : List (MethodName × Nat) := lw_privs_1 ++ (lw_privs_2 ++ (lw_privs_3 ++ (lw_privs_4 ++ (lw_privs_5 ++ (lw_privs_6 ++ (lw_privs_7 ++ (lw_privs_8)))))))
def lw_tbl : List Cond := k2_sels lw_privs ++ tables_1
theorem lw_privs_ok : ∀ q ∈ lw_privs, lw_okq q := by
  show ∀ q ∈ lw_privs_1 ++ (lw_privs_2 ++ (lw_privs_3 ++ (lw_privs_4 ++ (lw_privs_5 ++ (lw_privs_6 ++ (lw_privs_7 ++ (lw_privs_8))))))), lw_okq q
  exact List.forall_mem_append.mpr ⟨lw_r1, List.forall_mem_append.mpr ⟨lw_r2, List.forall_mem_append.mpr ⟨lw_r3, List.forall_mem_append.mpr ⟨lw_r4, List.forall_mem_append.mpr ⟨lw_r5, List.forall_mem_append.mpr ⟨lw_r6, List.forall_mem_append.mpr ⟨lw_r7, lw_r8⟩⟩⟩⟩⟩⟩⟩
/-- the streams that the claim lets the run draw from -/
abbrev lw_cs : List Choice := [Jvm.Choice.named "NaN.bits"]
theorem lw_bits : nanBits ∈ lw_cs := by first | decide | exact List.mem_cons_self | simp [lw_cs, nanBits]
end
section
/-! ===== BEGIN words of one list among another's, by their places ===== -/
theorem goodIn_r {big : List Cond} (ws : List Cond) (ps : List Nat) (hp : ws = ps.filterMap (fun i => big[i]?)) (h : ws.all goodWord = true) : GoodIn big ws := by
  intro w hw
  have h1 := List.all_eq_true.mp h w hw
  rw [hp] at hw
  obtain ⟨i, -, hi⟩ := List.mem_filterMap.mp hw
  have hm : w ∈ big := by first | exact List.mem_of_getElem? hi | exact List.getElem?_mem hi
  exact ⟨hm, good_of_word h1⟩
theorem goodIn_app {big a b : List Cond} (ha : GoodIn big a) (hb : GoodIn big b) : GoodIn big (a ++ b) := fun w h => (List.mem_append.mp h).elim (ha w) (hb w)
theorem goodIn_ca {big a b : List Cond} {c : Cond} (ha : GoodIn big (c :: a)) (hb : GoodIn big b) : GoodIn big (c :: (a ++ b)) := fun w h => (List.mem_cons.mp h).elim (fun e => ha w (List.mem_cons.mpr (Or.inl e))) (fun h => (List.mem_append.mp h).elim (fun h => ha w (List.mem_cons.mpr (Or.inr h))) (hb w))
theorem goodIn_sub {big ws : List Cond} (hm : ∀ w ∈ ws, w ∈ big) (h : ws.all goodWord = true) : GoodIn big ws := fun w hw => ⟨hm w hw, good_of_word (List.all_eq_true.mp h w hw)⟩
/-! ===== END ===== -/

def RX0 : String := "RectFile$Box"
def TX0 : u_T := fun k => match k with
  | 0 => ("RectFile$Box", "x1", "I", false)
  | 1 => ("RectFile$Box", "y1", "I", false)
  | 2 => ("RectFile$Box", "x2", "I", false)
  | _ => ("RectFile$Box", "y2", "I", false)
def tyX0 : Nat → FieldType := fun k => match k with
  | 0 => .int
  | 1 => .int
  | 2 => .int
  | _ => .int
abbrev wsX00 : List Cond := u_ws RX0 TX0 4
theorem nmX0 : ∀ a, a < 4 → ∀ b, b < 4 → a ≠ b → (TX0 a).2.1 ≠ (TX0 b).2.1 := by decide +kernel
theorem tyX0_ok : ∀ k, k < 4 → parseFieldDescriptor (TX0 k).2.2.1 = some (tyX0 k) := by decide +kernel
abbrev cX0_init : ByteArray := prog_2_method_1_code
def yX0_init : MethodName := ⟨RX0, "<init>", "()V"⟩
abbrev cX0_set : ByteArray := prog_2_method_2_code
def yX0_set : MethodName := ⟨RX0, "set", "(IIII)V"⟩
abbrev cX0_take : ByteArray := prog_2_method_3_code
def yX0_take : MethodName := ⟨RX0, "take", "(LRectFile$Tree;I)V"⟩
abbrev cX0_takeBoth : ByteArray := prog_2_method_4_code
def yX0_takeBoth : MethodName := ⟨RX0, "takeBoth", "(LRectFile$Box;LRectFile$Box;)V"⟩
abbrev cX0_area : ByteArray := prog_2_method_5_code
def yX0_area : MethodName := ⟨RX0, "area", "()I"⟩
abbrev cX0_margin : ByteArray := prog_2_method_6_code
def yX0_margin : MethodName := ⟨RX0, "margin", "()I"⟩
abbrev cX0_areaWith : ByteArray := prog_2_method_7_code
def yX0_areaWith : MethodName := ⟨RX0, "areaWith", "(LRectFile$Box;)I"⟩
abbrev cX0_meets : ByteArray := prog_2_method_8_code
def yX0_meets : MethodName := ⟨RX0, "meets", "(LRectFile$Tree;I)Z"⟩
abbrev cX0_farFrom : ByteArray := prog_2_method_9_code
def yX0_farFrom : MethodName := ⟨RX0, "farFrom", "(II)I"⟩
def RX1 : String := "RectFile$Choose\x72"
def TX1 : u_T := fun k => match k with
  | 0 => ("RectFile$Choose\x72", "coming", "LRectFile$Box;", true)
  | 1 => ("RectFile$Choose\x72", "own", "LRectFile$Box;", true)
  | 2 => ("RectFile$Choose\x72", "grown", "LRectFile$Box;", true)
  | 3 => ("RectFile$Choose\x72", "othe\x72", "LRectFile$Box;", true)
  | 4 => ("RectFile$Choose\x72", "more", "I", false)
  | 5 => ("RectFile$Choose\x72", "growth", "I", false)
  | 6 => ("RectFile$Choose\x72", "area", "I", false)
  | 7 => ("RectFile$Choose\x72", "leastMore", "I", false)
  | 8 => ("RectFile$Choose\x72", "leastGrowth", "I", false)
  | _ => ("RectFile$Choose\x72", "leastArea", "I", false)
def tyX1 : Nat → FieldType := fun k => match k with
  | 0 => .object "RectFile$Box"
  | 1 => .object "RectFile$Box"
  | 2 => .object "RectFile$Box"
  | 3 => .object "RectFile$Box"
  | 4 => .int
  | 5 => .int
  | 6 => .int
  | 7 => .int
  | 8 => .int
  | _ => .int
abbrev wsX10 : List Cond := u_ws RX1 TX1 10
theorem nmX1 : ∀ a, a < 10 → ∀ b, b < 10 → a ≠ b → (TX1 a).2.1 ≠ (TX1 b).2.1 := by decide +kernel
theorem tyX1_ok : ∀ k, k < 10 → parseFieldDescriptor (TX1 k).2.2.1 = some (tyX1 k) := by decide +kernel
abbrev cX1_init : ByteArray := prog_3_method_1_code
def yX1_init : MethodName := ⟨RX1, "<init>", "()V"⟩
abbrev cX1_pageFor : ByteArray := prog_3_method_2_code
def yX1_pageFor : MethodName := ⟨RX1, "pageFo\x72", "(LRectFile$Tree;I)I"⟩
abbrev cX1_bestEntry : ByteArray := prog_3_method_3_code
def yX1_bestEntry : MethodName := ⟨RX1, "bestEntry", "(LRectFile$Tree;I)I"⟩
abbrev cX1_isBetter : ByteArray := prog_3_method_4_code
def yX1_isBetter : MethodName := ⟨RX1, "isBette\x72", "()Z"⟩
abbrev cX1_moreOverlap : ByteArray := prog_3_method_5_code
def yX1_moreOverlap : MethodName := ⟨RX1, "moreOverlap", "(LRectFile$Tree;II)I"⟩
def RX2 : String := "RectFile$Growe\x72"
def TX2 : u_T := fun k => match k with
  | 0 => ("RectFile$Growe\x72", "choose\x72", "LRectFile$Chooser;", true)
  | 1 => ("RectFile$Growe\x72", "splitte\x72", "LRectFile$Splitter;", true)
  | 2 => ("RectFile$Growe\x72", "apart", "[I", true)
  | 3 => ("RectFile$Growe\x72", "waiting", "[I", false)
  | 4 => ("RectFile$Growe\x72", "waitingLevel", "[I", false)
  | 5 => ("RectFile$Growe\x72", "waits", "I", false)
  | 6 => ("RectFile$Growe\x72", "reinsertedIn", "[I", false)
  | _ => ("RectFile$Growe\x72", "act", "I", false)
def tyX2 : Nat → FieldType := fun k => match k with
  | 0 => .object "RectFile$Choose\x72"
  | 1 => .object "RectFile$Splitte\x72"
  | 2 => .array .int
  | 3 => .array .int
  | 4 => .array .int
  | 5 => .int
  | 6 => .array .int
  | _ => .int
abbrev wsX20 : List Cond := u_ws RX2 TX2 8
theorem nmX2 : ∀ a, a < 8 → ∀ b, b < 8 → a ≠ b → (TX2 a).2.1 ≠ (TX2 b).2.1 := by decide +kernel
theorem tyX2_ok : ∀ k, k < 8 → parseFieldDescriptor (TX2 k).2.2.1 = some (tyX2 k) := by decide +kernel
abbrev cX2_init : ByteArray := prog_4_method_1_code
def yX2_init : MethodName := ⟨RX2, "<init>", "()V"⟩
abbrev cX2_firstPageFor : ByteArray := prog_4_method_2_code
def yX2_firstPageFor : MethodName := ⟨RX2, "firstPageFo\x72", "(LRectFile$Tree;IIII)I"⟩
abbrev cX2_bringRect : ByteArray := prog_4_method_3_code
def yX2_bringRect : MethodName := ⟨RX2, "bringRect", "(LRectFile$Tree;I)V"⟩
abbrev cX2_takeRect : ByteArray := prog_4_method_4_code
def yX2_takeRect : MethodName := ⟨RX2, "takeRect", "(LRectFile$Tree;I)V"⟩
abbrev cX2_awaitEntries : ByteArray := prog_4_method_5_code
def yX2_awaitEntries : MethodName := ⟨RX2, "awaitEntries", "(LRectFile$Tree;I)V"⟩
abbrev cX2_await : ByteArray := prog_4_method_6_code
def yX2_await : MethodName := ⟨RX2, "await", "(II)V"⟩
abbrev cX2_bringAll : ByteArray := prog_4_method_7_code
def yX2_bringAll : MethodName := ⟨RX2, "bringAll", "(LRectFile$Tree;)V"⟩
abbrev cX2_wasReinserted : ByteArray := prog_4_method_8_code
def yX2_wasReinserted : MethodName := ⟨RX2, "wasReinserted", "(I)Z"⟩
abbrev cX2_reinsert : ByteArray := prog_4_method_9_code
def yX2_reinsert : MethodName := ⟨RX2, "reinsert", "(LRectFile$Tree;I)V"⟩
abbrev cX2_measureApart : ByteArray := prog_4_method_10_code
def yX2_measureApart : MethodName := ⟨RX2, "measureApart", "(LRectFile$Tree;I)V"⟩
abbrev cX2_twiceMiddle : ByteArray := prog_4_method_11_code
def yX2_twiceMiddle : MethodName := ⟨RX2, "twiceMiddle", "(LRectFile$Tree;II)I"⟩
abbrev cX2_farthestApart : ByteArray := prog_4_method_12_code
def yX2_farthestApart : MethodName := ⟨RX2, "farthestApart", "(I)I"⟩
abbrev cX2_closeGap : ByteArray := prog_4_method_13_code
def yX2_closeGap : MethodName := ⟨RX2, "closeGap", "(II)V"⟩
abbrev cX2_split : ByteArray := prog_4_method_14_code
def yX2_split : MethodName := ⟨RX2, "split", "(LRectFile$Tree;I)I"⟩
def RX3 : String := "RectFile$History"
def TX3 : u_T := fun k => match k with
  | 0 => ("RectFile$History", "held", "I", false)
  | 1 => ("RectFile$History", "trees", "[LRectFile$Tree;", true)
  | 2 => ("RectFile$History", "seeds", "[I", true)
  | _ => ("RectFile$History", "newest", "I", false)
def tyX3 : Nat → FieldType := fun k => match k with
  | 0 => .int
  | 1 => .array (.object "RectFile$Tree")
  | 2 => .array .int
  | _ => .int
abbrev wsX30 : List Cond := u_ws RX3 TX3 4
theorem nmX3 : ∀ a, a < 4 → ∀ b, b < 4 → a ≠ b → (TX3 a).2.1 ≠ (TX3 b).2.1 := by decide +kernel
theorem tyX3_ok : ∀ k, k < 4 → parseFieldDescriptor (TX3 k).2.2.1 = some (tyX3 k) := by decide +kernel
abbrev cX3_init : ByteArray := prog_5_method_1_code
def yX3_init : MethodName := ⟨RX3, "<init>", "()V"⟩
abbrev cX3_remember : ByteArray := prog_5_method_2_code
def yX3_remember : MethodName := ⟨RX3, "remembe\x72", "(LRectFile$Tree;I)V"⟩
abbrev cX3_newestSeed : ByteArray := prog_5_method_3_code
def yX3_newestSeed : MethodName := ⟨RX3, "newestSeed", "()I"⟩
abbrev cX3_giveBack : ByteArray := prog_5_method_4_code
def yX3_giveBack : MethodName := ⟨RX3, "giveBack", "(LRectFile$Tree;)V"⟩
abbrev cX3_forget : ByteArray := prog_5_method_5_code
def yX3_forget : MethodName := ⟨RX3, "forget", "()V"⟩
def RX4 : String := "RectFile$Measure\x72"
def TX4 : u_T := fun k => match k with
  | 0 => ("RectFile$Measure\x72", "row", "[I", true)
  | 1 => ("RectFile$Measure\x72", "edges", "[I", true)
  | 2 => ("RectFile$Measure\x72", "one", "LRectFile$Box;", true)
  | _ => ("RectFile$Measure\x72", "othe\x72", "LRectFile$Box;", true)
def tyX4 : Nat → FieldType := fun k => match k with
  | 0 => .array .int
  | 1 => .array .int
  | 2 => .object "RectFile$Box"
  | _ => .object "RectFile$Box"
abbrev wsX40 : List Cond := u_ws RX4 TX4 4
theorem nmX4 : ∀ a, a < 4 → ∀ b, b < 4 → a ≠ b → (TX4 a).2.1 ≠ (TX4 b).2.1 := by decide +kernel
theorem tyX4_ok : ∀ k, k < 4 → parseFieldDescriptor (TX4 k).2.2.1 = some (tyX4 k) := by decide +kernel
abbrev cX4_init : ByteArray := prog_6_method_1_code
def yX4_init : MethodName := ⟨RX4, "<init>", "()V"⟩
abbrev cX4_meetingTwos : ByteArray := prog_6_method_2_code
def yX4_meetingTwos : MethodName := ⟨RX4, "meetingTwos", "(LRectFile$Tree;)I"⟩
abbrev cX4_metBelow : ByteArray := prog_6_method_3_code
def yX4_metBelow : MethodName := ⟨RX4, "metBelow", "(LRectFile$Tree;I)I"⟩
abbrev cX4_commonArea : ByteArray := prog_6_method_4_code
def yX4_commonArea : MethodName := ⟨RX4, "commonArea", "(LRectFile$Tree;)J"⟩
abbrev cX4_arrangeByLowY : ByteArray := prog_6_method_5_code
def yX4_arrangeByLowY : MethodName := ⟨RX4, "arrangeByLowY", "(LRectFile$Tree;)I"⟩
abbrev cX4_arrangeEdges : ByteArray := prog_6_method_6_code
def yX4_arrangeEdges : MethodName := ⟨RX4, "arrangeEdges", "(LRectFile$Tree;I)I"⟩
abbrev cX4_heightCovered : ByteArray := prog_6_method_7_code
def yX4_heightCovered : MethodName := ⟨RX4, "heightCovered", "(LRectFile$Tree;III)I"⟩
abbrev cX4_gridOfRects : ByteArray := prog_6_method_8_code
def yX4_gridOfRects : MethodName := ⟨RX4, "gridOfRects", "(LRectFile$Tree;)J"⟩
abbrev cX4_gridOfLeaves : ByteArray := prog_6_method_9_code
def yX4_gridOfLeaves : MethodName := ⟨RX4, "gridOfLeaves", "(LRectFile$Tree;)J"⟩
abbrev cX4_squaresOf : ByteArray := prog_6_method_10_code
def yX4_squaresOf : MethodName := ⟨RX4, "squaresOf", "(LRectFile$Tree;I)J"⟩
abbrev cX4_squareOf : ByteArray := prog_6_method_11_code
def yX4_squareOf : MethodName := ⟨RX4, "squareOf", "(I)I"⟩
abbrev cX4_fillOf : ByteArray := prog_6_method_12_code
def yX4_fillOf : MethodName := ⟨RX4, "fillOf", "(LRectFile$Tree;)F"⟩
abbrev cX4_costOf : ByteArray := prog_6_method_13_code
def yX4_costOf : MethodName := ⟨RX4, "costOf", "(LRectFile$Tree;II)D"⟩
abbrev cX4_overlapOnLevel : ByteArray := prog_6_method_14_code
def yX4_overlapOnLevel : MethodName := ⟨RX4, "overlapOnLevel", "(LRectFile$Tree;I)J"⟩
abbrev cX4_overlapWithRow : ByteArray := prog_6_method_15_code
def yX4_overlapWithRow : MethodName := ⟨RX4, "overlapWithRow", "(LRectFile$Tree;I)J"⟩
abbrev cX4_bitsOf : ByteArray := prog_6_method_16_code
def yX4_bitsOf : MethodName := ⟨RX4, "bitsOf", "(F)I"⟩
abbrev cX4_bitsOf_ : ByteArray := prog_6_method_17_code
def yX4_bitsOf_ : MethodName := ⟨RX4, "bitsOf", "(D)J"⟩
def RX5 : String := "RectFile$Numbere\x72"
def TX5 : u_T := fun k => match k with
  | 0 => ("RectFile$Numbere\x72", "stack", "[I", false)
  | _ => ("RectFile$Numbere\x72", "numberOf", "[I", false)
def tyX5 : Nat → FieldType := fun k => match k with
  | 0 => .array .int
  | _ => .array .int
abbrev wsX50 : List Cond := u_ws RX5 TX5 2
theorem nmX5 : ∀ a, a < 2 → ∀ b, b < 2 → a ≠ b → (TX5 a).2.1 ≠ (TX5 b).2.1 := by decide +kernel
theorem tyX5_ok : ∀ k, k < 2 → parseFieldDescriptor (TX5 k).2.2.1 = some (tyX5 k) := by decide +kernel
abbrev cX5_init : ByteArray := prog_7_method_1_code
def yX5_init : MethodName := ⟨RX5, "<init>", "()V"⟩
abbrev cX5_lay : ByteArray := prog_7_method_2_code
def yX5_lay : MethodName := ⟨RX5, "lay", "(LRectFile$Tree;LRectFile$Tree;)V"⟩
abbrev cX5_layPage : ByteArray := prog_7_method_3_code
def yX5_layPage : MethodName := ⟨RX5, "layPage", "(LRectFile$Tree;LRectFile$Tree;I)V"⟩
abbrev cX5_makeRoom : ByteArray := prog_7_method_4_code
def yX5_makeRoom : MethodName := ⟨RX5, "makeRoom", "(I)V"⟩
def RX6 : String := "RectFile$Seeke\x72"
def TX6 : u_T := fun k => match k with
  | 0 => ("RectFile$Seeke\x72", "foundId", "I", false)
  | 1 => ("RectFile$Seeke\x72", "foundFa\x72", "I", false)
  | 2 => ("RectFile$Seeke\x72", "opened", "I", false)
  | 3 => ("RectFile$Seeke\x72", "pane", "LRectFile$Box;", true)
  | 4 => ("RectFile$Seeke\x72", "box", "LRectFile$Box;", true)
  | 5 => ("RectFile$Seeke\x72", "looked", "[Z", false)
  | 6 => ("RectFile$Seeke\x72", "waiting", "[I", false)
  | 7 => ("RectFile$Seeke\x72", "keys", "[J", false)
  | 8 => ("RectFile$Seeke\x72", "waits", "I", false)
  | _ => ("RectFile$Seeke\x72", "pagesCome", "I", false)
def tyX6 : Nat → FieldType := fun k => match k with
  | 0 => .int
  | 1 => .int
  | 2 => .int
  | 3 => .object "RectFile$Box"
  | 4 => .object "RectFile$Box"
  | 5 => .array .boolean
  | 6 => .array .int
  | 7 => .array .long
  | 8 => .int
  | _ => .int
abbrev wsX60 : List Cond := u_ws RX6 TX6 10
theorem nmX6 : ∀ a, a < 10 → ∀ b, b < 10 → a ≠ b → (TX6 a).2.1 ≠ (TX6 b).2.1 := by decide +kernel
theorem tyX6_ok : ∀ k, k < 10 → parseFieldDescriptor (TX6 k).2.2.1 = some (tyX6 k) := by decide +kernel
abbrev cX6_init : ByteArray := prog_8_method_1_code
def yX6_init : MethodName := ⟨RX6, "<init>", "()V"⟩
abbrev cX6_openWindow : ByteArray := prog_8_method_2_code
def yX6_openWindow : MethodName := ⟨RX6, "openWindow", "(IIII)V"⟩
abbrev cX6_pagesLookedAt : ByteArray := prog_8_method_3_code
def yX6_pagesLookedAt : MethodName := ⟨RX6, "pagesLookedAt", "(LRectFile$Tree;)I"⟩
abbrev cX6_rectsMet : ByteArray := prog_8_method_4_code
def yX6_rectsMet : MethodName := ⟨RX6, "rectsMet", "(LRectFile$Tree;)I"⟩
abbrev cX6_metById : ByteArray := prog_8_method_5_code
def yX6_metById : MethodName := ⟨RX6, "metById", "(LRectFile$Tree;I)I"⟩
abbrev cX6_findNearest : ByteArray := prog_8_method_6_code
def yX6_findNearest : MethodName := ⟨RX6, "findNearest", "(LRectFile$Tree;III)Z"⟩
abbrev cX6_awaitEntries : ByteArray := prog_8_method_7_code
def yX6_awaitEntries : MethodName := ⟨RX6, "awaitEntries", "(LRectFile$Tree;III)V"⟩
abbrev cX6_await : ByteArray := prog_8_method_8_code
def yX6_await : MethodName := ⟨RX6, "await", "(II)V"⟩
abbrev cX6_dropFirst : ByteArray := prog_8_method_9_code
def yX6_dropFirst : MethodName := ⟨RX6, "dropFirst", "()V"⟩
abbrev cX6_lesserBelow : ByteArray := prog_8_method_10_code
def yX6_lesserBelow : MethodName := ⟨RX6, "lesserBelow", "(I)I"⟩
abbrev cX6_move : ByteArray := prog_8_method_11_code
def yX6_move : MethodName := ⟨RX6, "move", "(II)V"⟩
abbrev cX6_makeRoom : ByteArray := prog_8_method_12_code
def yX6_makeRoom : MethodName := ⟨RX6, "makeRoom", "(I)V"⟩
def RX7 : String := "RectFile$Splitte\x72"
def TX7 : u_T := fun k => match k with
  | 0 => ("RectFile$Splitte\x72", "orders", "[[I", true)
  | 1 => ("RectFile$Splitte\x72", "head", "LRectFile$Box;", true)
  | 2 => ("RectFile$Splitte\x72", "tail", "LRectFile$Box;", true)
  | 3 => ("RectFile$Splitte\x72", "chosen", "I", false)
  | _ => ("RectFile$Splitte\x72", "firsts", "I", false)
def tyX7 : Nat → FieldType := fun k => match k with
  | 0 => .array (.array .int)
  | 1 => .object "RectFile$Box"
  | 2 => .object "RectFile$Box"
  | 3 => .int
  | _ => .int
abbrev wsX70 : List Cond := u_ws RX7 TX7 5
theorem nmX7 : ∀ a, a < 5 → ∀ b, b < 5 → a ≠ b → (TX7 a).2.1 ≠ (TX7 b).2.1 := by decide +kernel
theorem tyX7_ok : ∀ k, k < 5 → parseFieldDescriptor (TX7 k).2.2.1 = some (tyX7 k) := by decide +kernel
abbrev cX7_init : ByteArray := prog_9_method_1_code
def yX7_init : MethodName := ⟨RX7, "<init>", "()V"⟩
abbrev cX7_plan : ByteArray := prog_9_method_2_code
def yX7_plan : MethodName := ⟨RX7, "plan", "(LRectFile$Tree;I)V"⟩
abbrev cX7_part : ByteArray := prog_9_method_3_code
def yX7_part : MethodName := ⟨RX7, "part", "(LRectFile$Tree;II)V"⟩
abbrev cX7_arrange : ByteArray := prog_9_method_4_code
def yX7_arrange : MethodName := ⟨RX7, "arrange", "(LRectFile$Tree;II)V"⟩
abbrev cX7_isAhead : ByteArray := prog_9_method_5_code
def yX7_isAhead : MethodName := ⟨RX7, "isAhead", "(LRectFile$Tree;III)Z"⟩
abbrev cX7_margins : ByteArray := prog_9_method_6_code
def yX7_margins : MethodName := ⟨RX7, "margins", "(LRectFile$Tree;II)I"⟩
abbrev cX7_chooseParting : ByteArray := prog_9_method_7_code
def yX7_chooseParting : MethodName := ⟨RX7, "chooseParting", "(LRectFile$Tree;II)V"⟩
abbrev cX7_boxRun : ByteArray := prog_9_method_8_code
def yX7_boxRun : MethodName := ⟨RX7, "boxRun", "(LRectFile$Tree;IIILRectFile$Box;)V"⟩
def RX8 : String := "RectFile$Tape"
def TX8 : u_T := fun k => match k with
  | 0 => ("RectFile$Tape", "ids", "[I", true)
  | 1 => ("RectFile$Tape", "sides", "[I", true)
  | 2 => ("RectFile$Tape", "length", "I", false)
  | 3 => ("RectFile$Tape", "most", "I", false)
  | 4 => ("RectFile$Tape", "least", "I", false)
  | 5 => ("RectFile$Tape", "again", "I", false)
  | 6 => ("RectFile$Tape", "rects", "I", false)
  | 7 => ("RectFile$Tape", "bytes", "[B", true)
  | 8 => ("RectFile$Tape", "place", "I", false)
  | 9 => ("RectFile$Tape", "begun", "I", false)
  | _ => ("RectFile$Tape", "fault", "I", false)
def tyX8 : Nat → FieldType := fun k => match k with
  | 0 => .array .int
  | 1 => .array .int
  | 2 => .int
  | 3 => .int
  | 4 => .int
  | 5 => .int
  | 6 => .int
  | 7 => .array .byte
  | 8 => .int
  | 9 => .int
  | _ => .int
abbrev wsX80 : List Cond := u_ws RX8 TX8 11
theorem nmX8 : ∀ a, a < 11 → ∀ b, b < 11 → a ≠ b → (TX8 a).2.1 ≠ (TX8 b).2.1 := by decide +kernel
theorem tyX8_ok : ∀ k, k < 11 → parseFieldDescriptor (TX8 k).2.2.1 = some (tyX8 k) := by decide +kernel
abbrev cX8_init : ByteArray := prog_10_method_1_code
def yX8_init : MethodName := ⟨RX8, "<init>", "()V"⟩
abbrev cX8_hasRoom : ByteArray := prog_10_method_2_code
def yX8_hasRoom : MethodName := ⟨RX8, "hasRoom", "()Z"⟩
abbrev cX8_write : ByteArray := prog_10_method_3_code
def yX8_write : MethodName := ⟨RX8, "write", "(I)V"⟩
abbrev cX8_read : ByteArray := prog_10_method_4_code
def yX8_read : MethodName := ⟨RX8, "read", "()I"⟩
abbrev cX8_readRect : ByteArray := prog_10_method_5_code
def yX8_readRect : MethodName := ⟨RX8, "readRect", "()V"⟩
abbrev cX8_isTold : ByteArray := prog_10_method_6_code
def yX8_isTold : MethodName := ⟨RX8, "isTold", "(I)Z"⟩
abbrev cX8_goesOn : ByteArray := prog_10_method_7_code
def yX8_goesOn : MethodName := ⟨RX8, "goesOn", "()Z"⟩
abbrev cX8_readWord : ByteArray := prog_10_method_8_code
def yX8_readWord : MethodName := ⟨RX8, "readWord", "(Ljava/lang/String;)V"⟩
abbrev cX8_readNumber : ByteArray := prog_10_method_9_code
def yX8_readNumber : MethodName := ⟨RX8, "readNumbe\x72", "(IIZ)I"⟩
abbrev cX8_readDigits : ByteArray := prog_10_method_10_code
def yX8_readDigits : MethodName := ⟨RX8, "readDigits", "()I"⟩
abbrev cX8_skipBlanks : ByteArray := prog_10_method_11_code
def yX8_skipBlanks : MethodName := ⟨RX8, "skipBlanks", "()V"⟩
abbrev cX8_blame : ByteArray := prog_10_method_12_code
def yX8_blame : MethodName := ⟨RX8, "blame", "(II)V"⟩
abbrev cX8_signAt : ByteArray := prog_10_method_13_code
def yX8_signAt : MethodName := ⟨RX8, "signAt", "(I)I"⟩
abbrev cX8_isLetter : ByteArray := prog_10_method_14_code
def yX8_isLetter : MethodName := ⟨RX8, "isLette\x72", "(I)Z"⟩
abbrev cX8_isDigit : ByteArray := prog_10_method_15_code
def yX8_isDigit : MethodName := ⟨RX8, "isDigit", "(I)Z"⟩
def RX9 : String := "RectFile$Tile\x72"
def TX9 : u_T := fun k => match k with
  | _ => ("RectFile$Tile\x72", "row", "[I", true)
def tyX9 : Nat → FieldType := fun k => match k with
  | _ => .array .int
abbrev wsX90 : List Cond := u_ws RX9 TX9 1
theorem nmX9 : ∀ a, a < 1 → ∀ b, b < 1 → a ≠ b → (TX9 a).2.1 ≠ (TX9 b).2.1 := by decide +kernel
theorem tyX9_ok : ∀ k, k < 1 → parseFieldDescriptor (TX9 k).2.2.1 = some (tyX9 k) := by decide +kernel
abbrev cX9_init : ByteArray := prog_11_method_1_code
def yX9_init : MethodName := ⟨RX9, "<init>", "()V"⟩
abbrev cX9_layAnew : ByteArray := prog_11_method_2_code
def yX9_layAnew : MethodName := ⟨RX9, "layAnew", "(LRectFile$Tree;)V"⟩
abbrev cX9_gather : ByteArray := prog_11_method_3_code
def yX9_gather : MethodName := ⟨RX9, "gathe\x72", "(LRectFile$Tree;)I"⟩
abbrev cX9_pagesFor : ByteArray := prog_11_method_4_code
def yX9_pagesFor : MethodName := ⟨RX9, "pagesFo\x72", "(II)I"⟩
abbrev cX9_sliceOf : ByteArray := prog_11_method_5_code
def yX9_sliceOf : MethodName := ⟨RX9, "sliceOf", "(II)I"⟩
abbrev cX9_arrange : ByteArray := prog_11_method_6_code
def yX9_arrange : MethodName := ⟨RX9, "arrange", "(LRectFile$Tree;III)V"⟩
abbrev cX9_isAhead : ByteArray := prog_11_method_7_code
def yX9_isAhead : MethodName := ⟨RX9, "isAhead", "(LRectFile$Tree;III)Z"⟩
abbrev cX9_deal : ByteArray := prog_11_method_8_code
def yX9_deal : MethodName := ⟨RX9, "deal", "(LRectFile$Tree;II)I"⟩
abbrev cX9_startOf : ByteArray := prog_11_method_9_code
def yX9_startOf : MethodName := ⟨RX9, "startOf", "(LRectFile$Tree;III)I"⟩
def RX10 : String := "RectFile$Tree"
def TX10 : u_T := fun k => match k with
  | 0 => ("RectFile$Tree", "most", "I", false)
  | 1 => ("RectFile$Tree", "least", "I", false)
  | 2 => ("RectFile$Tree", "again", "I", false)
  | 3 => ("RectFile$Tree", "splits", "I", false)
  | 4 => ("RectFile$Tree", "reinserts", "I", false)
  | 5 => ("RectFile$Tree", "rects", "I", false)
  | 6 => ("RectFile$Tree", "pages", "I", false)
  | 7 => ("RectFile$Tree", "root", "I", false)
  | 8 => ("RectFile$Tree", "side", "[I", false)
  | 9 => ("RectFile$Tree", "home", "[I", false)
  | 10 => ("RectFile$Tree", "level", "[I", false)
  | 11 => ("RectFile$Tree", "size", "[I", false)
  | _ => ("RectFile$Tree", "slot", "[I", false)
def tyX10 : Nat → FieldType := fun k => match k with
  | 0 => .int
  | 1 => .int
  | 2 => .int
  | 3 => .int
  | 4 => .int
  | 5 => .int
  | 6 => .int
  | 7 => .int
  | 8 => .array .int
  | 9 => .array .int
  | 10 => .array .int
  | 11 => .array .int
  | _ => .array .int
abbrev wsX100 : List Cond := u_ws RX10 TX10 13
theorem nmX10 : ∀ a, a < 13 → ∀ b, b < 13 → a ≠ b → (TX10 a).2.1 ≠ (TX10 b).2.1 := by decide +kernel
theorem tyX10_ok : ∀ k, k < 13 → parseFieldDescriptor (TX10 k).2.2.1 = some (tyX10 k) := by decide +kernel
abbrev cX10_init : ByteArray := prog_12_method_1_code
def yX10_init : MethodName := ⟨RX10, "<init>", "()V"⟩
abbrev cX10_begin : ByteArray := prog_12_method_2_code
def yX10_begin : MethodName := ⟨RX10, "begin", "(III)V"⟩
abbrev cX10_takeRectsFrom : ByteArray := prog_12_method_3_code
def yX10_takeRectsFrom : MethodName := ⟨RX10, "takeRectsFrom", "(LRectFile$Tree;)V"⟩
abbrev cX10_copyFrom : ByteArray := prog_12_method_4_code
def yX10_copyFrom : MethodName := ⟨RX10, "copyFrom", "(LRectFile$Tree;)V"⟩
abbrev cX10_takeCountsFrom : ByteArray := prog_12_method_5_code
def yX10_takeCountsFrom : MethodName := ⟨RX10, "takeCountsFrom", "(LRectFile$Tree;)V"⟩
abbrev cX10_makeRoom : ByteArray := prog_12_method_6_code
def yX10_makeRoom : MethodName := ⟨RX10, "makeRoom", "(I)V"⟩
abbrev cX10_hasRect : ByteArray := prog_12_method_7_code
def yX10_hasRect : MethodName := ⟨RX10, "hasRect", "(I)Z"⟩
abbrev cX10_leastFreeId : ByteArray := prog_12_method_8_code
def yX10_leastFreeId : MethodName := ⟨RX10, "leastFreeId", "()I"⟩
abbrev cX10_setRect : ByteArray := prog_12_method_9_code
def yX10_setRect : MethodName := ⟨RX10, "setRect", "(IIIII)V"⟩
abbrev cX10_setSides : ByteArray := prog_12_method_10_code
def yX10_setSides : MethodName := ⟨RX10, "setSides", "(IIIII)V"⟩
abbrev cX10_newPage : ByteArray := prog_12_method_11_code
def yX10_newPage : MethodName := ⟨RX10, "newPage", "(I)I"⟩
abbrev cX10_thingAt : ByteArray := prog_12_method_12_code
def yX10_thingAt : MethodName := ⟨RX10, "thingAt", "(II)I"⟩
abbrev cX10_append : ByteArray := prog_12_method_13_code
def yX10_append : MethodName := ⟨RX10, "append", "(II)V"⟩
abbrev cX10_detach : ByteArray := prog_12_method_14_code
def yX10_detach : MethodName := ⟨RX10, "detach", "(I)V"⟩
abbrev cX10_fit : ByteArray := prog_12_method_15_code
def yX10_fit : MethodName := ⟨RX10, "fit", "(I)Z"⟩
abbrev cX10_changeSides : ByteArray := prog_12_method_16_code
def yX10_changeSides : MethodName := ⟨RX10, "changeSides", "(IIIII)Z"⟩
abbrev cX10_fitUp : ByteArray := prog_12_method_17_code
def yX10_fitUp : MethodName := ⟨RX10, "fitUp", "(I)V"⟩
abbrev cX10_lowerRoot : ByteArray := prog_12_method_18_code
def yX10_lowerRoot : MethodName := ⟨RX10, "lowerRoot", "()V"⟩
abbrev cX10_rectsBelow : ByteArray := prog_12_method_19_code
def yX10_rectsBelow : MethodName := ⟨RX10, "rectsBelow", "(I)I"⟩
abbrev cX10_isLike : ByteArray := prog_12_method_20_code
def yX10_isLike : MethodName := ⟨RX10, "isLike", "(LRectFile$Tree;)Z"⟩
abbrev cX10_hasLikeSides : ByteArray := prog_12_method_21_code
def yX10_hasLikeSides : MethodName := ⟨RX10, "hasLikeSides", "(LRectFile$Tree;I)Z"⟩
def RX11 : String := "RectFile"
def TX11 : u_T := fun k => match k with
  | 0 => ("RectFile", "tape", "LRectFile$Tape;", true)
  | 1 => ("RectFile", "history", "LRectFile$History;", true)
  | 2 => ("RectFile", "shelves", "[LRectFile$Tree;", true)
  | 3 => ("RectFile", "growe\x72", "LRectFile$Grower;", true)
  | 4 => ("RectFile", "numbere\x72", "LRectFile$Numberer;", true)
  | 5 => ("RectFile", "tile\x72", "LRectFile$Tiler;", true)
  | 6 => ("RectFile", "seeke\x72", "LRectFile$Seeker;", true)
  | 7 => ("RectFile", "measure\x72", "LRectFile$Measurer;", true)
  | 8 => ("RectFile", "now", "LRectFile$Tree;", false)
  | 9 => ("RectFile", "spare", "LRectFile$Tree;", false)
  | 10 => ("RectFile", "told", "Z", false)
  | _ => ("RectFile", "seed", "I", false)
def tyX11 : Nat → FieldType := fun k => match k with
  | 0 => .object "RectFile$Tape"
  | 1 => .object "RectFile$History"
  | 2 => .array (.object "RectFile$Tree")
  | 3 => .object "RectFile$Growe\x72"
  | 4 => .object "RectFile$Numbere\x72"
  | 5 => .object "RectFile$Tile\x72"
  | 6 => .object "RectFile$Seeke\x72"
  | 7 => .object "RectFile$Measure\x72"
  | 8 => .object "RectFile$Tree"
  | 9 => .object "RectFile$Tree"
  | 10 => .boolean
  | _ => .int
abbrev wsX110 : List Cond := u_ws RX11 TX11 12
theorem nmX11 : ∀ a, a < 12 → ∀ b, b < 12 → a ≠ b → (TX11 a).2.1 ≠ (TX11 b).2.1 := by decide +kernel
theorem tyX11_ok : ∀ k, k < 12 → parseFieldDescriptor (TX11 k).2.2.1 = some (tyX11 k) := by decide +kernel
abbrev cX11_init : ByteArray := prog_1_method_1_code
def yX11_init : MethodName := ⟨RX11, "<init>", "()V"⟩
abbrev cX11_feed : ByteArray := prog_1_method_2_code
def yX11_feed : MethodName := ⟨RX11, "feed", "(IIIII)I"⟩
abbrev cX11_end : ByteArray := prog_1_method_3_code
def yX11_end : MethodName := ⟨RX11, "end", "(I)I"⟩
abbrev cX11_file : ByteArray := prog_1_method_4_code
def yX11_file : MethodName := ⟨RX11, "file", "()I"⟩
abbrev cX11_put : ByteArray := prog_1_method_5_code
def yX11_put : MethodName := ⟨RX11, "put", "(IIIII)I"⟩
abbrev cX11_remove : ByteArray := prog_1_method_6_code
def yX11_remove : MethodName := ⟨RX11, "remove", "(I)I"⟩
abbrev cX11_shift : ByteArray := prog_1_method_7_code
def yX11_shift : MethodName := ⟨RX11, "shift", "(III)I"⟩
abbrev cX11_bulk : ByteArray := prog_1_method_8_code
def yX11_bulk : MethodName := ⟨RX11, "bulk", "()I"⟩
abbrev cX11_graft : ByteArray := prog_1_method_9_code
def yX11_graft : MethodName := ⟨RX11, "graft", "(II)I"⟩
abbrev cX11_drawn : ByteArray := prog_1_method_10_code
def yX11_drawn : MethodName := ⟨RX11, "drawn", "(I)I"⟩
abbrev cX11_draws : ByteArray := prog_1_method_11_code
def yX11_draws : MethodName := ⟨RX11, "draws", "(I)I"⟩
abbrev cX11_undo : ByteArray := prog_1_method_12_code
def yX11_undo : MethodName := ⟨RX11, "undo", "()I"⟩
abbrev cX11_keep : ByteArray := prog_1_method_13_code
def yX11_keep : MethodName := ⟨RX11, "keep", "(I)I"⟩
abbrev cX11_back : ByteArray := prog_1_method_14_code
def yX11_back : MethodName := ⟨RX11, "back", "(I)I"⟩
abbrev cX11_rect : ByteArray := prog_1_method_15_code
def yX11_rect : MethodName := ⟨RX11, "rect", "(II)I"⟩
abbrev cX11_page : ByteArray := prog_1_method_16_code
def yX11_page : MethodName := ⟨RX11, "page", "(II)I"⟩
abbrev cX11_entry : ByteArray := prog_1_method_17_code
def yX11_entry : MethodName := ⟨RX11, "entry", "(II)I"⟩
abbrev cX11_choose : ByteArray := prog_1_method_18_code
def yX11_choose : MethodName := ⟨RX11, "choose", "(IIII)I"⟩
abbrev cX11_window : ByteArray := prog_1_method_19_code
def yX11_window : MethodName := ⟨RX11, "window", "(IIIII)I"⟩
abbrev cX11_nearest : ByteArray := prog_1_method_20_code
def yX11_nearest : MethodName := ⟨RX11, "nearest", "(IIII)I"⟩
abbrev cX11_pairs : ByteArray := prog_1_method_21_code
def yX11_pairs : MethodName := ⟨RX11, "pairs", "()I"⟩
abbrev cX11_union : ByteArray := prog_1_method_22_code
def yX11_union : MethodName := ⟨RX11, "union", "()J"⟩
abbrev cX11_grid : ByteArray := prog_1_method_23_code
def yX11_grid : MethodName := ⟨RX11, "grid", "(I)J"⟩
abbrev cX11_fill : ByteArray := prog_1_method_24_code
def yX11_fill : MethodName := ⟨RX11, "fill", "()I"⟩
abbrev cX11_cost : ByteArray := prog_1_method_25_code
def yX11_cost : MethodName := ⟨RX11, "cost", "(II)J"⟩
abbrev cX11_overlap : ByteArray := prog_1_method_26_code
def yX11_overlap : MethodName := ⟨RX11, "overlap", "(I)J"⟩
abbrev cX11_same : ByteArray := prog_1_method_27_code
def yX11_same : MethodName := ⟨RX11, "same", "(I)I"⟩
abbrev cX11_count : ByteArray := prog_1_method_28_code
def yX11_count : MethodName := ⟨RX11, "count", "(I)I"⟩
abbrev cX11_countInTree : ByteArray := prog_1_method_29_code
def yX11_countInTree : MethodName := ⟨RX11, "countInTree", "(I)I"⟩
abbrev cX11_whyNoGraft : ByteArray := prog_1_method_30_code
def yX11_whyNoGraft : MethodName := ⟨RX11, "whyNoGraft", "(II)I"⟩
abbrev cX11_numberPages : ByteArray := prog_1_method_31_code
def yX11_numberPages : MethodName := ⟨RX11, "numberPages", "()V"⟩
abbrev cX11_draw : ByteArray := prog_1_method_32_code
def yX11_draw : MethodName := ⟨RX11, "draw", "(I)I"⟩
abbrev cX11_isInFile : ByteArray := prog_1_method_33_code
def yX11_isInFile : MethodName := ⟨RX11, "isInFile", "(I)Z"⟩
abbrev cX11_isPage : ByteArray := prog_1_method_34_code
def yX11_isPage : MethodName := ⟨RX11, "isPage", "(I)Z"⟩
abbrev cX11_isId : ByteArray := prog_1_method_35_code
def yX11_isId : MethodName := ⟨RX11, "isId", "(I)Z"⟩
abbrev cX11_isShelf : ByteArray := prog_1_method_36_code
def yX11_isShelf : MethodName := ⟨RX11, "isShelf", "(I)Z"⟩
abbrev cX11_isPoint : ByteArray := prog_1_method_37_code
def yX11_isPoint : MethodName := ⟨RX11, "isPoint", "(II)Z"⟩
abbrev cX11_isRect : ByteArray := prog_1_method_38_code
def yX11_isRect : MethodName := ⟨RX11, "isRect", "(IIII)Z"⟩
def RX12 : String := "RectFileModel"
def TX12 : u_T := fun k => match k with
  | 0 => ("RectFileModel", "tape", "[B", true)
  | 1 => ("RectFileModel", "taped", "I", false)
  | 2 => ("RectFileModel", "p", "I", false)
  | 3 => ("RectFileModel", "fault", "I", false)
  | 4 => ("RectFileModel", "numberAt", "I", false)
  | 5 => ("RectFileModel", "newMost", "I", false)
  | 6 => ("RectFileModel", "newLeast", "I", false)
  | 7 => ("RectFileModel", "newOut", "I", false)
  | 8 => ("RectFileModel", "newMany", "I", false)
  | 9 => ("RectFileModel", "newRect", "[I", true)
  | 10 => ("RectFileModel", "now", "[I", true)
  | 11 => ("RectFileModel", "past", "[I", true)
  | 12 => ("RectFileModel", "kept", "[I", true)
  | 13 => ("RectFileModel", "hasFile", "Z", false)
  | 14 => ("RectFileModel", "pastMany", "I", false)
  | 15 => ("RectFileModel", "keptSet", "I", false)
  | 16 => ("RectFileModel", "box", "[I", true)
  | 17 => ("RectFileModel", "othe\x72", "[I", true)
  | 18 => ("RectFileModel", "grown", "[I", true)
  | 19 => ("RectFileModel", "come\x72", "[I", true)
  | 20 => ("RectFileModel", "isAgain", "[Z", true)
  | 21 => ("RectFileModel", "out", "[I", true)
  | 22 => ("RectFileModel", "isOut", "[Z", true)
  | 23 => ("RectFileModel", "orde\x72", "[I", true)
  | 24 => ("RectFileModel", "gone", "[I", true)
  | 25 => ("RectFileModel", "numbe\x72", "[I", true)
  | 26 => ("RectFileModel", "pageOf", "[I", true)
  | 27 => ("RectFileModel", "pageMany", "I", false)
  | 28 => ("RectFileModel", "deal", "[I", true)
  | 29 => ("RectFileModel", "dealt", "[I", true)
  | 30 => ("RectFileModel", "waiting", "[I", true)
  | 31 => ("RectFileModel", "waitingLevel", "[I", true)
  | 32 => ("RectFileModel", "waitingFa\x72", "[J", true)
  | 33 => ("RectFileModel", "isDone", "[Z", true)
  | 34 => ("RectFileModel", "waits", "I", false)
  | 35 => ("RectFileModel", "cutX", "[I", true)
  | _ => ("RectFileModel", "cutY", "[I", true)
def tyX12 : Nat → FieldType := fun k => match k with
  | 0 => .array .byte
  | 1 => .int
  | 2 => .int
  | 3 => .int
  | 4 => .int
  | 5 => .int
  | 6 => .int
  | 7 => .int
  | 8 => .int
  | 9 => .array .int
  | 10 => .array .int
  | 11 => .array .int
  | 12 => .array .int
  | 13 => .boolean
  | 14 => .int
  | 15 => .int
  | 16 => .array .int
  | 17 => .array .int
  | 18 => .array .int
  | 19 => .array .int
  | 20 => .array .boolean
  | 21 => .array .int
  | 22 => .array .boolean
  | 23 => .array .int
  | 24 => .array .int
  | 25 => .array .int
  | 26 => .array .int
  | 27 => .int
  | 28 => .array .int
  | 29 => .array .int
  | 30 => .array .int
  | 31 => .array .int
  | 32 => .array .long
  | 33 => .array .boolean
  | 34 => .int
  | 35 => .array .int
  | _ => .array .int
abbrev wsX120 : List Cond := u_ws RX12 TX12 37
theorem nmX12 : ∀ a, a < 37 → ∀ b, b < 37 → a ≠ b → (TX12 a).2.1 ≠ (TX12 b).2.1 := by decide +kernel
theorem tyX12_ok : ∀ k, k < 37 → parseFieldDescriptor (TX12 k).2.2.1 = some (tyX12 k) := by decide +kernel
abbrev cX12_init : ByteArray := prog_14_method_1_code
def yX12_init : MethodName := ⟨RX12, "<init>", "()V"⟩
abbrev cX12_in : ByteArray := prog_14_method_2_code
def yX12_in : MethodName := ⟨RX12, "in", "(JJJ)Z"⟩
abbrev cX12_truth : ByteArray := prog_14_method_3_code
def yX12_truth : MethodName := ⟨RX12, "truth", "(Z)I"⟩
abbrev cX12_feed : ByteArray := prog_14_method_4_code
def yX12_feed : MethodName := ⟨RX12, "feed", "(IIIII)I"⟩
abbrev cX12_puts : ByteArray := prog_14_method_5_code
def yX12_puts : MethodName := ⟨RX12, "puts", "(I)V"⟩
abbrev cX12_end : ByteArray := prog_14_method_6_code
def yX12_end : MethodName := ⟨RX12, "end", "(I)I"⟩
abbrev cX12_fails : ByteArray := prog_14_method_7_code
def yX12_fails : MethodName := ⟨RX12, "fails", "(II)V"⟩
abbrev cX12_isRight : ByteArray := prog_14_method_8_code
def yX12_isRight : MethodName := ⟨RX12, "isRight", "()Z"⟩
abbrev cX12_sign : ByteArray := prog_14_method_9_code
def yX12_sign : MethodName := ⟨RX12, "sign", "()I"⟩
abbrev cX12_next : ByteArray := prog_14_method_10_code
def yX12_next : MethodName := ⟨RX12, "next", "()I"⟩
abbrev cX12_takes : ByteArray := prog_14_method_11_code
def yX12_takes : MethodName := ⟨RX12, "takes", "(Ljava/lang/String;)Z"⟩
abbrev cX12_number : ByteArray := prog_14_method_12_code
def yX12_number : MethodName := ⟨RX12, "numbe\x72", "(IIZ)I"⟩
abbrev cX12_readsRect : ByteArray := prog_14_method_13_code
def yX12_readsRect : MethodName := ⟨RX12, "readsRect", "()V"⟩
abbrev cX12_readsFile : ByteArray := prog_14_method_14_code
def yX12_readsFile : MethodName := ⟨RX12, "readsFile", "()V"⟩
abbrev cX12_file : ByteArray := prog_14_method_15_code
def yX12_file : MethodName := ⟨RX12, "file", "()I"⟩
abbrev cX12_keepsIn : ByteArray := prog_14_method_16_code
def yX12_keepsIn : MethodName := ⟨RX12, "keepsIn", "([II)V"⟩
abbrev cX12_laysFrom : ByteArray := prog_14_method_17_code
def yX12_laysFrom : MethodName := ⟨RX12, "laysFrom", "([II)V"⟩
abbrev cX12_remembers : ByteArray := prog_14_method_18_code
def yX12_remembers : MethodName := ⟨RX12, "remembers", "()V"⟩
abbrev cX12_undo : ByteArray := prog_14_method_19_code
def yX12_undo : MethodName := ⟨RX12, "undo", "()I"⟩
abbrev cX12_g : ByteArray := prog_14_method_20_code
def yX12_g : MethodName := ⟨RX12, "g", "(II)I"⟩
abbrev cX12_r : ByteArray := prog_14_method_21_code
def yX12_r : MethodName := ⟨RX12, "\x72", "(II)I"⟩
abbrev cX12_isRect : ByteArray := prog_14_method_22_code
def yX12_isRect : MethodName := ⟨RX12, "isRect", "(I)Z"⟩
abbrev cX12_freePage : ByteArray := prog_14_method_23_code
def yX12_freePage : MethodName := ⟨RX12, "freePage", "(I)I"⟩
abbrev cX12_laysRect : ByteArray := prog_14_method_24_code
def yX12_laysRect : MethodName := ⟨RX12, "laysRect", "(IIIII)V"⟩
abbrev cX12_boxAt : ByteArray := prog_14_method_25_code
def yX12_boxAt : MethodName := ⟨RX12, "boxAt", "(II)I"⟩
abbrev cX12_takesBox : ByteArray := prog_14_method_26_code
def yX12_takesBox : MethodName := ⟨RX12, "takesBox", "(I[I)V"⟩
abbrev cX12_grows : ByteArray := prog_14_method_27_code
def yX12_grows : MethodName := ⟨RX12, "grows", "([II)V"⟩
abbrev cX12_area : ByteArray := prog_14_method_28_code
def yX12_area : MethodName := ⟨RX12, "area", "([I)J"⟩
abbrev cX12_common : ByteArray := prog_14_method_29_code
def yX12_common : MethodName := ⟨RX12, "common", "([I[I)J"⟩
abbrev cX12_laysBoxes : ByteArray := prog_14_method_30_code
def yX12_laysBoxes : MethodName := ⟨RX12, "laysBoxes", "(I)V"⟩
abbrev cX12_comesLast : ByteArray := prog_14_method_31_code
def yX12_comesLast : MethodName := ⟨RX12, "comesLast", "(II)V"⟩
abbrev cX12_belongs : ByteArray := prog_14_method_32_code
def yX12_belongs : MethodName := ⟨RX12, "belongs", "(II)V"⟩
abbrev cX12_goesOut : ByteArray := prog_14_method_33_code
def yX12_goesOut : MethodName := ⟨RX12, "goesOut", "(II)V"⟩
abbrev cX12_moreOverlap : ByteArray := prog_14_method_34_code
def yX12_moreOverlap : MethodName := ⟨RX12, "moreOverlap", "(II)J"⟩
abbrev cX12_takesGrown : ByteArray := prog_14_method_35_code
def yX12_takesGrown : MethodName := ⟨RX12, "takesGrown", "(I)V"⟩
abbrev cX12_chosen : ByteArray := prog_14_method_36_code
def yX12_chosen : MethodName := ⟨RX12, "chosen", "(I)I"⟩
abbrev cX12_pageFor : ByteArray := prog_14_method_37_code
def yX12_pageFor : MethodName := ⟨RX12, "pageFo\x72", "(I)I"⟩
abbrev cX12_comes : ByteArray := prog_14_method_38_code
def yX12_comes : MethodName := ⟨RX12, "comes", "(II)V"⟩
abbrev cX12_tooFull : ByteArray := prog_14_method_39_code
def yX12_tooFull : MethodName := ⟨RX12, "tooFull", "(I)V"⟩
abbrev cX12_reinserts : ByteArray := prog_14_method_40_code
def yX12_reinserts : MethodName := ⟨RX12, "reinserts", "(I)V"⟩
abbrev cX12_farOf : ByteArray := prog_14_method_41_code
def yX12_farOf : MethodName := ⟨RX12, "farOf", "(II)J"⟩
abbrev cX12_laysOrder : ByteArray := prog_14_method_42_code
def yX12_laysOrder : MethodName := ⟨RX12, "laysOrde\x72", "(III)V"⟩
abbrev cX12_isAhead : ByteArray := prog_14_method_43_code
def yX12_isAhead : MethodName := ⟨RX12, "isAhead", "(IIII)Z"⟩
abbrev cX12_laysParting : ByteArray := prog_14_method_44_code
def yX12_laysParting : MethodName := ⟨RX12, "laysParting", "(III)V"⟩
abbrev cX12_margin : ByteArray := prog_14_method_45_code
def yX12_margin : MethodName := ⟨RX12, "margin", "([I)J"⟩
abbrev cX12_margins : ByteArray := prog_14_method_46_code
def yX12_margins : MethodName := ⟨RX12, "margins", "(II)J"⟩
abbrev cX12_splits : ByteArray := prog_14_method_47_code
def yX12_splits : MethodName := ⟨RX12, "splits", "(I)V"⟩
abbrev cX12_clearsAgain : ByteArray := prog_14_method_48_code
def yX12_clearsAgain : MethodName := ⟨RX12, "clearsAgain", "()V"⟩
abbrev cX12_putsRect : ByteArray := prog_14_method_49_code
def yX12_putsRect : MethodName := ⟨RX12, "putsRect", "(I)V"⟩
abbrev cX12_removes : ByteArray := prog_14_method_50_code
def yX12_removes : MethodName := ⟨RX12, "removes", "(I)V"⟩
abbrev cX12_comeAll : ByteArray := prog_14_method_51_code
def yX12_comeAll : MethodName := ⟨RX12, "comeAll", "(II)V"⟩
abbrev cX12_numbers : ByteArray := prog_14_method_52_code
def yX12_numbers : MethodName := ⟨RX12, "numbers", "()V"⟩
abbrev cX12_numbersFrom : ByteArray := prog_14_method_53_code
def yX12_numbersFrom : MethodName := ⟨RX12, "numbersFrom", "(I)V"⟩
abbrev cX12_pagesNow : ByteArray := prog_14_method_54_code
def yX12_pagesNow : MethodName := ⟨RX12, "pagesNow", "()I"⟩
abbrev cX12_pageBy : ByteArray := prog_14_method_55_code
def yX12_pageBy : MethodName := ⟨RX12, "pageBy", "(I)I"⟩
abbrev cX12_areSides : ByteArray := prog_14_method_56_code
def yX12_areSides : MethodName := ⟨RX12, "areSides", "(IIII)Z"⟩
abbrev cX12_put : ByteArray := prog_14_method_57_code
def yX12_put : MethodName := ⟨RX12, "put", "(IIIII)I"⟩
abbrev cX12_remove : ByteArray := prog_14_method_58_code
def yX12_remove : MethodName := ⟨RX12, "remove", "(I)I"⟩
abbrev cX12_shift : ByteArray := prog_14_method_59_code
def yX12_shift : MethodName := ⟨RX12, "shift", "(III)I"⟩
abbrev cX12_rectMany : ByteArray := prog_14_method_60_code
def yX12_rectMany : MethodName := ⟨RX12, "rectMany", "()I"⟩
abbrev cX12_isEarlier : ByteArray := prog_14_method_61_code
def yX12_isEarlier : MethodName := ⟨RX12, "isEarlie\x72", "(III)Z"⟩
abbrev cX12_sorts : ByteArray := prog_14_method_62_code
def yX12_sorts : MethodName := ⟨RX12, "sorts", "(III)V"⟩
abbrev cX12_laysSlices : ByteArray := prog_14_method_63_code
def yX12_laysSlices : MethodName := ⟨RX12, "laysSlices", "(I)V"⟩
abbrev cX12_deals : ByteArray := prog_14_method_64_code
def yX12_deals : MethodName := ⟨RX12, "deals", "(II)I"⟩
abbrev cX12_bulk : ByteArray := prog_14_method_65_code
def yX12_bulk : MethodName := ⟨RX12, "bulk", "()I"⟩
abbrev cX12_graft : ByteArray := prog_14_method_66_code
def yX12_graft : MethodName := ⟨RX12, "graft", "(II)I"⟩
abbrev cX12_draws : ByteArray := prog_14_method_67_code
def yX12_draws : MethodName := ⟨RX12, "draws", "(I)I"⟩
abbrev cX12_drawnOf : ByteArray := prog_14_method_68_code
def yX12_drawnOf : MethodName := ⟨RX12, "drawnOf", "(I)I"⟩
abbrev cX12_freeRect : ByteArray := prog_14_method_69_code
def yX12_freeRect : MethodName := ⟨RX12, "freeRect", "()I"⟩
abbrev cX12_drawn : ByteArray := prog_14_method_70_code
def yX12_drawn : MethodName := ⟨RX12, "drawn", "(I)I"⟩
abbrev cX12_keep : ByteArray := prog_14_method_71_code
def yX12_keep : MethodName := ⟨RX12, "keep", "(I)I"⟩
abbrev cX12_isKept : ByteArray := prog_14_method_72_code
def yX12_isKept : MethodName := ⟨RX12, "isKept", "(I)Z"⟩
abbrev cX12_back : ByteArray := prog_14_method_73_code
def yX12_back : MethodName := ⟨RX12, "back", "(I)I"⟩
abbrev cX12_rect : ByteArray := prog_14_method_74_code
def yX12_rect : MethodName := ⟨RX12, "rect", "(II)I"⟩
abbrev cX12_rectsIn : ByteArray := prog_14_method_75_code
def yX12_rectsIn : MethodName := ⟨RX12, "rectsIn", "(I)I"⟩
abbrev cX12_page : ByteArray := prog_14_method_76_code
def yX12_page : MethodName := ⟨RX12, "page", "(II)I"⟩
abbrev cX12_entry : ByteArray := prog_14_method_77_code
def yX12_entry : MethodName := ⟨RX12, "entry", "(II)I"⟩
abbrev cX12_choose : ByteArray := prog_14_method_78_code
def yX12_choose : MethodName := ⟨RX12, "choose", "(IIII)I"⟩
abbrev cX12_meets : ByteArray := prog_14_method_79_code
def yX12_meets : MethodName := ⟨RX12, "meets", "(IIIII)Z"⟩
abbrev cX12_looks : ByteArray := prog_14_method_80_code
def yX12_looks : MethodName := ⟨RX12, "looks", "(IIIII)I"⟩
abbrev cX12_window : ByteArray := prog_14_method_81_code
def yX12_window : MethodName := ⟨RX12, "window", "(IIIII)I"⟩
abbrev cX12_farFrom : ByteArray := prog_14_method_82_code
def yX12_farFrom : MethodName := ⟨RX12, "farFrom", "(III)J"⟩
abbrev cX12_comesToWait : ByteArray := prog_14_method_83_code
def yX12_comesToWait : MethodName := ⟨RX12, "comesToWait", "(IIJ)V"⟩
abbrev cX12_goesAhead : ByteArray := prog_14_method_84_code
def yX12_goesAhead : MethodName := ⟨RX12, "goesAhead", "(II)Z"⟩
abbrev cX12_firstWaiting : ByteArray := prog_14_method_85_code
def yX12_firstWaiting : MethodName := ⟨RX12, "firstWaiting", "()I"⟩
abbrev cX12_nearest : ByteArray := prog_14_method_86_code
def yX12_nearest : MethodName := ⟨RX12, "nearest", "(IIII)I"⟩
abbrev cX12_pairs : ByteArray := prog_14_method_87_code
def yX12_pairs : MethodName := ⟨RX12, "pairs", "()I"⟩
abbrev cX12_laysCuts : ByteArray := prog_14_method_88_code
def yX12_laysCuts : MethodName := ⟨RX12, "laysCuts", "([II)V"⟩
abbrev cX12_isCovered : ByteArray := prog_14_method_89_code
def yX12_isCovered : MethodName := ⟨RX12, "isCovered", "(IIII)Z"⟩
abbrev cX12_union : ByteArray := prog_14_method_90_code
def yX12_union : MethodName := ⟨RX12, "union", "()J"⟩
abbrev cX12_bitsOf : ByteArray := prog_14_method_91_code
def yX12_bitsOf : MethodName := ⟨RX12, "bitsOf", "(I)J"⟩
abbrev cX12_grid : ByteArray := prog_14_method_92_code
def yX12_grid : MethodName := ⟨RX12, "grid", "(I)J"⟩
abbrev cX12_fill : ByteArray := prog_14_method_93_code
def yX12_fill : MethodName := ⟨RX12, "fill", "()I"⟩
abbrev cX12_cost : ByteArray := prog_14_method_94_code
def yX12_cost : MethodName := ⟨RX12, "cost", "(II)J"⟩
abbrev cX12_overlap : ByteArray := prog_14_method_95_code
def yX12_overlap : MethodName := ⟨RX12, "overlap", "(I)J"⟩
abbrev cX12_isLike : ByteArray := prog_14_method_96_code
def yX12_isLike : MethodName := ⟨RX12, "isLike", "(III)Z"⟩
abbrev cX12_isLikeRect : ByteArray := prog_14_method_97_code
def yX12_isLikeRect : MethodName := ⟨RX12, "isLikeRect", "(III)Z"⟩
abbrev cX12_same : ByteArray := prog_14_method_98_code
def yX12_same : MethodName := ⟨RX12, "same", "(I)I"⟩
abbrev cX12_shown : ByteArray := prog_14_method_99_code
def yX12_shown : MethodName := ⟨RX12, "shown", "(I)I"⟩
abbrev cX12_count : ByteArray := prog_14_method_100_code
def yX12_count : MethodName := ⟨RX12, "count", "(I)I"⟩
def RJx145de : String := "java/io/Serializable"
def TJx145de : u_T := fun k => match k with
  | _ => ("", "", "", false)
def tyJx145de : Nat → FieldType := fun k => match k with
  | _ => .int
abbrev wsJx145de0 : List Cond := u_ws RJx145de TJx145de 0
theorem nmJx145de : ∀ a, a < 0 → ∀ b, b < 0 → a ≠ b → (TJx145de a).2.1 ≠ (TJx145de b).2.1 := by decide +kernel
theorem tyJx145de_ok : ∀ k, k < 0 → parseFieldDescriptor (TJx145de k).2.2.1 = some (tyJx145de k) := by decide +kernel
def RJx9f9b0 : String := "java/lang/CharSequence"
def TJx9f9b0 : u_T := fun k => match k with
  | _ => ("", "", "", false)
def tyJx9f9b0 : Nat → FieldType := fun k => match k with
  | _ => .int
abbrev wsJx9f9b00 : List Cond := u_ws RJx9f9b0 TJx9f9b0 0
theorem nmJx9f9b0 : ∀ a, a < 0 → ∀ b, b < 0 → a ≠ b → (TJx9f9b0 a).2.1 ≠ (TJx9f9b0 b).2.1 := by decide +kernel
theorem tyJx9f9b0_ok : ∀ k, k < 0 → parseFieldDescriptor (TJx9f9b0 k).2.2.1 = some (tyJx9f9b0 k) := by decide +kernel
def RJx8e188 : String := "java/lang/Cloneable"
def TJx8e188 : u_T := fun k => match k with
  | _ => ("", "", "", false)
def tyJx8e188 : Nat → FieldType := fun k => match k with
  | _ => .int
abbrev wsJx8e1880 : List Cond := u_ws RJx8e188 TJx8e188 0
theorem nmJx8e188 : ∀ a, a < 0 → ∀ b, b < 0 → a ≠ b → (TJx8e188 a).2.1 ≠ (TJx8e188 b).2.1 := by decide +kernel
theorem tyJx8e188_ok : ∀ k, k < 0 → parseFieldDescriptor (TJx8e188 k).2.2.1 = some (tyJx8e188 k) := by decide +kernel
def RJxb160c : String := "java/lang/Comparable"
def TJxb160c : u_T := fun k => match k with
  | _ => ("", "", "", false)
def tyJxb160c : Nat → FieldType := fun k => match k with
  | _ => .int
abbrev wsJxb160c0 : List Cond := u_ws RJxb160c TJxb160c 0
theorem nmJxb160c : ∀ a, a < 0 → ∀ b, b < 0 → a ≠ b → (TJxb160c a).2.1 ≠ (TJxb160c b).2.1 := by decide +kernel
theorem tyJxb160c_ok : ∀ k, k < 0 → parseFieldDescriptor (TJxb160c k).2.2.1 = some (tyJxb160c k) := by decide +kernel
def RJxe99ae : String := "java/lang/Double"
def TJxe99ae : u_T := fun k => match k with
  | _ => ("", "", "", false)
def tyJxe99ae : Nat → FieldType := fun k => match k with
  | _ => .int
abbrev wsJxe99ae0 : List Cond := u_ws RJxe99ae TJxe99ae 0
theorem nmJxe99ae : ∀ a, a < 0 → ∀ b, b < 0 → a ≠ b → (TJxe99ae a).2.1 ≠ (TJxe99ae b).2.1 := by decide +kernel
theorem tyJxe99ae_ok : ∀ k, k < 0 → parseFieldDescriptor (TJxe99ae k).2.2.1 = some (tyJxe99ae k) := by decide +kernel
abbrev cJxe99ae_isNaN_b9ae7 : ByteArray := prog_16_method_6_code
def yJxe99ae_isNaN_b9ae7 : MethodName := ⟨RJxe99ae, "isNaN", "(D)Z"⟩
abbrev cJxe99ae_doubleToLongBits_ccdee : ByteArray := prog_16_method_23_code
def yJxe99ae_doubleToLongBits_ccdee : MethodName := ⟨RJxe99ae, "doubleToLongBits", "(D)J"⟩
def RJxf58ca : String := "java/lang/Float"
def TJxf58ca : u_T := fun k => match k with
  | _ => ("", "", "", false)
def tyJxf58ca : Nat → FieldType := fun k => match k with
  | _ => .int
abbrev wsJxf58ca0 : List Cond := u_ws RJxf58ca TJxf58ca 0
theorem nmJxf58ca : ∀ a, a < 0 → ∀ b, b < 0 → a ≠ b → (TJxf58ca a).2.1 ≠ (TJxf58ca b).2.1 := by decide +kernel
theorem tyJxf58ca_ok : ∀ k, k < 0 → parseFieldDescriptor (TJxf58ca k).2.2.1 = some (tyJxf58ca k) := by decide +kernel
abbrev cJxf58ca_isNaN_12338 : ByteArray := prog_17_method_6_code
def yJxf58ca_isNaN_12338 : MethodName := ⟨RJxf58ca, "isNaN", "(F)Z"⟩
abbrev cJxf58ca_floatToIntBits_5c35a : ByteArray := prog_17_method_24_code
def yJxf58ca_floatToIntBits_5c35a : MethodName := ⟨RJxf58ca, "floatToIntBits", "(F)I"⟩
def RJ9 : String := "java/lang/Math"
def TJ9 : u_T := fun k => match k with
  | _ => ("", "", "", false)
def tyJ9 : Nat → FieldType := fun k => match k with
  | _ => .int
abbrev wsJ90 : List Cond := u_ws RJ9 TJ9 0
theorem nmJ9 : ∀ a, a < 0 → ∀ b, b < 0 → a ≠ b → (TJ9 a).2.1 ≠ (TJ9 b).2.1 := by decide +kernel
theorem tyJ9_ok : ∀ k, k < 0 → parseFieldDescriptor (TJ9 k).2.2.1 = some (tyJ9 k) := by decide +kernel
abbrev cJ9_max_7cf53 : ByteArray := prog_18_method_65_code
def yJ9_max_7cf53 : MethodName := ⟨RJ9, "max", "(II)I"⟩
abbrev cJ9_min_7cf53 : ByteArray := prog_18_method_69_code
def yJ9_min_7cf53 : MethodName := ⟨RJ9, "min", "(II)I"⟩
def RJxd2413 : String := "java/lang/Numbe\x72"
def TJxd2413 : u_T := fun k => match k with
  | _ => ("", "", "", false)
def tyJxd2413 : Nat → FieldType := fun k => match k with
  | _ => .int
abbrev wsJxd24130 : List Cond := u_ws RJxd2413 TJxd2413 0
theorem nmJxd2413 : ∀ a, a < 0 → ∀ b, b < 0 → a ≠ b → (TJxd2413 a).2.1 ≠ (TJxd2413 b).2.1 := by decide +kernel
theorem tyJxd2413_ok : ∀ k, k < 0 → parseFieldDescriptor (TJxd2413 k).2.2.1 = some (tyJxd2413 k) := by decide +kernel
def RJ0 : String := "java/lang/String"
def TJ0 : u_T := fun k => match k with
  | _ => ("", "", "", false)
def tyJ0 : Nat → FieldType := fun k => match k with
  | _ => .int
abbrev wsJ00 : List Cond := u_ws RJ0 TJ0 0
theorem nmJ0 : ∀ a, a < 0 → ∀ b, b < 0 → a ≠ b → (TJ0 a).2.1 ≠ (TJ0 b).2.1 := by decide +kernel
theorem tyJ0_ok : ∀ k, k < 0 → parseFieldDescriptor (TJ0 k).2.2.1 = some (tyJ0 k) := by decide +kernel
abbrev cJ0_length_8abf5 : ByteArray := prog_20_method_54_code
def yJ0_length_8abf5 : MethodName := ⟨RJ0, "length", "()I"⟩
abbrev cJ0_charAt_5068e : ByteArray := prog_20_method_56_code
def yJ0_charAt_5068e : MethodName := ⟨RJ0, "charAt", "(I)C"⟩
abbrev cJ0_coder_7d493 : ByteArray := prog_20_method_152_code
def yJ0_coder_7d493 : MethodName := ⟨RJ0, "code\x72", "()B"⟩
abbrev cJ0_isLatin1_aae02 : ByteArray := prog_20_method_154_code
def yJ0_isLatin1_aae02 : MethodName := ⟨RJ0, "isLatin1", "()Z"⟩
abbrev cJ0_checkIndex_df160 : ByteArray := prog_20_method_155_code
def yJ0_checkIndex_df160 : MethodName := ⟨RJ0, "checkIndex", "(II)V"⟩
def RJ1 : String := "java/lang/StringLatin1"
def TJ1 : u_T := fun k => match k with
  | _ => ("", "", "", false)
def tyJ1 : Nat → FieldType := fun k => match k with
  | _ => .int
abbrev wsJ10 : List Cond := u_ws RJ1 TJ1 0
theorem nmJ1 : ∀ a, a < 0 → ∀ b, b < 0 → a ≠ b → (TJ1 a).2.1 ≠ (TJ1 b).2.1 := by decide +kernel
theorem tyJ1_ok : ∀ k, k < 0 → parseFieldDescriptor (TJ1 k).2.2.1 = some (tyJ1 k) := by decide +kernel
abbrev cJ1_charAt_3b067 : ByteArray := prog_21_method_2_code
def yJ1_charAt_3b067 : MethodName := ⟨RJ1, "charAt", "([BI)C"⟩
def RJ2 : String := "java/lang/StringUTF16"
def TJ2 : u_T := fun k => match k with
  | _ => ("", "", "", false)
def tyJ2 : Nat → FieldType := fun k => match k with
  | _ => .int
abbrev wsJ20 : List Cond := u_ws RJ2 TJ2 0
theorem nmJ2 : ∀ a, a < 0 → ∀ b, b < 0 → a ≠ b → (TJ2 a).2.1 ≠ (TJ2 b).2.1 := by decide +kernel
theorem tyJ2_ok : ∀ k, k < 0 → parseFieldDescriptor (TJ2 k).2.2.1 = some (tyJ2 k) := by decide +kernel
abbrev cJ2_getChar_3b067 : ByteArray := prog_22_method_5_code
def yJ2_getChar_3b067 : MethodName := ⟨RJ2, "getCha\x72", "([BI)C"⟩
abbrev cJ2_length_9d52b : ByteArray := prog_22_method_6_code
def yJ2_length_9d52b : MethodName := ⟨RJ2, "length", "([B)I"⟩
abbrev cJ2_charAt_3b067 : ByteArray := prog_22_method_83_code
def yJ2_charAt_3b067 : MethodName := ⟨RJ2, "charAt", "([BI)C"⟩
abbrev cJ2_checkIndex_2214a : ByteArray := prog_22_method_91_code
def yJ2_checkIndex_2214a : MethodName := ⟨RJ2, "checkIndex", "(I[B)V"⟩
def RJ10 : String := "java/lang/System"
def TJ10 : u_T := fun k => match k with
  | _ => ("", "", "", false)
def tyJ10 : Nat → FieldType := fun k => match k with
  | _ => .int
abbrev wsJ100 : List Cond := u_ws RJ10 TJ10 0
theorem nmJ10 : ∀ a, a < 0 → ∀ b, b < 0 → a ≠ b → (TJ10 a).2.1 ≠ (TJ10 b).2.1 := by decide +kernel
theorem tyJ10_ok : ∀ k, k < 0 → parseFieldDescriptor (TJ10 k).2.2.1 = some (tyJ10 k) := by decide +kernel
def RJxfd54e : String := "java/lang/constant/Constable"
def TJxfd54e : u_T := fun k => match k with
  | _ => ("", "", "", false)
def tyJxfd54e : Nat → FieldType := fun k => match k with
  | _ => .int
abbrev wsJxfd54e0 : List Cond := u_ws RJxfd54e TJxfd54e 0
theorem nmJxfd54e : ∀ a, a < 0 → ∀ b, b < 0 → a ≠ b → (TJxfd54e a).2.1 ≠ (TJxfd54e b).2.1 := by decide +kernel
theorem tyJxfd54e_ok : ∀ k, k < 0 → parseFieldDescriptor (TJxfd54e k).2.2.1 = some (tyJxfd54e k) := by decide +kernel
def RJx3cf43 : String := "java/lang/constant/ConstantDesc"
def TJx3cf43 : u_T := fun k => match k with
  | _ => ("", "", "", false)
def tyJx3cf43 : Nat → FieldType := fun k => match k with
  | _ => .int
abbrev wsJx3cf430 : List Cond := u_ws RJx3cf43 TJx3cf43 0
theorem nmJx3cf43 : ∀ a, a < 0 → ∀ b, b < 0 → a ≠ b → (TJx3cf43 a).2.1 ≠ (TJx3cf43 b).2.1 := by decide +kernel
theorem tyJx3cf43_ok : ∀ k, k < 0 → parseFieldDescriptor (TJx3cf43 k).2.2.1 = some (tyJx3cf43 k) := by decide +kernel
def RJ7 : String := "java/util/Arrays"
def TJ7 : u_T := fun k => match k with
  | _ => ("", "", "", false)
def tyJ7 : Nat → FieldType := fun k => match k with
  | _ => .int
abbrev wsJ70 : List Cond := u_ws RJ7 TJ7 0
theorem nmJ7 : ∀ a, a < 0 → ∀ b, b < 0 → a ≠ b → (TJ7 a).2.1 ≠ (TJ7 b).2.1 := by decide +kernel
theorem tyJ7_ok : ∀ k, k < 0 → parseFieldDescriptor (TJ7 k).2.2.1 = some (tyJ7 k) := by decide +kernel
abbrev cJ7_fill_53178 : ByteArray := prog_24_method_103_code
def yJ7_fill_53178 : MethodName := ⟨RJ7, "fill", "([II)V"⟩
abbrev cJ7_copyOf_59c91 : ByteArray := prog_24_method_123_code
def yJ7_copyOf_59c91 : MethodName := ⟨RJ7, "copyOf", "([II)[I"⟩
def RJ3 : String := "jdk/internal/util/Preconditions"
def TJ3 : u_T := fun k => match k with
  | _ => ("", "", "", false)
def tyJ3 : Nat → FieldType := fun k => match k with
  | _ => .int
abbrev wsJ30 : List Cond := u_ws RJ3 TJ3 0
theorem nmJ3 : ∀ a, a < 0 → ∀ b, b < 0 → a ≠ b → (TJ3 a).2.1 ≠ (TJ3 b).2.1 := by decide +kernel
theorem tyJ3_ok : ∀ k, k < 0 → parseFieldDescriptor (TJ3 k).2.2.1 = some (tyJ3 k) := by decide +kernel
abbrev cJ3_checkIndex_8e157 : ByteArray := prog_25_method_11_code
def yJ3_checkIndex_8e157 : MethodName := ⟨RJ3, "checkIndex", "(IILjava/util/function/BiFunction;)I"⟩
def RL : String := "RectFileLaw"
abbrev cL_law : ByteArray := code
def yL_law : MethodName := ⟨RL, "law", "([I)Z"⟩
abbrev vwCl : List vw_C := [(RX0, TX0, 4), (RX1, TX1, 10), (RX2, TX2, 8), (RX3, TX3, 4), (RX4, TX4, 4), (RX5, TX5, 2), (RX6, TX6, 10), (RX7, TX7, 5), (RX8, TX8, 11), (RX9, TX9, 1), (RX10, TX10, 13), (RX11, TX11, 12), (RX12, TX12, 37)]
end
section
def va_AOA (t : FieldType) (U : State) : Prop := (Cond.arrayOver (.array t)).before #[] U = true
theorem va_AOA.use {t : FieldType} {A : Array Value} {U : State} (h : va_AOA t U) : (Cond.arrayOver (.array t)).before A U = true := h
/-! ===== BEGIN new T[n][m]: the outer array a place, the inner ones among the pooled ===== -/
/-- f, but v at every address of l -/
def vr_up {α : Type} (f : Nat → α) (l : List Nat) (v : α) : Nat → α := fun a => if a ∈ l then v else f a
theorem vr_up_in {α : Type} {f : Nat → α} {l : List Nat} {v : α} {a : Nat} (h : a ∈ l) : vr_up f l v a = v := if_pos h
theorem vr_up_ne {α : Type} {f : Nat → α} {l : List Nat} {v : α} {a : Nat} (h : a ∉ l) : vr_up f l v a = f a := if_neg h
theorem vr_rows {L l : List Nat} {f : Nat → va_E} {e : va_E} (h : ∀ a, a ∈ l → a ∉ L) : va_pl L f ++ l.map (fun a => (a, e)) = va_pl (L ++ l) (vr_up f l e) := by
  unfold va_pl
  rw [List.map_append]
  congr 1
  · apply List.map_congr_left
    intro a ha
    rw [vr_up_ne (fun q => h a q ha)]
  · apply List.map_congr_left
    intro a ha
    rw [vr_up_in ha]
theorem vr_lay {X rows : va_W} {x : Nat × va_E} {pl : va_W} {D : va_G} {cl : List vw_C} {H : Heap} (hP : va_P D cl (((X ++ pl) ++ [x]) ++ rows) H) : va_P D cl ((X ++ [x]) ++ (pl ++ rows)) H := by
  rw [List.append_assoc (X ++ pl)] at hP
  have h := va_P.swap hP
  rw [← List.append_assoc X] at h
  have h2 := va_P.swap h
  rw [List.append_assoc (X ++ [x])] at h2
  exact h2
theorem vr_layD {X rows : va_W} {x : Nat × va_E} {pl : va_W} {A : Nat → Prop} (hD : va_D A (((X ++ pl) ++ [x]) ++ rows)) : va_D A ((X ++ [x]) ++ (pl ++ rows)) := by
  rw [List.append_assoc (X ++ pl)] at hD
  have h := va_D.swap hD
  rw [← List.append_assoc X] at h
  have h2 := va_D.swap h
  rw [List.append_assoc (X ++ [x])] at h2
  exact h2
theorem vr_outer (c : ClassId) (N h0 : Nat) : ∀ i : Nat, Jvm.Free.Multi.outerC c N h0 i = arrV c N (fun j => va_rf (if j < i then some (h0 + 1 + j) else none))
  | 0 => by
    show ({ cls := c, slots := Array.replicate N .null, vm := .none } : Cell) = _
    rw [arrV_new]
    refine congrArg (arrV c N) (funext fun j => ?_)
    simp [va_rf]
  | i + 1 => by
    show (Jvm.Free.Multi.outerC c N h0 i).setSlot i (.ref (h0 + 1 + i)) = _
    rw [vr_outer c N h0 i, arrV_store]
    refine congrArg (arrV c N) (funext fun j => ?_)
    by_cases e : j = i
    · subst e
      simp [updV, va_rf]
    · by_cases h : j < i
      · simp [updV, e, h, Nat.lt_succ_of_lt h]
      · simp [updV, e, h, show ¬ j < i + 1 by omega]
section VGM
variable {p : Program} {l : Launch} {e : Env} {R : Room} {s : State} {m : MethodId} {args : Array Value} {below : List Frame} {meth : Method} {c : Code} {H : Heap} {locs : List Loc} {cells slots : Nat} {Q : State → Prop}
variable {cc : ByteArray} {pc : Nat} {ls : Array Slot} {rest : List Value} {D : va_G} {cl : List vw_C} {A : Nat → Prop} {a : Nat} {tys : List (ClassId × FieldType)} {ws : va_W} {H0 : Heap}
theorem va_mna {X : va_W} {L : List Nat} {f : Nat → va_E} {cc : ByteArray} (hexec : p.tables.exec = Jvm.exec) (hb : c.code = cc) {own : String} {index : Nat} {ty : FieldType} {cy : ClassId} (hown : s.vm.findClass own = some m.cls) (hclink : (Cond.classLink own index ("[" ++ (FieldType.array ty).toString)).before args s = true) (hover : va_AOA ty s) (harr : (Cond.arrayClass ty).before args s = true) (hcy : s.vm.findClass (FieldType.array ty).toString = some cy)
    (hK : va_K D cl tys s) (hP : va_P D cl (X ++ va_pl L f) H) (hD : va_D A (X ++ va_pl L f)) (hS : va_S A H0 H locs) (hA : ∀ q, H0.size ≤ q → A q) {n k : Int32} {N' K' : Nat} {z : vp_A} (hn : ¬ n < 0) (hk : ¬ k < 0) (hN : n.toNatClampNeg = N') (hM : k.toNatClampNeg = K')
    (hb1 : N' * 4 ≤ 536870912) (hb2 : K' * componentBytes ty ≤ 536870912) (hb3 : K' ≤ 536870912) (hdf : fits ty (defaultValue ty) = true) (hdd : (defaultValue ty).isDefault = true) (hcells : cells + (1 + N') ≤ R.cells) (hslots : slots + (N' + N' * K') ≤ R.slots) (hz : ∀ c : ClassId, Jvm.Free.Multi.innerC c K' (defaultValue ty) = vp_cell c z) (hdg : decode cc pc = .ok (.multianewarray index 2, 4))
    (kk : ∀ (q : Nat) (r : Nat → Nat) (cA : ClassId) (H1 : Heap), (∀ i j : Nat, i < N' → j < N' → r i = r j → i = j) → (∀ i : Nat, i < N' → r i ∉ L) → va_K D cl (tys ++ [(cA, .array ty)]) s →
      va_P D cl ((X ++ [(q, .inl (cA, N', .inr (.inr (.inr (.inr (fun i => if i < N' then some (r i) else none))))))]) ++ va_pl (L ++ (List.range N').map r) (vr_up f ((List.range N').map r) (.inl (cy, z)))) H1 → va_D A ((X ++ [(q, .inl (cA, N', .inr (.inr (.inr (.inr (fun i => if i < N' then some (r i) else none))))))]) ++ va_pl (L ++ (List.range N').map r) (vr_up f ((List.range N').map r) (.inl (cy, z)))) → va_S A H0 H1 locs →
      W p l e R s m args below meth c H1 locs (cells + 1 + N') (slots + N' + N' * K') Q (F0 m (pc + 4) ls (.ref q :: rest))) : W p l e R s m args below meth c H locs cells slots Q (F0 m pc ls (.int k :: .int n :: rest)) := by
  subst hN
  subst hM
  intro T hT Xs
  obtain ⟨vm₁, cA, comp, -, fA, fC, hO, -, X', step⟩ := Xs.multianewarray2F hexec hown hclink (va_AOA.use hover) harr (g := F0 m pc ls (.int k :: .int n :: rest)) rfl (by rw [hb]; exact hdg) rfl hn hk hb1 hb2 hb3 hdf hdd hcells hslots
  have ec : some cy = some comp := hcy.symm.trans fC
  cases ec
  generalize hF : Jvm.Free.Multi.fill (T.setVm vm₁) cA cy n.toNatClampNeg k.toNatClampNeg (defaultValue ty) n.toNatClampNeg = F at X' step
  have hTh : (T.setVm vm₁).heap = H := hT
  obtain ⟨f1, f2, -, -⟩ := Jvm.Free.Multi.fill_facts (T.setVm vm₁) cA cy n.toNatClampNeg k.toNatClampNeg (defaultValue ty) n.toNatClampNeg
  rw [hF, hTh] at f1 f2
  have hold : ∀ x : Nat, x < H.size → F.heap[x]? = H[x]? := fun x hx => by
    have := Jvm.Free.Multi.fill_old (T.setVm vm₁) cA cy n.toNatClampNeg k.toNatClampNeg (defaultValue ty) (a := x) (by rw [hTh]; exact hx) n.toNatClampNeg
    rw [hF, hTh] at this
    exact this
  have hrow : ∀ j : Nat, j < n.toNatClampNeg → F.heap[H.size + 1 + j]? = some (vp_cell cy z) := fun j hj => by
    have := Jvm.Free.Multi.fill_inner (T.setVm vm₁) cA cy n.toNatClampNeg k.toNatClampNeg (defaultValue ty) n.toNatClampNeg j hj
    rw [hF, hTh, hz] at this
    exact this
  have hout : Jvm.Free.Multi.outerC cA n.toNatClampNeg H.size n.toNatClampNeg = vp_cell cA (n.toNatClampNeg, .inr (.inr (.inr (.inr (fun i => if i < n.toNatClampNeg then some (H.size + 1 + i) else none))))) := by
    rw [vp_cell_q]
    exact vr_outer cA n.toNatClampNeg H.size n.toNatClampNeg
  rw [hout] at f2
  have hlt : ∀ a, a ∈ L → a < H.size := fun a ha => by
    obtain ⟨k9, hk9⟩ := va_pl_get (X := X) (f := f) ha
    exact (hP k9 _ hk9).lt
  have hnl : ∀ i : Nat, i < n.toNatClampNeg → H.size + 1 + i ∉ L := fun i _ h => by
    have := hlt _ h
    omega
  have hnm : ∀ a, a ∈ (List.range n.toNatClampNeg).map (fun i => H.size + 1 + i) → a ∉ L := fun a ha h => by
    obtain ⟨i, -, rfl⟩ := List.mem_map.mp ha
    have := hlt _ h
    omega
  have hP0 : va_P D cl (X ++ va_pl L f) F.heap := hP.kept (fun k9 x hx => hold x.1 ((hP k9 x hx).lt))
  have hP1 : va_P D cl ((X ++ va_pl L f) ++ [(H.size, .inl (cA, n.toNatClampNeg, .inr (.inr (.inr (.inr (fun i => if i < n.toNatClampNeg then some (H.size + 1 + i) else none))))))]) F.heap := hP0.app (fun k9 x hx => by
    have h0 : k9 < 1 := (List.getElem?_eq_some_iff.mp hx).1
    rw [show k9 = 0 by omega] at hx
    cases hx
    exact f2)
  have hP2 : va_P D cl (((X ++ va_pl L f) ++ [(H.size, .inl (cA, n.toNatClampNeg, .inr (.inr (.inr (.inr (fun i => if i < n.toNatClampNeg then some (H.size + 1 + i) else none))))))]) ++ ((List.range n.toNatClampNeg).map (fun i => H.size + 1 + i)).map (fun a => (a, .inl (cy, z)))) F.heap := hP1.app (fun k9 x hx => by
    obtain ⟨a, ha, rfl⟩ := List.mem_map.mp (List.mem_of_getElem? hx)
    obtain ⟨i, hi, rfl⟩ := List.mem_map.mp ha
    exact hrow i (List.mem_range.mp hi))
  have hD2 : va_D A (((X ++ va_pl L f) ++ [(H.size, .inl (cA, n.toNatClampNeg, .inr (.inr (.inr (.inr (fun i => if i < n.toNatClampNeg then some (H.size + 1 + i) else none))))))]) ++ ((List.range n.toNatClampNeg).map (fun i => H.size + 1 + i)).map (fun a => (a, .inl (cy, z)))) := by
    have hD1 := hD.push (e := .inl (cA, n.toNatClampNeg, .inr (.inr (.inr (.inr (fun i => if i < n.toNatClampNeg then some (H.size + 1 + i) else none)))))) hP rfl (hA _ hS.1)
    generalize hW1 : (X ++ va_pl L f) ++ [(H.size, .inl (cA, n.toNatClampNeg, .inr (.inr (.inr (.inr (fun i => if i < n.toNatClampNeg then some (H.size + 1 + i) else none))))))] = W1 at hD1 hP1 ⊢
    have hle : ∀ (k9 : Nat) (x : Nat × va_E), W1[k9]? = some x → x.1 ≤ H.size := fun k9 x hx => by
      rw [← hW1] at hx
      by_cases hl : k9 < (X ++ va_pl L f).length
      · rw [List.getElem?_append_left hl] at hx
        exact Nat.le_of_lt ((hP k9 x hx).lt)
      · rw [List.getElem?_append_right (by omega)] at hx
        have h0 : k9 - (X ++ va_pl L f).length < 1 := (List.getElem?_eq_some_iff.mp hx).1
        rw [show k9 - (X ++ va_pl L f).length = 0 by omega] at hx
        cases hx
        exact Nat.le_refl _
    have hr : ∀ (k9 : Nat) (x : Nat × va_E), (((List.range n.toNatClampNeg).map (fun i => H.size + 1 + i)).map (fun a => ((a, .inl (cy, z)) : Nat × va_E)))[k9]? = some x → x.1 = H.size + 1 + k9 := fun k9 x hx => by
      rw [List.getElem?_map, List.getElem?_map] at hx
      by_cases h9 : k9 < n.toNatClampNeg
      · rw [List.getElem?_range h9] at hx
        cases hx
        rfl
      · have hn0 : (List.range n.toNatClampNeg)[k9]? = none := List.getElem?_eq_none (by rw [List.length_range]; omega)
        rw [hn0] at hx
        cases hx
    refine ⟨fun i j x y hi hj hxy => ?_, fun k9 x hx => ?_⟩
    · by_cases h1 : i < W1.length <;> by_cases h2 : j < W1.length
      · rw [List.getElem?_append_left h1] at hi
        rw [List.getElem?_append_left h2] at hj
        exact hD1.1 i j x y hi hj hxy
      · rw [List.getElem?_append_left h1] at hi
        rw [List.getElem?_append_right (by omega)] at hj
        have := hle _ _ hi
        have := hr _ _ hj
        omega
      · rw [List.getElem?_append_right (by omega)] at hi
        rw [List.getElem?_append_left h2] at hj
        have := hle _ _ hj
        have := hr _ _ hi
        omega
      · rw [List.getElem?_append_right (by omega)] at hi hj
        have := hr _ _ hi
        have := hr _ _ hj
        omega
    · by_cases h1 : k9 < W1.length
      · rw [List.getElem?_append_left h1] at hx
        exact hD1.2 k9 x hx
      · rw [List.getElem?_append_right (by omega)] at hx
        have := hr _ _ hx
        exact hA _ (by have := hS.1; omega)
  have hAr : ArrOfT s cA (.array ty) := fun N9 z9 => by
    obtain ⟨-, k9, hk9, cm9, hkk9⟩ := (hO 0 0 0).1
    exact ⟨(fun q hq => by cases hq), k9, hk9, cm9, hkk9⟩
  have hK2 : va_K D cl (tys ++ [(cA, .array ty)]) s := ⟨hK.1, fun k9 x hx => by
    by_cases hl : k9 < tys.length
    · rw [List.getElem?_append_left hl] at hx
      exact hK.2 k9 x hx
    · rw [List.getElem?_append_right (by omega)] at hx
      have h0 : k9 - tys.length < 1 := (List.getElem?_eq_some_iff.mp hx).1
      rw [show k9 - tys.length = 0 by omega] at hx
      cases hx
      exact ⟨hAr, fA⟩⟩
  obtain ⟨t, a1, b1⟩ := kk H.size (fun i => H.size + 1 + i) cA F.heap (fun i j _ _ h => by have h9 : H.size + 1 + i = H.size + 1 + j := h; omega) hnl hK2 (by rw [← vr_rows hnm]; exact vr_lay hP2) (by rw [← vr_rows hnm]; exact vr_layD hD2) ⟨by rw [f1]; have := hS.1; omega, fun x h1 h2 => (hold x (Nat.lt_of_lt_of_le h1 hS.1)).trans (hS.2.1 x h1 h2), hS.2.2⟩ F rfl X'
  refine ⟨t, step t ?_, b1⟩
  have e : T.heap.size = H.size := by rw [hT]
  rw [e]
  exact a1
end VGM
/-! ===== END ===== -/
end
section
def wsU_0 : List Cond := [Cond.initialized RX11, Cond.initialized RX12, Cond.methodLink RX11 3 objectInit, Cond.instanceMethod objectInit, Cond.code objectInit ⟨#[0xb1]⟩ 1 none, Cond.classLink RX11 9 RX8, Cond.instantiable RX8 11, Cond.initialized RX8, Cond.fieldLink RX11 12 "RectFile" "tape" "LRectFile$Tape;", Cond.classLink RX11 18 RX3, Cond.instantiable RX3 4, Cond.initialized RX3, Cond.fieldLink RX11 21 "RectFile" "history" "LRectFile$History;", Cond.classLink RX11 25 RX10, Cond.fieldLink RX11 27 "RectFile" "shelves" "[LRectFile$Tree;", Cond.classLink RX11 31 RX2, Cond.instantiable RX2 8, Cond.initialized RX2, Cond.fieldLink RX11 34 "RectFile" "growe\x72" "LRectFile$Grower;", Cond.classLink RX11 38 RX5, Cond.instantiable RX5 2, Cond.initialized RX5, Cond.fieldLink RX11 41 "RectFile" "numbere\x72" "LRectFile$Numberer;", Cond.classLink RX11 45 RX9]
def wsU_1 : List Cond := [Cond.instantiable RX9 1, Cond.initialized RX9, Cond.fieldLink RX11 48 "RectFile" "tile\x72" "LRectFile$Tiler;", Cond.classLink RX11 52 RX6, Cond.instantiable RX6 10, Cond.initialized RX6, Cond.fieldLink RX11 55 "RectFile" "seeke\x72" "LRectFile$Seeker;", Cond.classLink RX11 59 RX4, Cond.instantiable RX4 4, Cond.initialized RX4, Cond.fieldLink RX11 62 "RectFile" "measure\x72" "LRectFile$Measurer;", Cond.instantiable RX10 13, Cond.initialized RX10, Cond.fieldLink RX11 67 "RectFile" "now" "LRectFile$Tree;", Cond.fieldLink RX11 71 "RectFile" "spare" "LRectFile$Tree;", Cond.fieldLink RX11 74 "RectFile" "told" "Z", Cond.fieldLink RX11 78 "RectFile" "seed" "I", Cond.methodLink RX11 11 yX8_init, Cond.instanceMethod yX8_init, Cond.code yX8_init cX8_init 1 none, Cond.methodLink RX8 3 objectInit, Cond.arrayClass .int, Cond.fieldLink RX8 11 "RectFile$Tape" "ids" "[I", Cond.fieldLink RX8 15 "RectFile$Tape" "sides" "[I"]
def wsU_2 : List Cond := [Cond.arrayClass .byte, Cond.fieldLink RX8 18 "RectFile$Tape" "bytes" "[B", Cond.fieldLink RX8 22 "RectFile$Tape" "length" "I", Cond.methodLink RX11 20 yX3_init, Cond.instanceMethod yX3_init, Cond.code yX3_init cX3_init 1 none, Cond.methodLink RX3 1 objectInit, Cond.classLink RX3 9 RX10, Cond.fieldLink RX3 11 "RectFile$History" "trees" "[LRectFile$Tree;", Cond.fieldLink RX3 15 "RectFile$History" "seeds" "[I", Cond.fieldLink RX3 19 "RectFile$History" "held" "I", Cond.fieldLink RX3 23 "RectFile$History" "newest" "I", Cond.methodLink RX11 33 yX2_init, Cond.instanceMethod yX2_init, Cond.code yX2_init cX2_init 1 none, Cond.methodLink RX2 3 objectInit, Cond.classLink RX2 9 RX1, Cond.instantiable RX1 10, Cond.initialized RX1, Cond.fieldLink RX2 12 "RectFile$Growe\x72" "choose\x72" "LRectFile$Chooser;", Cond.classLink RX2 18 RX7, Cond.instantiable RX7 5, Cond.initialized RX7, Cond.fieldLink RX2 21 "RectFile$Growe\x72" "splitte\x72" "LRectFile$Splitter;"]
def wsU_3 : List Cond := [Cond.fieldLink RX2 27 "RectFile$Growe\x72" "apart" "[I", Cond.fieldLink RX2 31 "RectFile$Growe\x72" "waiting" "[I", Cond.fieldLink RX2 34 "RectFile$Growe\x72" "waitingLevel" "[I", Cond.fieldLink RX2 37 "RectFile$Growe\x72" "reinsertedIn" "[I", Cond.fieldLink RX2 40 "RectFile$Growe\x72" "waits" "I", Cond.fieldLink RX2 44 "RectFile$Growe\x72" "act" "I", Cond.methodLink RX2 11 yX1_init, Cond.instanceMethod yX1_init, Cond.code yX1_init cX1_init 1 none, Cond.methodLink RX1 3 objectInit, Cond.classLink RX1 9 RX0, Cond.instantiable RX0 4, Cond.initialized RX0, Cond.fieldLink RX1 12 "RectFile$Choose\x72" "coming" "LRectFile$Box;", Cond.fieldLink RX1 18 "RectFile$Choose\x72" "own" "LRectFile$Box;", Cond.fieldLink RX1 21 "RectFile$Choose\x72" "grown" "LRectFile$Box;", Cond.fieldLink RX1 24 "RectFile$Choose\x72" "othe\x72" "LRectFile$Box;", Cond.instanceMethod yX0_init, Cond.code yX0_init cX0_init 1 none, Cond.methodLink RX0 1 objectInit, Cond.methodLink RX2 20 yX7_init, Cond.instanceMethod yX7_init, Cond.code yX7_init cX7_init 1 none, Cond.methodLink RX7 1 objectInit]
def wsU_4 : List Cond := [Cond.classLink RX7 11 "[[I", Cond.fieldLink RX7 13 "RectFile$Splitte\x72" "orders" "[[I", Cond.classLink RX7 16 RX0, Cond.fieldLink RX7 19 "RectFile$Splitte\x72" "head" "LRectFile$Box;", Cond.fieldLink RX7 23 "RectFile$Splitte\x72" "tail" "LRectFile$Box;", Cond.methodLink RX11 40 yX5_init, Cond.instanceMethod yX5_init, Cond.code yX5_init cX5_init 1 none, Cond.methodLink RX5 3 objectInit, Cond.fieldLink RX5 11 "RectFile$Numbere\x72" "stack" "[I", Cond.fieldLink RX5 17 "RectFile$Numbere\x72" "numberOf" "[I", Cond.methodLink RX11 47 yX9_init, Cond.instanceMethod yX9_init, Cond.code yX9_init cX9_init 1 none, Cond.methodLink RX9 3 objectInit, Cond.fieldLink RX9 9 "RectFile$Tile\x72" "row" "[I", Cond.methodLink RX11 54 yX6_init, Cond.instanceMethod yX6_init, Cond.code yX6_init cX6_init 1 none, Cond.methodLink RX6 3 objectInit, Cond.classLink RX6 9 RX0, Cond.fieldLink RX6 12 "RectFile$Seeke\x72" "pane" "LRectFile$Box;", Cond.fieldLink RX6 18 "RectFile$Seeke\x72" "box" "LRectFile$Box;", Cond.arrayClass .boolean]
def wsU_5 : List Cond := [Cond.fieldLink RX6 23 "RectFile$Seeke\x72" "looked" "[Z", Cond.fieldLink RX6 27 "RectFile$Seeke\x72" "waiting" "[I", Cond.arrayClass .long, Cond.fieldLink RX6 31 "RectFile$Seeke\x72" "keys" "[J", Cond.methodLink RX11 61 yX4_init, Cond.instanceMethod yX4_init, Cond.code yX4_init cX4_init 1 none, Cond.methodLink RX4 3 objectInit, Cond.fieldLink RX4 9 "RectFile$Measure\x72" "row" "[I", Cond.fieldLink RX4 15 "RectFile$Measure\x72" "edges" "[I", Cond.classLink RX4 18 RX0, Cond.fieldLink RX4 21 "RectFile$Measure\x72" "one" "LRectFile$Box;", Cond.fieldLink RX4 25 "RectFile$Measure\x72" "othe\x72" "LRectFile$Box;", Cond.methodLink RX11 66 yX10_init, Cond.instanceMethod yX10_init, Cond.code yX10_init cX10_init 1 none, Cond.methodLink RX10 3 objectInit, Cond.fieldLink RX10 11 "RectFile$Tree" "side" "[I", Cond.fieldLink RX10 15 "RectFile$Tree" "home" "[I", Cond.fieldLink RX10 18 "RectFile$Tree" "level" "[I", Cond.fieldLink RX10 21 "RectFile$Tree" "size" "[I", Cond.fieldLink RX10 24 "RectFile$Tree" "slot" "[I", Cond.methodLink RX10 27 yJ7_fill_53178, Cond.static yJ7_fill_53178]
def wsU_6 : List Cond := [Cond.initialized RJ7, Cond.code yJ7_fill_53178 cJ7_fill_53178 4 none, Cond.methodLink RX12 5 objectInit, Cond.fieldLink RX12 11 "RectFileModel" "tape" "[B", Cond.fieldLink RX12 15 "RectFileModel" "newRect" "[I", Cond.fieldLink RX12 19 "RectFileModel" "now" "[I", Cond.constant RX12 22 (100056), Cond.fieldLink RX12 23 "RectFileModel" "past" "[I", Cond.fieldLink RX12 26 "RectFileModel" "kept" "[I", Cond.fieldLink RX12 29 "RectFileModel" "box" "[I", Cond.fieldLink RX12 32 "RectFileModel" "othe\x72" "[I", Cond.fieldLink RX12 35 "RectFileModel" "grown" "[I", Cond.fieldLink RX12 38 "RectFileModel" "come\x72" "[I", Cond.fieldLink RX12 41 "RectFileModel" "isAgain" "[Z", Cond.fieldLink RX12 45 "RectFileModel" "out" "[I", Cond.fieldLink RX12 48 "RectFileModel" "isOut" "[Z", Cond.fieldLink RX12 51 "RectFileModel" "orde\x72" "[I", Cond.fieldLink RX12 54 "RectFileModel" "gone" "[I", Cond.fieldLink RX12 57 "RectFileModel" "numbe\x72" "[I", Cond.fieldLink RX12 60 "RectFileModel" "pageOf" "[I", Cond.fieldLink RX12 63 "RectFileModel" "deal" "[I", Cond.fieldLink RX12 66 "RectFileModel" "dealt" "[I", Cond.fieldLink RX12 69 "RectFileModel" "waiting" "[I", Cond.fieldLink RX12 72 "RectFileModel" "waitingLevel" "[I"]
def wsU_7 : List Cond := [Cond.fieldLink RX12 75 "RectFileModel" "waitingFa\x72" "[J", Cond.fieldLink RX12 79 "RectFileModel" "isDone" "[Z", Cond.fieldLink RX12 82 "RectFileModel" "cutX" "[I", Cond.fieldLink RX12 85 "RectFileModel" "cutY" "[I", Cond.methodLink RL 13 yX11_feed, Cond.instanceMethod yX11_feed, Cond.selects RX11 yX11_feed yX11_feed, Cond.code yX11_feed cX11_feed 6 (some .int), Cond.fieldLink RX11 90 "RectFile$Tape" "length" "I", Cond.methodLink RX11 82 yX8_hasRoom, Cond.instanceMethod yX8_hasRoom, Cond.selects RX8 yX8_hasRoom yX8_hasRoom, Cond.code yX8_hasRoom cX8_hasRoom 1 (some .boolean), Cond.methodLink RX11 86 yX8_write, Cond.instanceMethod yX8_write, Cond.selects RX8 yX8_write yX8_write, Cond.code yX8_write cX8_write 3 none, Cond.methodLink RL 17 yX12_feed, Cond.instanceMethod yX12_feed, Cond.selects RX12 yX12_feed yX12_feed, Cond.code yX12_feed cX12_feed 6 (some .int), Cond.fieldLink RX12 88 "RectFileModel" "taped" "I", Cond.methodLink RX12 92 yX12_puts, Cond.instanceMethod yX12_puts]
def wsU_8 : List Cond := [Cond.selects RX12 yX12_puts yX12_puts, Cond.code yX12_puts cX12_puts 3 none, Cond.methodLink RL 18 yX11_end, Cond.instanceMethod yX11_end, Cond.selects RX11 yX11_end yX11_end, Cond.code yX11_end cX11_end 2 (some .int), Cond.methodLink RL 22 yX12_end, Cond.instanceMethod yX12_end, Cond.selects RX12 yX12_end yX12_end, Cond.code yX12_end cX12_end 2 (some .int), Cond.methodLink RL 23 yX11_file, Cond.instanceMethod yX11_file, Cond.selects RX11 yX11_file yX11_file, Cond.code yX11_file cX11_file 4 (some .int), Cond.methodLink RX11 93 yX8_read, Cond.instanceMethod yX8_read, Cond.selects RX8 yX8_read yX8_read, Cond.code yX8_read cX8_read 2 (some .int), Cond.fieldLink RX8 26 "RectFile$Tape" "place" "I", Cond.fieldLink RX8 29 "RectFile$Tape" "begun" "I", Cond.fieldLink RX8 32 "RectFile$Tape" "fault" "I", Cond.fieldLink RX8 35 "RectFile$Tape" "rects" "I", Cond.fieldLink RX8 48 "RectFile$Tape" "most" "I", Cond.methodLink RX8 51 Lib.Math.min.name]
def wsU_9 : List Cond := [Cond.static Lib.Math.min.name, Cond.initialized "java/lang/Math", Cond.code Lib.Math.min.name Lib.Math.min.code 2 (some .int), Cond.fieldLink RX8 57 "RectFile$Tape" "least" "I", Cond.fieldLink RX8 60 "RectFile$Tape" "again" "I", Cond.methodLink RX8 40 yX8_readWord, Cond.instanceMethod yX8_readWord, Cond.selects RX8 yX8_readWord yX8_readWord, Cond.code yX8_readWord cX8_readWord 4 none, Cond.methodLink RX8 80 yX8_skipBlanks, Cond.instanceMethod yX8_skipBlanks, Cond.selects RX8 yX8_skipBlanks yX8_skipBlanks, Cond.code yX8_skipBlanks cX8_skipBlanks 1 none, Cond.methodLink RX8 90 yJ0_length_8abf5, Cond.instanceMethod yJ0_length_8abf5, Cond.selects RJ0 yJ0_length_8abf5 yJ0_length_8abf5, Cond.initialized RJ0, Cond.code yJ0_length_8abf5 cJ0_length_8abf5 1 (some .int), Cond.fieldLink RJ0 9 "java/lang/String" "value" "[B", Cond.methodLink RJ0 335 yJ0_coder_7d493, Cond.instanceMethod yJ0_coder_7d493, Cond.selects RJ0 yJ0_coder_7d493 yJ0_coder_7d493, Cond.code yJ0_coder_7d493 cJ0_coder_7d493 1 (some .byte), Cond.fieldLink RJ0 38 "java/lang/String" "COMPACT_STRINGS" "Z"]
def wsU_10 : List Cond := [Cond.fieldLink RJ0 15 "java/lang/String" "code\x72" "B", Cond.methodLink RX8 72 yX8_blame, Cond.instanceMethod yX8_blame, Cond.selects RX8 yX8_blame yX8_blame, Cond.code yX8_blame cX8_blame 3 none, Cond.methodLink RX8 44 yX8_readNumber, Cond.instanceMethod yX8_readNumber, Cond.selects RX8 yX8_readNumber yX8_readNumber, Cond.code yX8_readNumber cX8_readNumber 6 (some .int), Cond.methodLink RX8 63 yX8_goesOn, Cond.instanceMethod yX8_goesOn, Cond.selects RX8 yX8_goesOn yX8_goesOn, Cond.code yX8_goesOn cX8_goesOn 1 (some .boolean), Cond.methodLink RL 27 yX12_file, Cond.instanceMethod yX12_file, Cond.selects RX12 yX12_file yX12_file, Cond.code yX12_file cX12_file 3 (some .int), Cond.fieldLink RX12 99 "RectFileModel" "p" "I", Cond.fieldLink RX12 96 "RectFileModel" "fault" "I", Cond.fieldLink RX12 166 "RectFileModel" "newMost" "I", Cond.fieldLink RX12 169 "RectFileModel" "newLeast" "I", Cond.fieldLink RX12 172 "RectFileModel" "newOut" "I", Cond.fieldLink RX12 181 "RectFileModel" "hasFile" "Z", Cond.fieldLink RX12 158 "RectFileModel" "newMany" "I"]
def wsU_11 : List Cond := [Cond.fieldLink RX12 196 "RectFileModel" "pastMany" "I", Cond.methodLink RX12 178 yX12_readsFile, Cond.instanceMethod yX12_readsFile, Cond.selects RX12 yX12_readsFile yX12_readsFile, Cond.code yX12_readsFile cX12_readsFile 2 none, Cond.methodLink RX12 146 Lib.Math.min.name, Cond.methodLink RX12 106 yX12_next, Cond.instanceMethod yX12_next, Cond.selects RX12 yX12_next yX12_next, Cond.code yX12_next cX12_next 1 (some .int), Cond.methodLink RX12 102 yX12_sign, Cond.instanceMethod yX12_sign, Cond.selects RX12 yX12_sign yX12_sign, Cond.code yX12_sign cX12_sign 1 (some .int), Cond.methodLink RX12 154 yX12_takes, Cond.instanceMethod yX12_takes, Cond.selects RX12 yX12_takes yX12_takes, Cond.code yX12_takes cX12_takes 5 (some .boolean), Cond.methodLink RX12 113 yX12_in, Cond.static yX12_in, Cond.code yX12_in cX12_in 6 (some .boolean), Cond.methodLink RX12 117 yX12_isRight, Cond.instanceMethod yX12_isRight, Cond.selects RX12 yX12_isRight yX12_isRight]
def wsU_12 : List Cond := [Cond.code yX12_isRight cX12_isRight 1 (some .boolean), Cond.methodLink RX12 121 yJ0_length_8abf5, Cond.methodLink RX12 141 yX12_fails, Cond.instanceMethod yX12_fails, Cond.selects RX12 yX12_fails yX12_fails, Cond.code yX12_fails cX12_fails 3 none, Cond.methodLink RX12 161 yX12_number, Cond.instanceMethod yX12_number, Cond.selects RX12 yX12_number yX12_number, Cond.code yX12_number cX12_number 6 (some .int), Cond.fieldLink RX12 130 "RectFileModel" "numberAt" "I", Cond.methodLink RX12 133 yX12_truth, Cond.static yX12_truth, Cond.code yX12_truth cX12_truth 1 (some .int), Cond.methodLink RX12 208 yX12_r, Cond.static yX12_r, Cond.code yX12_r cX12_r 2 (some .int), Cond.methodLink RL 28 yX11_put, Cond.instanceMethod yX11_put, Cond.selects RX11 yX11_put yX11_put, Cond.code yX11_put cX11_put 6 (some .int), Cond.methodLink RL 31 yX12_put, Cond.instanceMethod yX12_put, Cond.selects RX12 yX12_put yX12_put]
def wsU_13 : List Cond := [Cond.code yX12_put cX12_put 6 (some .int), Cond.constantLong RX12 206 (99), Cond.methodLink RX12 312 yX12_isRect, Cond.instanceMethod yX12_isRect, Cond.selects RX12 yX12_isRect yX12_isRect, Cond.code yX12_isRect cX12_isRect 2 (some .boolean), Cond.fieldLink RX12 298 "RectFileModel" "pageMany" "I", Cond.methodLink RX12 304 yX12_numbers, Cond.instanceMethod yX12_numbers, Cond.selects RX12 yX12_numbers yX12_numbers, Cond.code yX12_numbers cX12_numbers 1 none, Cond.methodLink RL 32 yX11_remove, Cond.instanceMethod yX11_remove, Cond.selects RX11 yX11_remove yX11_remove, Cond.code yX11_remove cX11_remove 2 (some .int), Cond.methodLink RX11 152 yX11_isInFile, Cond.instanceMethod yX11_isInFile, Cond.selects RX11 yX11_isInFile yX11_isInFile, Cond.code yX11_isInFile cX11_isInFile 2 (some .boolean), Cond.methodLink RL 35 yX12_remove, Cond.instanceMethod yX12_remove, Cond.selects RX12 yX12_remove yX12_remove, Cond.code yX12_remove cX12_remove 2 (some .int), Cond.methodLink RL 36 yX11_shift]
def wsU_14 : List Cond := [Cond.instanceMethod yX11_shift, Cond.selects RX11 yX11_shift yX11_shift, Cond.code yX11_shift cX11_shift 13 (some .int), Cond.methodLink RL 40 yX12_shift, Cond.instanceMethod yX12_shift, Cond.selects RX12 yX12_shift yX12_shift, Cond.code yX12_shift cX12_shift 7 (some .int), Cond.methodLink RL 41 yX11_bulk, Cond.instanceMethod yX11_bulk, Cond.selects RX11 yX11_bulk yX11_bulk, Cond.code yX11_bulk cX11_bulk 1 (some .int), Cond.methodLink RL 44 yX12_bulk, Cond.instanceMethod yX12_bulk, Cond.selects RX12 yX12_bulk yX12_bulk, Cond.code yX12_bulk cX12_bulk 4 (some .int), Cond.methodLink RL 45 yX11_graft, Cond.instanceMethod yX11_graft, Cond.selects RX11 yX11_graft yX11_graft, Cond.code yX11_graft cX11_graft 6 (some .int), Cond.methodLink RX11 169 yX11_isPage, Cond.instanceMethod yX11_isPage, Cond.selects RX11 yX11_isPage yX11_isPage, Cond.code yX11_isPage cX11_isPage 2 (some .boolean), Cond.methodLink RL 49 yX12_graft]
def wsU_15 : List Cond := [Cond.instanceMethod yX12_graft, Cond.selects RX12 yX12_graft yX12_graft, Cond.code yX12_graft cX12_graft 7 (some .int), Cond.methodLink RX12 340 yX12_pageBy, Cond.instanceMethod yX12_pageBy, Cond.selects RX12 yX12_pageBy yX12_pageBy, Cond.code yX12_pageBy cX12_pageBy 2 (some .int), Cond.methodLink RL 50 yX11_drawn, Cond.instanceMethod yX11_drawn, Cond.selects RX11 yX11_drawn yX11_drawn, Cond.code yX11_drawn cX11_drawn 9 (some .int), Cond.methodLink RL 53 yX12_drawn, Cond.instanceMethod yX12_drawn, Cond.selects RX12 yX12_drawn yX12_drawn, Cond.code yX12_drawn cX12_drawn 8 (some .int), Cond.methodLink RL 54 yX11_draws, Cond.instanceMethod yX11_draws, Cond.selects RX11 yX11_draws yX11_draws, Cond.code yX11_draws cX11_draws 3 (some .int), Cond.methodLink RL 57 yX12_draws, Cond.instanceMethod yX12_draws, Cond.selects RX12 yX12_draws yX12_draws, Cond.code yX12_draws cX12_draws 3 (some .int), Cond.methodLink RL 58 yX11_undo]
def wsU_16 : List Cond := [Cond.instanceMethod yX11_undo, Cond.selects RX11 yX11_undo yX11_undo, Cond.code yX11_undo cX11_undo 1 (some .int), Cond.fieldLink RX11 202 "RectFile$History" "held" "I", Cond.methodLink RL 61 yX12_undo, Cond.instanceMethod yX12_undo, Cond.selects RX12 yX12_undo yX12_undo, Cond.code yX12_undo cX12_undo 1 (some .int), Cond.methodLink RL 62 yX11_keep, Cond.instanceMethod yX11_keep, Cond.selects RX11 yX11_keep yX11_keep, Cond.code yX11_keep cX11_keep 3 (some .int), Cond.methodLink RX11 211 yX11_isShelf, Cond.static yX11_isShelf, Cond.code yX11_isShelf cX11_isShelf 1 (some .boolean), Cond.methodLink RL 65 yX12_keep, Cond.instanceMethod yX12_keep, Cond.selects RX12 yX12_keep yX12_keep, Cond.code yX12_keep cX12_keep 2 (some .int), Cond.fieldLink RX12 358 "RectFileModel" "keptSet" "I", Cond.methodLink RL 66 yX11_back, Cond.instanceMethod yX11_back, Cond.selects RX11 yX11_back yX11_back, Cond.code yX11_back cX11_back 3 (some .int)]
def wsU_17 : List Cond := [Cond.methodLink RL 69 yX12_back, Cond.instanceMethod yX12_back, Cond.selects RX12 yX12_back yX12_back, Cond.code yX12_back cX12_back 3 (some .int), Cond.methodLink RX12 364 yX12_isKept, Cond.instanceMethod yX12_isKept, Cond.selects RX12 yX12_isKept yX12_isKept, Cond.code yX12_isKept cX12_isKept 2 (some .boolean), Cond.methodLink RL 70 yX11_rect, Cond.instanceMethod yX11_rect, Cond.selects RX11 yX11_rect yX11_rect, Cond.code yX11_rect cX11_rect 3 (some .int), Cond.constant RX11 217 (-2147483648), Cond.methodLink RL 73 yX12_rect, Cond.instanceMethod yX12_rect, Cond.selects RX12 yX12_rect yX12_rect, Cond.code yX12_rect cX12_rect 3 (some .int), Cond.constant RX12 369 (-2147483648), Cond.methodLink RL 74 yX11_page, Cond.instanceMethod yX11_page, Cond.selects RX11 yX11_page yX11_page, Cond.code yX11_page cX11_page 3 (some .int), Cond.methodLink RL 77 yX12_page, Cond.instanceMethod yX12_page]
def wsU_18 : List Cond := [Cond.selects RX12 yX12_page yX12_page, Cond.code yX12_page cX12_page 4 (some .int), Cond.constantLong RX12 373 (7), Cond.methodLink RL 78 yX11_entry, Cond.instanceMethod yX11_entry, Cond.selects RX11 yX11_entry yX11_entry, Cond.code yX11_entry cX11_entry 4 (some .int), Cond.methodLink RL 81 yX12_entry, Cond.instanceMethod yX12_entry, Cond.selects RX12 yX12_entry yX12_entry, Cond.code yX12_entry cX12_entry 5 (some .int), Cond.methodLink RL 82 yX11_choose, Cond.instanceMethod yX11_choose, Cond.selects RX11 yX11_choose yX11_choose, Cond.code yX11_choose cX11_choose 5 (some .int), Cond.methodLink RL 86 yX12_choose, Cond.instanceMethod yX12_choose, Cond.selects RX12 yX12_choose yX12_choose, Cond.code yX12_choose cX12_choose 5 (some .int), Cond.methodLink RL 87 yX11_window, Cond.instanceMethod yX11_window, Cond.selects RX11 yX11_window yX11_window, Cond.code yX11_window cX11_window 6 (some .int), Cond.methodLink RL 90 yX12_window]
def wsU_19 : List Cond := [Cond.instanceMethod yX12_window, Cond.selects RX12 yX12_window yX12_window, Cond.code yX12_window cX12_window 8 (some .int), Cond.methodLink RL 91 yX11_nearest, Cond.instanceMethod yX11_nearest, Cond.selects RX11 yX11_nearest yX11_nearest, Cond.code yX11_nearest cX11_nearest 5 (some .int), Cond.methodLink RL 94 yX12_nearest, Cond.instanceMethod yX12_nearest, Cond.selects RX12 yX12_nearest yX12_nearest, Cond.code yX12_nearest cX12_nearest 12 (some .int), Cond.methodLink RL 95 yX11_pairs, Cond.instanceMethod yX11_pairs, Cond.selects RX11 yX11_pairs yX11_pairs, Cond.code yX11_pairs cX11_pairs 1 (some .int), Cond.methodLink RL 98 yX12_pairs, Cond.instanceMethod yX12_pairs, Cond.selects RX12 yX12_pairs yX12_pairs, Cond.code yX12_pairs cX12_pairs 5 (some .int), Cond.methodLink RL 99 yX11_union, Cond.instanceMethod yX11_union, Cond.selects RX11 yX11_union yX11_union, Cond.code yX11_union cX11_union 1 (some .long), Cond.constantLong RX11 270 (-1)]
def wsU_20 : List Cond := [Cond.methodLink RL 103 yX12_union, Cond.instanceMethod yX12_union, Cond.selects RX12 yX12_union yX12_union, Cond.code yX12_union cX12_union 6 (some .long), Cond.constantLong RX12 407 (-1), Cond.methodLink RL 104 yX11_grid, Cond.instanceMethod yX11_grid, Cond.selects RX11 yX11_grid yX11_grid, Cond.code yX11_grid cX11_grid 2 (some .long), Cond.methodLink RL 108 yX12_grid, Cond.instanceMethod yX12_grid, Cond.selects RX12 yX12_grid yX12_grid, Cond.code yX12_grid cX12_grid 6 (some .long), Cond.methodLink RL 109 yX11_fill, Cond.instanceMethod yX11_fill, Cond.selects RX11 yX11_fill yX11_fill, Cond.code yX11_fill cX11_fill 1 (some .int), Cond.methodLink RL 112 yX12_fill, Cond.instanceMethod yX12_fill, Cond.selects RX12 yX12_fill yX12_fill, Cond.code yX12_fill cX12_fill 3 (some .int), Cond.methodLink RL 113 yX11_cost, Cond.instanceMethod yX11_cost, Cond.selects RX11 yX11_cost yX11_cost]
def wsU_21 : List Cond := [Cond.code yX11_cost cX11_cost 3 (some .long), Cond.methodLink RL 117 yX12_cost, Cond.instanceMethod yX12_cost, Cond.selects RX12 yX12_cost yX12_cost, Cond.code yX12_cost cX12_cost 11 (some .long), Cond.methodLink RL 118 yX11_overlap, Cond.instanceMethod yX11_overlap, Cond.selects RX11 yX11_overlap yX11_overlap, Cond.code yX11_overlap cX11_overlap 2 (some .long), Cond.methodLink RL 121 yX12_overlap, Cond.instanceMethod yX12_overlap, Cond.selects RX12 yX12_overlap yX12_overlap, Cond.code yX12_overlap cX12_overlap 8 (some .long), Cond.methodLink RL 122 yX11_same, Cond.instanceMethod yX11_same, Cond.selects RX11 yX11_same yX11_same, Cond.code yX11_same cX11_same 3 (some .int), Cond.methodLink RL 125 yX12_same, Cond.instanceMethod yX12_same, Cond.selects RX12 yX12_same yX12_same, Cond.code yX12_same cX12_same 2 (some .int), Cond.methodLink RL 126 yX11_count, Cond.instanceMethod yX11_count, Cond.selects RX11 yX11_count yX11_count]
def wsU_22 : List Cond := [Cond.code yX11_count cX11_count 2 (some .int), Cond.methodLink RL 129 yX12_count, Cond.instanceMethod yX12_count, Cond.selects RX12 yX12_count yX12_count, Cond.code yX12_count cX12_count 2 (some .int)]
def wsU : List Cond := wsU_0 ++ (wsU_1 ++ (wsU_2 ++ (wsU_3 ++ (wsU_4 ++ (wsU_5 ++ (wsU_6 ++ (wsU_7 ++ (wsU_8 ++ (wsU_9 ++ (wsU_10 ++ (wsU_11 ++ (wsU_12 ++ (wsU_13 ++ (wsU_14 ++ (wsU_15 ++ (wsU_16 ++ (wsU_17 ++ (wsU_18 ++ (wsU_19 ++ (wsU_20 ++ (wsU_21 ++ (wsU_22 ++ (wsX00 ++ (wsX10 ++ (wsX20 ++ (wsX30 ++ (wsX40 ++ (wsX50 ++ (wsX60 ++ (wsX70 ++ (wsX80 ++ (wsX90 ++ (wsX100 ++ (wsX110 ++ (wsX120)))))))))))))))))))))))))))))))))))
theorem wsU_0_sub : ∀ w ∈ wsU_0, w ∈ wsU := fun w h => (List.mem_append_left _ h)
theorem qw_2 : (Cond.initialized RX11) ∈ wsU := wsU_0_sub _ (List.mem_of_getElem? (l := wsU_0) (i := 0) rfl)
theorem qw_5 : (Cond.initialized RX12) ∈ wsU := wsU_0_sub _ (List.mem_of_getElem? (l := wsU_0) (i := 1) rfl)
theorem qw_9 : (Cond.methodLink RX11 3 objectInit) ∈ wsU := wsU_0_sub _ (List.mem_of_getElem? (l := wsU_0) (i := 2) rfl)
theorem qw_10 : (Cond.instanceMethod objectInit) ∈ wsU := wsU_0_sub _ (List.mem_of_getElem? (l := wsU_0) (i := 3) rfl)
theorem qw_11 : (Cond.code objectInit ⟨#[0xb1]⟩ 1 none) ∈ wsU := wsU_0_sub _ (List.mem_of_getElem? (l := wsU_0) (i := 4) rfl)
theorem qw_12 : (Cond.classLink RX11 9 RX8) ∈ wsU := wsU_0_sub _ (List.mem_of_getElem? (l := wsU_0) (i := 5) rfl)
theorem qw_13 : (Cond.instantiable RX8 11) ∈ wsU := wsU_0_sub _ (List.mem_of_getElem? (l := wsU_0) (i := 6) rfl)
theorem qw_14 : (Cond.initialized RX8) ∈ wsU := wsU_0_sub _ (List.mem_of_getElem? (l := wsU_0) (i := 7) rfl)
theorem qw_15 : (Cond.fieldLink RX11 12 "RectFile" "tape" "LRectFile$Tape;") ∈ wsU := wsU_0_sub _ (List.mem_of_getElem? (l := wsU_0) (i := 8) rfl)
theorem qw_16 : (Cond.classLink RX11 18 RX3) ∈ wsU := wsU_0_sub _ (List.mem_of_getElem? (l := wsU_0) (i := 9) rfl)
theorem qw_17 : (Cond.instantiable RX3 4) ∈ wsU := wsU_0_sub _ (List.mem_of_getElem? (l := wsU_0) (i := 10) rfl)
theorem qw_18 : (Cond.initialized RX3) ∈ wsU := wsU_0_sub _ (List.mem_of_getElem? (l := wsU_0) (i := 11) rfl)
theorem qw_19 : (Cond.fieldLink RX11 21 "RectFile" "history" "LRectFile$History;") ∈ wsU := wsU_0_sub _ (List.mem_of_getElem? (l := wsU_0) (i := 12) rfl)
theorem qw_20 : (Cond.classLink RX11 25 RX10) ∈ wsU := wsU_0_sub _ (List.mem_of_getElem? (l := wsU_0) (i := 13) rfl)
theorem qw_21 : (Cond.fieldLink RX11 27 "RectFile" "shelves" "[LRectFile$Tree;") ∈ wsU := wsU_0_sub _ (List.mem_of_getElem? (l := wsU_0) (i := 14) rfl)
theorem qw_22 : (Cond.classLink RX11 31 RX2) ∈ wsU := wsU_0_sub _ (List.mem_of_getElem? (l := wsU_0) (i := 15) rfl)
theorem qw_23 : (Cond.instantiable RX2 8) ∈ wsU := wsU_0_sub _ (List.mem_of_getElem? (l := wsU_0) (i := 16) rfl)
theorem qw_24 : (Cond.initialized RX2) ∈ wsU := wsU_0_sub _ (List.mem_of_getElem? (l := wsU_0) (i := 17) rfl)
theorem qw_25 : (Cond.fieldLink RX11 34 "RectFile" "growe\x72" "LRectFile$Grower;") ∈ wsU := wsU_0_sub _ (List.mem_of_getElem? (l := wsU_0) (i := 18) rfl)
theorem qw_26 : (Cond.classLink RX11 38 RX5) ∈ wsU := wsU_0_sub _ (List.mem_of_getElem? (l := wsU_0) (i := 19) rfl)
theorem qw_27 : (Cond.instantiable RX5 2) ∈ wsU := wsU_0_sub _ (List.mem_of_getElem? (l := wsU_0) (i := 20) rfl)
theorem qw_28 : (Cond.initialized RX5) ∈ wsU := wsU_0_sub _ (List.mem_of_getElem? (l := wsU_0) (i := 21) rfl)
theorem qw_29 : (Cond.fieldLink RX11 41 "RectFile" "numbere\x72" "LRectFile$Numberer;") ∈ wsU := wsU_0_sub _ (List.mem_of_getElem? (l := wsU_0) (i := 22) rfl)
theorem qw_30 : (Cond.classLink RX11 45 RX9) ∈ wsU := wsU_0_sub _ (List.mem_of_getElem? (l := wsU_0) (i := 23) rfl)
theorem wsU_1_sub : ∀ w ∈ wsU_1, w ∈ wsU := fun w h => (List.mem_append_right _ (List.mem_append_left _ h))
theorem qw_31 : (Cond.instantiable RX9 1) ∈ wsU := wsU_1_sub _ (List.mem_of_getElem? (l := wsU_1) (i := 0) rfl)
theorem qw_32 : (Cond.initialized RX9) ∈ wsU := wsU_1_sub _ (List.mem_of_getElem? (l := wsU_1) (i := 1) rfl)
theorem qw_33 : (Cond.fieldLink RX11 48 "RectFile" "tile\x72" "LRectFile$Tiler;") ∈ wsU := wsU_1_sub _ (List.mem_of_getElem? (l := wsU_1) (i := 2) rfl)
theorem qw_34 : (Cond.classLink RX11 52 RX6) ∈ wsU := wsU_1_sub _ (List.mem_of_getElem? (l := wsU_1) (i := 3) rfl)
theorem qw_35 : (Cond.instantiable RX6 10) ∈ wsU := wsU_1_sub _ (List.mem_of_getElem? (l := wsU_1) (i := 4) rfl)
theorem qw_36 : (Cond.initialized RX6) ∈ wsU := wsU_1_sub _ (List.mem_of_getElem? (l := wsU_1) (i := 5) rfl)
theorem qw_37 : (Cond.fieldLink RX11 55 "RectFile" "seeke\x72" "LRectFile$Seeker;") ∈ wsU := wsU_1_sub _ (List.mem_of_getElem? (l := wsU_1) (i := 6) rfl)
theorem qw_38 : (Cond.classLink RX11 59 RX4) ∈ wsU := wsU_1_sub _ (List.mem_of_getElem? (l := wsU_1) (i := 7) rfl)
theorem qw_39 : (Cond.instantiable RX4 4) ∈ wsU := wsU_1_sub _ (List.mem_of_getElem? (l := wsU_1) (i := 8) rfl)
theorem qw_40 : (Cond.initialized RX4) ∈ wsU := wsU_1_sub _ (List.mem_of_getElem? (l := wsU_1) (i := 9) rfl)
theorem qw_41 : (Cond.fieldLink RX11 62 "RectFile" "measure\x72" "LRectFile$Measurer;") ∈ wsU := wsU_1_sub _ (List.mem_of_getElem? (l := wsU_1) (i := 10) rfl)
theorem qw_42 : (Cond.instantiable RX10 13) ∈ wsU := wsU_1_sub _ (List.mem_of_getElem? (l := wsU_1) (i := 11) rfl)
theorem qw_43 : (Cond.initialized RX10) ∈ wsU := wsU_1_sub _ (List.mem_of_getElem? (l := wsU_1) (i := 12) rfl)
theorem qw_44 : (Cond.fieldLink RX11 67 "RectFile" "now" "LRectFile$Tree;") ∈ wsU := wsU_1_sub _ (List.mem_of_getElem? (l := wsU_1) (i := 13) rfl)
theorem qw_45 : (Cond.fieldLink RX11 71 "RectFile" "spare" "LRectFile$Tree;") ∈ wsU := wsU_1_sub _ (List.mem_of_getElem? (l := wsU_1) (i := 14) rfl)
theorem qw_46 : (Cond.fieldLink RX11 74 "RectFile" "told" "Z") ∈ wsU := wsU_1_sub _ (List.mem_of_getElem? (l := wsU_1) (i := 15) rfl)
theorem qw_47 : (Cond.fieldLink RX11 78 "RectFile" "seed" "I") ∈ wsU := wsU_1_sub _ (List.mem_of_getElem? (l := wsU_1) (i := 16) rfl)
theorem qw_48 : (Cond.methodLink RX11 11 yX8_init) ∈ wsU := wsU_1_sub _ (List.mem_of_getElem? (l := wsU_1) (i := 17) rfl)
theorem qw_49 : (Cond.instanceMethod yX8_init) ∈ wsU := wsU_1_sub _ (List.mem_of_getElem? (l := wsU_1) (i := 18) rfl)
theorem qw_50 : (Cond.code yX8_init cX8_init 1 none) ∈ wsU := wsU_1_sub _ (List.mem_of_getElem? (l := wsU_1) (i := 19) rfl)
theorem qw_51 : (Cond.methodLink RX8 3 objectInit) ∈ wsU := wsU_1_sub _ (List.mem_of_getElem? (l := wsU_1) (i := 20) rfl)
theorem qw_52 : (Cond.arrayClass .int) ∈ wsU := wsU_1_sub _ (List.mem_of_getElem? (l := wsU_1) (i := 21) rfl)
theorem qw_53 : (Cond.fieldLink RX8 11 "RectFile$Tape" "ids" "[I") ∈ wsU := wsU_1_sub _ (List.mem_of_getElem? (l := wsU_1) (i := 22) rfl)
theorem qw_54 : (Cond.fieldLink RX8 15 "RectFile$Tape" "sides" "[I") ∈ wsU := wsU_1_sub _ (List.mem_of_getElem? (l := wsU_1) (i := 23) rfl)
theorem wsU_2_sub : ∀ w ∈ wsU_2, w ∈ wsU := fun w h => (List.mem_append_right _ (List.mem_append_right _ (List.mem_append_left _ h)))
theorem qw_55 : (Cond.arrayClass .byte) ∈ wsU := wsU_2_sub _ (List.mem_of_getElem? (l := wsU_2) (i := 0) rfl)
theorem qw_56 : (Cond.fieldLink RX8 18 "RectFile$Tape" "bytes" "[B") ∈ wsU := wsU_2_sub _ (List.mem_of_getElem? (l := wsU_2) (i := 1) rfl)
theorem qw_57 : (Cond.fieldLink RX8 22 "RectFile$Tape" "length" "I") ∈ wsU := wsU_2_sub _ (List.mem_of_getElem? (l := wsU_2) (i := 2) rfl)
theorem qw_58 : (Cond.methodLink RX11 20 yX3_init) ∈ wsU := wsU_2_sub _ (List.mem_of_getElem? (l := wsU_2) (i := 3) rfl)
theorem qw_59 : (Cond.instanceMethod yX3_init) ∈ wsU := wsU_2_sub _ (List.mem_of_getElem? (l := wsU_2) (i := 4) rfl)
theorem qw_60 : (Cond.code yX3_init cX3_init 1 none) ∈ wsU := wsU_2_sub _ (List.mem_of_getElem? (l := wsU_2) (i := 5) rfl)
theorem qw_61 : (Cond.methodLink RX3 1 objectInit) ∈ wsU := wsU_2_sub _ (List.mem_of_getElem? (l := wsU_2) (i := 6) rfl)
theorem qw_62 : (Cond.classLink RX3 9 RX10) ∈ wsU := wsU_2_sub _ (List.mem_of_getElem? (l := wsU_2) (i := 7) rfl)
theorem qw_63 : (Cond.fieldLink RX3 11 "RectFile$History" "trees" "[LRectFile$Tree;") ∈ wsU := wsU_2_sub _ (List.mem_of_getElem? (l := wsU_2) (i := 8) rfl)
theorem qw_64 : (Cond.fieldLink RX3 15 "RectFile$History" "seeds" "[I") ∈ wsU := wsU_2_sub _ (List.mem_of_getElem? (l := wsU_2) (i := 9) rfl)
theorem qw_65 : (Cond.fieldLink RX3 19 "RectFile$History" "held" "I") ∈ wsU := wsU_2_sub _ (List.mem_of_getElem? (l := wsU_2) (i := 10) rfl)
theorem qw_66 : (Cond.fieldLink RX3 23 "RectFile$History" "newest" "I") ∈ wsU := wsU_2_sub _ (List.mem_of_getElem? (l := wsU_2) (i := 11) rfl)
theorem qw_67 : (Cond.methodLink RX11 33 yX2_init) ∈ wsU := wsU_2_sub _ (List.mem_of_getElem? (l := wsU_2) (i := 12) rfl)
theorem qw_68 : (Cond.instanceMethod yX2_init) ∈ wsU := wsU_2_sub _ (List.mem_of_getElem? (l := wsU_2) (i := 13) rfl)
theorem qw_69 : (Cond.code yX2_init cX2_init 1 none) ∈ wsU := wsU_2_sub _ (List.mem_of_getElem? (l := wsU_2) (i := 14) rfl)
theorem qw_70 : (Cond.methodLink RX2 3 objectInit) ∈ wsU := wsU_2_sub _ (List.mem_of_getElem? (l := wsU_2) (i := 15) rfl)
theorem qw_71 : (Cond.classLink RX2 9 RX1) ∈ wsU := wsU_2_sub _ (List.mem_of_getElem? (l := wsU_2) (i := 16) rfl)
theorem qw_72 : (Cond.instantiable RX1 10) ∈ wsU := wsU_2_sub _ (List.mem_of_getElem? (l := wsU_2) (i := 17) rfl)
theorem qw_73 : (Cond.initialized RX1) ∈ wsU := wsU_2_sub _ (List.mem_of_getElem? (l := wsU_2) (i := 18) rfl)
theorem qw_74 : (Cond.fieldLink RX2 12 "RectFile$Growe\x72" "choose\x72" "LRectFile$Chooser;") ∈ wsU := wsU_2_sub _ (List.mem_of_getElem? (l := wsU_2) (i := 19) rfl)
theorem qw_75 : (Cond.classLink RX2 18 RX7) ∈ wsU := wsU_2_sub _ (List.mem_of_getElem? (l := wsU_2) (i := 20) rfl)
theorem qw_76 : (Cond.instantiable RX7 5) ∈ wsU := wsU_2_sub _ (List.mem_of_getElem? (l := wsU_2) (i := 21) rfl)
theorem qw_77 : (Cond.initialized RX7) ∈ wsU := wsU_2_sub _ (List.mem_of_getElem? (l := wsU_2) (i := 22) rfl)
theorem qw_78 : (Cond.fieldLink RX2 21 "RectFile$Growe\x72" "splitte\x72" "LRectFile$Splitter;") ∈ wsU := wsU_2_sub _ (List.mem_of_getElem? (l := wsU_2) (i := 23) rfl)
theorem wsU_3_sub : ∀ w ∈ wsU_3, w ∈ wsU := fun w h => (List.mem_append_right _ (List.mem_append_right _ (List.mem_append_right _ (List.mem_append_left _ h))))
theorem qw_79 : (Cond.fieldLink RX2 27 "RectFile$Growe\x72" "apart" "[I") ∈ wsU := wsU_3_sub _ (List.mem_of_getElem? (l := wsU_3) (i := 0) rfl)
theorem qw_80 : (Cond.fieldLink RX2 31 "RectFile$Growe\x72" "waiting" "[I") ∈ wsU := wsU_3_sub _ (List.mem_of_getElem? (l := wsU_3) (i := 1) rfl)
theorem qw_81 : (Cond.fieldLink RX2 34 "RectFile$Growe\x72" "waitingLevel" "[I") ∈ wsU := wsU_3_sub _ (List.mem_of_getElem? (l := wsU_3) (i := 2) rfl)
theorem qw_82 : (Cond.fieldLink RX2 37 "RectFile$Growe\x72" "reinsertedIn" "[I") ∈ wsU := wsU_3_sub _ (List.mem_of_getElem? (l := wsU_3) (i := 3) rfl)
theorem qw_83 : (Cond.fieldLink RX2 40 "RectFile$Growe\x72" "waits" "I") ∈ wsU := wsU_3_sub _ (List.mem_of_getElem? (l := wsU_3) (i := 4) rfl)
theorem qw_84 : (Cond.fieldLink RX2 44 "RectFile$Growe\x72" "act" "I") ∈ wsU := wsU_3_sub _ (List.mem_of_getElem? (l := wsU_3) (i := 5) rfl)
theorem qw_85 : (Cond.methodLink RX2 11 yX1_init) ∈ wsU := wsU_3_sub _ (List.mem_of_getElem? (l := wsU_3) (i := 6) rfl)
theorem qw_86 : (Cond.instanceMethod yX1_init) ∈ wsU := wsU_3_sub _ (List.mem_of_getElem? (l := wsU_3) (i := 7) rfl)
theorem qw_87 : (Cond.code yX1_init cX1_init 1 none) ∈ wsU := wsU_3_sub _ (List.mem_of_getElem? (l := wsU_3) (i := 8) rfl)
theorem qw_88 : (Cond.methodLink RX1 3 objectInit) ∈ wsU := wsU_3_sub _ (List.mem_of_getElem? (l := wsU_3) (i := 9) rfl)
theorem qw_89 : (Cond.classLink RX1 9 RX0) ∈ wsU := wsU_3_sub _ (List.mem_of_getElem? (l := wsU_3) (i := 10) rfl)
theorem qw_90 : (Cond.instantiable RX0 4) ∈ wsU := wsU_3_sub _ (List.mem_of_getElem? (l := wsU_3) (i := 11) rfl)
theorem qw_91 : (Cond.initialized RX0) ∈ wsU := wsU_3_sub _ (List.mem_of_getElem? (l := wsU_3) (i := 12) rfl)
theorem qw_92 : (Cond.fieldLink RX1 12 "RectFile$Choose\x72" "coming" "LRectFile$Box;") ∈ wsU := wsU_3_sub _ (List.mem_of_getElem? (l := wsU_3) (i := 13) rfl)
theorem qw_93 : (Cond.fieldLink RX1 18 "RectFile$Choose\x72" "own" "LRectFile$Box;") ∈ wsU := wsU_3_sub _ (List.mem_of_getElem? (l := wsU_3) (i := 14) rfl)
theorem qw_94 : (Cond.fieldLink RX1 21 "RectFile$Choose\x72" "grown" "LRectFile$Box;") ∈ wsU := wsU_3_sub _ (List.mem_of_getElem? (l := wsU_3) (i := 15) rfl)
theorem qw_95 : (Cond.fieldLink RX1 24 "RectFile$Choose\x72" "othe\x72" "LRectFile$Box;") ∈ wsU := wsU_3_sub _ (List.mem_of_getElem? (l := wsU_3) (i := 16) rfl)
theorem qw_96 : (Cond.instanceMethod yX0_init) ∈ wsU := wsU_3_sub _ (List.mem_of_getElem? (l := wsU_3) (i := 17) rfl)
theorem qw_97 : (Cond.code yX0_init cX0_init 1 none) ∈ wsU := wsU_3_sub _ (List.mem_of_getElem? (l := wsU_3) (i := 18) rfl)
theorem qw_98 : (Cond.methodLink RX0 1 objectInit) ∈ wsU := wsU_3_sub _ (List.mem_of_getElem? (l := wsU_3) (i := 19) rfl)
theorem qw_99 : (Cond.methodLink RX2 20 yX7_init) ∈ wsU := wsU_3_sub _ (List.mem_of_getElem? (l := wsU_3) (i := 20) rfl)
theorem qw_100 : (Cond.instanceMethod yX7_init) ∈ wsU := wsU_3_sub _ (List.mem_of_getElem? (l := wsU_3) (i := 21) rfl)
theorem qw_101 : (Cond.code yX7_init cX7_init 1 none) ∈ wsU := wsU_3_sub _ (List.mem_of_getElem? (l := wsU_3) (i := 22) rfl)
theorem qw_102 : (Cond.methodLink RX7 1 objectInit) ∈ wsU := wsU_3_sub _ (List.mem_of_getElem? (l := wsU_3) (i := 23) rfl)
theorem wsU_4_sub : ∀ w ∈ wsU_4, w ∈ wsU := fun w h => (List.mem_append_right _ (List.mem_append_right _ (List.mem_append_right _ (List.mem_append_right _ (List.mem_append_left _ h)))))
theorem qw_103 : (Cond.classLink RX7 11 "[[I") ∈ wsU := wsU_4_sub _ (List.mem_of_getElem? (l := wsU_4) (i := 0) rfl)
theorem qw_104 : (Cond.fieldLink RX7 13 "RectFile$Splitte\x72" "orders" "[[I") ∈ wsU := wsU_4_sub _ (List.mem_of_getElem? (l := wsU_4) (i := 1) rfl)
theorem qw_105 : (Cond.classLink RX7 16 RX0) ∈ wsU := wsU_4_sub _ (List.mem_of_getElem? (l := wsU_4) (i := 2) rfl)
theorem qw_106 : (Cond.fieldLink RX7 19 "RectFile$Splitte\x72" "head" "LRectFile$Box;") ∈ wsU := wsU_4_sub _ (List.mem_of_getElem? (l := wsU_4) (i := 3) rfl)
theorem qw_107 : (Cond.fieldLink RX7 23 "RectFile$Splitte\x72" "tail" "LRectFile$Box;") ∈ wsU := wsU_4_sub _ (List.mem_of_getElem? (l := wsU_4) (i := 4) rfl)
theorem qw_108 : (Cond.methodLink RX11 40 yX5_init) ∈ wsU := wsU_4_sub _ (List.mem_of_getElem? (l := wsU_4) (i := 5) rfl)
theorem qw_109 : (Cond.instanceMethod yX5_init) ∈ wsU := wsU_4_sub _ (List.mem_of_getElem? (l := wsU_4) (i := 6) rfl)
theorem qw_110 : (Cond.code yX5_init cX5_init 1 none) ∈ wsU := wsU_4_sub _ (List.mem_of_getElem? (l := wsU_4) (i := 7) rfl)
theorem qw_111 : (Cond.methodLink RX5 3 objectInit) ∈ wsU := wsU_4_sub _ (List.mem_of_getElem? (l := wsU_4) (i := 8) rfl)
theorem qw_112 : (Cond.fieldLink RX5 11 "RectFile$Numbere\x72" "stack" "[I") ∈ wsU := wsU_4_sub _ (List.mem_of_getElem? (l := wsU_4) (i := 9) rfl)
theorem qw_113 : (Cond.fieldLink RX5 17 "RectFile$Numbere\x72" "numberOf" "[I") ∈ wsU := wsU_4_sub _ (List.mem_of_getElem? (l := wsU_4) (i := 10) rfl)
theorem qw_114 : (Cond.methodLink RX11 47 yX9_init) ∈ wsU := wsU_4_sub _ (List.mem_of_getElem? (l := wsU_4) (i := 11) rfl)
theorem qw_115 : (Cond.instanceMethod yX9_init) ∈ wsU := wsU_4_sub _ (List.mem_of_getElem? (l := wsU_4) (i := 12) rfl)
theorem qw_116 : (Cond.code yX9_init cX9_init 1 none) ∈ wsU := wsU_4_sub _ (List.mem_of_getElem? (l := wsU_4) (i := 13) rfl)
theorem qw_117 : (Cond.methodLink RX9 3 objectInit) ∈ wsU := wsU_4_sub _ (List.mem_of_getElem? (l := wsU_4) (i := 14) rfl)
theorem qw_118 : (Cond.fieldLink RX9 9 "RectFile$Tile\x72" "row" "[I") ∈ wsU := wsU_4_sub _ (List.mem_of_getElem? (l := wsU_4) (i := 15) rfl)
theorem qw_119 : (Cond.methodLink RX11 54 yX6_init) ∈ wsU := wsU_4_sub _ (List.mem_of_getElem? (l := wsU_4) (i := 16) rfl)
theorem qw_120 : (Cond.instanceMethod yX6_init) ∈ wsU := wsU_4_sub _ (List.mem_of_getElem? (l := wsU_4) (i := 17) rfl)
theorem qw_121 : (Cond.code yX6_init cX6_init 1 none) ∈ wsU := wsU_4_sub _ (List.mem_of_getElem? (l := wsU_4) (i := 18) rfl)
theorem qw_122 : (Cond.methodLink RX6 3 objectInit) ∈ wsU := wsU_4_sub _ (List.mem_of_getElem? (l := wsU_4) (i := 19) rfl)
theorem qw_123 : (Cond.classLink RX6 9 RX0) ∈ wsU := wsU_4_sub _ (List.mem_of_getElem? (l := wsU_4) (i := 20) rfl)
theorem qw_124 : (Cond.fieldLink RX6 12 "RectFile$Seeke\x72" "pane" "LRectFile$Box;") ∈ wsU := wsU_4_sub _ (List.mem_of_getElem? (l := wsU_4) (i := 21) rfl)
theorem qw_125 : (Cond.fieldLink RX6 18 "RectFile$Seeke\x72" "box" "LRectFile$Box;") ∈ wsU := wsU_4_sub _ (List.mem_of_getElem? (l := wsU_4) (i := 22) rfl)
theorem qw_126 : (Cond.arrayClass .boolean) ∈ wsU := wsU_4_sub _ (List.mem_of_getElem? (l := wsU_4) (i := 23) rfl)
theorem wsU_5_sub : ∀ w ∈ wsU_5, w ∈ wsU := fun w h => (List.mem_append_right _ (List.mem_append_right _ (List.mem_append_right _ (List.mem_append_right _ (List.mem_append_right _ (List.mem_append_left _ h))))))
theorem qw_127 : (Cond.fieldLink RX6 23 "RectFile$Seeke\x72" "looked" "[Z") ∈ wsU := wsU_5_sub _ (List.mem_of_getElem? (l := wsU_5) (i := 0) rfl)
theorem qw_128 : (Cond.fieldLink RX6 27 "RectFile$Seeke\x72" "waiting" "[I") ∈ wsU := wsU_5_sub _ (List.mem_of_getElem? (l := wsU_5) (i := 1) rfl)
theorem qw_129 : (Cond.arrayClass .long) ∈ wsU := wsU_5_sub _ (List.mem_of_getElem? (l := wsU_5) (i := 2) rfl)
theorem qw_130 : (Cond.fieldLink RX6 31 "RectFile$Seeke\x72" "keys" "[J") ∈ wsU := wsU_5_sub _ (List.mem_of_getElem? (l := wsU_5) (i := 3) rfl)
theorem qw_131 : (Cond.methodLink RX11 61 yX4_init) ∈ wsU := wsU_5_sub _ (List.mem_of_getElem? (l := wsU_5) (i := 4) rfl)
theorem qw_132 : (Cond.instanceMethod yX4_init) ∈ wsU := wsU_5_sub _ (List.mem_of_getElem? (l := wsU_5) (i := 5) rfl)
theorem qw_133 : (Cond.code yX4_init cX4_init 1 none) ∈ wsU := wsU_5_sub _ (List.mem_of_getElem? (l := wsU_5) (i := 6) rfl)
theorem qw_134 : (Cond.methodLink RX4 3 objectInit) ∈ wsU := wsU_5_sub _ (List.mem_of_getElem? (l := wsU_5) (i := 7) rfl)
theorem qw_135 : (Cond.fieldLink RX4 9 "RectFile$Measure\x72" "row" "[I") ∈ wsU := wsU_5_sub _ (List.mem_of_getElem? (l := wsU_5) (i := 8) rfl)
theorem qw_136 : (Cond.fieldLink RX4 15 "RectFile$Measure\x72" "edges" "[I") ∈ wsU := wsU_5_sub _ (List.mem_of_getElem? (l := wsU_5) (i := 9) rfl)
theorem qw_137 : (Cond.classLink RX4 18 RX0) ∈ wsU := wsU_5_sub _ (List.mem_of_getElem? (l := wsU_5) (i := 10) rfl)
theorem qw_138 : (Cond.fieldLink RX4 21 "RectFile$Measure\x72" "one" "LRectFile$Box;") ∈ wsU := wsU_5_sub _ (List.mem_of_getElem? (l := wsU_5) (i := 11) rfl)
theorem qw_139 : (Cond.fieldLink RX4 25 "RectFile$Measure\x72" "othe\x72" "LRectFile$Box;") ∈ wsU := wsU_5_sub _ (List.mem_of_getElem? (l := wsU_5) (i := 12) rfl)
theorem qw_140 : (Cond.methodLink RX11 66 yX10_init) ∈ wsU := wsU_5_sub _ (List.mem_of_getElem? (l := wsU_5) (i := 13) rfl)
theorem qw_141 : (Cond.instanceMethod yX10_init) ∈ wsU := wsU_5_sub _ (List.mem_of_getElem? (l := wsU_5) (i := 14) rfl)
theorem qw_142 : (Cond.code yX10_init cX10_init 1 none) ∈ wsU := wsU_5_sub _ (List.mem_of_getElem? (l := wsU_5) (i := 15) rfl)
theorem qw_143 : (Cond.methodLink RX10 3 objectInit) ∈ wsU := wsU_5_sub _ (List.mem_of_getElem? (l := wsU_5) (i := 16) rfl)
theorem qw_144 : (Cond.fieldLink RX10 11 "RectFile$Tree" "side" "[I") ∈ wsU := wsU_5_sub _ (List.mem_of_getElem? (l := wsU_5) (i := 17) rfl)
theorem qw_145 : (Cond.fieldLink RX10 15 "RectFile$Tree" "home" "[I") ∈ wsU := wsU_5_sub _ (List.mem_of_getElem? (l := wsU_5) (i := 18) rfl)
theorem qw_146 : (Cond.fieldLink RX10 18 "RectFile$Tree" "level" "[I") ∈ wsU := wsU_5_sub _ (List.mem_of_getElem? (l := wsU_5) (i := 19) rfl)
theorem qw_147 : (Cond.fieldLink RX10 21 "RectFile$Tree" "size" "[I") ∈ wsU := wsU_5_sub _ (List.mem_of_getElem? (l := wsU_5) (i := 20) rfl)
theorem qw_148 : (Cond.fieldLink RX10 24 "RectFile$Tree" "slot" "[I") ∈ wsU := wsU_5_sub _ (List.mem_of_getElem? (l := wsU_5) (i := 21) rfl)
theorem qw_149 : (Cond.methodLink RX10 27 yJ7_fill_53178) ∈ wsU := wsU_5_sub _ (List.mem_of_getElem? (l := wsU_5) (i := 22) rfl)
theorem qw_150 : (Cond.static yJ7_fill_53178) ∈ wsU := wsU_5_sub _ (List.mem_of_getElem? (l := wsU_5) (i := 23) rfl)
theorem wsU_6_sub : ∀ w ∈ wsU_6, w ∈ wsU := fun w h => (List.mem_append_right _ (List.mem_append_right _ (List.mem_append_right _ (List.mem_append_right _ (List.mem_append_right _ (List.mem_append_right _ (List.mem_append_left _ h)))))))
theorem qw_151 : (Cond.initialized RJ7) ∈ wsU := wsU_6_sub _ (List.mem_of_getElem? (l := wsU_6) (i := 0) rfl)
theorem qw_152 : (Cond.code yJ7_fill_53178 cJ7_fill_53178 4 none) ∈ wsU := wsU_6_sub _ (List.mem_of_getElem? (l := wsU_6) (i := 1) rfl)
theorem qw_156 : (Cond.methodLink RX12 5 objectInit) ∈ wsU := wsU_6_sub _ (List.mem_of_getElem? (l := wsU_6) (i := 2) rfl)
theorem qw_157 : (Cond.fieldLink RX12 11 "RectFileModel" "tape" "[B") ∈ wsU := wsU_6_sub _ (List.mem_of_getElem? (l := wsU_6) (i := 3) rfl)
theorem qw_158 : (Cond.fieldLink RX12 15 "RectFileModel" "newRect" "[I") ∈ wsU := wsU_6_sub _ (List.mem_of_getElem? (l := wsU_6) (i := 4) rfl)
theorem qw_159 : (Cond.fieldLink RX12 19 "RectFileModel" "now" "[I") ∈ wsU := wsU_6_sub _ (List.mem_of_getElem? (l := wsU_6) (i := 5) rfl)
theorem qw_160 : (Cond.constant RX12 22 (100056)) ∈ wsU := wsU_6_sub _ (List.mem_of_getElem? (l := wsU_6) (i := 6) rfl)
theorem qw_161 : (Cond.fieldLink RX12 23 "RectFileModel" "past" "[I") ∈ wsU := wsU_6_sub _ (List.mem_of_getElem? (l := wsU_6) (i := 7) rfl)
theorem qw_162 : (Cond.fieldLink RX12 26 "RectFileModel" "kept" "[I") ∈ wsU := wsU_6_sub _ (List.mem_of_getElem? (l := wsU_6) (i := 8) rfl)
theorem qw_163 : (Cond.fieldLink RX12 29 "RectFileModel" "box" "[I") ∈ wsU := wsU_6_sub _ (List.mem_of_getElem? (l := wsU_6) (i := 9) rfl)
theorem qw_164 : (Cond.fieldLink RX12 32 "RectFileModel" "othe\x72" "[I") ∈ wsU := wsU_6_sub _ (List.mem_of_getElem? (l := wsU_6) (i := 10) rfl)
theorem qw_165 : (Cond.fieldLink RX12 35 "RectFileModel" "grown" "[I") ∈ wsU := wsU_6_sub _ (List.mem_of_getElem? (l := wsU_6) (i := 11) rfl)
theorem qw_166 : (Cond.fieldLink RX12 38 "RectFileModel" "come\x72" "[I") ∈ wsU := wsU_6_sub _ (List.mem_of_getElem? (l := wsU_6) (i := 12) rfl)
theorem qw_167 : (Cond.fieldLink RX12 41 "RectFileModel" "isAgain" "[Z") ∈ wsU := wsU_6_sub _ (List.mem_of_getElem? (l := wsU_6) (i := 13) rfl)
theorem qw_168 : (Cond.fieldLink RX12 45 "RectFileModel" "out" "[I") ∈ wsU := wsU_6_sub _ (List.mem_of_getElem? (l := wsU_6) (i := 14) rfl)
theorem qw_169 : (Cond.fieldLink RX12 48 "RectFileModel" "isOut" "[Z") ∈ wsU := wsU_6_sub _ (List.mem_of_getElem? (l := wsU_6) (i := 15) rfl)
theorem qw_170 : (Cond.fieldLink RX12 51 "RectFileModel" "orde\x72" "[I") ∈ wsU := wsU_6_sub _ (List.mem_of_getElem? (l := wsU_6) (i := 16) rfl)
theorem qw_171 : (Cond.fieldLink RX12 54 "RectFileModel" "gone" "[I") ∈ wsU := wsU_6_sub _ (List.mem_of_getElem? (l := wsU_6) (i := 17) rfl)
theorem qw_172 : (Cond.fieldLink RX12 57 "RectFileModel" "numbe\x72" "[I") ∈ wsU := wsU_6_sub _ (List.mem_of_getElem? (l := wsU_6) (i := 18) rfl)
theorem qw_173 : (Cond.fieldLink RX12 60 "RectFileModel" "pageOf" "[I") ∈ wsU := wsU_6_sub _ (List.mem_of_getElem? (l := wsU_6) (i := 19) rfl)
theorem qw_174 : (Cond.fieldLink RX12 63 "RectFileModel" "deal" "[I") ∈ wsU := wsU_6_sub _ (List.mem_of_getElem? (l := wsU_6) (i := 20) rfl)
theorem qw_175 : (Cond.fieldLink RX12 66 "RectFileModel" "dealt" "[I") ∈ wsU := wsU_6_sub _ (List.mem_of_getElem? (l := wsU_6) (i := 21) rfl)
theorem qw_176 : (Cond.fieldLink RX12 69 "RectFileModel" "waiting" "[I") ∈ wsU := wsU_6_sub _ (List.mem_of_getElem? (l := wsU_6) (i := 22) rfl)
theorem qw_177 : (Cond.fieldLink RX12 72 "RectFileModel" "waitingLevel" "[I") ∈ wsU := wsU_6_sub _ (List.mem_of_getElem? (l := wsU_6) (i := 23) rfl)
theorem wsU_7_sub : ∀ w ∈ wsU_7, w ∈ wsU := fun w h => (List.mem_append_right _ (List.mem_append_right _ (List.mem_append_right _ (List.mem_append_right _ (List.mem_append_right _ (List.mem_append_right _ (List.mem_append_right _ (List.mem_append_left _ h))))))))
theorem qw_178 : (Cond.fieldLink RX12 75 "RectFileModel" "waitingFa\x72" "[J") ∈ wsU := wsU_7_sub _ (List.mem_of_getElem? (l := wsU_7) (i := 0) rfl)
theorem qw_179 : (Cond.fieldLink RX12 79 "RectFileModel" "isDone" "[Z") ∈ wsU := wsU_7_sub _ (List.mem_of_getElem? (l := wsU_7) (i := 1) rfl)
theorem qw_180 : (Cond.fieldLink RX12 82 "RectFileModel" "cutX" "[I") ∈ wsU := wsU_7_sub _ (List.mem_of_getElem? (l := wsU_7) (i := 2) rfl)
theorem qw_181 : (Cond.fieldLink RX12 85 "RectFileModel" "cutY" "[I") ∈ wsU := wsU_7_sub _ (List.mem_of_getElem? (l := wsU_7) (i := 3) rfl)
theorem qw_182 : (Cond.methodLink RL 13 yX11_feed) ∈ wsU := wsU_7_sub _ (List.mem_of_getElem? (l := wsU_7) (i := 4) rfl)
theorem qw_183 : (Cond.instanceMethod yX11_feed) ∈ wsU := wsU_7_sub _ (List.mem_of_getElem? (l := wsU_7) (i := 5) rfl)
theorem qw_184 : (Cond.selects RX11 yX11_feed yX11_feed) ∈ wsU := wsU_7_sub _ (List.mem_of_getElem? (l := wsU_7) (i := 6) rfl)
theorem qw_185 : (Cond.code yX11_feed cX11_feed 6 (some .int)) ∈ wsU := wsU_7_sub _ (List.mem_of_getElem? (l := wsU_7) (i := 7) rfl)
theorem qw_186 : (Cond.fieldLink RX11 90 "RectFile$Tape" "length" "I") ∈ wsU := wsU_7_sub _ (List.mem_of_getElem? (l := wsU_7) (i := 8) rfl)
theorem qw_187 : (Cond.methodLink RX11 82 yX8_hasRoom) ∈ wsU := wsU_7_sub _ (List.mem_of_getElem? (l := wsU_7) (i := 9) rfl)
theorem qw_188 : (Cond.instanceMethod yX8_hasRoom) ∈ wsU := wsU_7_sub _ (List.mem_of_getElem? (l := wsU_7) (i := 10) rfl)
theorem qw_189 : (Cond.selects RX8 yX8_hasRoom yX8_hasRoom) ∈ wsU := wsU_7_sub _ (List.mem_of_getElem? (l := wsU_7) (i := 11) rfl)
theorem qw_190 : (Cond.code yX8_hasRoom cX8_hasRoom 1 (some .boolean)) ∈ wsU := wsU_7_sub _ (List.mem_of_getElem? (l := wsU_7) (i := 12) rfl)
theorem qw_191 : (Cond.methodLink RX11 86 yX8_write) ∈ wsU := wsU_7_sub _ (List.mem_of_getElem? (l := wsU_7) (i := 13) rfl)
theorem qw_192 : (Cond.instanceMethod yX8_write) ∈ wsU := wsU_7_sub _ (List.mem_of_getElem? (l := wsU_7) (i := 14) rfl)
theorem qw_193 : (Cond.selects RX8 yX8_write yX8_write) ∈ wsU := wsU_7_sub _ (List.mem_of_getElem? (l := wsU_7) (i := 15) rfl)
theorem qw_194 : (Cond.code yX8_write cX8_write 3 none) ∈ wsU := wsU_7_sub _ (List.mem_of_getElem? (l := wsU_7) (i := 16) rfl)
theorem qw_195 : (Cond.methodLink RL 17 yX12_feed) ∈ wsU := wsU_7_sub _ (List.mem_of_getElem? (l := wsU_7) (i := 17) rfl)
theorem qw_196 : (Cond.instanceMethod yX12_feed) ∈ wsU := wsU_7_sub _ (List.mem_of_getElem? (l := wsU_7) (i := 18) rfl)
theorem qw_197 : (Cond.selects RX12 yX12_feed yX12_feed) ∈ wsU := wsU_7_sub _ (List.mem_of_getElem? (l := wsU_7) (i := 19) rfl)
theorem qw_198 : (Cond.code yX12_feed cX12_feed 6 (some .int)) ∈ wsU := wsU_7_sub _ (List.mem_of_getElem? (l := wsU_7) (i := 20) rfl)
theorem qw_199 : (Cond.fieldLink RX12 88 "RectFileModel" "taped" "I") ∈ wsU := wsU_7_sub _ (List.mem_of_getElem? (l := wsU_7) (i := 21) rfl)
theorem qw_200 : (Cond.methodLink RX12 92 yX12_puts) ∈ wsU := wsU_7_sub _ (List.mem_of_getElem? (l := wsU_7) (i := 22) rfl)
theorem qw_201 : (Cond.instanceMethod yX12_puts) ∈ wsU := wsU_7_sub _ (List.mem_of_getElem? (l := wsU_7) (i := 23) rfl)
theorem wsU_8_sub : ∀ w ∈ wsU_8, w ∈ wsU := fun w h => (List.mem_append_right _ (List.mem_append_right _ (List.mem_append_right _ (List.mem_append_right _ (List.mem_append_right _ (List.mem_append_right _ (List.mem_append_right _ (List.mem_append_right _ (List.mem_append_left _ h)))))))))
theorem qw_202 : (Cond.selects RX12 yX12_puts yX12_puts) ∈ wsU := wsU_8_sub _ (List.mem_of_getElem? (l := wsU_8) (i := 0) rfl)
theorem qw_203 : (Cond.code yX12_puts cX12_puts 3 none) ∈ wsU := wsU_8_sub _ (List.mem_of_getElem? (l := wsU_8) (i := 1) rfl)
theorem qw_204 : (Cond.methodLink RL 18 yX11_end) ∈ wsU := wsU_8_sub _ (List.mem_of_getElem? (l := wsU_8) (i := 2) rfl)
theorem qw_205 : (Cond.instanceMethod yX11_end) ∈ wsU := wsU_8_sub _ (List.mem_of_getElem? (l := wsU_8) (i := 3) rfl)
theorem qw_206 : (Cond.selects RX11 yX11_end yX11_end) ∈ wsU := wsU_8_sub _ (List.mem_of_getElem? (l := wsU_8) (i := 4) rfl)
theorem qw_207 : (Cond.code yX11_end cX11_end 2 (some .int)) ∈ wsU := wsU_8_sub _ (List.mem_of_getElem? (l := wsU_8) (i := 5) rfl)
theorem qw_208 : (Cond.methodLink RL 22 yX12_end) ∈ wsU := wsU_8_sub _ (List.mem_of_getElem? (l := wsU_8) (i := 6) rfl)
theorem qw_209 : (Cond.instanceMethod yX12_end) ∈ wsU := wsU_8_sub _ (List.mem_of_getElem? (l := wsU_8) (i := 7) rfl)
theorem qw_210 : (Cond.selects RX12 yX12_end yX12_end) ∈ wsU := wsU_8_sub _ (List.mem_of_getElem? (l := wsU_8) (i := 8) rfl)
theorem qw_211 : (Cond.code yX12_end cX12_end 2 (some .int)) ∈ wsU := wsU_8_sub _ (List.mem_of_getElem? (l := wsU_8) (i := 9) rfl)
theorem qw_212 : (Cond.methodLink RL 23 yX11_file) ∈ wsU := wsU_8_sub _ (List.mem_of_getElem? (l := wsU_8) (i := 10) rfl)
theorem qw_213 : (Cond.instanceMethod yX11_file) ∈ wsU := wsU_8_sub _ (List.mem_of_getElem? (l := wsU_8) (i := 11) rfl)
theorem qw_214 : (Cond.selects RX11 yX11_file yX11_file) ∈ wsU := wsU_8_sub _ (List.mem_of_getElem? (l := wsU_8) (i := 12) rfl)
theorem qw_215 : (Cond.code yX11_file cX11_file 4 (some .int)) ∈ wsU := wsU_8_sub _ (List.mem_of_getElem? (l := wsU_8) (i := 13) rfl)
theorem qw_223 : (Cond.methodLink RX11 93 yX8_read) ∈ wsU := wsU_8_sub _ (List.mem_of_getElem? (l := wsU_8) (i := 14) rfl)
theorem qw_224 : (Cond.instanceMethod yX8_read) ∈ wsU := wsU_8_sub _ (List.mem_of_getElem? (l := wsU_8) (i := 15) rfl)
theorem qw_225 : (Cond.selects RX8 yX8_read yX8_read) ∈ wsU := wsU_8_sub _ (List.mem_of_getElem? (l := wsU_8) (i := 16) rfl)
theorem qw_226 : (Cond.code yX8_read cX8_read 2 (some .int)) ∈ wsU := wsU_8_sub _ (List.mem_of_getElem? (l := wsU_8) (i := 17) rfl)
theorem qw_227 : (Cond.fieldLink RX8 26 "RectFile$Tape" "place" "I") ∈ wsU := wsU_8_sub _ (List.mem_of_getElem? (l := wsU_8) (i := 18) rfl)
theorem qw_228 : (Cond.fieldLink RX8 29 "RectFile$Tape" "begun" "I") ∈ wsU := wsU_8_sub _ (List.mem_of_getElem? (l := wsU_8) (i := 19) rfl)
theorem qw_229 : (Cond.fieldLink RX8 32 "RectFile$Tape" "fault" "I") ∈ wsU := wsU_8_sub _ (List.mem_of_getElem? (l := wsU_8) (i := 20) rfl)
theorem qw_230 : (Cond.fieldLink RX8 35 "RectFile$Tape" "rects" "I") ∈ wsU := wsU_8_sub _ (List.mem_of_getElem? (l := wsU_8) (i := 21) rfl)
theorem qw_231 : (Cond.fieldLink RX8 48 "RectFile$Tape" "most" "I") ∈ wsU := wsU_8_sub _ (List.mem_of_getElem? (l := wsU_8) (i := 22) rfl)
theorem qw_232 : (Cond.methodLink RX8 51 Lib.Math.min.name) ∈ wsU := wsU_8_sub _ (List.mem_of_getElem? (l := wsU_8) (i := 23) rfl)
theorem wsU_9_sub : ∀ w ∈ wsU_9, w ∈ wsU := fun w h => (List.mem_append_right _ (List.mem_append_right _ (List.mem_append_right _ (List.mem_append_right _ (List.mem_append_right _ (List.mem_append_right _ (List.mem_append_right _ (List.mem_append_right _ (List.mem_append_right _ (List.mem_append_left _ h))))))))))
theorem qw_233 : (Cond.static Lib.Math.min.name) ∈ wsU := wsU_9_sub _ (List.mem_of_getElem? (l := wsU_9) (i := 0) rfl)
theorem qw_234 : (Cond.initialized "java/lang/Math") ∈ wsU := wsU_9_sub _ (List.mem_of_getElem? (l := wsU_9) (i := 1) rfl)
theorem qw_235 : (Cond.code Lib.Math.min.name Lib.Math.min.code 2 (some .int)) ∈ wsU := wsU_9_sub _ (List.mem_of_getElem? (l := wsU_9) (i := 2) rfl)
theorem qw_236 : (Cond.fieldLink RX8 57 "RectFile$Tape" "least" "I") ∈ wsU := wsU_9_sub _ (List.mem_of_getElem? (l := wsU_9) (i := 3) rfl)
theorem qw_237 : (Cond.fieldLink RX8 60 "RectFile$Tape" "again" "I") ∈ wsU := wsU_9_sub _ (List.mem_of_getElem? (l := wsU_9) (i := 4) rfl)
theorem qw_238 : (Cond.methodLink RX8 40 yX8_readWord) ∈ wsU := wsU_9_sub _ (List.mem_of_getElem? (l := wsU_9) (i := 5) rfl)
theorem qw_239 : (Cond.instanceMethod yX8_readWord) ∈ wsU := wsU_9_sub _ (List.mem_of_getElem? (l := wsU_9) (i := 6) rfl)
theorem qw_240 : (Cond.selects RX8 yX8_readWord yX8_readWord) ∈ wsU := wsU_9_sub _ (List.mem_of_getElem? (l := wsU_9) (i := 7) rfl)
theorem qw_241 : (Cond.code yX8_readWord cX8_readWord 4 none) ∈ wsU := wsU_9_sub _ (List.mem_of_getElem? (l := wsU_9) (i := 8) rfl)
theorem qw_242 : (Cond.methodLink RX8 80 yX8_skipBlanks) ∈ wsU := wsU_9_sub _ (List.mem_of_getElem? (l := wsU_9) (i := 9) rfl)
theorem qw_243 : (Cond.instanceMethod yX8_skipBlanks) ∈ wsU := wsU_9_sub _ (List.mem_of_getElem? (l := wsU_9) (i := 10) rfl)
theorem qw_244 : (Cond.selects RX8 yX8_skipBlanks yX8_skipBlanks) ∈ wsU := wsU_9_sub _ (List.mem_of_getElem? (l := wsU_9) (i := 11) rfl)
theorem qw_245 : (Cond.code yX8_skipBlanks cX8_skipBlanks 1 none) ∈ wsU := wsU_9_sub _ (List.mem_of_getElem? (l := wsU_9) (i := 12) rfl)
theorem qw_253 : (Cond.methodLink RX8 90 yJ0_length_8abf5) ∈ wsU := wsU_9_sub _ (List.mem_of_getElem? (l := wsU_9) (i := 13) rfl)
theorem qw_254 : (Cond.instanceMethod yJ0_length_8abf5) ∈ wsU := wsU_9_sub _ (List.mem_of_getElem? (l := wsU_9) (i := 14) rfl)
theorem qw_255 : (Cond.selects RJ0 yJ0_length_8abf5 yJ0_length_8abf5) ∈ wsU := wsU_9_sub _ (List.mem_of_getElem? (l := wsU_9) (i := 15) rfl)
theorem qw_256 : (Cond.initialized RJ0) ∈ wsU := wsU_9_sub _ (List.mem_of_getElem? (l := wsU_9) (i := 16) rfl)
theorem qw_257 : (Cond.code yJ0_length_8abf5 cJ0_length_8abf5 1 (some .int)) ∈ wsU := wsU_9_sub _ (List.mem_of_getElem? (l := wsU_9) (i := 17) rfl)
theorem qw_258 : (Cond.fieldLink RJ0 9 "java/lang/String" "value" "[B") ∈ wsU := wsU_9_sub _ (List.mem_of_getElem? (l := wsU_9) (i := 18) rfl)
theorem qw_259 : (Cond.methodLink RJ0 335 yJ0_coder_7d493) ∈ wsU := wsU_9_sub _ (List.mem_of_getElem? (l := wsU_9) (i := 19) rfl)
theorem qw_260 : (Cond.instanceMethod yJ0_coder_7d493) ∈ wsU := wsU_9_sub _ (List.mem_of_getElem? (l := wsU_9) (i := 20) rfl)
theorem qw_261 : (Cond.selects RJ0 yJ0_coder_7d493 yJ0_coder_7d493) ∈ wsU := wsU_9_sub _ (List.mem_of_getElem? (l := wsU_9) (i := 21) rfl)
theorem qw_262 : (Cond.code yJ0_coder_7d493 cJ0_coder_7d493 1 (some .byte)) ∈ wsU := wsU_9_sub _ (List.mem_of_getElem? (l := wsU_9) (i := 22) rfl)
theorem qw_263 : (Cond.fieldLink RJ0 38 "java/lang/String" "COMPACT_STRINGS" "Z") ∈ wsU := wsU_9_sub _ (List.mem_of_getElem? (l := wsU_9) (i := 23) rfl)
theorem wsU_10_sub : ∀ w ∈ wsU_10, w ∈ wsU := fun w h => (List.mem_append_right _ (List.mem_append_right _ (List.mem_append_right _ (List.mem_append_right _ (List.mem_append_right _ (List.mem_append_right _ (List.mem_append_right _ (List.mem_append_right _ (List.mem_append_right _ (List.mem_append_right _ (List.mem_append_left _ h)))))))))))
theorem qw_264 : (Cond.fieldLink RJ0 15 "java/lang/String" "code\x72" "B") ∈ wsU := wsU_10_sub _ (List.mem_of_getElem? (l := wsU_10) (i := 0) rfl)
theorem qw_302 : (Cond.methodLink RX8 72 yX8_blame) ∈ wsU := wsU_10_sub _ (List.mem_of_getElem? (l := wsU_10) (i := 1) rfl)
theorem qw_303 : (Cond.instanceMethod yX8_blame) ∈ wsU := wsU_10_sub _ (List.mem_of_getElem? (l := wsU_10) (i := 2) rfl)
theorem qw_304 : (Cond.selects RX8 yX8_blame yX8_blame) ∈ wsU := wsU_10_sub _ (List.mem_of_getElem? (l := wsU_10) (i := 3) rfl)
theorem qw_305 : (Cond.code yX8_blame cX8_blame 3 none) ∈ wsU := wsU_10_sub _ (List.mem_of_getElem? (l := wsU_10) (i := 4) rfl)
theorem qw_306 : (Cond.methodLink RX8 44 yX8_readNumber) ∈ wsU := wsU_10_sub _ (List.mem_of_getElem? (l := wsU_10) (i := 5) rfl)
theorem qw_307 : (Cond.instanceMethod yX8_readNumber) ∈ wsU := wsU_10_sub _ (List.mem_of_getElem? (l := wsU_10) (i := 6) rfl)
theorem qw_308 : (Cond.selects RX8 yX8_readNumber yX8_readNumber) ∈ wsU := wsU_10_sub _ (List.mem_of_getElem? (l := wsU_10) (i := 7) rfl)
theorem qw_309 : (Cond.code yX8_readNumber cX8_readNumber 6 (some .int)) ∈ wsU := wsU_10_sub _ (List.mem_of_getElem? (l := wsU_10) (i := 8) rfl)
theorem qw_318 : (Cond.methodLink RX8 63 yX8_goesOn) ∈ wsU := wsU_10_sub _ (List.mem_of_getElem? (l := wsU_10) (i := 9) rfl)
theorem qw_319 : (Cond.instanceMethod yX8_goesOn) ∈ wsU := wsU_10_sub _ (List.mem_of_getElem? (l := wsU_10) (i := 10) rfl)
theorem qw_320 : (Cond.selects RX8 yX8_goesOn yX8_goesOn) ∈ wsU := wsU_10_sub _ (List.mem_of_getElem? (l := wsU_10) (i := 11) rfl)
theorem qw_321 : (Cond.code yX8_goesOn cX8_goesOn 1 (some .boolean)) ∈ wsU := wsU_10_sub _ (List.mem_of_getElem? (l := wsU_10) (i := 12) rfl)
theorem qw_593 : (Cond.methodLink RL 27 yX12_file) ∈ wsU := wsU_10_sub _ (List.mem_of_getElem? (l := wsU_10) (i := 13) rfl)
theorem qw_594 : (Cond.instanceMethod yX12_file) ∈ wsU := wsU_10_sub _ (List.mem_of_getElem? (l := wsU_10) (i := 14) rfl)
theorem qw_595 : (Cond.selects RX12 yX12_file yX12_file) ∈ wsU := wsU_10_sub _ (List.mem_of_getElem? (l := wsU_10) (i := 15) rfl)
theorem qw_596 : (Cond.code yX12_file cX12_file 3 (some .int)) ∈ wsU := wsU_10_sub _ (List.mem_of_getElem? (l := wsU_10) (i := 16) rfl)
theorem qw_597 : (Cond.fieldLink RX12 99 "RectFileModel" "p" "I") ∈ wsU := wsU_10_sub _ (List.mem_of_getElem? (l := wsU_10) (i := 17) rfl)
theorem qw_598 : (Cond.fieldLink RX12 96 "RectFileModel" "fault" "I") ∈ wsU := wsU_10_sub _ (List.mem_of_getElem? (l := wsU_10) (i := 18) rfl)
theorem qw_599 : (Cond.fieldLink RX12 166 "RectFileModel" "newMost" "I") ∈ wsU := wsU_10_sub _ (List.mem_of_getElem? (l := wsU_10) (i := 19) rfl)
theorem qw_600 : (Cond.fieldLink RX12 169 "RectFileModel" "newLeast" "I") ∈ wsU := wsU_10_sub _ (List.mem_of_getElem? (l := wsU_10) (i := 20) rfl)
theorem qw_601 : (Cond.fieldLink RX12 172 "RectFileModel" "newOut" "I") ∈ wsU := wsU_10_sub _ (List.mem_of_getElem? (l := wsU_10) (i := 21) rfl)
theorem qw_602 : (Cond.fieldLink RX12 181 "RectFileModel" "hasFile" "Z") ∈ wsU := wsU_10_sub _ (List.mem_of_getElem? (l := wsU_10) (i := 22) rfl)
theorem qw_603 : (Cond.fieldLink RX12 158 "RectFileModel" "newMany" "I") ∈ wsU := wsU_10_sub _ (List.mem_of_getElem? (l := wsU_10) (i := 23) rfl)
theorem wsU_11_sub : ∀ w ∈ wsU_11, w ∈ wsU := fun w h => (List.mem_append_right _ (List.mem_append_right _ (List.mem_append_right _ (List.mem_append_right _ (List.mem_append_right _ (List.mem_append_right _ (List.mem_append_right _ (List.mem_append_right _ (List.mem_append_right _ (List.mem_append_right _ (List.mem_append_right _ (List.mem_append_left _ h))))))))))))
theorem qw_604 : (Cond.fieldLink RX12 196 "RectFileModel" "pastMany" "I") ∈ wsU := wsU_11_sub _ (List.mem_of_getElem? (l := wsU_11) (i := 0) rfl)
theorem qw_605 : (Cond.methodLink RX12 178 yX12_readsFile) ∈ wsU := wsU_11_sub _ (List.mem_of_getElem? (l := wsU_11) (i := 1) rfl)
theorem qw_606 : (Cond.instanceMethod yX12_readsFile) ∈ wsU := wsU_11_sub _ (List.mem_of_getElem? (l := wsU_11) (i := 2) rfl)
theorem qw_607 : (Cond.selects RX12 yX12_readsFile yX12_readsFile) ∈ wsU := wsU_11_sub _ (List.mem_of_getElem? (l := wsU_11) (i := 3) rfl)
theorem qw_608 : (Cond.code yX12_readsFile cX12_readsFile 2 none) ∈ wsU := wsU_11_sub _ (List.mem_of_getElem? (l := wsU_11) (i := 4) rfl)
theorem qw_609 : (Cond.methodLink RX12 146 Lib.Math.min.name) ∈ wsU := wsU_11_sub _ (List.mem_of_getElem? (l := wsU_11) (i := 5) rfl)
theorem qw_610 : (Cond.methodLink RX12 106 yX12_next) ∈ wsU := wsU_11_sub _ (List.mem_of_getElem? (l := wsU_11) (i := 6) rfl)
theorem qw_611 : (Cond.instanceMethod yX12_next) ∈ wsU := wsU_11_sub _ (List.mem_of_getElem? (l := wsU_11) (i := 7) rfl)
theorem qw_612 : (Cond.selects RX12 yX12_next yX12_next) ∈ wsU := wsU_11_sub _ (List.mem_of_getElem? (l := wsU_11) (i := 8) rfl)
theorem qw_613 : (Cond.code yX12_next cX12_next 1 (some .int)) ∈ wsU := wsU_11_sub _ (List.mem_of_getElem? (l := wsU_11) (i := 9) rfl)
theorem qw_614 : (Cond.methodLink RX12 102 yX12_sign) ∈ wsU := wsU_11_sub _ (List.mem_of_getElem? (l := wsU_11) (i := 10) rfl)
theorem qw_615 : (Cond.instanceMethod yX12_sign) ∈ wsU := wsU_11_sub _ (List.mem_of_getElem? (l := wsU_11) (i := 11) rfl)
theorem qw_616 : (Cond.selects RX12 yX12_sign yX12_sign) ∈ wsU := wsU_11_sub _ (List.mem_of_getElem? (l := wsU_11) (i := 12) rfl)
theorem qw_617 : (Cond.code yX12_sign cX12_sign 1 (some .int)) ∈ wsU := wsU_11_sub _ (List.mem_of_getElem? (l := wsU_11) (i := 13) rfl)
theorem qw_618 : (Cond.methodLink RX12 154 yX12_takes) ∈ wsU := wsU_11_sub _ (List.mem_of_getElem? (l := wsU_11) (i := 14) rfl)
theorem qw_619 : (Cond.instanceMethod yX12_takes) ∈ wsU := wsU_11_sub _ (List.mem_of_getElem? (l := wsU_11) (i := 15) rfl)
theorem qw_620 : (Cond.selects RX12 yX12_takes yX12_takes) ∈ wsU := wsU_11_sub _ (List.mem_of_getElem? (l := wsU_11) (i := 16) rfl)
theorem qw_621 : (Cond.code yX12_takes cX12_takes 5 (some .boolean)) ∈ wsU := wsU_11_sub _ (List.mem_of_getElem? (l := wsU_11) (i := 17) rfl)
theorem qw_624 : (Cond.methodLink RX12 113 yX12_in) ∈ wsU := wsU_11_sub _ (List.mem_of_getElem? (l := wsU_11) (i := 18) rfl)
theorem qw_625 : (Cond.static yX12_in) ∈ wsU := wsU_11_sub _ (List.mem_of_getElem? (l := wsU_11) (i := 19) rfl)
theorem qw_626 : (Cond.code yX12_in cX12_in 6 (some .boolean)) ∈ wsU := wsU_11_sub _ (List.mem_of_getElem? (l := wsU_11) (i := 20) rfl)
theorem qw_627 : (Cond.methodLink RX12 117 yX12_isRight) ∈ wsU := wsU_11_sub _ (List.mem_of_getElem? (l := wsU_11) (i := 21) rfl)
theorem qw_628 : (Cond.instanceMethod yX12_isRight) ∈ wsU := wsU_11_sub _ (List.mem_of_getElem? (l := wsU_11) (i := 22) rfl)
theorem qw_629 : (Cond.selects RX12 yX12_isRight yX12_isRight) ∈ wsU := wsU_11_sub _ (List.mem_of_getElem? (l := wsU_11) (i := 23) rfl)
theorem wsU_12_sub : ∀ w ∈ wsU_12, w ∈ wsU := fun w h => (List.mem_append_right _ (List.mem_append_right _ (List.mem_append_right _ (List.mem_append_right _ (List.mem_append_right _ (List.mem_append_right _ (List.mem_append_right _ (List.mem_append_right _ (List.mem_append_right _ (List.mem_append_right _ (List.mem_append_right _ (List.mem_append_right _ (List.mem_append_left _ h)))))))))))))
theorem qw_630 : (Cond.code yX12_isRight cX12_isRight 1 (some .boolean)) ∈ wsU := wsU_12_sub _ (List.mem_of_getElem? (l := wsU_12) (i := 0) rfl)
theorem qw_631 : (Cond.methodLink RX12 121 yJ0_length_8abf5) ∈ wsU := wsU_12_sub _ (List.mem_of_getElem? (l := wsU_12) (i := 1) rfl)
theorem qw_633 : (Cond.methodLink RX12 141 yX12_fails) ∈ wsU := wsU_12_sub _ (List.mem_of_getElem? (l := wsU_12) (i := 2) rfl)
theorem qw_634 : (Cond.instanceMethod yX12_fails) ∈ wsU := wsU_12_sub _ (List.mem_of_getElem? (l := wsU_12) (i := 3) rfl)
theorem qw_635 : (Cond.selects RX12 yX12_fails yX12_fails) ∈ wsU := wsU_12_sub _ (List.mem_of_getElem? (l := wsU_12) (i := 4) rfl)
theorem qw_636 : (Cond.code yX12_fails cX12_fails 3 none) ∈ wsU := wsU_12_sub _ (List.mem_of_getElem? (l := wsU_12) (i := 5) rfl)
theorem qw_637 : (Cond.methodLink RX12 161 yX12_number) ∈ wsU := wsU_12_sub _ (List.mem_of_getElem? (l := wsU_12) (i := 6) rfl)
theorem qw_638 : (Cond.instanceMethod yX12_number) ∈ wsU := wsU_12_sub _ (List.mem_of_getElem? (l := wsU_12) (i := 7) rfl)
theorem qw_639 : (Cond.selects RX12 yX12_number yX12_number) ∈ wsU := wsU_12_sub _ (List.mem_of_getElem? (l := wsU_12) (i := 8) rfl)
theorem qw_640 : (Cond.code yX12_number cX12_number 6 (some .int)) ∈ wsU := wsU_12_sub _ (List.mem_of_getElem? (l := wsU_12) (i := 9) rfl)
theorem qw_641 : (Cond.fieldLink RX12 130 "RectFileModel" "numberAt" "I") ∈ wsU := wsU_12_sub _ (List.mem_of_getElem? (l := wsU_12) (i := 10) rfl)
theorem qw_645 : (Cond.methodLink RX12 133 yX12_truth) ∈ wsU := wsU_12_sub _ (List.mem_of_getElem? (l := wsU_12) (i := 11) rfl)
theorem qw_646 : (Cond.static yX12_truth) ∈ wsU := wsU_12_sub _ (List.mem_of_getElem? (l := wsU_12) (i := 12) rfl)
theorem qw_647 : (Cond.code yX12_truth cX12_truth 1 (some .int)) ∈ wsU := wsU_12_sub _ (List.mem_of_getElem? (l := wsU_12) (i := 13) rfl)
theorem qw_663 : (Cond.methodLink RX12 208 yX12_r) ∈ wsU := wsU_12_sub _ (List.mem_of_getElem? (l := wsU_12) (i := 14) rfl)
theorem qw_664 : (Cond.static yX12_r) ∈ wsU := wsU_12_sub _ (List.mem_of_getElem? (l := wsU_12) (i := 15) rfl)
theorem qw_665 : (Cond.code yX12_r cX12_r 2 (some .int)) ∈ wsU := wsU_12_sub _ (List.mem_of_getElem? (l := wsU_12) (i := 16) rfl)
theorem qw_764 : (Cond.methodLink RL 28 yX11_put) ∈ wsU := wsU_12_sub _ (List.mem_of_getElem? (l := wsU_12) (i := 17) rfl)
theorem qw_765 : (Cond.instanceMethod yX11_put) ∈ wsU := wsU_12_sub _ (List.mem_of_getElem? (l := wsU_12) (i := 18) rfl)
theorem qw_766 : (Cond.selects RX11 yX11_put yX11_put) ∈ wsU := wsU_12_sub _ (List.mem_of_getElem? (l := wsU_12) (i := 19) rfl)
theorem qw_767 : (Cond.code yX11_put cX11_put 6 (some .int)) ∈ wsU := wsU_12_sub _ (List.mem_of_getElem? (l := wsU_12) (i := 20) rfl)
theorem qw_789 : (Cond.methodLink RL 31 yX12_put) ∈ wsU := wsU_12_sub _ (List.mem_of_getElem? (l := wsU_12) (i := 21) rfl)
theorem qw_790 : (Cond.instanceMethod yX12_put) ∈ wsU := wsU_12_sub _ (List.mem_of_getElem? (l := wsU_12) (i := 22) rfl)
theorem qw_791 : (Cond.selects RX12 yX12_put yX12_put) ∈ wsU := wsU_12_sub _ (List.mem_of_getElem? (l := wsU_12) (i := 23) rfl)
theorem wsU_13_sub : ∀ w ∈ wsU_13, w ∈ wsU := fun w h => (List.mem_append_right _ (List.mem_append_right _ (List.mem_append_right _ (List.mem_append_right _ (List.mem_append_right _ (List.mem_append_right _ (List.mem_append_right _ (List.mem_append_right _ (List.mem_append_right _ (List.mem_append_right _ (List.mem_append_right _ (List.mem_append_right _ (List.mem_append_right _ (List.mem_append_left _ h))))))))))))))
theorem qw_792 : (Cond.code yX12_put cX12_put 6 (some .int)) ∈ wsU := wsU_13_sub _ (List.mem_of_getElem? (l := wsU_13) (i := 0) rfl)
theorem qw_793 : (Cond.constantLong RX12 206 (99)) ∈ wsU := wsU_13_sub _ (List.mem_of_getElem? (l := wsU_13) (i := 1) rfl)
theorem qw_798 : (Cond.methodLink RX12 312 yX12_isRect) ∈ wsU := wsU_13_sub _ (List.mem_of_getElem? (l := wsU_13) (i := 2) rfl)
theorem qw_799 : (Cond.instanceMethod yX12_isRect) ∈ wsU := wsU_13_sub _ (List.mem_of_getElem? (l := wsU_13) (i := 3) rfl)
theorem qw_800 : (Cond.selects RX12 yX12_isRect yX12_isRect) ∈ wsU := wsU_13_sub _ (List.mem_of_getElem? (l := wsU_13) (i := 4) rfl)
theorem qw_801 : (Cond.code yX12_isRect cX12_isRect 2 (some .boolean)) ∈ wsU := wsU_13_sub _ (List.mem_of_getElem? (l := wsU_13) (i := 5) rfl)
theorem qw_814 : (Cond.fieldLink RX12 298 "RectFileModel" "pageMany" "I") ∈ wsU := wsU_13_sub _ (List.mem_of_getElem? (l := wsU_13) (i := 6) rfl)
theorem qw_815 : (Cond.methodLink RX12 304 yX12_numbers) ∈ wsU := wsU_13_sub _ (List.mem_of_getElem? (l := wsU_13) (i := 7) rfl)
theorem qw_816 : (Cond.instanceMethod yX12_numbers) ∈ wsU := wsU_13_sub _ (List.mem_of_getElem? (l := wsU_13) (i := 8) rfl)
theorem qw_817 : (Cond.selects RX12 yX12_numbers yX12_numbers) ∈ wsU := wsU_13_sub _ (List.mem_of_getElem? (l := wsU_13) (i := 9) rfl)
theorem qw_818 : (Cond.code yX12_numbers cX12_numbers 1 none) ∈ wsU := wsU_13_sub _ (List.mem_of_getElem? (l := wsU_13) (i := 10) rfl)
theorem qw_823 : (Cond.methodLink RL 32 yX11_remove) ∈ wsU := wsU_13_sub _ (List.mem_of_getElem? (l := wsU_13) (i := 11) rfl)
theorem qw_824 : (Cond.instanceMethod yX11_remove) ∈ wsU := wsU_13_sub _ (List.mem_of_getElem? (l := wsU_13) (i := 12) rfl)
theorem qw_825 : (Cond.selects RX11 yX11_remove yX11_remove) ∈ wsU := wsU_13_sub _ (List.mem_of_getElem? (l := wsU_13) (i := 13) rfl)
theorem qw_826 : (Cond.code yX11_remove cX11_remove 2 (some .int)) ∈ wsU := wsU_13_sub _ (List.mem_of_getElem? (l := wsU_13) (i := 14) rfl)
theorem qw_827 : (Cond.methodLink RX11 152 yX11_isInFile) ∈ wsU := wsU_13_sub _ (List.mem_of_getElem? (l := wsU_13) (i := 15) rfl)
theorem qw_828 : (Cond.instanceMethod yX11_isInFile) ∈ wsU := wsU_13_sub _ (List.mem_of_getElem? (l := wsU_13) (i := 16) rfl)
theorem qw_829 : (Cond.selects RX11 yX11_isInFile yX11_isInFile) ∈ wsU := wsU_13_sub _ (List.mem_of_getElem? (l := wsU_13) (i := 17) rfl)
theorem qw_830 : (Cond.code yX11_isInFile cX11_isInFile 2 (some .boolean)) ∈ wsU := wsU_13_sub _ (List.mem_of_getElem? (l := wsU_13) (i := 18) rfl)
theorem qw_847 : (Cond.methodLink RL 35 yX12_remove) ∈ wsU := wsU_13_sub _ (List.mem_of_getElem? (l := wsU_13) (i := 19) rfl)
theorem qw_848 : (Cond.instanceMethod yX12_remove) ∈ wsU := wsU_13_sub _ (List.mem_of_getElem? (l := wsU_13) (i := 20) rfl)
theorem qw_849 : (Cond.selects RX12 yX12_remove yX12_remove) ∈ wsU := wsU_13_sub _ (List.mem_of_getElem? (l := wsU_13) (i := 21) rfl)
theorem qw_850 : (Cond.code yX12_remove cX12_remove 2 (some .int)) ∈ wsU := wsU_13_sub _ (List.mem_of_getElem? (l := wsU_13) (i := 22) rfl)
theorem qw_859 : (Cond.methodLink RL 36 yX11_shift) ∈ wsU := wsU_13_sub _ (List.mem_of_getElem? (l := wsU_13) (i := 23) rfl)
theorem wsU_14_sub : ∀ w ∈ wsU_14, w ∈ wsU := fun w h => (List.mem_append_right _ (List.mem_append_right _ (List.mem_append_right _ (List.mem_append_right _ (List.mem_append_right _ (List.mem_append_right _ (List.mem_append_right _ (List.mem_append_right _ (List.mem_append_right _ (List.mem_append_right _ (List.mem_append_right _ (List.mem_append_right _ (List.mem_append_right _ (List.mem_append_right _ (List.mem_append_left _ h)))))))))))))))
theorem qw_860 : (Cond.instanceMethod yX11_shift) ∈ wsU := wsU_14_sub _ (List.mem_of_getElem? (l := wsU_14) (i := 0) rfl)
theorem qw_861 : (Cond.selects RX11 yX11_shift yX11_shift) ∈ wsU := wsU_14_sub _ (List.mem_of_getElem? (l := wsU_14) (i := 1) rfl)
theorem qw_862 : (Cond.code yX11_shift cX11_shift 13 (some .int)) ∈ wsU := wsU_14_sub _ (List.mem_of_getElem? (l := wsU_14) (i := 2) rfl)
theorem qw_866 : (Cond.methodLink RL 40 yX12_shift) ∈ wsU := wsU_14_sub _ (List.mem_of_getElem? (l := wsU_14) (i := 3) rfl)
theorem qw_867 : (Cond.instanceMethod yX12_shift) ∈ wsU := wsU_14_sub _ (List.mem_of_getElem? (l := wsU_14) (i := 4) rfl)
theorem qw_868 : (Cond.selects RX12 yX12_shift yX12_shift) ∈ wsU := wsU_14_sub _ (List.mem_of_getElem? (l := wsU_14) (i := 5) rfl)
theorem qw_869 : (Cond.code yX12_shift cX12_shift 7 (some .int)) ∈ wsU := wsU_14_sub _ (List.mem_of_getElem? (l := wsU_14) (i := 6) rfl)
theorem qw_871 : (Cond.methodLink RL 41 yX11_bulk) ∈ wsU := wsU_14_sub _ (List.mem_of_getElem? (l := wsU_14) (i := 7) rfl)
theorem qw_872 : (Cond.instanceMethod yX11_bulk) ∈ wsU := wsU_14_sub _ (List.mem_of_getElem? (l := wsU_14) (i := 8) rfl)
theorem qw_873 : (Cond.selects RX11 yX11_bulk yX11_bulk) ∈ wsU := wsU_14_sub _ (List.mem_of_getElem? (l := wsU_14) (i := 9) rfl)
theorem qw_874 : (Cond.code yX11_bulk cX11_bulk 1 (some .int)) ∈ wsU := wsU_14_sub _ (List.mem_of_getElem? (l := wsU_14) (i := 10) rfl)
theorem qw_913 : (Cond.methodLink RL 44 yX12_bulk) ∈ wsU := wsU_14_sub _ (List.mem_of_getElem? (l := wsU_14) (i := 11) rfl)
theorem qw_914 : (Cond.instanceMethod yX12_bulk) ∈ wsU := wsU_14_sub _ (List.mem_of_getElem? (l := wsU_14) (i := 12) rfl)
theorem qw_915 : (Cond.selects RX12 yX12_bulk yX12_bulk) ∈ wsU := wsU_14_sub _ (List.mem_of_getElem? (l := wsU_14) (i := 13) rfl)
theorem qw_916 : (Cond.code yX12_bulk cX12_bulk 4 (some .int)) ∈ wsU := wsU_14_sub _ (List.mem_of_getElem? (l := wsU_14) (i := 14) rfl)
theorem qw_933 : (Cond.methodLink RL 45 yX11_graft) ∈ wsU := wsU_14_sub _ (List.mem_of_getElem? (l := wsU_14) (i := 15) rfl)
theorem qw_934 : (Cond.instanceMethod yX11_graft) ∈ wsU := wsU_14_sub _ (List.mem_of_getElem? (l := wsU_14) (i := 16) rfl)
theorem qw_935 : (Cond.selects RX11 yX11_graft yX11_graft) ∈ wsU := wsU_14_sub _ (List.mem_of_getElem? (l := wsU_14) (i := 17) rfl)
theorem qw_936 : (Cond.code yX11_graft cX11_graft 6 (some .int)) ∈ wsU := wsU_14_sub _ (List.mem_of_getElem? (l := wsU_14) (i := 18) rfl)
theorem qw_940 : (Cond.methodLink RX11 169 yX11_isPage) ∈ wsU := wsU_14_sub _ (List.mem_of_getElem? (l := wsU_14) (i := 19) rfl)
theorem qw_941 : (Cond.instanceMethod yX11_isPage) ∈ wsU := wsU_14_sub _ (List.mem_of_getElem? (l := wsU_14) (i := 20) rfl)
theorem qw_942 : (Cond.selects RX11 yX11_isPage yX11_isPage) ∈ wsU := wsU_14_sub _ (List.mem_of_getElem? (l := wsU_14) (i := 21) rfl)
theorem qw_943 : (Cond.code yX11_isPage cX11_isPage 2 (some .boolean)) ∈ wsU := wsU_14_sub _ (List.mem_of_getElem? (l := wsU_14) (i := 22) rfl)
theorem qw_954 : (Cond.methodLink RL 49 yX12_graft) ∈ wsU := wsU_14_sub _ (List.mem_of_getElem? (l := wsU_14) (i := 23) rfl)
theorem wsU_15_sub : ∀ w ∈ wsU_15, w ∈ wsU := fun w h => (List.mem_append_right _ (List.mem_append_right _ (List.mem_append_right _ (List.mem_append_right _ (List.mem_append_right _ (List.mem_append_right _ (List.mem_append_right _ (List.mem_append_right _ (List.mem_append_right _ (List.mem_append_right _ (List.mem_append_right _ (List.mem_append_right _ (List.mem_append_right _ (List.mem_append_right _ (List.mem_append_right _ (List.mem_append_left _ h))))))))))))))))
theorem qw_955 : (Cond.instanceMethod yX12_graft) ∈ wsU := wsU_15_sub _ (List.mem_of_getElem? (l := wsU_15) (i := 0) rfl)
theorem qw_956 : (Cond.selects RX12 yX12_graft yX12_graft) ∈ wsU := wsU_15_sub _ (List.mem_of_getElem? (l := wsU_15) (i := 1) rfl)
theorem qw_957 : (Cond.code yX12_graft cX12_graft 7 (some .int)) ∈ wsU := wsU_15_sub _ (List.mem_of_getElem? (l := wsU_15) (i := 2) rfl)
theorem qw_958 : (Cond.methodLink RX12 340 yX12_pageBy) ∈ wsU := wsU_15_sub _ (List.mem_of_getElem? (l := wsU_15) (i := 3) rfl)
theorem qw_959 : (Cond.instanceMethod yX12_pageBy) ∈ wsU := wsU_15_sub _ (List.mem_of_getElem? (l := wsU_15) (i := 4) rfl)
theorem qw_960 : (Cond.selects RX12 yX12_pageBy yX12_pageBy) ∈ wsU := wsU_15_sub _ (List.mem_of_getElem? (l := wsU_15) (i := 5) rfl)
theorem qw_961 : (Cond.code yX12_pageBy cX12_pageBy 2 (some .int)) ∈ wsU := wsU_15_sub _ (List.mem_of_getElem? (l := wsU_15) (i := 6) rfl)
theorem qw_962 : (Cond.methodLink RL 50 yX11_drawn) ∈ wsU := wsU_15_sub _ (List.mem_of_getElem? (l := wsU_15) (i := 7) rfl)
theorem qw_963 : (Cond.instanceMethod yX11_drawn) ∈ wsU := wsU_15_sub _ (List.mem_of_getElem? (l := wsU_15) (i := 8) rfl)
theorem qw_964 : (Cond.selects RX11 yX11_drawn yX11_drawn) ∈ wsU := wsU_15_sub _ (List.mem_of_getElem? (l := wsU_15) (i := 9) rfl)
theorem qw_965 : (Cond.code yX11_drawn cX11_drawn 9 (some .int)) ∈ wsU := wsU_15_sub _ (List.mem_of_getElem? (l := wsU_15) (i := 10) rfl)
theorem qw_978 : (Cond.methodLink RL 53 yX12_drawn) ∈ wsU := wsU_15_sub _ (List.mem_of_getElem? (l := wsU_15) (i := 11) rfl)
theorem qw_979 : (Cond.instanceMethod yX12_drawn) ∈ wsU := wsU_15_sub _ (List.mem_of_getElem? (l := wsU_15) (i := 12) rfl)
theorem qw_980 : (Cond.selects RX12 yX12_drawn yX12_drawn) ∈ wsU := wsU_15_sub _ (List.mem_of_getElem? (l := wsU_15) (i := 13) rfl)
theorem qw_981 : (Cond.code yX12_drawn cX12_drawn 8 (some .int)) ∈ wsU := wsU_15_sub _ (List.mem_of_getElem? (l := wsU_15) (i := 14) rfl)
theorem qw_995 : (Cond.methodLink RL 54 yX11_draws) ∈ wsU := wsU_15_sub _ (List.mem_of_getElem? (l := wsU_15) (i := 15) rfl)
theorem qw_996 : (Cond.instanceMethod yX11_draws) ∈ wsU := wsU_15_sub _ (List.mem_of_getElem? (l := wsU_15) (i := 16) rfl)
theorem qw_997 : (Cond.selects RX11 yX11_draws yX11_draws) ∈ wsU := wsU_15_sub _ (List.mem_of_getElem? (l := wsU_15) (i := 17) rfl)
theorem qw_998 : (Cond.code yX11_draws cX11_draws 3 (some .int)) ∈ wsU := wsU_15_sub _ (List.mem_of_getElem? (l := wsU_15) (i := 18) rfl)
theorem qw_999 : (Cond.methodLink RL 57 yX12_draws) ∈ wsU := wsU_15_sub _ (List.mem_of_getElem? (l := wsU_15) (i := 19) rfl)
theorem qw_1000 : (Cond.instanceMethod yX12_draws) ∈ wsU := wsU_15_sub _ (List.mem_of_getElem? (l := wsU_15) (i := 20) rfl)
theorem qw_1001 : (Cond.selects RX12 yX12_draws yX12_draws) ∈ wsU := wsU_15_sub _ (List.mem_of_getElem? (l := wsU_15) (i := 21) rfl)
theorem qw_1002 : (Cond.code yX12_draws cX12_draws 3 (some .int)) ∈ wsU := wsU_15_sub _ (List.mem_of_getElem? (l := wsU_15) (i := 22) rfl)
theorem qw_1003 : (Cond.methodLink RL 58 yX11_undo) ∈ wsU := wsU_15_sub _ (List.mem_of_getElem? (l := wsU_15) (i := 23) rfl)
theorem wsU_16_sub : ∀ w ∈ wsU_16, w ∈ wsU := fun w h => (List.mem_append_right _ (List.mem_append_right _ (List.mem_append_right _ (List.mem_append_right _ (List.mem_append_right _ (List.mem_append_right _ (List.mem_append_right _ (List.mem_append_right _ (List.mem_append_right _ (List.mem_append_right _ (List.mem_append_right _ (List.mem_append_right _ (List.mem_append_right _ (List.mem_append_right _ (List.mem_append_right _ (List.mem_append_right _ (List.mem_append_left _ h)))))))))))))))))
theorem qw_1004 : (Cond.instanceMethod yX11_undo) ∈ wsU := wsU_16_sub _ (List.mem_of_getElem? (l := wsU_16) (i := 0) rfl)
theorem qw_1005 : (Cond.selects RX11 yX11_undo yX11_undo) ∈ wsU := wsU_16_sub _ (List.mem_of_getElem? (l := wsU_16) (i := 1) rfl)
theorem qw_1006 : (Cond.code yX11_undo cX11_undo 1 (some .int)) ∈ wsU := wsU_16_sub _ (List.mem_of_getElem? (l := wsU_16) (i := 2) rfl)
theorem qw_1007 : (Cond.fieldLink RX11 202 "RectFile$History" "held" "I") ∈ wsU := wsU_16_sub _ (List.mem_of_getElem? (l := wsU_16) (i := 3) rfl)
theorem qw_1016 : (Cond.methodLink RL 61 yX12_undo) ∈ wsU := wsU_16_sub _ (List.mem_of_getElem? (l := wsU_16) (i := 4) rfl)
theorem qw_1017 : (Cond.instanceMethod yX12_undo) ∈ wsU := wsU_16_sub _ (List.mem_of_getElem? (l := wsU_16) (i := 5) rfl)
theorem qw_1018 : (Cond.selects RX12 yX12_undo yX12_undo) ∈ wsU := wsU_16_sub _ (List.mem_of_getElem? (l := wsU_16) (i := 6) rfl)
theorem qw_1019 : (Cond.code yX12_undo cX12_undo 1 (some .int)) ∈ wsU := wsU_16_sub _ (List.mem_of_getElem? (l := wsU_16) (i := 7) rfl)
theorem qw_1024 : (Cond.methodLink RL 62 yX11_keep) ∈ wsU := wsU_16_sub _ (List.mem_of_getElem? (l := wsU_16) (i := 8) rfl)
theorem qw_1025 : (Cond.instanceMethod yX11_keep) ∈ wsU := wsU_16_sub _ (List.mem_of_getElem? (l := wsU_16) (i := 9) rfl)
theorem qw_1026 : (Cond.selects RX11 yX11_keep yX11_keep) ∈ wsU := wsU_16_sub _ (List.mem_of_getElem? (l := wsU_16) (i := 10) rfl)
theorem qw_1027 : (Cond.code yX11_keep cX11_keep 3 (some .int)) ∈ wsU := wsU_16_sub _ (List.mem_of_getElem? (l := wsU_16) (i := 11) rfl)
theorem qw_1028 : (Cond.methodLink RX11 211 yX11_isShelf) ∈ wsU := wsU_16_sub _ (List.mem_of_getElem? (l := wsU_16) (i := 12) rfl)
theorem qw_1029 : (Cond.static yX11_isShelf) ∈ wsU := wsU_16_sub _ (List.mem_of_getElem? (l := wsU_16) (i := 13) rfl)
theorem qw_1030 : (Cond.code yX11_isShelf cX11_isShelf 1 (some .boolean)) ∈ wsU := wsU_16_sub _ (List.mem_of_getElem? (l := wsU_16) (i := 14) rfl)
theorem qw_1032 : (Cond.methodLink RL 65 yX12_keep) ∈ wsU := wsU_16_sub _ (List.mem_of_getElem? (l := wsU_16) (i := 15) rfl)
theorem qw_1033 : (Cond.instanceMethod yX12_keep) ∈ wsU := wsU_16_sub _ (List.mem_of_getElem? (l := wsU_16) (i := 16) rfl)
theorem qw_1034 : (Cond.selects RX12 yX12_keep yX12_keep) ∈ wsU := wsU_16_sub _ (List.mem_of_getElem? (l := wsU_16) (i := 17) rfl)
theorem qw_1035 : (Cond.code yX12_keep cX12_keep 2 (some .int)) ∈ wsU := wsU_16_sub _ (List.mem_of_getElem? (l := wsU_16) (i := 18) rfl)
theorem qw_1036 : (Cond.fieldLink RX12 358 "RectFileModel" "keptSet" "I") ∈ wsU := wsU_16_sub _ (List.mem_of_getElem? (l := wsU_16) (i := 19) rfl)
theorem qw_1041 : (Cond.methodLink RL 66 yX11_back) ∈ wsU := wsU_16_sub _ (List.mem_of_getElem? (l := wsU_16) (i := 20) rfl)
theorem qw_1042 : (Cond.instanceMethod yX11_back) ∈ wsU := wsU_16_sub _ (List.mem_of_getElem? (l := wsU_16) (i := 21) rfl)
theorem qw_1043 : (Cond.selects RX11 yX11_back yX11_back) ∈ wsU := wsU_16_sub _ (List.mem_of_getElem? (l := wsU_16) (i := 22) rfl)
theorem qw_1044 : (Cond.code yX11_back cX11_back 3 (some .int)) ∈ wsU := wsU_16_sub _ (List.mem_of_getElem? (l := wsU_16) (i := 23) rfl)
theorem wsU_17_sub : ∀ w ∈ wsU_17, w ∈ wsU := fun w h => (List.mem_append_right _ (List.mem_append_right _ (List.mem_append_right _ (List.mem_append_right _ (List.mem_append_right _ (List.mem_append_right _ (List.mem_append_right _ (List.mem_append_right _ (List.mem_append_right _ (List.mem_append_right _ (List.mem_append_right _ (List.mem_append_right _ (List.mem_append_right _ (List.mem_append_right _ (List.mem_append_right _ (List.mem_append_right _ (List.mem_append_right _ (List.mem_append_left _ h))))))))))))))))))
theorem qw_1045 : (Cond.methodLink RL 69 yX12_back) ∈ wsU := wsU_17_sub _ (List.mem_of_getElem? (l := wsU_17) (i := 0) rfl)
theorem qw_1046 : (Cond.instanceMethod yX12_back) ∈ wsU := wsU_17_sub _ (List.mem_of_getElem? (l := wsU_17) (i := 1) rfl)
theorem qw_1047 : (Cond.selects RX12 yX12_back yX12_back) ∈ wsU := wsU_17_sub _ (List.mem_of_getElem? (l := wsU_17) (i := 2) rfl)
theorem qw_1048 : (Cond.code yX12_back cX12_back 3 (some .int)) ∈ wsU := wsU_17_sub _ (List.mem_of_getElem? (l := wsU_17) (i := 3) rfl)
theorem qw_1049 : (Cond.methodLink RX12 364 yX12_isKept) ∈ wsU := wsU_17_sub _ (List.mem_of_getElem? (l := wsU_17) (i := 4) rfl)
theorem qw_1050 : (Cond.instanceMethod yX12_isKept) ∈ wsU := wsU_17_sub _ (List.mem_of_getElem? (l := wsU_17) (i := 5) rfl)
theorem qw_1051 : (Cond.selects RX12 yX12_isKept yX12_isKept) ∈ wsU := wsU_17_sub _ (List.mem_of_getElem? (l := wsU_17) (i := 6) rfl)
theorem qw_1052 : (Cond.code yX12_isKept cX12_isKept 2 (some .boolean)) ∈ wsU := wsU_17_sub _ (List.mem_of_getElem? (l := wsU_17) (i := 7) rfl)
theorem qw_1053 : (Cond.methodLink RL 70 yX11_rect) ∈ wsU := wsU_17_sub _ (List.mem_of_getElem? (l := wsU_17) (i := 8) rfl)
theorem qw_1054 : (Cond.instanceMethod yX11_rect) ∈ wsU := wsU_17_sub _ (List.mem_of_getElem? (l := wsU_17) (i := 9) rfl)
theorem qw_1055 : (Cond.selects RX11 yX11_rect yX11_rect) ∈ wsU := wsU_17_sub _ (List.mem_of_getElem? (l := wsU_17) (i := 10) rfl)
theorem qw_1056 : (Cond.code yX11_rect cX11_rect 3 (some .int)) ∈ wsU := wsU_17_sub _ (List.mem_of_getElem? (l := wsU_17) (i := 11) rfl)
theorem qw_1057 : (Cond.constant RX11 217 (-2147483648)) ∈ wsU := wsU_17_sub _ (List.mem_of_getElem? (l := wsU_17) (i := 12) rfl)
theorem qw_1058 : (Cond.methodLink RL 73 yX12_rect) ∈ wsU := wsU_17_sub _ (List.mem_of_getElem? (l := wsU_17) (i := 13) rfl)
theorem qw_1059 : (Cond.instanceMethod yX12_rect) ∈ wsU := wsU_17_sub _ (List.mem_of_getElem? (l := wsU_17) (i := 14) rfl)
theorem qw_1060 : (Cond.selects RX12 yX12_rect yX12_rect) ∈ wsU := wsU_17_sub _ (List.mem_of_getElem? (l := wsU_17) (i := 15) rfl)
theorem qw_1061 : (Cond.code yX12_rect cX12_rect 3 (some .int)) ∈ wsU := wsU_17_sub _ (List.mem_of_getElem? (l := wsU_17) (i := 16) rfl)
theorem qw_1063 : (Cond.constant RX12 369 (-2147483648)) ∈ wsU := wsU_17_sub _ (List.mem_of_getElem? (l := wsU_17) (i := 17) rfl)
theorem qw_1064 : (Cond.methodLink RL 74 yX11_page) ∈ wsU := wsU_17_sub _ (List.mem_of_getElem? (l := wsU_17) (i := 18) rfl)
theorem qw_1065 : (Cond.instanceMethod yX11_page) ∈ wsU := wsU_17_sub _ (List.mem_of_getElem? (l := wsU_17) (i := 19) rfl)
theorem qw_1066 : (Cond.selects RX11 yX11_page yX11_page) ∈ wsU := wsU_17_sub _ (List.mem_of_getElem? (l := wsU_17) (i := 20) rfl)
theorem qw_1067 : (Cond.code yX11_page cX11_page 3 (some .int)) ∈ wsU := wsU_17_sub _ (List.mem_of_getElem? (l := wsU_17) (i := 21) rfl)
theorem qw_1072 : (Cond.methodLink RL 77 yX12_page) ∈ wsU := wsU_17_sub _ (List.mem_of_getElem? (l := wsU_17) (i := 22) rfl)
theorem qw_1073 : (Cond.instanceMethod yX12_page) ∈ wsU := wsU_17_sub _ (List.mem_of_getElem? (l := wsU_17) (i := 23) rfl)
theorem wsU_18_sub : ∀ w ∈ wsU_18, w ∈ wsU := fun w h => (List.mem_append_right _ (List.mem_append_right _ (List.mem_append_right _ (List.mem_append_right _ (List.mem_append_right _ (List.mem_append_right _ (List.mem_append_right _ (List.mem_append_right _ (List.mem_append_right _ (List.mem_append_right _ (List.mem_append_right _ (List.mem_append_right _ (List.mem_append_right _ (List.mem_append_right _ (List.mem_append_right _ (List.mem_append_right _ (List.mem_append_right _ (List.mem_append_right _ (List.mem_append_left _ h)))))))))))))))))))
theorem qw_1074 : (Cond.selects RX12 yX12_page yX12_page) ∈ wsU := wsU_18_sub _ (List.mem_of_getElem? (l := wsU_18) (i := 0) rfl)
theorem qw_1075 : (Cond.code yX12_page cX12_page 4 (some .int)) ∈ wsU := wsU_18_sub _ (List.mem_of_getElem? (l := wsU_18) (i := 1) rfl)
theorem qw_1076 : (Cond.constantLong RX12 373 (7)) ∈ wsU := wsU_18_sub _ (List.mem_of_getElem? (l := wsU_18) (i := 2) rfl)
theorem qw_1081 : (Cond.methodLink RL 78 yX11_entry) ∈ wsU := wsU_18_sub _ (List.mem_of_getElem? (l := wsU_18) (i := 3) rfl)
theorem qw_1082 : (Cond.instanceMethod yX11_entry) ∈ wsU := wsU_18_sub _ (List.mem_of_getElem? (l := wsU_18) (i := 4) rfl)
theorem qw_1083 : (Cond.selects RX11 yX11_entry yX11_entry) ∈ wsU := wsU_18_sub _ (List.mem_of_getElem? (l := wsU_18) (i := 5) rfl)
theorem qw_1084 : (Cond.code yX11_entry cX11_entry 4 (some .int)) ∈ wsU := wsU_18_sub _ (List.mem_of_getElem? (l := wsU_18) (i := 6) rfl)
theorem qw_1086 : (Cond.methodLink RL 81 yX12_entry) ∈ wsU := wsU_18_sub _ (List.mem_of_getElem? (l := wsU_18) (i := 7) rfl)
theorem qw_1087 : (Cond.instanceMethod yX12_entry) ∈ wsU := wsU_18_sub _ (List.mem_of_getElem? (l := wsU_18) (i := 8) rfl)
theorem qw_1088 : (Cond.selects RX12 yX12_entry yX12_entry) ∈ wsU := wsU_18_sub _ (List.mem_of_getElem? (l := wsU_18) (i := 9) rfl)
theorem qw_1089 : (Cond.code yX12_entry cX12_entry 5 (some .int)) ∈ wsU := wsU_18_sub _ (List.mem_of_getElem? (l := wsU_18) (i := 10) rfl)
theorem qw_1090 : (Cond.methodLink RL 82 yX11_choose) ∈ wsU := wsU_18_sub _ (List.mem_of_getElem? (l := wsU_18) (i := 11) rfl)
theorem qw_1091 : (Cond.instanceMethod yX11_choose) ∈ wsU := wsU_18_sub _ (List.mem_of_getElem? (l := wsU_18) (i := 12) rfl)
theorem qw_1092 : (Cond.selects RX11 yX11_choose yX11_choose) ∈ wsU := wsU_18_sub _ (List.mem_of_getElem? (l := wsU_18) (i := 13) rfl)
theorem qw_1093 : (Cond.code yX11_choose cX11_choose 5 (some .int)) ∈ wsU := wsU_18_sub _ (List.mem_of_getElem? (l := wsU_18) (i := 14) rfl)
theorem qw_1102 : (Cond.methodLink RL 86 yX12_choose) ∈ wsU := wsU_18_sub _ (List.mem_of_getElem? (l := wsU_18) (i := 15) rfl)
theorem qw_1103 : (Cond.instanceMethod yX12_choose) ∈ wsU := wsU_18_sub _ (List.mem_of_getElem? (l := wsU_18) (i := 16) rfl)
theorem qw_1104 : (Cond.selects RX12 yX12_choose yX12_choose) ∈ wsU := wsU_18_sub _ (List.mem_of_getElem? (l := wsU_18) (i := 17) rfl)
theorem qw_1105 : (Cond.code yX12_choose cX12_choose 5 (some .int)) ∈ wsU := wsU_18_sub _ (List.mem_of_getElem? (l := wsU_18) (i := 18) rfl)
theorem qw_1106 : (Cond.methodLink RL 87 yX11_window) ∈ wsU := wsU_18_sub _ (List.mem_of_getElem? (l := wsU_18) (i := 19) rfl)
theorem qw_1107 : (Cond.instanceMethod yX11_window) ∈ wsU := wsU_18_sub _ (List.mem_of_getElem? (l := wsU_18) (i := 20) rfl)
theorem qw_1108 : (Cond.selects RX11 yX11_window yX11_window) ∈ wsU := wsU_18_sub _ (List.mem_of_getElem? (l := wsU_18) (i := 21) rfl)
theorem qw_1109 : (Cond.code yX11_window cX11_window 6 (some .int)) ∈ wsU := wsU_18_sub _ (List.mem_of_getElem? (l := wsU_18) (i := 22) rfl)
theorem qw_1139 : (Cond.methodLink RL 90 yX12_window) ∈ wsU := wsU_18_sub _ (List.mem_of_getElem? (l := wsU_18) (i := 23) rfl)
theorem wsU_19_sub : ∀ w ∈ wsU_19, w ∈ wsU := fun w h => (List.mem_append_right _ (List.mem_append_right _ (List.mem_append_right _ (List.mem_append_right _ (List.mem_append_right _ (List.mem_append_right _ (List.mem_append_right _ (List.mem_append_right _ (List.mem_append_right _ (List.mem_append_right _ (List.mem_append_right _ (List.mem_append_right _ (List.mem_append_right _ (List.mem_append_right _ (List.mem_append_right _ (List.mem_append_right _ (List.mem_append_right _ (List.mem_append_right _ (List.mem_append_right _ (List.mem_append_left _ h))))))))))))))))))))
theorem qw_1140 : (Cond.instanceMethod yX12_window) ∈ wsU := wsU_19_sub _ (List.mem_of_getElem? (l := wsU_19) (i := 0) rfl)
theorem qw_1141 : (Cond.selects RX12 yX12_window yX12_window) ∈ wsU := wsU_19_sub _ (List.mem_of_getElem? (l := wsU_19) (i := 1) rfl)
theorem qw_1142 : (Cond.code yX12_window cX12_window 8 (some .int)) ∈ wsU := wsU_19_sub _ (List.mem_of_getElem? (l := wsU_19) (i := 2) rfl)
theorem qw_1151 : (Cond.methodLink RL 91 yX11_nearest) ∈ wsU := wsU_19_sub _ (List.mem_of_getElem? (l := wsU_19) (i := 3) rfl)
theorem qw_1152 : (Cond.instanceMethod yX11_nearest) ∈ wsU := wsU_19_sub _ (List.mem_of_getElem? (l := wsU_19) (i := 4) rfl)
theorem qw_1153 : (Cond.selects RX11 yX11_nearest yX11_nearest) ∈ wsU := wsU_19_sub _ (List.mem_of_getElem? (l := wsU_19) (i := 5) rfl)
theorem qw_1154 : (Cond.code yX11_nearest cX11_nearest 5 (some .int)) ∈ wsU := wsU_19_sub _ (List.mem_of_getElem? (l := wsU_19) (i := 6) rfl)
theorem qw_1200 : (Cond.methodLink RL 94 yX12_nearest) ∈ wsU := wsU_19_sub _ (List.mem_of_getElem? (l := wsU_19) (i := 7) rfl)
theorem qw_1201 : (Cond.instanceMethod yX12_nearest) ∈ wsU := wsU_19_sub _ (List.mem_of_getElem? (l := wsU_19) (i := 8) rfl)
theorem qw_1202 : (Cond.selects RX12 yX12_nearest yX12_nearest) ∈ wsU := wsU_19_sub _ (List.mem_of_getElem? (l := wsU_19) (i := 9) rfl)
theorem qw_1203 : (Cond.code yX12_nearest cX12_nearest 12 (some .int)) ∈ wsU := wsU_19_sub _ (List.mem_of_getElem? (l := wsU_19) (i := 10) rfl)
theorem qw_1224 : (Cond.methodLink RL 95 yX11_pairs) ∈ wsU := wsU_19_sub _ (List.mem_of_getElem? (l := wsU_19) (i := 11) rfl)
theorem qw_1225 : (Cond.instanceMethod yX11_pairs) ∈ wsU := wsU_19_sub _ (List.mem_of_getElem? (l := wsU_19) (i := 12) rfl)
theorem qw_1226 : (Cond.selects RX11 yX11_pairs yX11_pairs) ∈ wsU := wsU_19_sub _ (List.mem_of_getElem? (l := wsU_19) (i := 13) rfl)
theorem qw_1227 : (Cond.code yX11_pairs cX11_pairs 1 (some .int)) ∈ wsU := wsU_19_sub _ (List.mem_of_getElem? (l := wsU_19) (i := 14) rfl)
theorem qw_1239 : (Cond.methodLink RL 98 yX12_pairs) ∈ wsU := wsU_19_sub _ (List.mem_of_getElem? (l := wsU_19) (i := 15) rfl)
theorem qw_1240 : (Cond.instanceMethod yX12_pairs) ∈ wsU := wsU_19_sub _ (List.mem_of_getElem? (l := wsU_19) (i := 16) rfl)
theorem qw_1241 : (Cond.selects RX12 yX12_pairs yX12_pairs) ∈ wsU := wsU_19_sub _ (List.mem_of_getElem? (l := wsU_19) (i := 17) rfl)
theorem qw_1242 : (Cond.code yX12_pairs cX12_pairs 5 (some .int)) ∈ wsU := wsU_19_sub _ (List.mem_of_getElem? (l := wsU_19) (i := 18) rfl)
theorem qw_1243 : (Cond.methodLink RL 99 yX11_union) ∈ wsU := wsU_19_sub _ (List.mem_of_getElem? (l := wsU_19) (i := 19) rfl)
theorem qw_1244 : (Cond.instanceMethod yX11_union) ∈ wsU := wsU_19_sub _ (List.mem_of_getElem? (l := wsU_19) (i := 20) rfl)
theorem qw_1245 : (Cond.selects RX11 yX11_union yX11_union) ∈ wsU := wsU_19_sub _ (List.mem_of_getElem? (l := wsU_19) (i := 21) rfl)
theorem qw_1246 : (Cond.code yX11_union cX11_union 1 (some .long)) ∈ wsU := wsU_19_sub _ (List.mem_of_getElem? (l := wsU_19) (i := 22) rfl)
theorem qw_1247 : (Cond.constantLong RX11 270 (-1)) ∈ wsU := wsU_19_sub _ (List.mem_of_getElem? (l := wsU_19) (i := 23) rfl)
theorem wsU_20_sub : ∀ w ∈ wsU_20, w ∈ wsU := fun w h => (List.mem_append_right _ (List.mem_append_right _ (List.mem_append_right _ (List.mem_append_right _ (List.mem_append_right _ (List.mem_append_right _ (List.mem_append_right _ (List.mem_append_right _ (List.mem_append_right _ (List.mem_append_right _ (List.mem_append_right _ (List.mem_append_right _ (List.mem_append_right _ (List.mem_append_right _ (List.mem_append_right _ (List.mem_append_right _ (List.mem_append_right _ (List.mem_append_right _ (List.mem_append_right _ (List.mem_append_right _ (List.mem_append_left _ h)))))))))))))))))))))
theorem qw_1267 : (Cond.methodLink RL 103 yX12_union) ∈ wsU := wsU_20_sub _ (List.mem_of_getElem? (l := wsU_20) (i := 0) rfl)
theorem qw_1268 : (Cond.instanceMethod yX12_union) ∈ wsU := wsU_20_sub _ (List.mem_of_getElem? (l := wsU_20) (i := 1) rfl)
theorem qw_1269 : (Cond.selects RX12 yX12_union yX12_union) ∈ wsU := wsU_20_sub _ (List.mem_of_getElem? (l := wsU_20) (i := 2) rfl)
theorem qw_1270 : (Cond.code yX12_union cX12_union 6 (some .long)) ∈ wsU := wsU_20_sub _ (List.mem_of_getElem? (l := wsU_20) (i := 3) rfl)
theorem qw_1271 : (Cond.constantLong RX12 407 (-1)) ∈ wsU := wsU_20_sub _ (List.mem_of_getElem? (l := wsU_20) (i := 4) rfl)
theorem qw_1280 : (Cond.methodLink RL 104 yX11_grid) ∈ wsU := wsU_20_sub _ (List.mem_of_getElem? (l := wsU_20) (i := 5) rfl)
theorem qw_1281 : (Cond.instanceMethod yX11_grid) ∈ wsU := wsU_20_sub _ (List.mem_of_getElem? (l := wsU_20) (i := 6) rfl)
theorem qw_1282 : (Cond.selects RX11 yX11_grid yX11_grid) ∈ wsU := wsU_20_sub _ (List.mem_of_getElem? (l := wsU_20) (i := 7) rfl)
theorem qw_1283 : (Cond.code yX11_grid cX11_grid 2 (some .long)) ∈ wsU := wsU_20_sub _ (List.mem_of_getElem? (l := wsU_20) (i := 8) rfl)
theorem qw_1301 : (Cond.methodLink RL 108 yX12_grid) ∈ wsU := wsU_20_sub _ (List.mem_of_getElem? (l := wsU_20) (i := 9) rfl)
theorem qw_1302 : (Cond.instanceMethod yX12_grid) ∈ wsU := wsU_20_sub _ (List.mem_of_getElem? (l := wsU_20) (i := 10) rfl)
theorem qw_1303 : (Cond.selects RX12 yX12_grid yX12_grid) ∈ wsU := wsU_20_sub _ (List.mem_of_getElem? (l := wsU_20) (i := 11) rfl)
theorem qw_1304 : (Cond.code yX12_grid cX12_grid 6 (some .long)) ∈ wsU := wsU_20_sub _ (List.mem_of_getElem? (l := wsU_20) (i := 12) rfl)
theorem qw_1309 : (Cond.methodLink RL 109 yX11_fill) ∈ wsU := wsU_20_sub _ (List.mem_of_getElem? (l := wsU_20) (i := 13) rfl)
theorem qw_1310 : (Cond.instanceMethod yX11_fill) ∈ wsU := wsU_20_sub _ (List.mem_of_getElem? (l := wsU_20) (i := 14) rfl)
theorem qw_1311 : (Cond.selects RX11 yX11_fill yX11_fill) ∈ wsU := wsU_20_sub _ (List.mem_of_getElem? (l := wsU_20) (i := 15) rfl)
theorem qw_1312 : (Cond.code yX11_fill cX11_fill 1 (some .int)) ∈ wsU := wsU_20_sub _ (List.mem_of_getElem? (l := wsU_20) (i := 16) rfl)
theorem qw_1323 : (Cond.methodLink RL 112 yX12_fill) ∈ wsU := wsU_20_sub _ (List.mem_of_getElem? (l := wsU_20) (i := 17) rfl)
theorem qw_1324 : (Cond.instanceMethod yX12_fill) ∈ wsU := wsU_20_sub _ (List.mem_of_getElem? (l := wsU_20) (i := 18) rfl)
theorem qw_1325 : (Cond.selects RX12 yX12_fill yX12_fill) ∈ wsU := wsU_20_sub _ (List.mem_of_getElem? (l := wsU_20) (i := 19) rfl)
theorem qw_1326 : (Cond.code yX12_fill cX12_fill 3 (some .int)) ∈ wsU := wsU_20_sub _ (List.mem_of_getElem? (l := wsU_20) (i := 20) rfl)
theorem qw_1339 : (Cond.methodLink RL 113 yX11_cost) ∈ wsU := wsU_20_sub _ (List.mem_of_getElem? (l := wsU_20) (i := 21) rfl)
theorem qw_1340 : (Cond.instanceMethod yX11_cost) ∈ wsU := wsU_20_sub _ (List.mem_of_getElem? (l := wsU_20) (i := 22) rfl)
theorem qw_1341 : (Cond.selects RX11 yX11_cost yX11_cost) ∈ wsU := wsU_20_sub _ (List.mem_of_getElem? (l := wsU_20) (i := 23) rfl)
theorem wsU_21_sub : ∀ w ∈ wsU_21, w ∈ wsU := fun w h => (List.mem_append_right _ (List.mem_append_right _ (List.mem_append_right _ (List.mem_append_right _ (List.mem_append_right _ (List.mem_append_right _ (List.mem_append_right _ (List.mem_append_right _ (List.mem_append_right _ (List.mem_append_right _ (List.mem_append_right _ (List.mem_append_right _ (List.mem_append_right _ (List.mem_append_right _ (List.mem_append_right _ (List.mem_append_right _ (List.mem_append_right _ (List.mem_append_right _ (List.mem_append_right _ (List.mem_append_right _ (List.mem_append_right _ (List.mem_append_left _ h))))))))))))))))))))))
theorem qw_1342 : (Cond.code yX11_cost cX11_cost 3 (some .long)) ∈ wsU := wsU_21_sub _ (List.mem_of_getElem? (l := wsU_21) (i := 0) rfl)
theorem qw_1358 : (Cond.methodLink RL 117 yX12_cost) ∈ wsU := wsU_21_sub _ (List.mem_of_getElem? (l := wsU_21) (i := 1) rfl)
theorem qw_1359 : (Cond.instanceMethod yX12_cost) ∈ wsU := wsU_21_sub _ (List.mem_of_getElem? (l := wsU_21) (i := 2) rfl)
theorem qw_1360 : (Cond.selects RX12 yX12_cost yX12_cost) ∈ wsU := wsU_21_sub _ (List.mem_of_getElem? (l := wsU_21) (i := 3) rfl)
theorem qw_1361 : (Cond.code yX12_cost cX12_cost 11 (some .long)) ∈ wsU := wsU_21_sub _ (List.mem_of_getElem? (l := wsU_21) (i := 4) rfl)
theorem qw_1375 : (Cond.methodLink RL 118 yX11_overlap) ∈ wsU := wsU_21_sub _ (List.mem_of_getElem? (l := wsU_21) (i := 5) rfl)
theorem qw_1376 : (Cond.instanceMethod yX11_overlap) ∈ wsU := wsU_21_sub _ (List.mem_of_getElem? (l := wsU_21) (i := 6) rfl)
theorem qw_1377 : (Cond.selects RX11 yX11_overlap yX11_overlap) ∈ wsU := wsU_21_sub _ (List.mem_of_getElem? (l := wsU_21) (i := 7) rfl)
theorem qw_1378 : (Cond.code yX11_overlap cX11_overlap 2 (some .long)) ∈ wsU := wsU_21_sub _ (List.mem_of_getElem? (l := wsU_21) (i := 8) rfl)
theorem qw_1388 : (Cond.methodLink RL 121 yX12_overlap) ∈ wsU := wsU_21_sub _ (List.mem_of_getElem? (l := wsU_21) (i := 9) rfl)
theorem qw_1389 : (Cond.instanceMethod yX12_overlap) ∈ wsU := wsU_21_sub _ (List.mem_of_getElem? (l := wsU_21) (i := 10) rfl)
theorem qw_1390 : (Cond.selects RX12 yX12_overlap yX12_overlap) ∈ wsU := wsU_21_sub _ (List.mem_of_getElem? (l := wsU_21) (i := 11) rfl)
theorem qw_1391 : (Cond.code yX12_overlap cX12_overlap 8 (some .long)) ∈ wsU := wsU_21_sub _ (List.mem_of_getElem? (l := wsU_21) (i := 12) rfl)
theorem qw_1392 : (Cond.methodLink RL 122 yX11_same) ∈ wsU := wsU_21_sub _ (List.mem_of_getElem? (l := wsU_21) (i := 13) rfl)
theorem qw_1393 : (Cond.instanceMethod yX11_same) ∈ wsU := wsU_21_sub _ (List.mem_of_getElem? (l := wsU_21) (i := 14) rfl)
theorem qw_1394 : (Cond.selects RX11 yX11_same yX11_same) ∈ wsU := wsU_21_sub _ (List.mem_of_getElem? (l := wsU_21) (i := 15) rfl)
theorem qw_1395 : (Cond.code yX11_same cX11_same 3 (some .int)) ∈ wsU := wsU_21_sub _ (List.mem_of_getElem? (l := wsU_21) (i := 16) rfl)
theorem qw_1404 : (Cond.methodLink RL 125 yX12_same) ∈ wsU := wsU_21_sub _ (List.mem_of_getElem? (l := wsU_21) (i := 17) rfl)
theorem qw_1405 : (Cond.instanceMethod yX12_same) ∈ wsU := wsU_21_sub _ (List.mem_of_getElem? (l := wsU_21) (i := 18) rfl)
theorem qw_1406 : (Cond.selects RX12 yX12_same yX12_same) ∈ wsU := wsU_21_sub _ (List.mem_of_getElem? (l := wsU_21) (i := 19) rfl)
theorem qw_1407 : (Cond.code yX12_same cX12_same 2 (some .int)) ∈ wsU := wsU_21_sub _ (List.mem_of_getElem? (l := wsU_21) (i := 20) rfl)
theorem qw_1416 : (Cond.methodLink RL 126 yX11_count) ∈ wsU := wsU_21_sub _ (List.mem_of_getElem? (l := wsU_21) (i := 21) rfl)
theorem qw_1417 : (Cond.instanceMethod yX11_count) ∈ wsU := wsU_21_sub _ (List.mem_of_getElem? (l := wsU_21) (i := 22) rfl)
theorem qw_1418 : (Cond.selects RX11 yX11_count yX11_count) ∈ wsU := wsU_21_sub _ (List.mem_of_getElem? (l := wsU_21) (i := 23) rfl)
theorem wsU_22_sub : ∀ w ∈ wsU_22, w ∈ wsU := fun w h => (List.mem_append_right _ (List.mem_append_right _ (List.mem_append_right _ (List.mem_append_right _ (List.mem_append_right _ (List.mem_append_right _ (List.mem_append_right _ (List.mem_append_right _ (List.mem_append_right _ (List.mem_append_right _ (List.mem_append_right _ (List.mem_append_right _ (List.mem_append_right _ (List.mem_append_right _ (List.mem_append_right _ (List.mem_append_right _ (List.mem_append_right _ (List.mem_append_right _ (List.mem_append_right _ (List.mem_append_right _ (List.mem_append_right _ (List.mem_append_right _ (List.mem_append_left _ h)))))))))))))))))))))))
theorem qw_1419 : (Cond.code yX11_count cX11_count 2 (some .int)) ∈ wsU := wsU_22_sub _ (List.mem_of_getElem? (l := wsU_22) (i := 0) rfl)
theorem qw_1427 : (Cond.methodLink RL 129 yX12_count) ∈ wsU := wsU_22_sub _ (List.mem_of_getElem? (l := wsU_22) (i := 1) rfl)
theorem qw_1428 : (Cond.instanceMethod yX12_count) ∈ wsU := wsU_22_sub _ (List.mem_of_getElem? (l := wsU_22) (i := 2) rfl)
theorem qw_1429 : (Cond.selects RX12 yX12_count yX12_count) ∈ wsU := wsU_22_sub _ (List.mem_of_getElem? (l := wsU_22) (i := 3) rfl)
theorem qw_1430 : (Cond.code yX12_count cX12_count 2 (some .int)) ∈ wsU := wsU_22_sub _ (List.mem_of_getElem? (l := wsU_22) (i := 4) rfl)
theorem inlX0 : ∀ w ∈ wsX00, w ∈ wsU := fun w h => (List.mem_append_right _ (List.mem_append_right _ (List.mem_append_right _ (List.mem_append_right _ (List.mem_append_right _ (List.mem_append_right _ (List.mem_append_right _ (List.mem_append_right _ (List.mem_append_right _ (List.mem_append_right _ (List.mem_append_right _ (List.mem_append_right _ (List.mem_append_right _ (List.mem_append_right _ (List.mem_append_right _ (List.mem_append_right _ (List.mem_append_right _ (List.mem_append_right _ (List.mem_append_right _ (List.mem_append_right _ (List.mem_append_right _ (List.mem_append_right _ (List.mem_append_right _ (List.mem_append_left _ h))))))))))))))))))))))))
theorem inlX1 : ∀ w ∈ wsX10, w ∈ wsU := fun w h => (List.mem_append_right _ (List.mem_append_right _ (List.mem_append_right _ (List.mem_append_right _ (List.mem_append_right _ (List.mem_append_right _ (List.mem_append_right _ (List.mem_append_right _ (List.mem_append_right _ (List.mem_append_right _ (List.mem_append_right _ (List.mem_append_right _ (List.mem_append_right _ (List.mem_append_right _ (List.mem_append_right _ (List.mem_append_right _ (List.mem_append_right _ (List.mem_append_right _ (List.mem_append_right _ (List.mem_append_right _ (List.mem_append_right _ (List.mem_append_right _ (List.mem_append_right _ (List.mem_append_right _ (List.mem_append_left _ h)))))))))))))))))))))))))
theorem inlX2 : ∀ w ∈ wsX20, w ∈ wsU := fun w h => (List.mem_append_right _ (List.mem_append_right _ (List.mem_append_right _ (List.mem_append_right _ (List.mem_append_right _ (List.mem_append_right _ (List.mem_append_right _ (List.mem_append_right _ (List.mem_append_right _ (List.mem_append_right _ (List.mem_append_right _ (List.mem_append_right _ (List.mem_append_right _ (List.mem_append_right _ (List.mem_append_right _ (List.mem_append_right _ (List.mem_append_right _ (List.mem_append_right _ (List.mem_append_right _ (List.mem_append_right _ (List.mem_append_right _ (List.mem_append_right _ (List.mem_append_right _ (List.mem_append_right _ (List.mem_append_right _ (List.mem_append_left _ h))))))))))))))))))))))))))
theorem inlX3 : ∀ w ∈ wsX30, w ∈ wsU := fun w h => (List.mem_append_right _ (List.mem_append_right _ (List.mem_append_right _ (List.mem_append_right _ (List.mem_append_right _ (List.mem_append_right _ (List.mem_append_right _ (List.mem_append_right _ (List.mem_append_right _ (List.mem_append_right _ (List.mem_append_right _ (List.mem_append_right _ (List.mem_append_right _ (List.mem_append_right _ (List.mem_append_right _ (List.mem_append_right _ (List.mem_append_right _ (List.mem_append_right _ (List.mem_append_right _ (List.mem_append_right _ (List.mem_append_right _ (List.mem_append_right _ (List.mem_append_right _ (List.mem_append_right _ (List.mem_append_right _ (List.mem_append_right _ (List.mem_append_left _ h)))))))))))))))))))))))))))
theorem inlX4 : ∀ w ∈ wsX40, w ∈ wsU := fun w h => (List.mem_append_right _ (List.mem_append_right _ (List.mem_append_right _ (List.mem_append_right _ (List.mem_append_right _ (List.mem_append_right _ (List.mem_append_right _ (List.mem_append_right _ (List.mem_append_right _ (List.mem_append_right _ (List.mem_append_right _ (List.mem_append_right _ (List.mem_append_right _ (List.mem_append_right _ (List.mem_append_right _ (List.mem_append_right _ (List.mem_append_right _ (List.mem_append_right _ (List.mem_append_right _ (List.mem_append_right _ (List.mem_append_right _ (List.mem_append_right _ (List.mem_append_right _ (List.mem_append_right _ (List.mem_append_right _ (List.mem_append_right _ (List.mem_append_right _ (List.mem_append_left _ h))))))))))))))))))))))))))))
theorem inlX5 : ∀ w ∈ wsX50, w ∈ wsU := fun w h => (List.mem_append_right _ (List.mem_append_right _ (List.mem_append_right _ (List.mem_append_right _ (List.mem_append_right _ (List.mem_append_right _ (List.mem_append_right _ (List.mem_append_right _ (List.mem_append_right _ (List.mem_append_right _ (List.mem_append_right _ (List.mem_append_right _ (List.mem_append_right _ (List.mem_append_right _ (List.mem_append_right _ (List.mem_append_right _ (List.mem_append_right _ (List.mem_append_right _ (List.mem_append_right _ (List.mem_append_right _ (List.mem_append_right _ (List.mem_append_right _ (List.mem_append_right _ (List.mem_append_right _ (List.mem_append_right _ (List.mem_append_right _ (List.mem_append_right _ (List.mem_append_right _ (List.mem_append_left _ h)))))))))))))))))))))))))))))
theorem inlX6 : ∀ w ∈ wsX60, w ∈ wsU := fun w h => (List.mem_append_right _ (List.mem_append_right _ (List.mem_append_right _ (List.mem_append_right _ (List.mem_append_right _ (List.mem_append_right _ (List.mem_append_right _ (List.mem_append_right _ (List.mem_append_right _ (List.mem_append_right _ (List.mem_append_right _ (List.mem_append_right _ (List.mem_append_right _ (List.mem_append_right _ (List.mem_append_right _ (List.mem_append_right _ (List.mem_append_right _ (List.mem_append_right _ (List.mem_append_right _ (List.mem_append_right _ (List.mem_append_right _ (List.mem_append_right _ (List.mem_append_right _ (List.mem_append_right _ (List.mem_append_right _ (List.mem_append_right _ (List.mem_append_right _ (List.mem_append_right _ (List.mem_append_right _ (List.mem_append_left _ h))))))))))))))))))))))))))))))
theorem inlX7 : ∀ w ∈ wsX70, w ∈ wsU := fun w h => (List.mem_append_right _ (List.mem_append_right _ (List.mem_append_right _ (List.mem_append_right _ (List.mem_append_right _ (List.mem_append_right _ (List.mem_append_right _ (List.mem_append_right _ (List.mem_append_right _ (List.mem_append_right _ (List.mem_append_right _ (List.mem_append_right _ (List.mem_append_right _ (List.mem_append_right _ (List.mem_append_right _ (List.mem_append_right _ (List.mem_append_right _ (List.mem_append_right _ (List.mem_append_right _ (List.mem_append_right _ (List.mem_append_right _ (List.mem_append_right _ (List.mem_append_right _ (List.mem_append_right _ (List.mem_append_right _ (List.mem_append_right _ (List.mem_append_right _ (List.mem_append_right _ (List.mem_append_right _ (List.mem_append_right _ (List.mem_append_left _ h)))))))))))))))))))))))))))))))
theorem inlX8 : ∀ w ∈ wsX80, w ∈ wsU := fun w h => (List.mem_append_right _ (List.mem_append_right _ (List.mem_append_right _ (List.mem_append_right _ (List.mem_append_right _ (List.mem_append_right _ (List.mem_append_right _ (List.mem_append_right _ (List.mem_append_right _ (List.mem_append_right _ (List.mem_append_right _ (List.mem_append_right _ (List.mem_append_right _ (List.mem_append_right _ (List.mem_append_right _ (List.mem_append_right _ (List.mem_append_right _ (List.mem_append_right _ (List.mem_append_right _ (List.mem_append_right _ (List.mem_append_right _ (List.mem_append_right _ (List.mem_append_right _ (List.mem_append_right _ (List.mem_append_right _ (List.mem_append_right _ (List.mem_append_right _ (List.mem_append_right _ (List.mem_append_right _ (List.mem_append_right _ (List.mem_append_right _ (List.mem_append_left _ h))))))))))))))))))))))))))))))))
theorem inlX9 : ∀ w ∈ wsX90, w ∈ wsU := fun w h => (List.mem_append_right _ (List.mem_append_right _ (List.mem_append_right _ (List.mem_append_right _ (List.mem_append_right _ (List.mem_append_right _ (List.mem_append_right _ (List.mem_append_right _ (List.mem_append_right _ (List.mem_append_right _ (List.mem_append_right _ (List.mem_append_right _ (List.mem_append_right _ (List.mem_append_right _ (List.mem_append_right _ (List.mem_append_right _ (List.mem_append_right _ (List.mem_append_right _ (List.mem_append_right _ (List.mem_append_right _ (List.mem_append_right _ (List.mem_append_right _ (List.mem_append_right _ (List.mem_append_right _ (List.mem_append_right _ (List.mem_append_right _ (List.mem_append_right _ (List.mem_append_right _ (List.mem_append_right _ (List.mem_append_right _ (List.mem_append_right _ (List.mem_append_right _ (List.mem_append_left _ h)))))))))))))))))))))))))))))))))
theorem inlX10 : ∀ w ∈ wsX100, w ∈ wsU := fun w h => (List.mem_append_right _ (List.mem_append_right _ (List.mem_append_right _ (List.mem_append_right _ (List.mem_append_right _ (List.mem_append_right _ (List.mem_append_right _ (List.mem_append_right _ (List.mem_append_right _ (List.mem_append_right _ (List.mem_append_right _ (List.mem_append_right _ (List.mem_append_right _ (List.mem_append_right _ (List.mem_append_right _ (List.mem_append_right _ (List.mem_append_right _ (List.mem_append_right _ (List.mem_append_right _ (List.mem_append_right _ (List.mem_append_right _ (List.mem_append_right _ (List.mem_append_right _ (List.mem_append_right _ (List.mem_append_right _ (List.mem_append_right _ (List.mem_append_right _ (List.mem_append_right _ (List.mem_append_right _ (List.mem_append_right _ (List.mem_append_right _ (List.mem_append_right _ (List.mem_append_right _ (List.mem_append_left _ h))))))))))))))))))))))))))))))))))
theorem inlX11 : ∀ w ∈ wsX110, w ∈ wsU := fun w h => (List.mem_append_right _ (List.mem_append_right _ (List.mem_append_right _ (List.mem_append_right _ (List.mem_append_right _ (List.mem_append_right _ (List.mem_append_right _ (List.mem_append_right _ (List.mem_append_right _ (List.mem_append_right _ (List.mem_append_right _ (List.mem_append_right _ (List.mem_append_right _ (List.mem_append_right _ (List.mem_append_right _ (List.mem_append_right _ (List.mem_append_right _ (List.mem_append_right _ (List.mem_append_right _ (List.mem_append_right _ (List.mem_append_right _ (List.mem_append_right _ (List.mem_append_right _ (List.mem_append_right _ (List.mem_append_right _ (List.mem_append_right _ (List.mem_append_right _ (List.mem_append_right _ (List.mem_append_right _ (List.mem_append_right _ (List.mem_append_right _ (List.mem_append_right _ (List.mem_append_right _ (List.mem_append_right _ (List.mem_append_left _ h)))))))))))))))))))))))))))))))))))
theorem inlX12 : ∀ w ∈ wsX120, w ∈ wsU := fun w h => (List.mem_append_right _ (List.mem_append_right _ (List.mem_append_right _ (List.mem_append_right _ (List.mem_append_right _ (List.mem_append_right _ (List.mem_append_right _ (List.mem_append_right _ (List.mem_append_right _ (List.mem_append_right _ (List.mem_append_right _ (List.mem_append_right _ (List.mem_append_right _ (List.mem_append_right _ (List.mem_append_right _ (List.mem_append_right _ (List.mem_append_right _ (List.mem_append_right _ (List.mem_append_right _ (List.mem_append_right _ (List.mem_append_right _ (List.mem_append_right _ (List.mem_append_right _ (List.mem_append_right _ (List.mem_append_right _ (List.mem_append_right _ (List.mem_append_right _ (List.mem_append_right _ (List.mem_append_right _ (List.mem_append_right _ (List.mem_append_right _ (List.mem_append_right _ (List.mem_append_right _ (List.mem_append_right _ (List.mem_append_right _ h)))))))))))))))))))))))))))))))))))
end
section
theorem dX0_init_0 : decode cX0_init 0 = .ok (.aload_n 0, 1) := by decide +kernel
theorem dX0_init_1 : decode cX0_init 1 = .ok (.invokespecial 1, 3) := by decide +kernel
theorem dX0_init_4 : decode cX0_init 4 = .ok (.return_, 1) := by decide +kernel
theorem dX1_init_0 : decode cX1_init 0 = .ok (.aload_n 0, 1) := by decide +kernel
theorem dX1_init_1 : decode cX1_init 1 = .ok (.invokespecial 3, 3) := by decide +kernel
theorem dX1_init_4 : decode cX1_init 4 = .ok (.aload_n 0, 1) := by decide +kernel
theorem dX1_init_5 : decode cX1_init 5 = .ok (.new 9, 3) := by decide +kernel
theorem dX1_init_8 : decode cX1_init 8 = .ok (.dup, 1) := by decide +kernel
theorem dX1_init_9 : decode cX1_init 9 = .ok (.invokespecial 11, 3) := by decide +kernel
theorem dX1_init_12 : decode cX1_init 12 = .ok (.putfield 12, 3) := by decide +kernel
theorem dX1_init_15 : decode cX1_init 15 = .ok (.aload_n 0, 1) := by decide +kernel
theorem dX1_init_16 : decode cX1_init 16 = .ok (.new 9, 3) := by decide +kernel
theorem dX1_init_19 : decode cX1_init 19 = .ok (.dup, 1) := by decide +kernel
theorem dX1_init_20 : decode cX1_init 20 = .ok (.invokespecial 11, 3) := by decide +kernel
theorem dX1_init_23 : decode cX1_init 23 = .ok (.putfield 18, 3) := by decide +kernel
theorem dX1_init_26 : decode cX1_init 26 = .ok (.aload_n 0, 1) := by decide +kernel
theorem dX1_init_27 : decode cX1_init 27 = .ok (.new 9, 3) := by decide +kernel
theorem dX1_init_30 : decode cX1_init 30 = .ok (.dup, 1) := by decide +kernel
theorem dX1_init_31 : decode cX1_init 31 = .ok (.invokespecial 11, 3) := by decide +kernel
theorem dX1_init_34 : decode cX1_init 34 = .ok (.putfield 21, 3) := by decide +kernel
theorem dX1_init_37 : decode cX1_init 37 = .ok (.aload_n 0, 1) := by decide +kernel
theorem dX1_init_38 : decode cX1_init 38 = .ok (.new 9, 3) := by decide +kernel
theorem dX1_init_41 : decode cX1_init 41 = .ok (.dup, 1) := by decide +kernel
theorem dX1_init_42 : decode cX1_init 42 = .ok (.invokespecial 11, 3) := by decide +kernel
theorem dX1_init_45 : decode cX1_init 45 = .ok (.putfield 24, 3) := by decide +kernel
theorem dX1_init_48 : decode cX1_init 48 = .ok (.return_, 1) := by decide +kernel
theorem dX2_init_0 : decode cX2_init 0 = .ok (.aload_n 0, 1) := by decide +kernel
theorem dX2_init_1 : decode cX2_init 1 = .ok (.invokespecial 3, 3) := by decide +kernel
theorem dX2_init_4 : decode cX2_init 4 = .ok (.aload_n 0, 1) := by decide +kernel
theorem dX2_init_5 : decode cX2_init 5 = .ok (.new 9, 3) := by decide +kernel
theorem dX2_init_8 : decode cX2_init 8 = .ok (.dup, 1) := by decide +kernel
theorem dX2_init_9 : decode cX2_init 9 = .ok (.invokespecial 11, 3) := by decide +kernel
theorem dX2_init_12 : decode cX2_init 12 = .ok (.putfield 12, 3) := by decide +kernel
theorem dX2_init_15 : decode cX2_init 15 = .ok (.aload_n 0, 1) := by decide +kernel
theorem dX2_init_16 : decode cX2_init 16 = .ok (.new 18, 3) := by decide +kernel
theorem dX2_init_19 : decode cX2_init 19 = .ok (.dup, 1) := by decide +kernel
theorem dX2_init_20 : decode cX2_init 20 = .ok (.invokespecial 20, 3) := by decide +kernel
theorem dX2_init_23 : decode cX2_init 23 = .ok (.putfield 21, 3) := by decide +kernel
theorem dX2_init_26 : decode cX2_init 26 = .ok (.aload_n 0, 1) := by decide +kernel
theorem dX2_init_27 : decode cX2_init 27 = .ok (.bipush 9, 2) := by decide +kernel
theorem dX2_init_29 : decode cX2_init 29 = .ok (.newarray .int, 2) := by decide +kernel
theorem dX2_init_31 : decode cX2_init 31 = .ok (.putfield 27, 3) := by decide +kernel
theorem dX2_init_34 : decode cX2_init 34 = .ok (.aload_n 0, 1) := by decide +kernel
theorem dX2_init_35 : decode cX2_init 35 = .ok (.bipush 64, 2) := by decide +kernel
theorem dX2_init_37 : decode cX2_init 37 = .ok (.newarray .int, 2) := by decide +kernel
theorem dX2_init_39 : decode cX2_init 39 = .ok (.putfield 31, 3) := by decide +kernel
theorem dX2_init_42 : decode cX2_init 42 = .ok (.aload_n 0, 1) := by decide +kernel
theorem dX2_init_43 : decode cX2_init 43 = .ok (.bipush 64, 2) := by decide +kernel
theorem dX2_init_45 : decode cX2_init 45 = .ok (.newarray .int, 2) := by decide +kernel
theorem dX2_init_47 : decode cX2_init 47 = .ok (.putfield 34, 3) := by decide +kernel
theorem dX2_init_50 : decode cX2_init 50 = .ok (.aload_n 0, 1) := by decide +kernel
theorem dX2_init_51 : decode cX2_init 51 = .ok (.bipush 64, 2) := by decide +kernel
theorem dX2_init_53 : decode cX2_init 53 = .ok (.newarray .int, 2) := by decide +kernel
theorem dX2_init_55 : decode cX2_init 55 = .ok (.putfield 37, 3) := by decide +kernel
theorem dX2_init_58 : decode cX2_init 58 = .ok (.aload_n 0, 1) := by decide +kernel
theorem dX2_init_59 : decode cX2_init 59 = .ok (.iconst 0, 1) := by decide +kernel
theorem dX2_init_60 : decode cX2_init 60 = .ok (.putfield 40, 3) := by decide +kernel
theorem dX2_init_63 : decode cX2_init 63 = .ok (.aload_n 0, 1) := by decide +kernel
theorem dX2_init_64 : decode cX2_init 64 = .ok (.iconst 0, 1) := by decide +kernel
theorem dX2_init_65 : decode cX2_init 65 = .ok (.putfield 44, 3) := by decide +kernel
theorem dX2_init_68 : decode cX2_init 68 = .ok (.return_, 1) := by decide +kernel
theorem dX3_init_0 : decode cX3_init 0 = .ok (.aload_n 0, 1) := by decide +kernel
theorem dX3_init_1 : decode cX3_init 1 = .ok (.invokespecial 1, 3) := by decide +kernel
theorem dX3_init_4 : decode cX3_init 4 = .ok (.aload_n 0, 1) := by decide +kernel
theorem dX3_init_5 : decode cX3_init 5 = .ok (.bipush 8, 2) := by decide +kernel
theorem dX3_init_7 : decode cX3_init 7 = .ok (.anewarray 9, 3) := by decide +kernel
theorem dX3_init_10 : decode cX3_init 10 = .ok (.putfield 11, 3) := by decide +kernel
theorem dX3_init_13 : decode cX3_init 13 = .ok (.aload_n 0, 1) := by decide +kernel
theorem dX3_init_14 : decode cX3_init 14 = .ok (.bipush 8, 2) := by decide +kernel
theorem dX3_init_16 : decode cX3_init 16 = .ok (.newarray .int, 2) := by decide +kernel
theorem dX3_init_18 : decode cX3_init 18 = .ok (.putfield 15, 3) := by decide +kernel
theorem dX3_init_21 : decode cX3_init 21 = .ok (.aload_n 0, 1) := by decide +kernel
theorem dX3_init_22 : decode cX3_init 22 = .ok (.iconst 0, 1) := by decide +kernel
theorem dX3_init_23 : decode cX3_init 23 = .ok (.putfield 19, 3) := by decide +kernel
theorem dX3_init_26 : decode cX3_init 26 = .ok (.aload_n 0, 1) := by decide +kernel
theorem dX3_init_27 : decode cX3_init 27 = .ok (.iconst 0, 1) := by decide +kernel
theorem dX3_init_28 : decode cX3_init 28 = .ok (.putfield 23, 3) := by decide +kernel
theorem dX3_init_31 : decode cX3_init 31 = .ok (.return_, 1) := by decide +kernel
theorem dX4_init_0 : decode cX4_init 0 = .ok (.aload_n 0, 1) := by decide +kernel
theorem dX4_init_1 : decode cX4_init 1 = .ok (.invokespecial 3, 3) := by decide +kernel
theorem dX4_init_4 : decode cX4_init 4 = .ok (.aload_n 0, 1) := by decide +kernel
theorem dX4_init_5 : decode cX4_init 5 = .ok (.bipush 100, 2) := by decide +kernel
theorem dX4_init_7 : decode cX4_init 7 = .ok (.newarray .int, 2) := by decide +kernel
theorem dX4_init_9 : decode cX4_init 9 = .ok (.putfield 9, 3) := by decide +kernel
theorem dX4_init_12 : decode cX4_init 12 = .ok (.aload_n 0, 1) := by decide +kernel
theorem dX4_init_13 : decode cX4_init 13 = .ok (.sipush 200, 3) := by decide +kernel
theorem dX4_init_16 : decode cX4_init 16 = .ok (.newarray .int, 2) := by decide +kernel
theorem dX4_init_18 : decode cX4_init 18 = .ok (.putfield 15, 3) := by decide +kernel
theorem dX4_init_21 : decode cX4_init 21 = .ok (.aload_n 0, 1) := by decide +kernel
theorem dX4_init_22 : decode cX4_init 22 = .ok (.new 18, 3) := by decide +kernel
theorem dX4_init_25 : decode cX4_init 25 = .ok (.dup, 1) := by decide +kernel
theorem dX4_init_26 : decode cX4_init 26 = .ok (.invokespecial 20, 3) := by decide +kernel
theorem dX4_init_29 : decode cX4_init 29 = .ok (.putfield 21, 3) := by decide +kernel
theorem dX4_init_32 : decode cX4_init 32 = .ok (.aload_n 0, 1) := by decide +kernel
theorem dX4_init_33 : decode cX4_init 33 = .ok (.new 18, 3) := by decide +kernel
theorem dX4_init_36 : decode cX4_init 36 = .ok (.dup, 1) := by decide +kernel
theorem dX4_init_37 : decode cX4_init 37 = .ok (.invokespecial 20, 3) := by decide +kernel
theorem dX4_init_40 : decode cX4_init 40 = .ok (.putfield 25, 3) := by decide +kernel
theorem dX4_init_43 : decode cX4_init 43 = .ok (.return_, 1) := by decide +kernel
theorem dX5_init_0 : decode cX5_init 0 = .ok (.aload_n 0, 1) := by decide +kernel
theorem dX5_init_1 : decode cX5_init 1 = .ok (.invokespecial 3, 3) := by decide +kernel
theorem dX5_init_4 : decode cX5_init 4 = .ok (.aload_n 0, 1) := by decide +kernel
theorem dX5_init_5 : decode cX5_init 5 = .ok (.bipush 32, 2) := by decide +kernel
theorem dX5_init_7 : decode cX5_init 7 = .ok (.newarray .int, 2) := by decide +kernel
theorem dX5_init_9 : decode cX5_init 9 = .ok (.putfield 11, 3) := by decide +kernel
theorem dX5_init_12 : decode cX5_init 12 = .ok (.aload_n 0, 1) := by decide +kernel
theorem dX5_init_13 : decode cX5_init 13 = .ok (.bipush 32, 2) := by decide +kernel
theorem dX5_init_15 : decode cX5_init 15 = .ok (.newarray .int, 2) := by decide +kernel
theorem dX5_init_17 : decode cX5_init 17 = .ok (.putfield 17, 3) := by decide +kernel
theorem dX5_init_20 : decode cX5_init 20 = .ok (.return_, 1) := by decide +kernel
theorem dX6_init_0 : decode cX6_init 0 = .ok (.aload_n 0, 1) := by decide +kernel
theorem dX6_init_1 : decode cX6_init 1 = .ok (.invokespecial 3, 3) := by decide +kernel
theorem dX6_init_4 : decode cX6_init 4 = .ok (.aload_n 0, 1) := by decide +kernel
theorem dX6_init_5 : decode cX6_init 5 = .ok (.new 9, 3) := by decide +kernel
theorem dX6_init_8 : decode cX6_init 8 = .ok (.dup, 1) := by decide +kernel
theorem dX6_init_9 : decode cX6_init 9 = .ok (.invokespecial 11, 3) := by decide +kernel
theorem dX6_init_12 : decode cX6_init 12 = .ok (.putfield 12, 3) := by decide +kernel
theorem dX6_init_15 : decode cX6_init 15 = .ok (.aload_n 0, 1) := by decide +kernel
theorem dX6_init_16 : decode cX6_init 16 = .ok (.new 9, 3) := by decide +kernel
theorem dX6_init_19 : decode cX6_init 19 = .ok (.dup, 1) := by decide +kernel
theorem dX6_init_20 : decode cX6_init 20 = .ok (.invokespecial 11, 3) := by decide +kernel
theorem dX6_init_23 : decode cX6_init 23 = .ok (.putfield 18, 3) := by decide +kernel
theorem dX6_init_26 : decode cX6_init 26 = .ok (.aload_n 0, 1) := by decide +kernel
theorem dX6_init_27 : decode cX6_init 27 = .ok (.bipush 32, 2) := by decide +kernel
theorem dX6_init_29 : decode cX6_init 29 = .ok (.newarray .boolean, 2) := by decide +kernel
theorem dX6_init_31 : decode cX6_init 31 = .ok (.putfield 23, 3) := by decide +kernel
theorem dX6_init_34 : decode cX6_init 34 = .ok (.aload_n 0, 1) := by decide +kernel
theorem dX6_init_35 : decode cX6_init 35 = .ok (.sipush 132, 3) := by decide +kernel
theorem dX6_init_38 : decode cX6_init 38 = .ok (.newarray .int, 2) := by decide +kernel
theorem dX6_init_40 : decode cX6_init 40 = .ok (.putfield 27, 3) := by decide +kernel
theorem dX6_init_43 : decode cX6_init 43 = .ok (.aload_n 0, 1) := by decide +kernel
theorem dX6_init_44 : decode cX6_init 44 = .ok (.sipush 132, 3) := by decide +kernel
theorem dX6_init_47 : decode cX6_init 47 = .ok (.newarray .long, 2) := by decide +kernel
theorem dX6_init_49 : decode cX6_init 49 = .ok (.putfield 31, 3) := by decide +kernel
theorem dX6_init_52 : decode cX6_init 52 = .ok (.return_, 1) := by decide +kernel
theorem dX7_init_0 : decode cX7_init 0 = .ok (.aload_n 0, 1) := by decide +kernel
theorem dX7_init_1 : decode cX7_init 1 = .ok (.invokespecial 1, 3) := by decide +kernel
theorem dX7_init_4 : decode cX7_init 4 = .ok (.aload_n 0, 1) := by decide +kernel
theorem dX7_init_5 : decode cX7_init 5 = .ok (.iconst 4, 1) := by decide +kernel
theorem dX7_init_6 : decode cX7_init 6 = .ok (.bipush 9, 2) := by decide +kernel
theorem dX7_init_8 : decode cX7_init 8 = .ok (.multianewarray 11 2, 4) := by decide +kernel
theorem dX7_init_12 : decode cX7_init 12 = .ok (.putfield 13, 3) := by decide +kernel
theorem dX7_init_15 : decode cX7_init 15 = .ok (.aload_n 0, 1) := by decide +kernel
theorem dX7_init_16 : decode cX7_init 16 = .ok (.new 16, 3) := by decide +kernel
theorem dX7_init_19 : decode cX7_init 19 = .ok (.dup, 1) := by decide +kernel
theorem dX7_init_20 : decode cX7_init 20 = .ok (.invokespecial 18, 3) := by decide +kernel
theorem dX7_init_23 : decode cX7_init 23 = .ok (.putfield 19, 3) := by decide +kernel
theorem dX7_init_26 : decode cX7_init 26 = .ok (.aload_n 0, 1) := by decide +kernel
theorem dX7_init_27 : decode cX7_init 27 = .ok (.new 16, 3) := by decide +kernel
theorem dX7_init_30 : decode cX7_init 30 = .ok (.dup, 1) := by decide +kernel
theorem dX7_init_31 : decode cX7_init 31 = .ok (.invokespecial 18, 3) := by decide +kernel
theorem dX7_init_34 : decode cX7_init 34 = .ok (.putfield 23, 3) := by decide +kernel
theorem dX7_init_37 : decode cX7_init 37 = .ok (.return_, 1) := by decide +kernel
theorem dX8_init_0 : decode cX8_init 0 = .ok (.aload_n 0, 1) := by decide +kernel
theorem dX8_init_1 : decode cX8_init 1 = .ok (.invokespecial 3, 3) := by decide +kernel
theorem dX8_init_4 : decode cX8_init 4 = .ok (.aload_n 0, 1) := by decide +kernel
theorem dX8_init_5 : decode cX8_init 5 = .ok (.bipush 20, 2) := by decide +kernel
theorem dX8_init_7 : decode cX8_init 7 = .ok (.newarray .int, 2) := by decide +kernel
theorem dX8_init_9 : decode cX8_init 9 = .ok (.putfield 11, 3) := by decide +kernel
theorem dX8_init_12 : decode cX8_init 12 = .ok (.aload_n 0, 1) := by decide +kernel
theorem dX8_init_13 : decode cX8_init 13 = .ok (.bipush 80, 2) := by decide +kernel
theorem dX8_init_15 : decode cX8_init 15 = .ok (.newarray .int, 2) := by decide +kernel
theorem dX8_init_17 : decode cX8_init 17 = .ok (.putfield 15, 3) := by decide +kernel
theorem dX8_init_20 : decode cX8_init 20 = .ok (.aload_n 0, 1) := by decide +kernel
theorem dX8_init_21 : decode cX8_init 21 = .ok (.sipush 300, 3) := by decide +kernel
theorem dX8_init_24 : decode cX8_init 24 = .ok (.newarray .byte, 2) := by decide +kernel
theorem dX8_init_26 : decode cX8_init 26 = .ok (.putfield 18, 3) := by decide +kernel
theorem dX8_init_29 : decode cX8_init 29 = .ok (.aload_n 0, 1) := by decide +kernel
theorem dX8_init_30 : decode cX8_init 30 = .ok (.iconst 0, 1) := by decide +kernel
theorem dX8_init_31 : decode cX8_init 31 = .ok (.putfield 22, 3) := by decide +kernel
theorem dX8_init_34 : decode cX8_init 34 = .ok (.return_, 1) := by decide +kernel
theorem dX8_hasRoom_0 : decode cX8_hasRoom 0 = .ok (.aload_n 0, 1) := by decide +kernel
theorem dX8_hasRoom_1 : decode cX8_hasRoom 1 = .ok (.getfield 22, 3) := by decide +kernel
theorem dX8_hasRoom_4 : decode cX8_hasRoom 4 = .ok (.bipush 20, 2) := by decide +kernel
theorem dX8_hasRoom_6 : decode cX8_hasRoom 6 = .ok (.iadd, 1) := by decide +kernel
theorem dX8_hasRoom_7 : decode cX8_hasRoom 7 = .ok (.sipush 300, 3) := by decide +kernel
theorem dX8_hasRoom_10 : decode cX8_hasRoom 10 = .ok (.if_icmp .gt 7, 3) := by decide +kernel
theorem dX8_hasRoom_13 : decode cX8_hasRoom 13 = .ok (.iconst 1, 1) := by decide +kernel
theorem dX8_hasRoom_14 : decode cX8_hasRoom 14 = .ok (.goto 4, 3) := by decide +kernel
theorem dX8_hasRoom_18 : decode cX8_hasRoom 18 = .ok (.ireturn, 1) := by decide +kernel
theorem dX8_write_0 : decode cX8_write 0 = .ok (.bipush 24, 2) := by decide +kernel
theorem dX8_write_2 : decode cX8_write 2 = .ok (.istore_n 2, 1) := by decide +kernel
theorem dX8_write_3 : decode cX8_write 3 = .ok (.iload_n 2, 1) := by decide +kernel
theorem dX8_write_4 : decode cX8_write 4 = .ok (.ifCond .lt 42, 3) := by decide +kernel
theorem dX8_write_7 : decode cX8_write 7 = .ok (.aload_n 0, 1) := by decide +kernel
theorem dX8_write_8 : decode cX8_write 8 = .ok (.getfield 22, 3) := by decide +kernel
theorem dX8_write_11 : decode cX8_write 11 = .ok (.sipush 300, 3) := by decide +kernel
theorem dX8_write_14 : decode cX8_write 14 = .ok (.if_icmp .ge 32, 3) := by decide +kernel
theorem dX8_write_17 : decode cX8_write 17 = .ok (.aload_n 0, 1) := by decide +kernel
theorem dX8_write_18 : decode cX8_write 18 = .ok (.getfield 18, 3) := by decide +kernel
theorem dX8_write_21 : decode cX8_write 21 = .ok (.aload_n 0, 1) := by decide +kernel
theorem dX8_write_22 : decode cX8_write 22 = .ok (.getfield 22, 3) := by decide +kernel
theorem dX8_write_25 : decode cX8_write 25 = .ok (.iload_n 1, 1) := by decide +kernel
theorem dX8_write_26 : decode cX8_write 26 = .ok (.iload_n 2, 1) := by decide +kernel
theorem dX8_write_27 : decode cX8_write 27 = .ok (.ishr, 1) := by decide +kernel
theorem dX8_write_28 : decode cX8_write 28 = .ok (.i2b, 1) := by decide +kernel
theorem dX8_write_29 : decode cX8_write 29 = .ok (.bastore, 1) := by decide +kernel
theorem dX8_write_30 : decode cX8_write 30 = .ok (.aload_n 0, 1) := by decide +kernel
theorem dX8_write_31 : decode cX8_write 31 = .ok (.dup, 1) := by decide +kernel
theorem dX8_write_32 : decode cX8_write 32 = .ok (.getfield 22, 3) := by decide +kernel
theorem dX8_write_35 : decode cX8_write 35 = .ok (.iconst 1, 1) := by decide +kernel
theorem dX8_write_36 : decode cX8_write 36 = .ok (.iadd, 1) := by decide +kernel
theorem dX8_write_37 : decode cX8_write 37 = .ok (.putfield 22, 3) := by decide +kernel
theorem dX8_write_40 : decode cX8_write 40 = .ok (.iinc 2 (-8), 3) := by decide +kernel
theorem dX8_write_43 : decode cX8_write 43 = .ok (.goto (-40), 3) := by decide +kernel
theorem dX8_write_46 : decode cX8_write 46 = .ok (.return_, 1) := by decide +kernel
theorem dX8_read_0 : decode cX8_read 0 = .ok (.aload_n 0, 1) := by decide +kernel
theorem dX8_read_1 : decode cX8_read 1 = .ok (.iconst 0, 1) := by decide +kernel
theorem dX8_read_2 : decode cX8_read 2 = .ok (.putfield 26, 3) := by decide +kernel
theorem dX8_read_5 : decode cX8_read 5 = .ok (.aload_n 0, 1) := by decide +kernel
theorem dX8_read_6 : decode cX8_read 6 = .ok (.iconst 0, 1) := by decide +kernel
theorem dX8_read_7 : decode cX8_read 7 = .ok (.putfield 29, 3) := by decide +kernel
theorem dX8_read_10 : decode cX8_read 10 = .ok (.aload_n 0, 1) := by decide +kernel
theorem dX8_read_11 : decode cX8_read 11 = .ok (.iconst 0, 1) := by decide +kernel
theorem dX8_read_12 : decode cX8_read 12 = .ok (.putfield 32, 3) := by decide +kernel
theorem dX8_read_15 : decode cX8_read 15 = .ok (.aload_n 0, 1) := by decide +kernel
theorem dX8_read_16 : decode cX8_read 16 = .ok (.iconst 0, 1) := by decide +kernel
theorem dX8_read_17 : decode cX8_read 17 = .ok (.putfield 35, 3) := by decide +kernel
theorem dX8_read_20 : decode cX8_read 20 = .ok (.aload_n 0, 1) := by decide +kernel
theorem dX8_read_21 : decode cX8_read 21 = .ok (.ldc 38, 2) := by decide +kernel
theorem dX8_read_23 : decode cX8_read 23 = .ok (.invokevirtual 40, 3) := by decide +kernel
theorem dX8_read_26 : decode cX8_read 26 = .ok (.aload_n 0, 1) := by decide +kernel
theorem dX8_read_27 : decode cX8_read 27 = .ok (.aload_n 0, 1) := by decide +kernel
theorem dX8_read_28 : decode cX8_read 28 = .ok (.iconst 3, 1) := by decide +kernel
theorem dX8_read_29 : decode cX8_read 29 = .ok (.bipush 8, 2) := by decide +kernel
theorem dX8_read_31 : decode cX8_read 31 = .ok (.iconst 0, 1) := by decide +kernel
theorem dX8_read_32 : decode cX8_read 32 = .ok (.invokevirtual 44, 3) := by decide +kernel
theorem dX8_read_35 : decode cX8_read 35 = .ok (.putfield 48, 3) := by decide +kernel
theorem dX8_read_38 : decode cX8_read 38 = .ok (.aload_n 0, 1) := by decide +kernel
theorem dX8_read_39 : decode cX8_read 39 = .ok (.aload_n 0, 1) := by decide +kernel
theorem dX8_read_40 : decode cX8_read 40 = .ok (.iconst 1, 1) := by decide +kernel
theorem dX8_read_41 : decode cX8_read 41 = .ok (.iconst 4, 1) := by decide +kernel
theorem dX8_read_42 : decode cX8_read 42 = .ok (.aload_n 0, 1) := by decide +kernel
theorem dX8_read_43 : decode cX8_read 43 = .ok (.getfield 48, 3) := by decide +kernel
theorem dX8_read_46 : decode cX8_read 46 = .ok (.iconst 2, 1) := by decide +kernel
theorem dX8_read_47 : decode cX8_read 47 = .ok (.idiv, 1) := by decide +kernel
theorem dX8_read_48 : decode cX8_read 48 = .ok (.invokestatic 51, 3) := by decide +kernel
theorem dX8_read_51 : decode cX8_read 51 = .ok (.iconst 0, 1) := by decide +kernel
theorem dX8_read_52 : decode cX8_read 52 = .ok (.invokevirtual 44, 3) := by decide +kernel
theorem dX8_read_55 : decode cX8_read 55 = .ok (.putfield 57, 3) := by decide +kernel
theorem dX8_read_58 : decode cX8_read 58 = .ok (.aload_n 0, 1) := by decide +kernel
theorem dX8_read_59 : decode cX8_read 59 = .ok (.aload_n 0, 1) := by decide +kernel
theorem dX8_read_60 : decode cX8_read 60 = .ok (.iconst 1, 1) := by decide +kernel
theorem dX8_read_61 : decode cX8_read 61 = .ok (.iconst 3, 1) := by decide +kernel
theorem dX8_read_62 : decode cX8_read 62 = .ok (.aload_n 0, 1) := by decide +kernel
theorem dX8_read_63 : decode cX8_read 63 = .ok (.getfield 48, 3) := by decide +kernel
theorem dX8_read_66 : decode cX8_read 66 = .ok (.iconst 1, 1) := by decide +kernel
theorem dX8_read_67 : decode cX8_read 67 = .ok (.iadd, 1) := by decide +kernel
theorem dX8_read_68 : decode cX8_read 68 = .ok (.aload_n 0, 1) := by decide +kernel
theorem dX8_read_69 : decode cX8_read 69 = .ok (.getfield 57, 3) := by decide +kernel
theorem dX8_read_72 : decode cX8_read 72 = .ok (.isub, 1) := by decide +kernel
theorem dX8_read_73 : decode cX8_read 73 = .ok (.invokestatic 51, 3) := by decide +kernel
theorem dX8_read_76 : decode cX8_read 76 = .ok (.iconst 0, 1) := by decide +kernel
theorem dX8_read_77 : decode cX8_read 77 = .ok (.invokevirtual 44, 3) := by decide +kernel
theorem dX8_read_80 : decode cX8_read 80 = .ok (.putfield 60, 3) := by decide +kernel
theorem dX8_read_83 : decode cX8_read 83 = .ok (.iconst 0, 1) := by decide +kernel
theorem dX8_read_84 : decode cX8_read 84 = .ok (.istore_n 1, 1) := by decide +kernel
theorem dX8_read_85 : decode cX8_read 85 = .ok (.iload_n 1, 1) := by decide +kernel
theorem dX8_read_86 : decode cX8_read 86 = .ok (.bipush 20, 2) := by decide +kernel
theorem dX8_read_88 : decode cX8_read 88 = .ok (.if_icmp .gt 20, 3) := by decide +kernel
theorem dX8_read_91 : decode cX8_read 91 = .ok (.aload_n 0, 1) := by decide +kernel
theorem dX8_read_92 : decode cX8_read 92 = .ok (.invokevirtual 63, 3) := by decide +kernel
theorem dX8_read_95 : decode cX8_read 95 = .ok (.ifCond .eq 13, 3) := by decide +kernel
theorem dX8_read_108 : decode cX8_read 108 = .ok (.aload_n 0, 1) := by decide +kernel
theorem dX8_read_109 : decode cX8_read 109 = .ok (.getfield 32, 3) := by decide +kernel
theorem dX8_read_112 : decode cX8_read 112 = .ok (.ireturn, 1) := by decide +kernel
theorem dX8_goesOn_0 : decode cX8_goesOn 0 = .ok (.aload_n 0, 1) := by decide +kernel
theorem dX8_goesOn_1 : decode cX8_goesOn 1 = .ok (.getfield 32, 3) := by decide +kernel
theorem dX8_goesOn_4 : decode cX8_goesOn 4 = .ok (.ifCond .eq 5, 3) := by decide +kernel
theorem dX8_goesOn_7 : decode cX8_goesOn 7 = .ok (.iconst 0, 1) := by decide +kernel
theorem dX8_goesOn_8 : decode cX8_goesOn 8 = .ok (.ireturn, 1) := by decide +kernel
theorem dX8_readWord_0 : decode cX8_readWord 0 = .ok (.aload_n 0, 1) := by decide +kernel
theorem dX8_readWord_1 : decode cX8_readWord 1 = .ok (.getfield 32, 3) := by decide +kernel
theorem dX8_readWord_4 : decode cX8_readWord 4 = .ok (.ifCond .eq 4, 3) := by decide +kernel
theorem dX8_readWord_8 : decode cX8_readWord 8 = .ok (.aload_n 0, 1) := by decide +kernel
theorem dX8_readWord_9 : decode cX8_readWord 9 = .ok (.invokevirtual 80, 3) := by decide +kernel
theorem dX8_readWord_12 : decode cX8_readWord 12 = .ok (.aload_n 0, 1) := by decide +kernel
theorem dX8_readWord_13 : decode cX8_readWord 13 = .ok (.aload_n 0, 1) := by decide +kernel
theorem dX8_readWord_14 : decode cX8_readWord 14 = .ok (.getfield 26, 3) := by decide +kernel
theorem dX8_readWord_17 : decode cX8_readWord 17 = .ok (.putfield 29, 3) := by decide +kernel
theorem dX8_readWord_20 : decode cX8_readWord 20 = .ok (.iconst 1, 1) := by decide +kernel
theorem dX8_readWord_21 : decode cX8_readWord 21 = .ok (.istore_n 2, 1) := by decide +kernel
theorem dX8_readWord_22 : decode cX8_readWord 22 = .ok (.iconst 0, 1) := by decide +kernel
theorem dX8_readWord_23 : decode cX8_readWord 23 = .ok (.istore_n 3, 1) := by decide +kernel
theorem dX8_readWord_24 : decode cX8_readWord 24 = .ok (.aload_n 0, 1) := by decide +kernel
theorem dX8_readWord_25 : decode cX8_readWord 25 = .ok (.getfield 26, 3) := by decide +kernel
theorem dX8_readWord_28 : decode cX8_readWord 28 = .ok (.aload_n 0, 1) := by decide +kernel
theorem dX8_readWord_29 : decode cX8_readWord 29 = .ok (.getfield 22, 3) := by decide +kernel
theorem dX8_readWord_32 : decode cX8_readWord 32 = .ok (.if_icmp .ge 67, 3) := by decide +kernel
theorem dX8_readWord_99 : decode cX8_readWord 99 = .ok (.iload_n 2, 1) := by decide +kernel
theorem dX8_readWord_100 : decode cX8_readWord 100 = .ok (.ifCond .eq 11, 3) := by decide +kernel
theorem dX8_readWord_103 : decode cX8_readWord 103 = .ok (.iload_n 3, 1) := by decide +kernel
theorem dX8_readWord_104 : decode cX8_readWord 104 = .ok (.aload_n 1, 1) := by decide +kernel
theorem dX8_readWord_105 : decode cX8_readWord 105 = .ok (.invokevirtual 90, 3) := by decide +kernel
theorem dX8_readWord_108 : decode cX8_readWord 108 = .ok (.if_icmp .eq 12, 3) := by decide +kernel
theorem dX8_readWord_111 : decode cX8_readWord 111 = .ok (.aload_n 0, 1) := by decide +kernel
theorem dX8_readWord_112 : decode cX8_readWord 112 = .ok (.aload_n 0, 1) := by decide +kernel
theorem dX8_readWord_113 : decode cX8_readWord 113 = .ok (.getfield 29, 3) := by decide +kernel
theorem dX8_readWord_116 : decode cX8_readWord 116 = .ok (.iconst 1, 1) := by decide +kernel
theorem dX8_readWord_117 : decode cX8_readWord 117 = .ok (.invokevirtual 72, 3) := by decide +kernel
theorem dX8_readWord_120 : decode cX8_readWord 120 = .ok (.return_, 1) := by decide +kernel
theorem dX8_readNumber_0 : decode cX8_readNumber 0 = .ok (.aload_n 0, 1) := by decide +kernel
theorem dX8_readNumber_1 : decode cX8_readNumber 1 = .ok (.getfield 32, 3) := by decide +kernel
theorem dX8_readNumber_4 : decode cX8_readNumber 4 = .ok (.ifCond .eq 5, 3) := by decide +kernel
theorem dX8_readNumber_7 : decode cX8_readNumber 7 = .ok (.iconst 0, 1) := by decide +kernel
theorem dX8_readNumber_8 : decode cX8_readNumber 8 = .ok (.ireturn, 1) := by decide +kernel
theorem dX8_skipBlanks_0 : decode cX8_skipBlanks 0 = .ok (.aload_n 0, 1) := by decide +kernel
theorem dX8_skipBlanks_1 : decode cX8_skipBlanks 1 = .ok (.getfield 26, 3) := by decide +kernel
theorem dX8_skipBlanks_4 : decode cX8_skipBlanks 4 = .ok (.aload_n 0, 1) := by decide +kernel
theorem dX8_skipBlanks_5 : decode cX8_skipBlanks 5 = .ok (.getfield 22, 3) := by decide +kernel
theorem dX8_skipBlanks_8 : decode cX8_skipBlanks 8 = .ok (.if_icmp .ge 29, 3) := by decide +kernel
theorem dX8_skipBlanks_37 : decode cX8_skipBlanks 37 = .ok (.return_, 1) := by decide +kernel
theorem dX8_blame_0 : decode cX8_blame 0 = .ok (.aload_n 0, 1) := by decide +kernel
theorem dX8_blame_1 : decode cX8_blame 1 = .ok (.bipush 8, 2) := by decide +kernel
theorem dX8_blame_3 : decode cX8_blame 3 = .ok (.iload_n 1, 1) := by decide +kernel
theorem dX8_blame_4 : decode cX8_blame 4 = .ok (.imul, 1) := by decide +kernel
theorem dX8_blame_5 : decode cX8_blame 5 = .ok (.iload_n 2, 1) := by decide +kernel
theorem dX8_blame_6 : decode cX8_blame 6 = .ok (.iadd, 1) := by decide +kernel
theorem dX8_blame_7 : decode cX8_blame 7 = .ok (.putfield 32, 3) := by decide +kernel
theorem dX8_blame_10 : decode cX8_blame 10 = .ok (.return_, 1) := by decide +kernel
theorem dX9_init_0 : decode cX9_init 0 = .ok (.aload_n 0, 1) := by decide +kernel
theorem dX9_init_1 : decode cX9_init 1 = .ok (.invokespecial 3, 3) := by decide +kernel
theorem dX9_init_4 : decode cX9_init 4 = .ok (.aload_n 0, 1) := by decide +kernel
theorem dX9_init_5 : decode cX9_init 5 = .ok (.bipush 100, 2) := by decide +kernel
theorem dX9_init_7 : decode cX9_init 7 = .ok (.newarray .int, 2) := by decide +kernel
theorem dX9_init_9 : decode cX9_init 9 = .ok (.putfield 9, 3) := by decide +kernel
theorem dX9_init_12 : decode cX9_init 12 = .ok (.return_, 1) := by decide +kernel
theorem dX10_init_0 : decode cX10_init 0 = .ok (.aload_n 0, 1) := by decide +kernel
theorem dX10_init_1 : decode cX10_init 1 = .ok (.invokespecial 3, 3) := by decide +kernel
theorem dX10_init_4 : decode cX10_init 4 = .ok (.aload_n 0, 1) := by decide +kernel
theorem dX10_init_5 : decode cX10_init 5 = .ok (.sipush 528, 3) := by decide +kernel
theorem dX10_init_8 : decode cX10_init 8 = .ok (.newarray .int, 2) := by decide +kernel
theorem dX10_init_10 : decode cX10_init 10 = .ok (.putfield 11, 3) := by decide +kernel
theorem dX10_init_13 : decode cX10_init 13 = .ok (.aload_n 0, 1) := by decide +kernel
theorem dX10_init_14 : decode cX10_init 14 = .ok (.sipush 132, 3) := by decide +kernel
theorem dX10_init_17 : decode cX10_init 17 = .ok (.newarray .int, 2) := by decide +kernel
theorem dX10_init_19 : decode cX10_init 19 = .ok (.putfield 15, 3) := by decide +kernel
theorem dX10_init_22 : decode cX10_init 22 = .ok (.aload_n 0, 1) := by decide +kernel
theorem dX10_init_23 : decode cX10_init 23 = .ok (.bipush 32, 2) := by decide +kernel
theorem dX10_init_25 : decode cX10_init 25 = .ok (.newarray .int, 2) := by decide +kernel
theorem dX10_init_27 : decode cX10_init 27 = .ok (.putfield 18, 3) := by decide +kernel
theorem dX10_init_30 : decode cX10_init 30 = .ok (.aload_n 0, 1) := by decide +kernel
theorem dX10_init_31 : decode cX10_init 31 = .ok (.bipush 32, 2) := by decide +kernel
theorem dX10_init_33 : decode cX10_init 33 = .ok (.newarray .int, 2) := by decide +kernel
theorem dX10_init_35 : decode cX10_init 35 = .ok (.putfield 21, 3) := by decide +kernel
theorem dX10_init_38 : decode cX10_init 38 = .ok (.aload_n 0, 1) := by decide +kernel
theorem dX10_init_39 : decode cX10_init 39 = .ok (.sipush 288, 3) := by decide +kernel
theorem dX10_init_42 : decode cX10_init 42 = .ok (.newarray .int, 2) := by decide +kernel
theorem dX10_init_44 : decode cX10_init 44 = .ok (.putfield 24, 3) := by decide +kernel
theorem dX10_init_47 : decode cX10_init 47 = .ok (.aload_n 0, 1) := by decide +kernel
theorem dX10_init_48 : decode cX10_init 48 = .ok (.getfield 15, 3) := by decide +kernel
theorem dX10_init_51 : decode cX10_init 51 = .ok (.iconst (-1), 1) := by decide +kernel
theorem dX10_init_52 : decode cX10_init 52 = .ok (.invokestatic 27, 3) := by decide +kernel
theorem dX10_init_55 : decode cX10_init 55 = .ok (.return_, 1) := by decide +kernel
theorem dX11_init_0 : decode cX11_init 0 = .ok (.aload_n 0, 1) := by decide +kernel
theorem dX11_init_1 : decode cX11_init 1 = .ok (.invokespecial 3, 3) := by decide +kernel
theorem dX11_init_4 : decode cX11_init 4 = .ok (.aload_n 0, 1) := by decide +kernel
theorem dX11_init_5 : decode cX11_init 5 = .ok (.new 9, 3) := by decide +kernel
theorem dX11_init_8 : decode cX11_init 8 = .ok (.dup, 1) := by decide +kernel
theorem dX11_init_9 : decode cX11_init 9 = .ok (.invokespecial 11, 3) := by decide +kernel
theorem dX11_init_12 : decode cX11_init 12 = .ok (.putfield 12, 3) := by decide +kernel
theorem dX11_init_15 : decode cX11_init 15 = .ok (.aload_n 0, 1) := by decide +kernel
theorem dX11_init_16 : decode cX11_init 16 = .ok (.new 18, 3) := by decide +kernel
theorem dX11_init_19 : decode cX11_init 19 = .ok (.dup, 1) := by decide +kernel
theorem dX11_init_20 : decode cX11_init 20 = .ok (.invokespecial 20, 3) := by decide +kernel
theorem dX11_init_23 : decode cX11_init 23 = .ok (.putfield 21, 3) := by decide +kernel
theorem dX11_init_26 : decode cX11_init 26 = .ok (.aload_n 0, 1) := by decide +kernel
theorem dX11_init_27 : decode cX11_init 27 = .ok (.iconst 2, 1) := by decide +kernel
theorem dX11_init_28 : decode cX11_init 28 = .ok (.anewarray 25, 3) := by decide +kernel
theorem dX11_init_31 : decode cX11_init 31 = .ok (.putfield 27, 3) := by decide +kernel
theorem dX11_init_34 : decode cX11_init 34 = .ok (.aload_n 0, 1) := by decide +kernel
theorem dX11_init_35 : decode cX11_init 35 = .ok (.new 31, 3) := by decide +kernel
theorem dX11_init_38 : decode cX11_init 38 = .ok (.dup, 1) := by decide +kernel
theorem dX11_init_39 : decode cX11_init 39 = .ok (.invokespecial 33, 3) := by decide +kernel
theorem dX11_init_42 : decode cX11_init 42 = .ok (.putfield 34, 3) := by decide +kernel
theorem dX11_init_45 : decode cX11_init 45 = .ok (.aload_n 0, 1) := by decide +kernel
theorem dX11_init_46 : decode cX11_init 46 = .ok (.new 38, 3) := by decide +kernel
theorem dX11_init_49 : decode cX11_init 49 = .ok (.dup, 1) := by decide +kernel
theorem dX11_init_50 : decode cX11_init 50 = .ok (.invokespecial 40, 3) := by decide +kernel
theorem dX11_init_53 : decode cX11_init 53 = .ok (.putfield 41, 3) := by decide +kernel
theorem dX11_init_56 : decode cX11_init 56 = .ok (.aload_n 0, 1) := by decide +kernel
theorem dX11_init_57 : decode cX11_init 57 = .ok (.new 45, 3) := by decide +kernel
theorem dX11_init_60 : decode cX11_init 60 = .ok (.dup, 1) := by decide +kernel
theorem dX11_init_61 : decode cX11_init 61 = .ok (.invokespecial 47, 3) := by decide +kernel
theorem dX11_init_64 : decode cX11_init 64 = .ok (.putfield 48, 3) := by decide +kernel
theorem dX11_init_67 : decode cX11_init 67 = .ok (.aload_n 0, 1) := by decide +kernel
theorem dX11_init_68 : decode cX11_init 68 = .ok (.new 52, 3) := by decide +kernel
theorem dX11_init_71 : decode cX11_init 71 = .ok (.dup, 1) := by decide +kernel
theorem dX11_init_72 : decode cX11_init 72 = .ok (.invokespecial 54, 3) := by decide +kernel
theorem dX11_init_75 : decode cX11_init 75 = .ok (.putfield 55, 3) := by decide +kernel
theorem dX11_init_78 : decode cX11_init 78 = .ok (.aload_n 0, 1) := by decide +kernel
theorem dX11_init_79 : decode cX11_init 79 = .ok (.new 59, 3) := by decide +kernel
theorem dX11_init_82 : decode cX11_init 82 = .ok (.dup, 1) := by decide +kernel
theorem dX11_init_83 : decode cX11_init 83 = .ok (.invokespecial 61, 3) := by decide +kernel
theorem dX11_init_86 : decode cX11_init 86 = .ok (.putfield 62, 3) := by decide +kernel
theorem dX11_init_89 : decode cX11_init 89 = .ok (.aload_n 0, 1) := by decide +kernel
theorem dX11_init_90 : decode cX11_init 90 = .ok (.new 25, 3) := by decide +kernel
theorem dX11_init_93 : decode cX11_init 93 = .ok (.dup, 1) := by decide +kernel
theorem dX11_init_94 : decode cX11_init 94 = .ok (.invokespecial 66, 3) := by decide +kernel
theorem dX11_init_97 : decode cX11_init 97 = .ok (.putfield 67, 3) := by decide +kernel
theorem dX11_init_100 : decode cX11_init 100 = .ok (.aload_n 0, 1) := by decide +kernel
theorem dX11_init_101 : decode cX11_init 101 = .ok (.new 25, 3) := by decide +kernel
theorem dX11_init_104 : decode cX11_init 104 = .ok (.dup, 1) := by decide +kernel
theorem dX11_init_105 : decode cX11_init 105 = .ok (.invokespecial 66, 3) := by decide +kernel
theorem dX11_init_108 : decode cX11_init 108 = .ok (.putfield 71, 3) := by decide +kernel
theorem dX11_init_111 : decode cX11_init 111 = .ok (.aload_n 0, 1) := by decide +kernel
theorem dX11_init_112 : decode cX11_init 112 = .ok (.iconst 0, 1) := by decide +kernel
theorem dX11_init_113 : decode cX11_init 113 = .ok (.putfield 74, 3) := by decide +kernel
theorem dX11_init_116 : decode cX11_init 116 = .ok (.aload_n 0, 1) := by decide +kernel
theorem dX11_init_117 : decode cX11_init 117 = .ok (.iconst 0, 1) := by decide +kernel
theorem dX11_init_118 : decode cX11_init 118 = .ok (.putfield 78, 3) := by decide +kernel
theorem dX11_init_121 : decode cX11_init 121 = .ok (.return_, 1) := by decide +kernel
theorem dX11_feed_0 : decode cX11_feed 0 = .ok (.aload_n 0, 1) := by decide +kernel
theorem dX11_feed_1 : decode cX11_feed 1 = .ok (.getfield 12, 3) := by decide +kernel
theorem dX11_feed_4 : decode cX11_feed 4 = .ok (.invokevirtual 82, 3) := by decide +kernel
theorem dX11_feed_7 : decode cX11_feed 7 = .ok (.ifCond .ne 5, 3) := by decide +kernel
theorem dX11_feed_12 : decode cX11_feed 12 = .ok (.aload_n 0, 1) := by decide +kernel
theorem dX11_feed_13 : decode cX11_feed 13 = .ok (.getfield 12, 3) := by decide +kernel
theorem dX11_feed_16 : decode cX11_feed 16 = .ok (.iload_n 1, 1) := by decide +kernel
theorem dX11_feed_17 : decode cX11_feed 17 = .ok (.invokevirtual 86, 3) := by decide +kernel
theorem dX11_feed_20 : decode cX11_feed 20 = .ok (.aload_n 0, 1) := by decide +kernel
theorem dX11_feed_21 : decode cX11_feed 21 = .ok (.getfield 12, 3) := by decide +kernel
theorem dX11_feed_24 : decode cX11_feed 24 = .ok (.iload_n 2, 1) := by decide +kernel
theorem dX11_feed_25 : decode cX11_feed 25 = .ok (.invokevirtual 86, 3) := by decide +kernel
theorem dX11_feed_28 : decode cX11_feed 28 = .ok (.aload_n 0, 1) := by decide +kernel
theorem dX11_feed_29 : decode cX11_feed 29 = .ok (.getfield 12, 3) := by decide +kernel
theorem dX11_feed_32 : decode cX11_feed 32 = .ok (.iload_n 3, 1) := by decide +kernel
theorem dX11_feed_33 : decode cX11_feed 33 = .ok (.invokevirtual 86, 3) := by decide +kernel
theorem dX11_feed_36 : decode cX11_feed 36 = .ok (.aload_n 0, 1) := by decide +kernel
theorem dX11_feed_37 : decode cX11_feed 37 = .ok (.getfield 12, 3) := by decide +kernel
theorem dX11_feed_40 : decode cX11_feed 40 = .ok (.iload 4, 2) := by decide +kernel
theorem dX11_feed_42 : decode cX11_feed 42 = .ok (.invokevirtual 86, 3) := by decide +kernel
theorem dX11_feed_45 : decode cX11_feed 45 = .ok (.aload_n 0, 1) := by decide +kernel
theorem dX11_feed_46 : decode cX11_feed 46 = .ok (.getfield 12, 3) := by decide +kernel
theorem dX11_feed_49 : decode cX11_feed 49 = .ok (.iload 5, 2) := by decide +kernel
theorem dX11_feed_51 : decode cX11_feed 51 = .ok (.invokevirtual 86, 3) := by decide +kernel
theorem dX11_feed_54 : decode cX11_feed 54 = .ok (.aload_n 0, 1) := by decide +kernel
theorem dX11_feed_55 : decode cX11_feed 55 = .ok (.getfield 12, 3) := by decide +kernel
theorem dX11_feed_58 : decode cX11_feed 58 = .ok (.getfield 90, 3) := by decide +kernel
theorem dX11_feed_61 : decode cX11_feed 61 = .ok (.ireturn, 1) := by decide +kernel
theorem dX11_end_0 : decode cX11_end 0 = .ok (.iload_n 1, 1) := by decide +kernel
theorem dX11_end_1 : decode cX11_end 1 = .ok (.ifCond .lt 14, 3) := by decide +kernel
theorem dX11_end_4 : decode cX11_end 4 = .ok (.iload_n 1, 1) := by decide +kernel
theorem dX11_end_5 : decode cX11_end 5 = .ok (.aload_n 0, 1) := by decide +kernel
theorem dX11_end_6 : decode cX11_end 6 = .ok (.getfield 12, 3) := by decide +kernel
theorem dX11_end_9 : decode cX11_end 9 = .ok (.getfield 90, 3) := by decide +kernel
theorem dX11_end_12 : decode cX11_end 12 = .ok (.if_icmp .le 5, 3) := by decide +kernel
theorem dX11_end_15 : decode cX11_end 15 = .ok (.iconst (-1), 1) := by decide +kernel
theorem dX11_end_16 : decode cX11_end 16 = .ok (.ireturn, 1) := by decide +kernel
theorem dX11_end_17 : decode cX11_end 17 = .ok (.aload_n 0, 1) := by decide +kernel
theorem dX11_end_18 : decode cX11_end 18 = .ok (.getfield 12, 3) := by decide +kernel
theorem dX11_end_21 : decode cX11_end 21 = .ok (.iload_n 1, 1) := by decide +kernel
theorem dX11_end_22 : decode cX11_end 22 = .ok (.putfield 90, 3) := by decide +kernel
theorem dX11_end_25 : decode cX11_end 25 = .ok (.iload_n 1, 1) := by decide +kernel
theorem dX11_end_26 : decode cX11_end 26 = .ok (.ireturn, 1) := by decide +kernel
theorem dX11_file_0 : decode cX11_file 0 = .ok (.aload_n 0, 1) := by decide +kernel
theorem dX11_file_1 : decode cX11_file 1 = .ok (.getfield 12, 3) := by decide +kernel
theorem dX11_file_4 : decode cX11_file 4 = .ok (.invokevirtual 93, 3) := by decide +kernel
theorem dX11_file_7 : decode cX11_file 7 = .ok (.istore_n 1, 1) := by decide +kernel
theorem dX11_file_8 : decode cX11_file 8 = .ok (.aload_n 0, 1) := by decide +kernel
theorem dX11_file_9 : decode cX11_file 9 = .ok (.getfield 12, 3) := by decide +kernel
theorem dX11_file_12 : decode cX11_file 12 = .ok (.iconst 0, 1) := by decide +kernel
theorem dX11_file_13 : decode cX11_file 13 = .ok (.putfield 90, 3) := by decide +kernel
theorem dX11_file_16 : decode cX11_file 16 = .ok (.iload_n 1, 1) := by decide +kernel
theorem dX11_file_17 : decode cX11_file 17 = .ok (.ifCond .eq 8, 3) := by decide +kernel
theorem dX11_file_20 : decode cX11_file 20 = .ok (.bipush (-2), 2) := by decide +kernel
theorem dX11_file_22 : decode cX11_file 22 = .ok (.iload_n 1, 1) := by decide +kernel
theorem dX11_file_23 : decode cX11_file 23 = .ok (.isub, 1) := by decide +kernel
theorem dX11_file_24 : decode cX11_file 24 = .ok (.ireturn, 1) := by decide +kernel
theorem dX11_put_0 : decode cX11_put 0 = .ok (.aload_n 0, 1) := by decide +kernel
theorem dX11_put_1 : decode cX11_put 1 = .ok (.getfield 74, 3) := by decide +kernel
theorem dX11_put_4 : decode cX11_put 4 = .ok (.ifCond .eq 22, 3) := by decide +kernel
theorem dX11_put_26 : decode cX11_put 26 = .ok (.iconst (-1), 1) := by decide +kernel
theorem dX11_put_27 : decode cX11_put 27 = .ok (.ireturn, 1) := by decide +kernel
theorem dX11_remove_0 : decode cX11_remove 0 = .ok (.aload_n 0, 1) := by decide +kernel
theorem dX11_remove_1 : decode cX11_remove 1 = .ok (.iload_n 1, 1) := by decide +kernel
theorem dX11_remove_2 : decode cX11_remove 2 = .ok (.invokevirtual 152, 3) := by decide +kernel
theorem dX11_remove_5 : decode cX11_remove 5 = .ok (.ifCond .ne 5, 3) := by decide +kernel
theorem dX11_remove_8 : decode cX11_remove 8 = .ok (.iconst (-1), 1) := by decide +kernel
theorem dX11_remove_9 : decode cX11_remove 9 = .ok (.ireturn, 1) := by decide +kernel
theorem dX11_shift_0 : decode cX11_shift 0 = .ok (.aload_n 0, 1) := by decide +kernel
theorem dX11_shift_1 : decode cX11_shift 1 = .ok (.iload_n 1, 1) := by decide +kernel
theorem dX11_shift_2 : decode cX11_shift 2 = .ok (.invokevirtual 152, 3) := by decide +kernel
theorem dX11_shift_5 : decode cX11_shift 5 = .ok (.ifCond .ne 5, 3) := by decide +kernel
theorem dX11_shift_8 : decode cX11_shift 8 = .ok (.iconst (-1), 1) := by decide +kernel
theorem dX11_shift_9 : decode cX11_shift 9 = .ok (.ireturn, 1) := by decide +kernel
theorem dX11_bulk_0 : decode cX11_bulk 0 = .ok (.aload_n 0, 1) := by decide +kernel
theorem dX11_bulk_1 : decode cX11_bulk 1 = .ok (.getfield 74, 3) := by decide +kernel
theorem dX11_bulk_4 : decode cX11_bulk 4 = .ok (.ifCond .ne 5, 3) := by decide +kernel
theorem dX11_bulk_7 : decode cX11_bulk 7 = .ok (.iconst (-1), 1) := by decide +kernel
theorem dX11_bulk_8 : decode cX11_bulk 8 = .ok (.ireturn, 1) := by decide +kernel
theorem dX11_graft_0 : decode cX11_graft 0 = .ok (.aload_n 0, 1) := by decide +kernel
theorem dX11_graft_1 : decode cX11_graft 1 = .ok (.iload_n 1, 1) := by decide +kernel
theorem dX11_graft_2 : decode cX11_graft 2 = .ok (.invokevirtual 169, 3) := by decide +kernel
theorem dX11_graft_5 : decode cX11_graft 5 = .ok (.ifCond .eq 22, 3) := by decide +kernel
theorem dX11_graft_27 : decode cX11_graft 27 = .ok (.iconst (-1), 1) := by decide +kernel
theorem dX11_graft_28 : decode cX11_graft 28 = .ok (.ireturn, 1) := by decide +kernel
theorem dX11_drawn_0 : decode cX11_drawn 0 = .ok (.aload_n 0, 1) := by decide +kernel
theorem dX11_drawn_1 : decode cX11_drawn 1 = .ok (.getfield 74, 3) := by decide +kernel
theorem dX11_drawn_4 : decode cX11_drawn 4 = .ok (.ifCond .eq 14, 3) := by decide +kernel
theorem dX11_drawn_18 : decode cX11_drawn 18 = .ok (.iconst (-1), 1) := by decide +kernel
theorem dX11_drawn_19 : decode cX11_drawn 19 = .ok (.ireturn, 1) := by decide +kernel
theorem dX11_draws_0 : decode cX11_draws 0 = .ok (.iload_n 1, 1) := by decide +kernel
theorem dX11_draws_1 : decode cX11_draws 1 = .ok (.ifCond .ge 5, 3) := by decide +kernel
theorem dX11_draws_4 : decode cX11_draws 4 = .ok (.iconst (-1), 1) := by decide +kernel
theorem dX11_draws_5 : decode cX11_draws 5 = .ok (.ireturn, 1) := by decide +kernel
theorem dX11_draws_6 : decode cX11_draws 6 = .ok (.aload_n 0, 1) := by decide +kernel
theorem dX11_draws_7 : decode cX11_draws 7 = .ok (.getfield 78, 3) := by decide +kernel
theorem dX11_draws_10 : decode cX11_draws 10 = .ok (.istore_n 2, 1) := by decide +kernel
theorem dX11_draws_11 : decode cX11_draws 11 = .ok (.aload_n 0, 1) := by decide +kernel
theorem dX11_draws_12 : decode cX11_draws 12 = .ok (.iload_n 1, 1) := by decide +kernel
theorem dX11_draws_13 : decode cX11_draws 13 = .ok (.putfield 78, 3) := by decide +kernel
theorem dX11_draws_16 : decode cX11_draws 16 = .ok (.iload_n 2, 1) := by decide +kernel
theorem dX11_draws_17 : decode cX11_draws 17 = .ok (.ireturn, 1) := by decide +kernel
theorem dX11_undo_0 : decode cX11_undo 0 = .ok (.aload_n 0, 1) := by decide +kernel
theorem dX11_undo_1 : decode cX11_undo 1 = .ok (.getfield 21, 3) := by decide +kernel
theorem dX11_undo_4 : decode cX11_undo 4 = .ok (.getfield 202, 3) := by decide +kernel
theorem dX11_undo_7 : decode cX11_undo 7 = .ok (.ifCond .ne 5, 3) := by decide +kernel
theorem dX11_undo_10 : decode cX11_undo 10 = .ok (.iconst (-1), 1) := by decide +kernel
theorem dX11_undo_11 : decode cX11_undo 11 = .ok (.ireturn, 1) := by decide +kernel
theorem dX11_keep_0 : decode cX11_keep 0 = .ok (.aload_n 0, 1) := by decide +kernel
theorem dX11_keep_1 : decode cX11_keep 1 = .ok (.getfield 74, 3) := by decide +kernel
theorem dX11_keep_4 : decode cX11_keep 4 = .ok (.ifCond .eq 10, 3) := by decide +kernel
theorem dX11_keep_14 : decode cX11_keep 14 = .ok (.iconst (-1), 1) := by decide +kernel
theorem dX11_keep_15 : decode cX11_keep 15 = .ok (.ireturn, 1) := by decide +kernel
theorem dX11_back_0 : decode cX11_back 0 = .ok (.iload_n 1, 1) := by decide +kernel
theorem dX11_back_1 : decode cX11_back 1 = .ok (.invokestatic 211, 3) := by decide +kernel
theorem dX11_back_4 : decode cX11_back 4 = .ok (.ifCond .ne 5, 3) := by decide +kernel
theorem dX11_back_7 : decode cX11_back 7 = .ok (.iconst (-1), 1) := by decide +kernel
theorem dX11_back_8 : decode cX11_back 8 = .ok (.ireturn, 1) := by decide +kernel
theorem dX11_back_9 : decode cX11_back 9 = .ok (.aload_n 0, 1) := by decide +kernel
theorem dX11_back_10 : decode cX11_back 10 = .ok (.getfield 27, 3) := by decide +kernel
theorem dX11_back_13 : decode cX11_back 13 = .ok (.iload_n 1, 1) := by decide +kernel
theorem dX11_back_14 : decode cX11_back 14 = .ok (.aaload, 1) := by decide +kernel
theorem dX11_back_15 : decode cX11_back 15 = .ok (.astore_n 2, 1) := by decide +kernel
theorem dX11_back_16 : decode cX11_back 16 = .ok (.aload_n 2, 1) := by decide +kernel
theorem dX11_back_17 : decode cX11_back 17 = .ok (.ifnonnull 6, 3) := by decide +kernel
theorem dX11_back_20 : decode cX11_back 20 = .ok (.bipush (-2), 2) := by decide +kernel
theorem dX11_back_22 : decode cX11_back 22 = .ok (.ireturn, 1) := by decide +kernel
theorem dX11_rect_0 : decode cX11_rect 0 = .ok (.aload_n 0, 1) := by decide +kernel
theorem dX11_rect_1 : decode cX11_rect 1 = .ok (.iload_n 1, 1) := by decide +kernel
theorem dX11_rect_2 : decode cX11_rect 2 = .ok (.invokevirtual 152, 3) := by decide +kernel
theorem dX11_rect_5 : decode cX11_rect 5 = .ok (.ifCond .eq 12, 3) := by decide +kernel
theorem dX11_rect_17 : decode cX11_rect 17 = .ok (.ldc 217, 2) := by decide +kernel
theorem dX11_rect_19 : decode cX11_rect 19 = .ok (.ireturn, 1) := by decide +kernel
theorem dX11_page_0 : decode cX11_page 0 = .ok (.aload_n 0, 1) := by decide +kernel
theorem dX11_page_1 : decode cX11_page 1 = .ok (.iload_n 1, 1) := by decide +kernel
theorem dX11_page_2 : decode cX11_page 2 = .ok (.invokevirtual 169, 3) := by decide +kernel
theorem dX11_page_5 : decode cX11_page 5 = .ok (.ifCond .ne 6, 3) := by decide +kernel
theorem dX11_page_8 : decode cX11_page 8 = .ok (.ldc 217, 2) := by decide +kernel
theorem dX11_page_10 : decode cX11_page 10 = .ok (.ireturn, 1) := by decide +kernel
theorem dX11_entry_0 : decode cX11_entry 0 = .ok (.aload_n 0, 1) := by decide +kernel
theorem dX11_entry_1 : decode cX11_entry 1 = .ok (.iload_n 1, 1) := by decide +kernel
theorem dX11_entry_2 : decode cX11_entry 2 = .ok (.invokevirtual 169, 3) := by decide +kernel
theorem dX11_entry_5 : decode cX11_entry 5 = .ok (.ifCond .eq 20, 3) := by decide +kernel
theorem dX11_entry_25 : decode cX11_entry 25 = .ok (.iconst (-1), 1) := by decide +kernel
theorem dX11_entry_26 : decode cX11_entry 26 = .ok (.ireturn, 1) := by decide +kernel
theorem dX11_choose_0 : decode cX11_choose 0 = .ok (.aload_n 0, 1) := by decide +kernel
theorem dX11_choose_1 : decode cX11_choose 1 = .ok (.getfield 74, 3) := by decide +kernel
theorem dX11_choose_4 : decode cX11_choose 4 = .ok (.ifCond .eq 14, 3) := by decide +kernel
theorem dX11_choose_18 : decode cX11_choose 18 = .ok (.iconst (-1), 1) := by decide +kernel
theorem dX11_choose_19 : decode cX11_choose 19 = .ok (.ireturn, 1) := by decide +kernel
theorem dX11_window_0 : decode cX11_window 0 = .ok (.aload_n 0, 1) := by decide +kernel
theorem dX11_window_1 : decode cX11_window 1 = .ok (.getfield 74, 3) := by decide +kernel
theorem dX11_window_4 : decode cX11_window 4 = .ok (.ifCond .eq 21, 3) := by decide +kernel
theorem dX11_window_25 : decode cX11_window 25 = .ok (.iconst (-1), 1) := by decide +kernel
theorem dX11_window_26 : decode cX11_window 26 = .ok (.ireturn, 1) := by decide +kernel
theorem dX11_nearest_0 : decode cX11_nearest 0 = .ok (.aload_n 0, 1) := by decide +kernel
theorem dX11_nearest_1 : decode cX11_nearest 1 = .ok (.getfield 74, 3) := by decide +kernel
theorem dX11_nearest_4 : decode cX11_nearest 4 = .ok (.ifCond .eq 26, 3) := by decide +kernel
theorem dX11_nearest_30 : decode cX11_nearest 30 = .ok (.iconst (-1), 1) := by decide +kernel
theorem dX11_nearest_31 : decode cX11_nearest 31 = .ok (.ireturn, 1) := by decide +kernel
theorem dX11_pairs_0 : decode cX11_pairs 0 = .ok (.aload_n 0, 1) := by decide +kernel
theorem dX11_pairs_1 : decode cX11_pairs 1 = .ok (.getfield 74, 3) := by decide +kernel
theorem dX11_pairs_4 : decode cX11_pairs 4 = .ok (.ifCond .eq 17, 3) := by decide +kernel
theorem dX11_pairs_21 : decode cX11_pairs 21 = .ok (.iconst (-1), 1) := by decide +kernel
theorem dX11_pairs_22 : decode cX11_pairs 22 = .ok (.ireturn, 1) := by decide +kernel
theorem dX11_union_0 : decode cX11_union 0 = .ok (.aload_n 0, 1) := by decide +kernel
theorem dX11_union_1 : decode cX11_union 1 = .ok (.getfield 74, 3) := by decide +kernel
theorem dX11_union_4 : decode cX11_union 4 = .ok (.ifCond .eq 17, 3) := by decide +kernel
theorem dX11_union_21 : decode cX11_union 21 = .ok (.ldc2_w 270, 3) := by decide +kernel
theorem dX11_union_24 : decode cX11_union 24 = .ok (.lreturn, 1) := by decide +kernel
theorem dX11_grid_0 : decode cX11_grid 0 = .ok (.aload_n 0, 1) := by decide +kernel
theorem dX11_grid_1 : decode cX11_grid 1 = .ok (.getfield 74, 3) := by decide +kernel
theorem dX11_grid_4 : decode cX11_grid 4 = .ok (.ifCond .ne 5, 3) := by decide +kernel
theorem dX11_grid_7 : decode cX11_grid 7 = .ok (.lconst 0, 1) := by decide +kernel
theorem dX11_grid_8 : decode cX11_grid 8 = .ok (.lreturn, 1) := by decide +kernel
theorem dX11_fill_0 : decode cX11_fill 0 = .ok (.aload_n 0, 1) := by decide +kernel
theorem dX11_fill_1 : decode cX11_fill 1 = .ok (.getfield 74, 3) := by decide +kernel
theorem dX11_fill_4 : decode cX11_fill 4 = .ok (.ifCond .eq 20, 3) := by decide +kernel
theorem dX11_fill_24 : decode cX11_fill 24 = .ok (.iconst (-1), 1) := by decide +kernel
theorem dX11_fill_25 : decode cX11_fill 25 = .ok (.ireturn, 1) := by decide +kernel
theorem dX11_cost_0 : decode cX11_cost 0 = .ok (.aload_n 0, 1) := by decide +kernel
theorem dX11_cost_1 : decode cX11_cost 1 = .ok (.getfield 74, 3) := by decide +kernel
theorem dX11_cost_4 : decode cX11_cost 4 = .ok (.ifCond .eq 25, 3) := by decide +kernel
theorem dX11_cost_29 : decode cX11_cost 29 = .ok (.ldc2_w 270, 3) := by decide +kernel
theorem dX11_cost_32 : decode cX11_cost 32 = .ok (.lreturn, 1) := by decide +kernel
theorem dX11_overlap_0 : decode cX11_overlap 0 = .ok (.aload_n 0, 1) := by decide +kernel
theorem dX11_overlap_1 : decode cX11_overlap 1 = .ok (.getfield 74, 3) := by decide +kernel
theorem dX11_overlap_4 : decode cX11_overlap 4 = .ok (.ifCond .eq 26, 3) := by decide +kernel
theorem dX11_overlap_30 : decode cX11_overlap 30 = .ok (.ldc2_w 270, 3) := by decide +kernel
theorem dX11_overlap_33 : decode cX11_overlap 33 = .ok (.lreturn, 1) := by decide +kernel
theorem dX11_same_0 : decode cX11_same 0 = .ok (.aload_n 0, 1) := by decide +kernel
theorem dX11_same_1 : decode cX11_same 1 = .ok (.getfield 74, 3) := by decide +kernel
theorem dX11_same_4 : decode cX11_same 4 = .ok (.ifCond .eq 10, 3) := by decide +kernel
theorem dX11_same_14 : decode cX11_same 14 = .ok (.iconst (-1), 1) := by decide +kernel
theorem dX11_same_15 : decode cX11_same 15 = .ok (.ireturn, 1) := by decide +kernel
theorem dX11_count_0 : decode cX11_count 0 = .ok (.iload_n 1, 1) := by decide +kernel
theorem dX11_count_1 : decode cX11_count 1 = .ok (.ifCond .lt 26, 3) := by decide +kernel
theorem dX11_count_4 : decode cX11_count 4 = .ok (.iload_n 1, 1) := by decide +kernel
theorem dX11_count_5 : decode cX11_count 5 = .ok (.bipush 7, 2) := by decide +kernel
theorem dX11_count_7 : decode cX11_count 7 = .ok (.if_icmp .gt 20, 3) := by decide +kernel
theorem dX11_count_10 : decode cX11_count 10 = .ok (.aload_n 0, 1) := by decide +kernel
theorem dX11_count_11 : decode cX11_count 11 = .ok (.getfield 74, 3) := by decide +kernel
theorem dX11_count_14 : decode cX11_count 14 = .ok (.ifCond .eq 11, 3) := by decide +kernel
theorem dX11_count_25 : decode cX11_count 25 = .ok (.iconst 0, 1) := by decide +kernel
theorem dX11_count_26 : decode cX11_count 26 = .ok (.ireturn, 1) := by decide +kernel
theorem dX11_count_27 : decode cX11_count 27 = .ok (.iload_n 1, 1) := by decide +kernel
theorem dX11_count_28 : decode cX11_count 28 = .ok (.tableswitch 83 8 11 #[32, 40, 45, 53], 32) := by decide +kernel
theorem dX11_count_60 : decode cX11_count 60 = .ok (.aload_n 0, 1) := by decide +kernel
theorem dX11_count_61 : decode cX11_count 61 = .ok (.getfield 21, 3) := by decide +kernel
theorem dX11_count_64 : decode cX11_count 64 = .ok (.getfield 202, 3) := by decide +kernel
theorem dX11_count_67 : decode cX11_count 67 = .ok (.ireturn, 1) := by decide +kernel
theorem dX11_count_68 : decode cX11_count 68 = .ok (.aload_n 0, 1) := by decide +kernel
theorem dX11_count_69 : decode cX11_count 69 = .ok (.getfield 78, 3) := by decide +kernel
theorem dX11_count_72 : decode cX11_count 72 = .ok (.ireturn, 1) := by decide +kernel
theorem dX11_count_73 : decode cX11_count 73 = .ok (.aload_n 0, 1) := by decide +kernel
theorem dX11_count_74 : decode cX11_count 74 = .ok (.getfield 12, 3) := by decide +kernel
theorem dX11_count_77 : decode cX11_count 77 = .ok (.getfield 90, 3) := by decide +kernel
theorem dX11_count_80 : decode cX11_count 80 = .ok (.ireturn, 1) := by decide +kernel
theorem dX11_count_81 : decode cX11_count 81 = .ok (.aload_n 0, 1) := by decide +kernel
theorem dX11_count_82 : decode cX11_count 82 = .ok (.getfield 27, 3) := by decide +kernel
theorem dX11_count_85 : decode cX11_count 85 = .ok (.iconst 0, 1) := by decide +kernel
theorem dX11_count_86 : decode cX11_count 86 = .ok (.aaload, 1) := by decide +kernel
theorem dX11_count_87 : decode cX11_count 87 = .ok (.ifnonnull 7, 3) := by decide +kernel
theorem dX11_count_90 : decode cX11_count 90 = .ok (.iconst 0, 1) := by decide +kernel
theorem dX11_count_91 : decode cX11_count 91 = .ok (.goto 4, 3) := by decide +kernel
theorem dX11_count_95 : decode cX11_count 95 = .ok (.aload_n 0, 1) := by decide +kernel
theorem dX11_count_96 : decode cX11_count 96 = .ok (.getfield 27, 3) := by decide +kernel
theorem dX11_count_99 : decode cX11_count 99 = .ok (.iconst 1, 1) := by decide +kernel
theorem dX11_count_100 : decode cX11_count 100 = .ok (.aaload, 1) := by decide +kernel
theorem dX11_count_101 : decode cX11_count 101 = .ok (.ifnonnull 7, 3) := by decide +kernel
theorem dX11_count_104 : decode cX11_count 104 = .ok (.iconst 0, 1) := by decide +kernel
theorem dX11_count_105 : decode cX11_count 105 = .ok (.goto 4, 3) := by decide +kernel
theorem dX11_count_109 : decode cX11_count 109 = .ok (.iadd, 1) := by decide +kernel
theorem dX11_count_110 : decode cX11_count 110 = .ok (.ireturn, 1) := by decide +kernel
theorem dX11_count_111 : decode cX11_count 111 = .ok (.iconst (-1), 1) := by decide +kernel
theorem dX11_count_112 : decode cX11_count 112 = .ok (.ireturn, 1) := by decide +kernel
theorem dX11_isInFile_0 : decode cX11_isInFile 0 = .ok (.aload_n 0, 1) := by decide +kernel
theorem dX11_isInFile_1 : decode cX11_isInFile 1 = .ok (.getfield 74, 3) := by decide +kernel
theorem dX11_isInFile_4 : decode cX11_isInFile 4 = .ok (.ifCond .eq 25, 3) := by decide +kernel
theorem dX11_isInFile_29 : decode cX11_isInFile 29 = .ok (.iconst 0, 1) := by decide +kernel
theorem dX11_isInFile_30 : decode cX11_isInFile 30 = .ok (.ireturn, 1) := by decide +kernel
theorem dX11_isPage_0 : decode cX11_isPage 0 = .ok (.aload_n 0, 1) := by decide +kernel
theorem dX11_isPage_1 : decode cX11_isPage 1 = .ok (.getfield 74, 3) := by decide +kernel
theorem dX11_isPage_4 : decode cX11_isPage 4 = .ok (.ifCond .eq 22, 3) := by decide +kernel
theorem dX11_isPage_26 : decode cX11_isPage 26 = .ok (.iconst 0, 1) := by decide +kernel
theorem dX11_isPage_27 : decode cX11_isPage 27 = .ok (.ireturn, 1) := by decide +kernel
theorem dX11_isShelf_0 : decode cX11_isShelf 0 = .ok (.iload_n 0, 1) := by decide +kernel
theorem dX11_isShelf_1 : decode cX11_isShelf 1 = .ok (.ifCond .lt 12, 3) := by decide +kernel
theorem dX11_isShelf_4 : decode cX11_isShelf 4 = .ok (.iload_n 0, 1) := by decide +kernel
theorem dX11_isShelf_5 : decode cX11_isShelf 5 = .ok (.iconst 2, 1) := by decide +kernel
theorem dX11_isShelf_6 : decode cX11_isShelf 6 = .ok (.if_icmp .ge 7, 3) := by decide +kernel
theorem dX11_isShelf_9 : decode cX11_isShelf 9 = .ok (.iconst 1, 1) := by decide +kernel
theorem dX11_isShelf_10 : decode cX11_isShelf 10 = .ok (.goto 4, 3) := by decide +kernel
theorem dX11_isShelf_13 : decode cX11_isShelf 13 = .ok (.iconst 0, 1) := by decide +kernel
theorem dX11_isShelf_14 : decode cX11_isShelf 14 = .ok (.ireturn, 1) := by decide +kernel
theorem dX12_init_0 : decode cX12_init 0 = .ok (.aload_n 0, 1) := by decide +kernel
theorem dX12_init_1 : decode cX12_init 1 = .ok (.invokespecial 5, 3) := by decide +kernel
theorem dX12_init_4 : decode cX12_init 4 = .ok (.aload_n 0, 1) := by decide +kernel
theorem dX12_init_5 : decode cX12_init 5 = .ok (.sipush 300, 3) := by decide +kernel
theorem dX12_init_8 : decode cX12_init 8 = .ok (.newarray .byte, 2) := by decide +kernel
theorem dX12_init_10 : decode cX12_init 10 = .ok (.putfield 11, 3) := by decide +kernel
theorem dX12_init_13 : decode cX12_init 13 = .ok (.aload_n 0, 1) := by decide +kernel
theorem dX12_init_14 : decode cX12_init 14 = .ok (.bipush 100, 2) := by decide +kernel
theorem dX12_init_16 : decode cX12_init 16 = .ok (.newarray .int, 2) := by decide +kernel
theorem dX12_init_18 : decode cX12_init 18 = .ok (.putfield 15, 3) := by decide +kernel
theorem dX12_init_21 : decode cX12_init 21 = .ok (.aload_n 0, 1) := by decide +kernel
theorem dX12_init_22 : decode cX12_init 22 = .ok (.sipush 12507, 3) := by decide +kernel
theorem dX12_init_25 : decode cX12_init 25 = .ok (.newarray .int, 2) := by decide +kernel
theorem dX12_init_27 : decode cX12_init 27 = .ok (.putfield 19, 3) := by decide +kernel
theorem dX12_init_30 : decode cX12_init 30 = .ok (.aload_n 0, 1) := by decide +kernel
theorem dX12_init_31 : decode cX12_init 31 = .ok (.ldc 22, 2) := by decide +kernel
theorem dX12_init_33 : decode cX12_init 33 = .ok (.newarray .int, 2) := by decide +kernel
theorem dX12_init_35 : decode cX12_init 35 = .ok (.putfield 23, 3) := by decide +kernel
theorem dX12_init_38 : decode cX12_init 38 = .ok (.aload_n 0, 1) := by decide +kernel
theorem dX12_init_39 : decode cX12_init 39 = .ok (.sipush 25014, 3) := by decide +kernel
theorem dX12_init_42 : decode cX12_init 42 = .ok (.newarray .int, 2) := by decide +kernel
theorem dX12_init_44 : decode cX12_init 44 = .ok (.putfield 26, 3) := by decide +kernel
theorem dX12_init_47 : decode cX12_init 47 = .ok (.aload_n 0, 1) := by decide +kernel
theorem dX12_init_48 : decode cX12_init 48 = .ok (.iconst 4, 1) := by decide +kernel
theorem dX12_init_49 : decode cX12_init 49 = .ok (.newarray .int, 2) := by decide +kernel
theorem dX12_init_51 : decode cX12_init 51 = .ok (.putfield 29, 3) := by decide +kernel
theorem dX12_init_54 : decode cX12_init 54 = .ok (.aload_n 0, 1) := by decide +kernel
theorem dX12_init_55 : decode cX12_init 55 = .ok (.iconst 4, 1) := by decide +kernel
theorem dX12_init_56 : decode cX12_init 56 = .ok (.newarray .int, 2) := by decide +kernel
theorem dX12_init_58 : decode cX12_init 58 = .ok (.putfield 32, 3) := by decide +kernel
theorem dX12_init_61 : decode cX12_init 61 = .ok (.aload_n 0, 1) := by decide +kernel
theorem dX12_init_62 : decode cX12_init 62 = .ok (.iconst 4, 1) := by decide +kernel
theorem dX12_init_63 : decode cX12_init 63 = .ok (.newarray .int, 2) := by decide +kernel
theorem dX12_init_65 : decode cX12_init 65 = .ok (.putfield 35, 3) := by decide +kernel
theorem dX12_init_68 : decode cX12_init 68 = .ok (.aload_n 0, 1) := by decide +kernel
theorem dX12_init_69 : decode cX12_init 69 = .ok (.iconst 4, 1) := by decide +kernel
theorem dX12_init_70 : decode cX12_init 70 = .ok (.newarray .int, 2) := by decide +kernel
theorem dX12_init_72 : decode cX12_init 72 = .ok (.putfield 38, 3) := by decide +kernel
theorem dX12_init_75 : decode cX12_init 75 = .ok (.aload_n 0, 1) := by decide +kernel
theorem dX12_init_76 : decode cX12_init 76 = .ok (.bipush 64, 2) := by decide +kernel
theorem dX12_init_78 : decode cX12_init 78 = .ok (.newarray .boolean, 2) := by decide +kernel
theorem dX12_init_80 : decode cX12_init 80 = .ok (.putfield 41, 3) := by decide +kernel
theorem dX12_init_83 : decode cX12_init 83 = .ok (.aload_n 0, 1) := by decide +kernel
theorem dX12_init_84 : decode cX12_init 84 = .ok (.sipush 192, 3) := by decide +kernel
theorem dX12_init_87 : decode cX12_init 87 = .ok (.newarray .int, 2) := by decide +kernel
theorem dX12_init_89 : decode cX12_init 89 = .ok (.putfield 45, 3) := by decide +kernel
theorem dX12_init_92 : decode cX12_init 92 = .ok (.aload_n 0, 1) := by decide +kernel
theorem dX12_init_93 : decode cX12_init 93 = .ok (.bipush 9, 2) := by decide +kernel
theorem dX12_init_95 : decode cX12_init 95 = .ok (.newarray .boolean, 2) := by decide +kernel
theorem dX12_init_97 : decode cX12_init 97 = .ok (.putfield 48, 3) := by decide +kernel
theorem dX12_init_100 : decode cX12_init 100 = .ok (.aload_n 0, 1) := by decide +kernel
theorem dX12_init_101 : decode cX12_init 101 = .ok (.bipush 9, 2) := by decide +kernel
theorem dX12_init_103 : decode cX12_init 103 = .ok (.newarray .int, 2) := by decide +kernel
theorem dX12_init_105 : decode cX12_init 105 = .ok (.putfield 51, 3) := by decide +kernel
theorem dX12_init_108 : decode cX12_init 108 = .ok (.aload_n 0, 1) := by decide +kernel
theorem dX12_init_109 : decode cX12_init 109 = .ok (.bipush 64, 2) := by decide +kernel
theorem dX12_init_111 : decode cX12_init 111 = .ok (.newarray .int, 2) := by decide +kernel
theorem dX12_init_113 : decode cX12_init 113 = .ok (.putfield 54, 3) := by decide +kernel
theorem dX12_init_116 : decode cX12_init 116 = .ok (.aload_n 0, 1) := by decide +kernel
theorem dX12_init_117 : decode cX12_init 117 = .ok (.sipush 700, 3) := by decide +kernel
theorem dX12_init_120 : decode cX12_init 120 = .ok (.newarray .int, 2) := by decide +kernel
theorem dX12_init_122 : decode cX12_init 122 = .ok (.putfield 57, 3) := by decide +kernel
theorem dX12_init_125 : decode cX12_init 125 = .ok (.aload_n 0, 1) := by decide +kernel
theorem dX12_init_126 : decode cX12_init 126 = .ok (.sipush 700, 3) := by decide +kernel
theorem dX12_init_129 : decode cX12_init 129 = .ok (.newarray .int, 2) := by decide +kernel
theorem dX12_init_131 : decode cX12_init 131 = .ok (.putfield 60, 3) := by decide +kernel
theorem dX12_init_134 : decode cX12_init 134 = .ok (.aload_n 0, 1) := by decide +kernel
theorem dX12_init_135 : decode cX12_init 135 = .ok (.bipush 100, 2) := by decide +kernel
theorem dX12_init_137 : decode cX12_init 137 = .ok (.newarray .int, 2) := by decide +kernel
theorem dX12_init_139 : decode cX12_init 139 = .ok (.putfield 63, 3) := by decide +kernel
theorem dX12_init_142 : decode cX12_init 142 = .ok (.aload_n 0, 1) := by decide +kernel
theorem dX12_init_143 : decode cX12_init 143 = .ok (.bipush 100, 2) := by decide +kernel
theorem dX12_init_145 : decode cX12_init 145 = .ok (.newarray .int, 2) := by decide +kernel
theorem dX12_init_147 : decode cX12_init 147 = .ok (.putfield 66, 3) := by decide +kernel
theorem dX12_init_150 : decode cX12_init 150 = .ok (.aload_n 0, 1) := by decide +kernel
theorem dX12_init_151 : decode cX12_init 151 = .ok (.sipush 800, 3) := by decide +kernel
theorem dX12_init_154 : decode cX12_init 154 = .ok (.newarray .int, 2) := by decide +kernel
theorem dX12_init_156 : decode cX12_init 156 = .ok (.putfield 69, 3) := by decide +kernel
theorem dX12_init_159 : decode cX12_init 159 = .ok (.aload_n 0, 1) := by decide +kernel
theorem dX12_init_160 : decode cX12_init 160 = .ok (.sipush 800, 3) := by decide +kernel
theorem dX12_init_163 : decode cX12_init 163 = .ok (.newarray .int, 2) := by decide +kernel
theorem dX12_init_165 : decode cX12_init 165 = .ok (.putfield 72, 3) := by decide +kernel
theorem dX12_init_168 : decode cX12_init 168 = .ok (.aload_n 0, 1) := by decide +kernel
theorem dX12_init_169 : decode cX12_init 169 = .ok (.sipush 800, 3) := by decide +kernel
theorem dX12_init_172 : decode cX12_init 172 = .ok (.newarray .long, 2) := by decide +kernel
theorem dX12_init_174 : decode cX12_init 174 = .ok (.putfield 75, 3) := by decide +kernel
theorem dX12_init_177 : decode cX12_init 177 = .ok (.aload_n 0, 1) := by decide +kernel
theorem dX12_init_178 : decode cX12_init 178 = .ok (.sipush 800, 3) := by decide +kernel
theorem dX12_init_181 : decode cX12_init 181 = .ok (.newarray .boolean, 2) := by decide +kernel
theorem dX12_init_183 : decode cX12_init 183 = .ok (.putfield 79, 3) := by decide +kernel
theorem dX12_init_186 : decode cX12_init 186 = .ok (.aload_n 0, 1) := by decide +kernel
theorem dX12_init_187 : decode cX12_init 187 = .ok (.sipush 200, 3) := by decide +kernel
theorem dX12_init_190 : decode cX12_init 190 = .ok (.newarray .int, 2) := by decide +kernel
theorem dX12_init_192 : decode cX12_init 192 = .ok (.putfield 82, 3) := by decide +kernel
theorem dX12_init_195 : decode cX12_init 195 = .ok (.aload_n 0, 1) := by decide +kernel
theorem dX12_init_196 : decode cX12_init 196 = .ok (.sipush 200, 3) := by decide +kernel
theorem dX12_init_199 : decode cX12_init 199 = .ok (.newarray .int, 2) := by decide +kernel
theorem dX12_init_201 : decode cX12_init 201 = .ok (.putfield 85, 3) := by decide +kernel
theorem dX12_init_204 : decode cX12_init 204 = .ok (.return_, 1) := by decide +kernel
theorem dX12_in_0 : decode cX12_in 0 = .ok (.lload_n 0, 1) := by decide +kernel
theorem dX12_in_1 : decode cX12_in 1 = .ok (.lload_n 2, 1) := by decide +kernel
theorem dX12_in_2 : decode cX12_in 2 = .ok (.lcmp, 1) := by decide +kernel
theorem dX12_in_3 : decode cX12_in 3 = .ok (.ifCond .lt 14, 3) := by decide +kernel
theorem dX12_in_6 : decode cX12_in 6 = .ok (.lload_n 0, 1) := by decide +kernel
theorem dX12_in_7 : decode cX12_in 7 = .ok (.lload 4, 2) := by decide +kernel
theorem dX12_in_9 : decode cX12_in 9 = .ok (.lcmp, 1) := by decide +kernel
theorem dX12_in_10 : decode cX12_in 10 = .ok (.ifCond .gt 7, 3) := by decide +kernel
theorem dX12_in_13 : decode cX12_in 13 = .ok (.iconst 1, 1) := by decide +kernel
theorem dX12_in_14 : decode cX12_in 14 = .ok (.goto 4, 3) := by decide +kernel
theorem dX12_in_17 : decode cX12_in 17 = .ok (.iconst 0, 1) := by decide +kernel
theorem dX12_in_18 : decode cX12_in 18 = .ok (.ireturn, 1) := by decide +kernel
theorem dX12_truth_0 : decode cX12_truth 0 = .ok (.iload_n 0, 1) := by decide +kernel
theorem dX12_truth_1 : decode cX12_truth 1 = .ok (.ifCond .eq 7, 3) := by decide +kernel
theorem dX12_truth_8 : decode cX12_truth 8 = .ok (.iconst 0, 1) := by decide +kernel
theorem dX12_truth_9 : decode cX12_truth 9 = .ok (.ireturn, 1) := by decide +kernel
theorem dX12_feed_0 : decode cX12_feed 0 = .ok (.aload_n 0, 1) := by decide +kernel
theorem dX12_feed_1 : decode cX12_feed 1 = .ok (.getfield 88, 3) := by decide +kernel
theorem dX12_feed_4 : decode cX12_feed 4 = .ok (.bipush 20, 2) := by decide +kernel
theorem dX12_feed_6 : decode cX12_feed 6 = .ok (.iadd, 1) := by decide +kernel
theorem dX12_feed_7 : decode cX12_feed 7 = .ok (.sipush 300, 3) := by decide +kernel
theorem dX12_feed_10 : decode cX12_feed 10 = .ok (.if_icmp .le 5, 3) := by decide +kernel
theorem dX12_feed_15 : decode cX12_feed 15 = .ok (.aload_n 0, 1) := by decide +kernel
theorem dX12_feed_16 : decode cX12_feed 16 = .ok (.iload_n 1, 1) := by decide +kernel
theorem dX12_feed_17 : decode cX12_feed 17 = .ok (.invokevirtual 92, 3) := by decide +kernel
theorem dX12_feed_20 : decode cX12_feed 20 = .ok (.aload_n 0, 1) := by decide +kernel
theorem dX12_feed_21 : decode cX12_feed 21 = .ok (.iload_n 2, 1) := by decide +kernel
theorem dX12_feed_22 : decode cX12_feed 22 = .ok (.invokevirtual 92, 3) := by decide +kernel
theorem dX12_feed_25 : decode cX12_feed 25 = .ok (.aload_n 0, 1) := by decide +kernel
theorem dX12_feed_26 : decode cX12_feed 26 = .ok (.iload_n 3, 1) := by decide +kernel
theorem dX12_feed_27 : decode cX12_feed 27 = .ok (.invokevirtual 92, 3) := by decide +kernel
theorem dX12_feed_30 : decode cX12_feed 30 = .ok (.aload_n 0, 1) := by decide +kernel
theorem dX12_feed_31 : decode cX12_feed 31 = .ok (.iload 4, 2) := by decide +kernel
theorem dX12_feed_33 : decode cX12_feed 33 = .ok (.invokevirtual 92, 3) := by decide +kernel
theorem dX12_feed_36 : decode cX12_feed 36 = .ok (.aload_n 0, 1) := by decide +kernel
theorem dX12_feed_37 : decode cX12_feed 37 = .ok (.iload 5, 2) := by decide +kernel
theorem dX12_feed_39 : decode cX12_feed 39 = .ok (.invokevirtual 92, 3) := by decide +kernel
theorem dX12_feed_42 : decode cX12_feed 42 = .ok (.aload_n 0, 1) := by decide +kernel
theorem dX12_feed_43 : decode cX12_feed 43 = .ok (.getfield 88, 3) := by decide +kernel
theorem dX12_feed_46 : decode cX12_feed 46 = .ok (.ireturn, 1) := by decide +kernel
theorem dX12_puts_0 : decode cX12_puts 0 = .ok (.bipush 24, 2) := by decide +kernel
theorem dX12_puts_2 : decode cX12_puts 2 = .ok (.istore_n 2, 1) := by decide +kernel
theorem dX12_puts_3 : decode cX12_puts 3 = .ok (.iload_n 2, 1) := by decide +kernel
theorem dX12_puts_4 : decode cX12_puts 4 = .ok (.ifCond .lt 32, 3) := by decide +kernel
theorem dX12_puts_7 : decode cX12_puts 7 = .ok (.aload_n 0, 1) := by decide +kernel
theorem dX12_puts_8 : decode cX12_puts 8 = .ok (.getfield 11, 3) := by decide +kernel
theorem dX12_puts_11 : decode cX12_puts 11 = .ok (.aload_n 0, 1) := by decide +kernel
theorem dX12_puts_12 : decode cX12_puts 12 = .ok (.getfield 88, 3) := by decide +kernel
theorem dX12_puts_15 : decode cX12_puts 15 = .ok (.iload_n 1, 1) := by decide +kernel
theorem dX12_puts_16 : decode cX12_puts 16 = .ok (.iload_n 2, 1) := by decide +kernel
theorem dX12_puts_17 : decode cX12_puts 17 = .ok (.ishr, 1) := by decide +kernel
theorem dX12_puts_18 : decode cX12_puts 18 = .ok (.i2b, 1) := by decide +kernel
theorem dX12_puts_19 : decode cX12_puts 19 = .ok (.bastore, 1) := by decide +kernel
theorem dX12_puts_20 : decode cX12_puts 20 = .ok (.aload_n 0, 1) := by decide +kernel
theorem dX12_puts_21 : decode cX12_puts 21 = .ok (.dup, 1) := by decide +kernel
theorem dX12_puts_22 : decode cX12_puts 22 = .ok (.getfield 88, 3) := by decide +kernel
theorem dX12_puts_25 : decode cX12_puts 25 = .ok (.iconst 1, 1) := by decide +kernel
theorem dX12_puts_26 : decode cX12_puts 26 = .ok (.iadd, 1) := by decide +kernel
theorem dX12_puts_27 : decode cX12_puts 27 = .ok (.putfield 88, 3) := by decide +kernel
theorem dX12_puts_30 : decode cX12_puts 30 = .ok (.iinc 2 (-8), 3) := by decide +kernel
theorem dX12_puts_33 : decode cX12_puts 33 = .ok (.goto (-30), 3) := by decide +kernel
theorem dX12_puts_36 : decode cX12_puts 36 = .ok (.return_, 1) := by decide +kernel
theorem dX12_end_0 : decode cX12_end 0 = .ok (.iload_n 1, 1) := by decide +kernel
theorem dX12_end_1 : decode cX12_end 1 = .ok (.ifCond .lt 11, 3) := by decide +kernel
theorem dX12_end_4 : decode cX12_end 4 = .ok (.iload_n 1, 1) := by decide +kernel
theorem dX12_end_5 : decode cX12_end 5 = .ok (.aload_n 0, 1) := by decide +kernel
theorem dX12_end_6 : decode cX12_end 6 = .ok (.getfield 88, 3) := by decide +kernel
theorem dX12_end_9 : decode cX12_end 9 = .ok (.if_icmp .le 5, 3) := by decide +kernel
theorem dX12_end_12 : decode cX12_end 12 = .ok (.iconst (-1), 1) := by decide +kernel
theorem dX12_end_13 : decode cX12_end 13 = .ok (.ireturn, 1) := by decide +kernel
theorem dX12_end_14 : decode cX12_end 14 = .ok (.aload_n 0, 1) := by decide +kernel
theorem dX12_end_15 : decode cX12_end 15 = .ok (.iload_n 1, 1) := by decide +kernel
theorem dX12_end_16 : decode cX12_end 16 = .ok (.putfield 88, 3) := by decide +kernel
theorem dX12_end_19 : decode cX12_end 19 = .ok (.iload_n 1, 1) := by decide +kernel
theorem dX12_end_20 : decode cX12_end 20 = .ok (.ireturn, 1) := by decide +kernel
theorem dX12_fails_0 : decode cX12_fails 0 = .ok (.aload_n 0, 1) := by decide +kernel
theorem dX12_fails_1 : decode cX12_fails 1 = .ok (.getfield 96, 3) := by decide +kernel
theorem dX12_fails_4 : decode cX12_fails 4 = .ok (.iconst (-1), 1) := by decide +kernel
theorem dX12_fails_5 : decode cX12_fails 5 = .ok (.if_icmp .ne 13, 3) := by decide +kernel
theorem dX12_fails_8 : decode cX12_fails 8 = .ok (.aload_n 0, 1) := by decide +kernel
theorem dX12_fails_9 : decode cX12_fails 9 = .ok (.bipush 8, 2) := by decide +kernel
theorem dX12_fails_11 : decode cX12_fails 11 = .ok (.iload_n 2, 1) := by decide +kernel
theorem dX12_fails_12 : decode cX12_fails 12 = .ok (.imul, 1) := by decide +kernel
theorem dX12_fails_13 : decode cX12_fails 13 = .ok (.iload_n 1, 1) := by decide +kernel
theorem dX12_fails_14 : decode cX12_fails 14 = .ok (.iadd, 1) := by decide +kernel
theorem dX12_fails_15 : decode cX12_fails 15 = .ok (.putfield 96, 3) := by decide +kernel
theorem dX12_fails_18 : decode cX12_fails 18 = .ok (.return_, 1) := by decide +kernel
theorem dX12_isRight_0 : decode cX12_isRight 0 = .ok (.aload_n 0, 1) := by decide +kernel
theorem dX12_isRight_1 : decode cX12_isRight 1 = .ok (.getfield 96, 3) := by decide +kernel
theorem dX12_isRight_4 : decode cX12_isRight 4 = .ok (.iconst (-1), 1) := by decide +kernel
theorem dX12_isRight_5 : decode cX12_isRight 5 = .ok (.if_icmp .ne 7, 3) := by decide +kernel
theorem dX12_isRight_8 : decode cX12_isRight 8 = .ok (.iconst 1, 1) := by decide +kernel
theorem dX12_isRight_9 : decode cX12_isRight 9 = .ok (.goto 4, 3) := by decide +kernel
theorem dX12_isRight_12 : decode cX12_isRight 12 = .ok (.iconst 0, 1) := by decide +kernel
theorem dX12_isRight_13 : decode cX12_isRight 13 = .ok (.ireturn, 1) := by decide +kernel
theorem dX12_sign_0 : decode cX12_sign 0 = .ok (.aload_n 0, 1) := by decide +kernel
theorem dX12_sign_1 : decode cX12_sign 1 = .ok (.getfield 99, 3) := by decide +kernel
theorem dX12_sign_4 : decode cX12_sign 4 = .ok (.aload_n 0, 1) := by decide +kernel
theorem dX12_sign_5 : decode cX12_sign 5 = .ok (.getfield 88, 3) := by decide +kernel
theorem dX12_sign_8 : decode cX12_sign 8 = .ok (.if_icmp .ge 19, 3) := by decide +kernel
theorem dX12_sign_27 : decode cX12_sign 27 = .ok (.iconst (-1), 1) := by decide +kernel
theorem dX12_sign_28 : decode cX12_sign 28 = .ok (.ireturn, 1) := by decide +kernel
theorem dX12_next_0 : decode cX12_next 0 = .ok (.aload_n 0, 1) := by decide +kernel
theorem dX12_next_1 : decode cX12_next 1 = .ok (.invokevirtual 102, 3) := by decide +kernel
theorem dX12_next_4 : decode cX12_next 4 = .ok (.bipush 32, 2) := by decide +kernel
theorem dX12_next_6 : decode cX12_next 6 = .ok (.if_icmp .ne 16, 3) := by decide +kernel
theorem dX12_next_22 : decode cX12_next 22 = .ok (.aload_n 0, 1) := by decide +kernel
theorem dX12_next_23 : decode cX12_next 23 = .ok (.invokevirtual 102, 3) := by decide +kernel
theorem dX12_next_26 : decode cX12_next 26 = .ok (.ireturn, 1) := by decide +kernel
theorem dX12_takes_0 : decode cX12_takes 0 = .ok (.aload_n 0, 1) := by decide +kernel
theorem dX12_takes_1 : decode cX12_takes 1 = .ok (.invokevirtual 106, 3) := by decide +kernel
theorem dX12_takes_4 : decode cX12_takes 4 = .ok (.pop, 1) := by decide +kernel
theorem dX12_takes_5 : decode cX12_takes 5 = .ok (.iconst 0, 1) := by decide +kernel
theorem dX12_takes_6 : decode cX12_takes 6 = .ok (.istore_n 2, 1) := by decide +kernel
theorem dX12_takes_7 : decode cX12_takes 7 = .ok (.aload_n 0, 1) := by decide +kernel
theorem dX12_takes_8 : decode cX12_takes 8 = .ok (.getfield 99, 3) := by decide +kernel
theorem dX12_takes_11 : decode cX12_takes 11 = .ok (.iload_n 2, 1) := by decide +kernel
theorem dX12_takes_12 : decode cX12_takes 12 = .ok (.iadd, 1) := by decide +kernel
theorem dX12_takes_13 : decode cX12_takes 13 = .ok (.aload_n 0, 1) := by decide +kernel
theorem dX12_takes_14 : decode cX12_takes 14 = .ok (.getfield 88, 3) := by decide +kernel
theorem dX12_takes_17 : decode cX12_takes 17 = .ok (.if_icmp .ge 33, 3) := by decide +kernel
theorem dX12_takes_50 : decode cX12_takes 50 = .ok (.aload_n 0, 1) := by decide +kernel
theorem dX12_takes_51 : decode cX12_takes 51 = .ok (.invokevirtual 117, 3) := by decide +kernel
theorem dX12_takes_54 : decode cX12_takes 54 = .ok (.ifCond .eq 15, 3) := by decide +kernel
theorem dX12_takes_57 : decode cX12_takes 57 = .ok (.iload_n 2, 1) := by decide +kernel
theorem dX12_takes_58 : decode cX12_takes 58 = .ok (.aload_n 1, 1) := by decide +kernel
theorem dX12_takes_59 : decode cX12_takes 59 = .ok (.invokevirtual 121, 3) := by decide +kernel
theorem dX12_takes_62 : decode cX12_takes 62 = .ok (.if_icmp .ne 7, 3) := by decide +kernel
theorem dX12_takes_69 : decode cX12_takes 69 = .ok (.iconst 0, 1) := by decide +kernel
theorem dX12_takes_70 : decode cX12_takes 70 = .ok (.istore_n 3, 1) := by decide +kernel
theorem dX12_takes_71 : decode cX12_takes 71 = .ok (.iconst 0, 1) := by decide +kernel
theorem dX12_takes_72 : decode cX12_takes 72 = .ok (.istore 4, 2) := by decide +kernel
theorem dX12_takes_74 : decode cX12_takes 74 = .ok (.iload 4, 2) := by decide +kernel
theorem dX12_takes_76 : decode cX12_takes 76 = .ok (.aload_n 1, 1) := by decide +kernel
theorem dX12_takes_77 : decode cX12_takes 77 = .ok (.invokevirtual 121, 3) := by decide +kernel
theorem dX12_takes_80 : decode cX12_takes 80 = .ok (.if_icmp .ge 40, 3) := by decide +kernel
theorem dX12_takes_83 : decode cX12_takes 83 = .ok (.iload_n 3, 1) := by decide +kernel
theorem dX12_takes_84 : decode cX12_takes 84 = .ok (.ifCond .eq 36, 3) := by decide +kernel
theorem dX12_takes_120 : decode cX12_takes 120 = .ok (.aload_n 0, 1) := by decide +kernel
theorem dX12_takes_121 : decode cX12_takes 121 = .ok (.dup, 1) := by decide +kernel
theorem dX12_takes_122 : decode cX12_takes 122 = .ok (.getfield 99, 3) := by decide +kernel
theorem dX12_takes_125 : decode cX12_takes 125 = .ok (.iload_n 3, 1) := by decide +kernel
theorem dX12_takes_126 : decode cX12_takes 126 = .ok (.ifCond .eq 7, 3) := by decide +kernel
theorem dX12_takes_133 : decode cX12_takes 133 = .ok (.iconst 0, 1) := by decide +kernel
theorem dX12_takes_134 : decode cX12_takes 134 = .ok (.iadd, 1) := by decide +kernel
theorem dX12_takes_135 : decode cX12_takes 135 = .ok (.putfield 99, 3) := by decide +kernel
theorem dX12_takes_138 : decode cX12_takes 138 = .ok (.iload_n 3, 1) := by decide +kernel
theorem dX12_takes_139 : decode cX12_takes 139 = .ok (.ireturn, 1) := by decide +kernel
theorem dX12_number_0 : decode cX12_number 0 = .ok (.aload_n 0, 1) := by decide +kernel
theorem dX12_number_1 : decode cX12_number 1 = .ok (.invokevirtual 106, 3) := by decide +kernel
theorem dX12_number_4 : decode cX12_number 4 = .ok (.pop, 1) := by decide +kernel
theorem dX12_number_5 : decode cX12_number 5 = .ok (.aload_n 0, 1) := by decide +kernel
theorem dX12_number_6 : decode cX12_number 6 = .ok (.aload_n 0, 1) := by decide +kernel
theorem dX12_number_7 : decode cX12_number 7 = .ok (.getfield 99, 3) := by decide +kernel
theorem dX12_number_10 : decode cX12_number 10 = .ok (.putfield 130, 3) := by decide +kernel
theorem dX12_number_13 : decode cX12_number 13 = .ok (.aload_n 0, 1) := by decide +kernel
theorem dX12_number_14 : decode cX12_number 14 = .ok (.invokevirtual 117, 3) := by decide +kernel
theorem dX12_number_17 : decode cX12_number 17 = .ok (.ifCond .eq 20, 3) := by decide +kernel
theorem dX12_number_37 : decode cX12_number 37 = .ok (.iconst 0, 1) := by decide +kernel
theorem dX12_number_38 : decode cX12_number 38 = .ok (.istore 4, 2) := by decide +kernel
theorem dX12_number_40 : decode cX12_number 40 = .ok (.aload_n 0, 1) := by decide +kernel
theorem dX12_number_41 : decode cX12_number 41 = .ok (.dup, 1) := by decide +kernel
theorem dX12_number_42 : decode cX12_number 42 = .ok (.getfield 99, 3) := by decide +kernel
theorem dX12_number_45 : decode cX12_number 45 = .ok (.iload 4, 2) := by decide +kernel
theorem dX12_number_47 : decode cX12_number 47 = .ok (.invokestatic 133, 3) := by decide +kernel
theorem dX12_number_50 : decode cX12_number 50 = .ok (.iadd, 1) := by decide +kernel
theorem dX12_number_51 : decode cX12_number 51 = .ok (.putfield 99, 3) := by decide +kernel
theorem dX12_number_54 : decode cX12_number 54 = .ok (.aload_n 0, 1) := by decide +kernel
theorem dX12_number_55 : decode cX12_number 55 = .ok (.invokevirtual 117, 3) := by decide +kernel
theorem dX12_number_58 : decode cX12_number 58 = .ok (.ifCond .eq 29, 3) := by decide +kernel
theorem dX12_number_87 : decode cX12_number 87 = .ok (.iconst 0, 1) := by decide +kernel
theorem dX12_number_88 : decode cX12_number 88 = .ok (.istore 5, 2) := by decide +kernel
theorem dX12_number_90 : decode cX12_number 90 = .ok (.aload_n 0, 1) := by decide +kernel
theorem dX12_number_91 : decode cX12_number 91 = .ok (.invokevirtual 117, 3) := by decide +kernel
theorem dX12_number_94 : decode cX12_number 94 = .ok (.ifCond .eq 53, 3) := by decide +kernel
theorem dX12_number_147 : decode cX12_number 147 = .ok (.iload 4, 2) := by decide +kernel
theorem dX12_number_149 : decode cX12_number 149 = .ok (.ifCond .eq 9, 3) := by decide +kernel
theorem dX12_number_158 : decode cX12_number 158 = .ok (.iload 5, 2) := by decide +kernel
theorem dX12_number_160 : decode cX12_number 160 = .ok (.istore 5, 2) := by decide +kernel
theorem dX12_number_162 : decode cX12_number 162 = .ok (.aload_n 0, 1) := by decide +kernel
theorem dX12_number_163 : decode cX12_number 163 = .ok (.invokevirtual 117, 3) := by decide +kernel
theorem dX12_number_166 : decode cX12_number 166 = .ok (.ifCond .eq 25, 3) := by decide +kernel
theorem dX12_number_191 : decode cX12_number 191 = .ok (.iload 5, 2) := by decide +kernel
theorem dX12_number_193 : decode cX12_number 193 = .ok (.ireturn, 1) := by decide +kernel
theorem dX12_readsFile_0 : decode cX12_readsFile 0 = .ok (.aload_n 0, 1) := by decide +kernel
theorem dX12_readsFile_1 : decode cX12_readsFile 1 = .ok (.invokevirtual 106, 3) := by decide +kernel
theorem dX12_readsFile_4 : decode cX12_readsFile 4 = .ok (.pop, 1) := by decide +kernel
theorem dX12_readsFile_5 : decode cX12_readsFile 5 = .ok (.aload_n 0, 1) := by decide +kernel
theorem dX12_readsFile_6 : decode cX12_readsFile 6 = .ok (.getfield 99, 3) := by decide +kernel
theorem dX12_readsFile_9 : decode cX12_readsFile 9 = .ok (.istore_n 1, 1) := by decide +kernel
theorem dX12_readsFile_10 : decode cX12_readsFile 10 = .ok (.aload_n 0, 1) := by decide +kernel
theorem dX12_readsFile_11 : decode cX12_readsFile 11 = .ok (.ldc 164, 2) := by decide +kernel
theorem dX12_readsFile_13 : decode cX12_readsFile 13 = .ok (.invokevirtual 154, 3) := by decide +kernel
theorem dX12_readsFile_16 : decode cX12_readsFile 16 = .ok (.ifCond .ne 9, 3) := by decide +kernel
theorem dX12_readsFile_19 : decode cX12_readsFile 19 = .ok (.aload_n 0, 1) := by decide +kernel
theorem dX12_readsFile_20 : decode cX12_readsFile 20 = .ok (.iconst 1, 1) := by decide +kernel
theorem dX12_readsFile_21 : decode cX12_readsFile 21 = .ok (.iload_n 1, 1) := by decide +kernel
theorem dX12_readsFile_22 : decode cX12_readsFile 22 = .ok (.invokevirtual 141, 3) := by decide +kernel
theorem dX12_readsFile_25 : decode cX12_readsFile 25 = .ok (.aload_n 0, 1) := by decide +kernel
theorem dX12_readsFile_26 : decode cX12_readsFile 26 = .ok (.aload_n 0, 1) := by decide +kernel
theorem dX12_readsFile_27 : decode cX12_readsFile 27 = .ok (.iconst 3, 1) := by decide +kernel
theorem dX12_readsFile_28 : decode cX12_readsFile 28 = .ok (.bipush 8, 2) := by decide +kernel
theorem dX12_readsFile_30 : decode cX12_readsFile 30 = .ok (.iconst 0, 1) := by decide +kernel
theorem dX12_readsFile_31 : decode cX12_readsFile 31 = .ok (.invokevirtual 161, 3) := by decide +kernel
theorem dX12_readsFile_34 : decode cX12_readsFile 34 = .ok (.putfield 166, 3) := by decide +kernel
theorem dX12_readsFile_37 : decode cX12_readsFile 37 = .ok (.aload_n 0, 1) := by decide +kernel
theorem dX12_readsFile_38 : decode cX12_readsFile 38 = .ok (.aload_n 0, 1) := by decide +kernel
theorem dX12_readsFile_39 : decode cX12_readsFile 39 = .ok (.iconst 1, 1) := by decide +kernel
theorem dX12_readsFile_40 : decode cX12_readsFile 40 = .ok (.iconst 4, 1) := by decide +kernel
theorem dX12_readsFile_41 : decode cX12_readsFile 41 = .ok (.aload_n 0, 1) := by decide +kernel
theorem dX12_readsFile_42 : decode cX12_readsFile 42 = .ok (.getfield 166, 3) := by decide +kernel
theorem dX12_readsFile_45 : decode cX12_readsFile 45 = .ok (.iconst 2, 1) := by decide +kernel
theorem dX12_readsFile_46 : decode cX12_readsFile 46 = .ok (.idiv, 1) := by decide +kernel
theorem dX12_readsFile_47 : decode cX12_readsFile 47 = .ok (.invokestatic 146, 3) := by decide +kernel
theorem dX12_readsFile_50 : decode cX12_readsFile 50 = .ok (.iconst 0, 1) := by decide +kernel
theorem dX12_readsFile_51 : decode cX12_readsFile 51 = .ok (.invokevirtual 161, 3) := by decide +kernel
theorem dX12_readsFile_54 : decode cX12_readsFile 54 = .ok (.putfield 169, 3) := by decide +kernel
theorem dX12_readsFile_57 : decode cX12_readsFile 57 = .ok (.aload_n 0, 1) := by decide +kernel
theorem dX12_readsFile_58 : decode cX12_readsFile 58 = .ok (.aload_n 0, 1) := by decide +kernel
theorem dX12_readsFile_59 : decode cX12_readsFile 59 = .ok (.iconst 1, 1) := by decide +kernel
theorem dX12_readsFile_60 : decode cX12_readsFile 60 = .ok (.iconst 3, 1) := by decide +kernel
theorem dX12_readsFile_61 : decode cX12_readsFile 61 = .ok (.aload_n 0, 1) := by decide +kernel
theorem dX12_readsFile_62 : decode cX12_readsFile 62 = .ok (.getfield 166, 3) := by decide +kernel
theorem dX12_readsFile_65 : decode cX12_readsFile 65 = .ok (.iconst 1, 1) := by decide +kernel
theorem dX12_readsFile_66 : decode cX12_readsFile 66 = .ok (.iadd, 1) := by decide +kernel
theorem dX12_readsFile_67 : decode cX12_readsFile 67 = .ok (.aload_n 0, 1) := by decide +kernel
theorem dX12_readsFile_68 : decode cX12_readsFile 68 = .ok (.getfield 169, 3) := by decide +kernel
theorem dX12_readsFile_71 : decode cX12_readsFile 71 = .ok (.isub, 1) := by decide +kernel
theorem dX12_readsFile_72 : decode cX12_readsFile 72 = .ok (.invokestatic 146, 3) := by decide +kernel
theorem dX12_readsFile_75 : decode cX12_readsFile 75 = .ok (.iconst 0, 1) := by decide +kernel
theorem dX12_readsFile_76 : decode cX12_readsFile 76 = .ok (.invokevirtual 161, 3) := by decide +kernel
theorem dX12_readsFile_79 : decode cX12_readsFile 79 = .ok (.putfield 172, 3) := by decide +kernel
theorem dX12_readsFile_82 : decode cX12_readsFile 82 = .ok (.aload_n 0, 1) := by decide +kernel
theorem dX12_readsFile_83 : decode cX12_readsFile 83 = .ok (.iconst 0, 1) := by decide +kernel
theorem dX12_readsFile_84 : decode cX12_readsFile 84 = .ok (.putfield 158, 3) := by decide +kernel
theorem dX12_readsFile_87 : decode cX12_readsFile 87 = .ok (.aload_n 0, 1) := by decide +kernel
theorem dX12_readsFile_88 : decode cX12_readsFile 88 = .ok (.invokevirtual 117, 3) := by decide +kernel
theorem dX12_readsFile_91 : decode cX12_readsFile 91 = .ok (.ifCond .eq 29, 3) := by decide +kernel
theorem dX12_readsFile_120 : decode cX12_readsFile 120 = .ok (.aload_n 0, 1) := by decide +kernel
theorem dX12_readsFile_121 : decode cX12_readsFile 121 = .ok (.invokevirtual 117, 3) := by decide +kernel
theorem dX12_readsFile_124 : decode cX12_readsFile 124 = .ok (.ifCond .eq 20, 3) := by decide +kernel
theorem dX12_readsFile_144 : decode cX12_readsFile 144 = .ok (.return_, 1) := by decide +kernel
theorem dX12_file_0 : decode cX12_file 0 = .ok (.aload_n 0, 1) := by decide +kernel
theorem dX12_file_1 : decode cX12_file 1 = .ok (.iconst 0, 1) := by decide +kernel
theorem dX12_file_2 : decode cX12_file 2 = .ok (.putfield 99, 3) := by decide +kernel
theorem dX12_file_5 : decode cX12_file 5 = .ok (.aload_n 0, 1) := by decide +kernel
theorem dX12_file_6 : decode cX12_file 6 = .ok (.iconst (-1), 1) := by decide +kernel
theorem dX12_file_7 : decode cX12_file 7 = .ok (.putfield 96, 3) := by decide +kernel
theorem dX12_file_10 : decode cX12_file 10 = .ok (.aload_n 0, 1) := by decide +kernel
theorem dX12_file_11 : decode cX12_file 11 = .ok (.invokevirtual 178, 3) := by decide +kernel
theorem dX12_file_14 : decode cX12_file 14 = .ok (.aload_n 0, 1) := by decide +kernel
theorem dX12_file_15 : decode cX12_file 15 = .ok (.iconst 0, 1) := by decide +kernel
theorem dX12_file_16 : decode cX12_file 16 = .ok (.putfield 88, 3) := by decide +kernel
theorem dX12_file_19 : decode cX12_file 19 = .ok (.aload_n 0, 1) := by decide +kernel
theorem dX12_file_20 : decode cX12_file 20 = .ok (.invokevirtual 117, 3) := by decide +kernel
theorem dX12_file_23 : decode cX12_file 23 = .ok (.ifCond .ne 11, 3) := by decide +kernel
theorem dX12_file_26 : decode cX12_file 26 = .ok (.bipush (-2), 2) := by decide +kernel
theorem dX12_file_28 : decode cX12_file 28 = .ok (.aload_n 0, 1) := by decide +kernel
theorem dX12_file_29 : decode cX12_file 29 = .ok (.getfield 96, 3) := by decide +kernel
theorem dX12_file_32 : decode cX12_file 32 = .ok (.isub, 1) := by decide +kernel
theorem dX12_file_33 : decode cX12_file 33 = .ok (.ireturn, 1) := by decide +kernel
theorem dX12_undo_0 : decode cX12_undo 0 = .ok (.aload_n 0, 1) := by decide +kernel
theorem dX12_undo_1 : decode cX12_undo 1 = .ok (.getfield 196, 3) := by decide +kernel
theorem dX12_undo_4 : decode cX12_undo 4 = .ok (.ifCond .ne 5, 3) := by decide +kernel
theorem dX12_undo_7 : decode cX12_undo 7 = .ok (.iconst (-1), 1) := by decide +kernel
theorem dX12_undo_8 : decode cX12_undo 8 = .ok (.ireturn, 1) := by decide +kernel
theorem dX12_r_0 : decode cX12_r 0 = .ok (.sipush 11900, 3) := by decide +kernel
theorem dX12_r_3 : decode cX12_r 3 = .ok (.bipush 6, 2) := by decide +kernel
theorem dX12_r_5 : decode cX12_r 5 = .ok (.iload_n 0, 1) := by decide +kernel
theorem dX12_r_6 : decode cX12_r 6 = .ok (.imul, 1) := by decide +kernel
theorem dX12_r_7 : decode cX12_r 7 = .ok (.iadd, 1) := by decide +kernel
theorem dX12_r_8 : decode cX12_r 8 = .ok (.iload_n 1, 1) := by decide +kernel
theorem dX12_r_9 : decode cX12_r 9 = .ok (.iadd, 1) := by decide +kernel
theorem dX12_r_10 : decode cX12_r 10 = .ok (.ireturn, 1) := by decide +kernel
theorem dX12_isRect_0 : decode cX12_isRect 0 = .ok (.iload_n 1, 1) := by decide +kernel
theorem dX12_isRect_1 : decode cX12_isRect 1 = .ok (.i2l, 1) := by decide +kernel
theorem dX12_isRect_2 : decode cX12_isRect 2 = .ok (.lconst 0, 1) := by decide +kernel
theorem dX12_isRect_3 : decode cX12_isRect 3 = .ok (.ldc2_w 206, 3) := by decide +kernel
theorem dX12_isRect_6 : decode cX12_isRect 6 = .ok (.invokestatic 113, 3) := by decide +kernel
theorem dX12_isRect_9 : decode cX12_isRect 9 = .ok (.ifCond .eq 21, 3) := by decide +kernel
theorem dX12_isRect_12 : decode cX12_isRect 12 = .ok (.aload_n 0, 1) := by decide +kernel
theorem dX12_isRect_13 : decode cX12_isRect 13 = .ok (.getfield 19, 3) := by decide +kernel
theorem dX12_isRect_16 : decode cX12_isRect 16 = .ok (.iload_n 1, 1) := by decide +kernel
theorem dX12_isRect_17 : decode cX12_isRect 17 = .ok (.iconst 0, 1) := by decide +kernel
theorem dX12_isRect_18 : decode cX12_isRect 18 = .ok (.invokestatic 208, 3) := by decide +kernel
theorem dX12_isRect_21 : decode cX12_isRect 21 = .ok (.iaload, 1) := by decide +kernel
theorem dX12_isRect_22 : decode cX12_isRect 22 = .ok (.iconst 1, 1) := by decide +kernel
theorem dX12_isRect_23 : decode cX12_isRect 23 = .ok (.if_icmp .ne 7, 3) := by decide +kernel
theorem dX12_isRect_30 : decode cX12_isRect 30 = .ok (.iconst 0, 1) := by decide +kernel
theorem dX12_isRect_31 : decode cX12_isRect 31 = .ok (.ireturn, 1) := by decide +kernel
theorem dX12_numbers_0 : decode cX12_numbers 0 = .ok (.aload_n 0, 1) := by decide +kernel
theorem dX12_numbers_1 : decode cX12_numbers 1 = .ok (.iconst 0, 1) := by decide +kernel
theorem dX12_numbers_2 : decode cX12_numbers 2 = .ok (.putfield 298, 3) := by decide +kernel
theorem dX12_numbers_5 : decode cX12_numbers 5 = .ok (.aload_n 0, 1) := by decide +kernel
theorem dX12_numbers_6 : decode cX12_numbers 6 = .ok (.getfield 181, 3) := by decide +kernel
theorem dX12_numbers_9 : decode cX12_numbers 9 = .ok (.ifCond .eq 15, 3) := by decide +kernel
theorem dX12_numbers_24 : decode cX12_numbers 24 = .ok (.return_, 1) := by decide +kernel
theorem dX12_pageBy_0 : decode cX12_pageBy 0 = .ok (.aload_n 0, 1) := by decide +kernel
theorem dX12_pageBy_1 : decode cX12_pageBy 1 = .ok (.invokevirtual 304, 3) := by decide +kernel
theorem dX12_pageBy_4 : decode cX12_pageBy 4 = .ok (.iload_n 1, 1) := by decide +kernel
theorem dX12_pageBy_5 : decode cX12_pageBy 5 = .ok (.i2l, 1) := by decide +kernel
theorem dX12_pageBy_6 : decode cX12_pageBy 6 = .ok (.lconst 0, 1) := by decide +kernel
theorem dX12_pageBy_7 : decode cX12_pageBy 7 = .ok (.aload_n 0, 1) := by decide +kernel
theorem dX12_pageBy_8 : decode cX12_pageBy 8 = .ok (.getfield 298, 3) := by decide +kernel
theorem dX12_pageBy_11 : decode cX12_pageBy 11 = .ok (.iconst 1, 1) := by decide +kernel
theorem dX12_pageBy_12 : decode cX12_pageBy 12 = .ok (.isub, 1) := by decide +kernel
theorem dX12_pageBy_13 : decode cX12_pageBy 13 = .ok (.i2l, 1) := by decide +kernel
theorem dX12_pageBy_14 : decode cX12_pageBy 14 = .ok (.invokestatic 113, 3) := by decide +kernel
theorem dX12_pageBy_17 : decode cX12_pageBy 17 = .ok (.ifCond .eq 12, 3) := by decide +kernel
theorem dX12_pageBy_29 : decode cX12_pageBy 29 = .ok (.iconst (-1), 1) := by decide +kernel
theorem dX12_pageBy_30 : decode cX12_pageBy 30 = .ok (.ireturn, 1) := by decide +kernel
theorem dX12_put_0 : decode cX12_put 0 = .ok (.aload_n 0, 1) := by decide +kernel
theorem dX12_put_1 : decode cX12_put 1 = .ok (.getfield 181, 3) := by decide +kernel
theorem dX12_put_4 : decode cX12_put 4 = .ok (.ifCond .eq 27, 3) := by decide +kernel
theorem dX12_put_31 : decode cX12_put 31 = .ok (.iconst (-1), 1) := by decide +kernel
theorem dX12_put_32 : decode cX12_put 32 = .ok (.ireturn, 1) := by decide +kernel
theorem dX12_remove_0 : decode cX12_remove 0 = .ok (.aload_n 0, 1) := by decide +kernel
theorem dX12_remove_1 : decode cX12_remove 1 = .ok (.iload_n 1, 1) := by decide +kernel
theorem dX12_remove_2 : decode cX12_remove 2 = .ok (.invokevirtual 312, 3) := by decide +kernel
theorem dX12_remove_5 : decode cX12_remove 5 = .ok (.ifCond .ne 5, 3) := by decide +kernel
theorem dX12_remove_8 : decode cX12_remove 8 = .ok (.iconst (-1), 1) := by decide +kernel
theorem dX12_remove_9 : decode cX12_remove 9 = .ok (.ireturn, 1) := by decide +kernel
theorem dX12_shift_0 : decode cX12_shift 0 = .ok (.aload_n 0, 1) := by decide +kernel
theorem dX12_shift_1 : decode cX12_shift 1 = .ok (.iload_n 1, 1) := by decide +kernel
theorem dX12_shift_2 : decode cX12_shift 2 = .ok (.invokevirtual 312, 3) := by decide +kernel
theorem dX12_shift_5 : decode cX12_shift 5 = .ok (.ifCond .ne 5, 3) := by decide +kernel
theorem dX12_shift_8 : decode cX12_shift 8 = .ok (.iconst (-1), 1) := by decide +kernel
theorem dX12_shift_9 : decode cX12_shift 9 = .ok (.ireturn, 1) := by decide +kernel
theorem dX12_bulk_0 : decode cX12_bulk 0 = .ok (.aload_n 0, 1) := by decide +kernel
theorem dX12_bulk_1 : decode cX12_bulk 1 = .ok (.getfield 181, 3) := by decide +kernel
theorem dX12_bulk_4 : decode cX12_bulk 4 = .ok (.ifCond .ne 5, 3) := by decide +kernel
theorem dX12_bulk_7 : decode cX12_bulk 7 = .ok (.iconst (-1), 1) := by decide +kernel
theorem dX12_bulk_8 : decode cX12_bulk 8 = .ok (.ireturn, 1) := by decide +kernel
theorem dX12_graft_0 : decode cX12_graft 0 = .ok (.aload_n 0, 1) := by decide +kernel
theorem dX12_graft_1 : decode cX12_graft 1 = .ok (.iload_n 1, 1) := by decide +kernel
theorem dX12_graft_2 : decode cX12_graft 2 = .ok (.invokevirtual 340, 3) := by decide +kernel
theorem dX12_graft_5 : decode cX12_graft 5 = .ok (.istore_n 3, 1) := by decide +kernel
theorem dX12_graft_6 : decode cX12_graft 6 = .ok (.aload_n 0, 1) := by decide +kernel
theorem dX12_graft_7 : decode cX12_graft 7 = .ok (.iload_n 2, 1) := by decide +kernel
theorem dX12_graft_8 : decode cX12_graft 8 = .ok (.invokevirtual 340, 3) := by decide +kernel
theorem dX12_graft_11 : decode cX12_graft 11 = .ok (.istore 4, 2) := by decide +kernel
theorem dX12_graft_13 : decode cX12_graft 13 = .ok (.iload_n 3, 1) := by decide +kernel
theorem dX12_graft_14 : decode cX12_graft 14 = .ok (.iconst (-1), 1) := by decide +kernel
theorem dX12_graft_15 : decode cX12_graft 15 = .ok (.if_icmp .eq 21, 3) := by decide +kernel
theorem dX12_graft_36 : decode cX12_graft 36 = .ok (.iconst (-1), 1) := by decide +kernel
theorem dX12_graft_37 : decode cX12_graft 37 = .ok (.ireturn, 1) := by decide +kernel
theorem dX12_draws_0 : decode cX12_draws 0 = .ok (.iload_n 1, 1) := by decide +kernel
theorem dX12_draws_1 : decode cX12_draws 1 = .ok (.ifCond .ge 5, 3) := by decide +kernel
theorem dX12_draws_4 : decode cX12_draws 4 = .ok (.iconst (-1), 1) := by decide +kernel
theorem dX12_draws_5 : decode cX12_draws 5 = .ok (.ireturn, 1) := by decide +kernel
theorem dX12_draws_6 : decode cX12_draws 6 = .ok (.aload_n 0, 1) := by decide +kernel
theorem dX12_draws_7 : decode cX12_draws 7 = .ok (.getfield 19, 3) := by decide +kernel
theorem dX12_draws_10 : decode cX12_draws 10 = .ok (.sipush 12506, 3) := by decide +kernel
theorem dX12_draws_13 : decode cX12_draws 13 = .ok (.iaload, 1) := by decide +kernel
theorem dX12_draws_14 : decode cX12_draws 14 = .ok (.istore_n 2, 1) := by decide +kernel
theorem dX12_draws_15 : decode cX12_draws 15 = .ok (.aload_n 0, 1) := by decide +kernel
theorem dX12_draws_16 : decode cX12_draws 16 = .ok (.getfield 19, 3) := by decide +kernel
theorem dX12_draws_19 : decode cX12_draws 19 = .ok (.sipush 12506, 3) := by decide +kernel
theorem dX12_draws_22 : decode cX12_draws 22 = .ok (.iload_n 1, 1) := by decide +kernel
theorem dX12_draws_23 : decode cX12_draws 23 = .ok (.iastore, 1) := by decide +kernel
theorem dX12_draws_24 : decode cX12_draws 24 = .ok (.iload_n 2, 1) := by decide +kernel
theorem dX12_draws_25 : decode cX12_draws 25 = .ok (.ireturn, 1) := by decide +kernel
theorem dX12_drawn_0 : decode cX12_drawn 0 = .ok (.aload_n 0, 1) := by decide +kernel
theorem dX12_drawn_1 : decode cX12_drawn 1 = .ok (.getfield 181, 3) := by decide +kernel
theorem dX12_drawn_4 : decode cX12_drawn 4 = .ok (.ifCond .eq 15, 3) := by decide +kernel
theorem dX12_drawn_19 : decode cX12_drawn 19 = .ok (.iconst (-1), 1) := by decide +kernel
theorem dX12_drawn_20 : decode cX12_drawn 20 = .ok (.ireturn, 1) := by decide +kernel
theorem dX12_keep_0 : decode cX12_keep 0 = .ok (.aload_n 0, 1) := by decide +kernel
theorem dX12_keep_1 : decode cX12_keep 1 = .ok (.getfield 181, 3) := by decide +kernel
theorem dX12_keep_4 : decode cX12_keep 4 = .ok (.ifCond .eq 13, 3) := by decide +kernel
theorem dX12_keep_17 : decode cX12_keep 17 = .ok (.iconst (-1), 1) := by decide +kernel
theorem dX12_keep_18 : decode cX12_keep 18 = .ok (.ireturn, 1) := by decide +kernel
theorem dX12_isKept_0 : decode cX12_isKept 0 = .ok (.aload_n 0, 1) := by decide +kernel
theorem dX12_isKept_1 : decode cX12_isKept 1 = .ok (.getfield 358, 3) := by decide +kernel
theorem dX12_isKept_4 : decode cX12_isKept 4 = .ok (.iload_n 1, 1) := by decide +kernel
theorem dX12_isKept_5 : decode cX12_isKept 5 = .ok (.ishr, 1) := by decide +kernel
theorem dX12_isKept_6 : decode cX12_isKept 6 = .ok (.iconst 1, 1) := by decide +kernel
theorem dX12_isKept_7 : decode cX12_isKept 7 = .ok (.iand, 1) := by decide +kernel
theorem dX12_isKept_8 : decode cX12_isKept 8 = .ok (.iconst 1, 1) := by decide +kernel
theorem dX12_isKept_9 : decode cX12_isKept 9 = .ok (.if_icmp .ne 7, 3) := by decide +kernel
theorem dX12_isKept_12 : decode cX12_isKept 12 = .ok (.iconst 1, 1) := by decide +kernel
theorem dX12_isKept_13 : decode cX12_isKept 13 = .ok (.goto 4, 3) := by decide +kernel
theorem dX12_isKept_16 : decode cX12_isKept 16 = .ok (.iconst 0, 1) := by decide +kernel
theorem dX12_isKept_17 : decode cX12_isKept 17 = .ok (.ireturn, 1) := by decide +kernel
theorem dX12_back_0 : decode cX12_back 0 = .ok (.iload_n 1, 1) := by decide +kernel
theorem dX12_back_1 : decode cX12_back 1 = .ok (.i2l, 1) := by decide +kernel
theorem dX12_back_2 : decode cX12_back 2 = .ok (.lconst 0, 1) := by decide +kernel
theorem dX12_back_3 : decode cX12_back 3 = .ok (.lconst 1, 1) := by decide +kernel
theorem dX12_back_4 : decode cX12_back 4 = .ok (.invokestatic 113, 3) := by decide +kernel
theorem dX12_back_7 : decode cX12_back 7 = .ok (.ifCond .ne 5, 3) := by decide +kernel
theorem dX12_back_10 : decode cX12_back 10 = .ok (.iconst (-1), 1) := by decide +kernel
theorem dX12_back_11 : decode cX12_back 11 = .ok (.ireturn, 1) := by decide +kernel
theorem dX12_back_12 : decode cX12_back 12 = .ok (.aload_n 0, 1) := by decide +kernel
theorem dX12_back_13 : decode cX12_back 13 = .ok (.iload_n 1, 1) := by decide +kernel
theorem dX12_back_14 : decode cX12_back 14 = .ok (.invokevirtual 364, 3) := by decide +kernel
theorem dX12_back_17 : decode cX12_back 17 = .ok (.ifCond .ne 6, 3) := by decide +kernel
theorem dX12_back_20 : decode cX12_back 20 = .ok (.bipush (-2), 2) := by decide +kernel
theorem dX12_back_22 : decode cX12_back 22 = .ok (.ireturn, 1) := by decide +kernel
theorem dX12_rect_0 : decode cX12_rect 0 = .ok (.aload_n 0, 1) := by decide +kernel
theorem dX12_rect_1 : decode cX12_rect 1 = .ok (.iload_n 1, 1) := by decide +kernel
theorem dX12_rect_2 : decode cX12_rect 2 = .ok (.invokevirtual 312, 3) := by decide +kernel
theorem dX12_rect_5 : decode cX12_rect 5 = .ok (.ifCond .eq 15, 3) := by decide +kernel
theorem dX12_rect_20 : decode cX12_rect 20 = .ok (.ldc_w 369, 3) := by decide +kernel
theorem dX12_rect_23 : decode cX12_rect 23 = .ok (.ireturn, 1) := by decide +kernel
theorem dX12_page_0 : decode cX12_page 0 = .ok (.aload_n 0, 1) := by decide +kernel
theorem dX12_page_1 : decode cX12_page 1 = .ok (.iload_n 1, 1) := by decide +kernel
theorem dX12_page_2 : decode cX12_page 2 = .ok (.invokevirtual 340, 3) := by decide +kernel
theorem dX12_page_5 : decode cX12_page 5 = .ok (.istore_n 3, 1) := by decide +kernel
theorem dX12_page_6 : decode cX12_page 6 = .ok (.iload_n 3, 1) := by decide +kernel
theorem dX12_page_7 : decode cX12_page 7 = .ok (.iconst (-1), 1) := by decide +kernel
theorem dX12_page_8 : decode cX12_page 8 = .ok (.if_icmp .eq 15, 3) := by decide +kernel
theorem dX12_page_23 : decode cX12_page 23 = .ok (.ldc_w 369, 3) := by decide +kernel
theorem dX12_page_26 : decode cX12_page 26 = .ok (.ireturn, 1) := by decide +kernel
theorem dX12_entry_0 : decode cX12_entry 0 = .ok (.aload_n 0, 1) := by decide +kernel
theorem dX12_entry_1 : decode cX12_entry 1 = .ok (.iload_n 1, 1) := by decide +kernel
theorem dX12_entry_2 : decode cX12_entry 2 = .ok (.invokevirtual 340, 3) := by decide +kernel
theorem dX12_entry_5 : decode cX12_entry 5 = .ok (.istore_n 3, 1) := by decide +kernel
theorem dX12_entry_6 : decode cX12_entry 6 = .ok (.iload_n 3, 1) := by decide +kernel
theorem dX12_entry_7 : decode cX12_entry 7 = .ok (.iconst (-1), 1) := by decide +kernel
theorem dX12_entry_8 : decode cX12_entry 8 = .ok (.if_icmp .eq 25, 3) := by decide +kernel
theorem dX12_entry_33 : decode cX12_entry 33 = .ok (.iconst (-1), 1) := by decide +kernel
theorem dX12_entry_34 : decode cX12_entry 34 = .ok (.ireturn, 1) := by decide +kernel
theorem dX12_choose_0 : decode cX12_choose 0 = .ok (.aload_n 0, 1) := by decide +kernel
theorem dX12_choose_1 : decode cX12_choose 1 = .ok (.getfield 181, 3) := by decide +kernel
theorem dX12_choose_4 : decode cX12_choose 4 = .ok (.ifCond .eq 14, 3) := by decide +kernel
theorem dX12_choose_18 : decode cX12_choose 18 = .ok (.iconst (-1), 1) := by decide +kernel
theorem dX12_choose_19 : decode cX12_choose 19 = .ok (.ireturn, 1) := by decide +kernel
theorem dX12_window_0 : decode cX12_window 0 = .ok (.aload_n 0, 1) := by decide +kernel
theorem dX12_window_1 : decode cX12_window 1 = .ok (.getfield 181, 3) := by decide +kernel
theorem dX12_window_4 : decode cX12_window 4 = .ok (.ifCond .eq 21, 3) := by decide +kernel
theorem dX12_window_25 : decode cX12_window 25 = .ok (.iconst (-1), 1) := by decide +kernel
theorem dX12_window_26 : decode cX12_window 26 = .ok (.ireturn, 1) := by decide +kernel
theorem dX12_nearest_0 : decode cX12_nearest 0 = .ok (.aload_n 0, 1) := by decide +kernel
theorem dX12_nearest_1 : decode cX12_nearest 1 = .ok (.getfield 181, 3) := by decide +kernel
theorem dX12_nearest_4 : decode cX12_nearest 4 = .ok (.ifCond .eq 48, 3) := by decide +kernel
theorem dX12_nearest_52 : decode cX12_nearest 52 = .ok (.iconst (-1), 1) := by decide +kernel
theorem dX12_nearest_53 : decode cX12_nearest 53 = .ok (.ireturn, 1) := by decide +kernel
theorem dX12_pairs_0 : decode cX12_pairs 0 = .ok (.aload_n 0, 1) := by decide +kernel
theorem dX12_pairs_1 : decode cX12_pairs 1 = .ok (.getfield 181, 3) := by decide +kernel
theorem dX12_pairs_4 : decode cX12_pairs 4 = .ok (.ifCond .ne 5, 3) := by decide +kernel
theorem dX12_pairs_7 : decode cX12_pairs 7 = .ok (.iconst (-1), 1) := by decide +kernel
theorem dX12_pairs_8 : decode cX12_pairs 8 = .ok (.ireturn, 1) := by decide +kernel
theorem dX12_union_0 : decode cX12_union 0 = .ok (.aload_n 0, 1) := by decide +kernel
theorem dX12_union_1 : decode cX12_union 1 = .ok (.getfield 181, 3) := by decide +kernel
theorem dX12_union_4 : decode cX12_union 4 = .ok (.ifCond .ne 7, 3) := by decide +kernel
theorem dX12_union_7 : decode cX12_union 7 = .ok (.ldc2_w 407, 3) := by decide +kernel
theorem dX12_union_10 : decode cX12_union 10 = .ok (.lreturn, 1) := by decide +kernel
theorem dX12_grid_0 : decode cX12_grid 0 = .ok (.lconst 0, 1) := by decide +kernel
theorem dX12_grid_1 : decode cX12_grid 1 = .ok (.lstore_n 2, 1) := by decide +kernel
theorem dX12_grid_2 : decode cX12_grid 2 = .ok (.iconst 0, 1) := by decide +kernel
theorem dX12_grid_3 : decode cX12_grid 3 = .ok (.istore 4, 2) := by decide +kernel
theorem dX12_grid_5 : decode cX12_grid 5 = .ok (.iload 4, 2) := by decide +kernel
theorem dX12_grid_7 : decode cX12_grid 7 = .ok (.bipush 100, 2) := by decide +kernel
theorem dX12_grid_9 : decode cX12_grid 9 = .ok (.if_icmp .ge 46, 3) := by decide +kernel
theorem dX12_grid_12 : decode cX12_grid 12 = .ok (.aload_n 0, 1) := by decide +kernel
theorem dX12_grid_13 : decode cX12_grid 13 = .ok (.getfield 181, 3) := by decide +kernel
theorem dX12_grid_16 : decode cX12_grid 16 = .ok (.ifCond .eq 39, 3) := by decide +kernel
theorem dX12_grid_55 : decode cX12_grid 55 = .ok (.aload_n 0, 1) := by decide +kernel
theorem dX12_grid_56 : decode cX12_grid 56 = .ok (.invokevirtual 304, 3) := by decide +kernel
theorem dX12_grid_59 : decode cX12_grid 59 = .ok (.iconst 0, 1) := by decide +kernel
theorem dX12_grid_60 : decode cX12_grid 60 = .ok (.istore 4, 2) := by decide +kernel
theorem dX12_grid_62 : decode cX12_grid 62 = .ok (.iload 4, 2) := by decide +kernel
theorem dX12_grid_64 : decode cX12_grid 64 = .ok (.aload_n 0, 1) := by decide +kernel
theorem dX12_grid_65 : decode cX12_grid 65 = .ok (.getfield 298, 3) := by decide +kernel
theorem dX12_grid_68 : decode cX12_grid 68 = .ok (.if_icmp .ge 64, 3) := by decide +kernel
theorem dX12_grid_132 : decode cX12_grid 132 = .ok (.lload_n 2, 1) := by decide +kernel
theorem dX12_grid_133 : decode cX12_grid 133 = .ok (.lreturn, 1) := by decide +kernel
theorem dX12_fill_0 : decode cX12_fill 0 = .ok (.aload_n 0, 1) := by decide +kernel
theorem dX12_fill_1 : decode cX12_fill 1 = .ok (.getfield 181, 3) := by decide +kernel
theorem dX12_fill_4 : decode cX12_fill 4 = .ok (.ifCond .ne 5, 3) := by decide +kernel
theorem dX12_fill_7 : decode cX12_fill 7 = .ok (.iconst (-1), 1) := by decide +kernel
theorem dX12_fill_8 : decode cX12_fill 8 = .ok (.ireturn, 1) := by decide +kernel
theorem dX12_cost_0 : decode cX12_cost 0 = .ok (.aload_n 0, 1) := by decide +kernel
theorem dX12_cost_1 : decode cX12_cost 1 = .ok (.getfield 181, 3) := by decide +kernel
theorem dX12_cost_4 : decode cX12_cost 4 = .ok (.ifCond .eq 27, 3) := by decide +kernel
theorem dX12_cost_31 : decode cX12_cost 31 = .ok (.ldc2_w 407, 3) := by decide +kernel
theorem dX12_cost_34 : decode cX12_cost 34 = .ok (.lreturn, 1) := by decide +kernel
theorem dX12_overlap_0 : decode cX12_overlap 0 = .ok (.aload_n 0, 1) := by decide +kernel
theorem dX12_overlap_1 : decode cX12_overlap 1 = .ok (.getfield 181, 3) := by decide +kernel
theorem dX12_overlap_4 : decode cX12_overlap 4 = .ok (.ifCond .eq 30, 3) := by decide +kernel
theorem dX12_overlap_34 : decode cX12_overlap 34 = .ok (.ldc2_w 407, 3) := by decide +kernel
theorem dX12_overlap_37 : decode cX12_overlap 37 = .ok (.lreturn, 1) := by decide +kernel
theorem dX12_same_0 : decode cX12_same 0 = .ok (.aload_n 0, 1) := by decide +kernel
theorem dX12_same_1 : decode cX12_same 1 = .ok (.getfield 181, 3) := by decide +kernel
theorem dX12_same_4 : decode cX12_same 4 = .ok (.ifCond .eq 13, 3) := by decide +kernel
theorem dX12_same_17 : decode cX12_same 17 = .ok (.iconst (-1), 1) := by decide +kernel
theorem dX12_same_18 : decode cX12_same 18 = .ok (.ireturn, 1) := by decide +kernel
theorem dX12_count_0 : decode cX12_count 0 = .ok (.iload_n 1, 1) := by decide +kernel
theorem dX12_count_1 : decode cX12_count 1 = .ok (.i2l, 1) := by decide +kernel
theorem dX12_count_2 : decode cX12_count 2 = .ok (.lconst 0, 1) := by decide +kernel
theorem dX12_count_3 : decode cX12_count 3 = .ok (.ldc2_w 373, 3) := by decide +kernel
theorem dX12_count_6 : decode cX12_count 6 = .ok (.invokestatic 113, 3) := by decide +kernel
theorem dX12_count_9 : decode cX12_count 9 = .ok (.ifCond .eq 20, 3) := by decide +kernel
theorem dX12_count_12 : decode cX12_count 12 = .ok (.aload_n 0, 1) := by decide +kernel
theorem dX12_count_13 : decode cX12_count 13 = .ok (.getfield 181, 3) := by decide +kernel
theorem dX12_count_16 : decode cX12_count 16 = .ok (.ifCond .eq 11, 3) := by decide +kernel
theorem dX12_count_27 : decode cX12_count 27 = .ok (.iconst 0, 1) := by decide +kernel
theorem dX12_count_28 : decode cX12_count 28 = .ok (.ireturn, 1) := by decide +kernel
theorem dX12_count_29 : decode cX12_count 29 = .ok (.iload_n 1, 1) := by decide +kernel
theorem dX12_count_30 : decode cX12_count 30 = .ok (.tableswitch 54 8 11 #[30, 35, 44, 49], 30) := by decide +kernel
theorem dX12_count_60 : decode cX12_count 60 = .ok (.aload_n 0, 1) := by decide +kernel
theorem dX12_count_61 : decode cX12_count 61 = .ok (.getfield 196, 3) := by decide +kernel
theorem dX12_count_64 : decode cX12_count 64 = .ok (.ireturn, 1) := by decide +kernel
theorem dX12_count_65 : decode cX12_count 65 = .ok (.aload_n 0, 1) := by decide +kernel
theorem dX12_count_66 : decode cX12_count 66 = .ok (.getfield 19, 3) := by decide +kernel
theorem dX12_count_69 : decode cX12_count 69 = .ok (.sipush 12506, 3) := by decide +kernel
theorem dX12_count_72 : decode cX12_count 72 = .ok (.iaload, 1) := by decide +kernel
theorem dX12_count_73 : decode cX12_count 73 = .ok (.ireturn, 1) := by decide +kernel
theorem dX12_count_74 : decode cX12_count 74 = .ok (.aload_n 0, 1) := by decide +kernel
theorem dX12_count_75 : decode cX12_count 75 = .ok (.getfield 88, 3) := by decide +kernel
theorem dX12_count_78 : decode cX12_count 78 = .ok (.ireturn, 1) := by decide +kernel
theorem dX12_count_79 : decode cX12_count 79 = .ok (.aload_n 0, 1) := by decide +kernel
theorem dX12_count_80 : decode cX12_count 80 = .ok (.getfield 358, 3) := by decide +kernel
theorem dX12_count_83 : decode cX12_count 83 = .ok (.ireturn, 1) := by decide +kernel
theorem dX12_count_84 : decode cX12_count 84 = .ok (.iconst (-1), 1) := by decide +kernel
theorem dX12_count_85 : decode cX12_count 85 = .ok (.ireturn, 1) := by decide +kernel
theorem dJ0_length_8abf5_0 : decode cJ0_length_8abf5 0 = .ok (.aload_n 0, 1) := by decide +kernel
theorem dJ0_length_8abf5_1 : decode cJ0_length_8abf5 1 = .ok (.getfield 9, 3) := by decide +kernel
theorem dJ0_length_8abf5_4 : decode cJ0_length_8abf5 4 = .ok (.arraylength, 1) := by decide +kernel
theorem dJ0_length_8abf5_5 : decode cJ0_length_8abf5 5 = .ok (.aload_n 0, 1) := by decide +kernel
theorem dJ0_length_8abf5_6 : decode cJ0_length_8abf5 6 = .ok (.invokevirtual 335, 3) := by decide +kernel
theorem dJ0_length_8abf5_9 : decode cJ0_length_8abf5 9 = .ok (.ishr, 1) := by decide +kernel
theorem dJ0_length_8abf5_10 : decode cJ0_length_8abf5 10 = .ok (.ireturn, 1) := by decide +kernel
theorem dJ0_coder_7d493_0 : decode cJ0_coder_7d493 0 = .ok (.getstatic 38, 3) := by decide +kernel
theorem dJ0_coder_7d493_3 : decode cJ0_coder_7d493 3 = .ok (.ifCond .eq 10, 3) := by decide +kernel
theorem dJ0_coder_7d493_6 : decode cJ0_coder_7d493 6 = .ok (.aload_n 0, 1) := by decide +kernel
theorem dJ0_coder_7d493_7 : decode cJ0_coder_7d493 7 = .ok (.getfield 15, 3) := by decide +kernel
theorem dJ0_coder_7d493_10 : decode cJ0_coder_7d493 10 = .ok (.goto 4, 3) := by decide +kernel
theorem dJ0_coder_7d493_14 : decode cJ0_coder_7d493 14 = .ok (.ireturn, 1) := by decide +kernel
theorem dJ7_fill_53178_0 : decode cJ7_fill_53178 0 = .ok (.iconst 0, 1) := by decide +kernel
theorem dJ7_fill_53178_1 : decode cJ7_fill_53178 1 = .ok (.istore_n 2, 1) := by decide +kernel
theorem dJ7_fill_53178_2 : decode cJ7_fill_53178 2 = .ok (.aload_n 0, 1) := by decide +kernel
theorem dJ7_fill_53178_3 : decode cJ7_fill_53178 3 = .ok (.arraylength, 1) := by decide +kernel
theorem dJ7_fill_53178_4 : decode cJ7_fill_53178 4 = .ok (.istore_n 3, 1) := by decide +kernel
theorem dJ7_fill_53178_5 : decode cJ7_fill_53178 5 = .ok (.iload_n 2, 1) := by decide +kernel
theorem dJ7_fill_53178_6 : decode cJ7_fill_53178 6 = .ok (.iload_n 3, 1) := by decide +kernel
theorem dJ7_fill_53178_7 : decode cJ7_fill_53178 7 = .ok (.if_icmp .ge 13, 3) := by decide +kernel
theorem dJ7_fill_53178_10 : decode cJ7_fill_53178 10 = .ok (.aload_n 0, 1) := by decide +kernel
theorem dJ7_fill_53178_11 : decode cJ7_fill_53178 11 = .ok (.iload_n 2, 1) := by decide +kernel
theorem dJ7_fill_53178_12 : decode cJ7_fill_53178 12 = .ok (.iload_n 1, 1) := by decide +kernel
theorem dJ7_fill_53178_13 : decode cJ7_fill_53178 13 = .ok (.iastore, 1) := by decide +kernel
theorem dJ7_fill_53178_14 : decode cJ7_fill_53178 14 = .ok (.iinc 2 1, 3) := by decide +kernel
theorem dJ7_fill_53178_17 : decode cJ7_fill_53178 17 = .ok (.goto (-12), 3) := by decide +kernel
theorem dJ7_fill_53178_20 : decode cJ7_fill_53178 20 = .ok (.return_, 1) := by decide +kernel
theorem dL_law_18 : decode cL_law 18 = .ok (.iload_n 3, 1) := by decide +kernel
theorem dL_law_19 : decode cL_law 19 = .ok (.aload_n 0, 1) := by decide +kernel
theorem dL_law_20 : decode cL_law 20 = .ok (.arraylength, 1) := by decide +kernel
theorem dL_law_21 : decode cL_law 21 = .ok (.bipush 6, 2) := by decide +kernel
theorem dL_law_23 : decode cL_law 23 = .ok (.isub, 1) := by decide +kernel
theorem dL_law_24 : decode cL_law 24 = .ok (.if_icmp .gt 953, 3) := by decide +kernel
theorem dL_law_156 : decode cL_law 156 = .ok (.aload_n 1, 1) := by decide +kernel
theorem dL_law_157 : decode cL_law 157 = .ok (.aload_n 0, 1) := by decide +kernel
theorem dL_law_158 : decode cL_law 158 = .ok (.iload_n 3, 1) := by decide +kernel
theorem dL_law_159 : decode cL_law 159 = .ok (.iconst 1, 1) := by decide +kernel
theorem dL_law_160 : decode cL_law 160 = .ok (.iadd, 1) := by decide +kernel
theorem dL_law_161 : decode cL_law 161 = .ok (.iaload, 1) := by decide +kernel
theorem dL_law_162 : decode cL_law 162 = .ok (.aload_n 0, 1) := by decide +kernel
theorem dL_law_163 : decode cL_law 163 = .ok (.iload_n 3, 1) := by decide +kernel
theorem dL_law_164 : decode cL_law 164 = .ok (.iconst 2, 1) := by decide +kernel
theorem dL_law_165 : decode cL_law 165 = .ok (.iadd, 1) := by decide +kernel
theorem dL_law_166 : decode cL_law 166 = .ok (.iaload, 1) := by decide +kernel
theorem dL_law_167 : decode cL_law 167 = .ok (.aload_n 0, 1) := by decide +kernel
theorem dL_law_168 : decode cL_law 168 = .ok (.iload_n 3, 1) := by decide +kernel
theorem dL_law_169 : decode cL_law 169 = .ok (.iconst 3, 1) := by decide +kernel
theorem dL_law_170 : decode cL_law 170 = .ok (.iadd, 1) := by decide +kernel
theorem dL_law_171 : decode cL_law 171 = .ok (.iaload, 1) := by decide +kernel
theorem dL_law_172 : decode cL_law 172 = .ok (.aload_n 0, 1) := by decide +kernel
theorem dL_law_173 : decode cL_law 173 = .ok (.iload_n 3, 1) := by decide +kernel
theorem dL_law_174 : decode cL_law 174 = .ok (.iconst 4, 1) := by decide +kernel
theorem dL_law_175 : decode cL_law 175 = .ok (.iadd, 1) := by decide +kernel
theorem dL_law_176 : decode cL_law 176 = .ok (.iaload, 1) := by decide +kernel
theorem dL_law_177 : decode cL_law 177 = .ok (.aload_n 0, 1) := by decide +kernel
theorem dL_law_178 : decode cL_law 178 = .ok (.iload_n 3, 1) := by decide +kernel
theorem dL_law_179 : decode cL_law 179 = .ok (.iconst 5, 1) := by decide +kernel
theorem dL_law_180 : decode cL_law 180 = .ok (.iadd, 1) := by decide +kernel
theorem dL_law_181 : decode cL_law 181 = .ok (.iaload, 1) := by decide +kernel
theorem dL_law_182 : decode cL_law 182 = .ok (.invokevirtual 13, 3) := by decide +kernel
theorem dL_law_185 : decode cL_law 185 = .ok (.aload_n 2, 1) := by decide +kernel
theorem dL_law_186 : decode cL_law 186 = .ok (.aload_n 0, 1) := by decide +kernel
theorem dL_law_187 : decode cL_law 187 = .ok (.iload_n 3, 1) := by decide +kernel
theorem dL_law_188 : decode cL_law 188 = .ok (.iconst 1, 1) := by decide +kernel
theorem dL_law_189 : decode cL_law 189 = .ok (.iadd, 1) := by decide +kernel
theorem dL_law_190 : decode cL_law 190 = .ok (.iaload, 1) := by decide +kernel
theorem dL_law_191 : decode cL_law 191 = .ok (.aload_n 0, 1) := by decide +kernel
theorem dL_law_192 : decode cL_law 192 = .ok (.iload_n 3, 1) := by decide +kernel
theorem dL_law_193 : decode cL_law 193 = .ok (.iconst 2, 1) := by decide +kernel
theorem dL_law_194 : decode cL_law 194 = .ok (.iadd, 1) := by decide +kernel
theorem dL_law_195 : decode cL_law 195 = .ok (.iaload, 1) := by decide +kernel
theorem dL_law_196 : decode cL_law 196 = .ok (.aload_n 0, 1) := by decide +kernel
theorem dL_law_197 : decode cL_law 197 = .ok (.iload_n 3, 1) := by decide +kernel
theorem dL_law_198 : decode cL_law 198 = .ok (.iconst 3, 1) := by decide +kernel
theorem dL_law_199 : decode cL_law 199 = .ok (.iadd, 1) := by decide +kernel
theorem dL_law_200 : decode cL_law 200 = .ok (.iaload, 1) := by decide +kernel
theorem dL_law_201 : decode cL_law 201 = .ok (.aload_n 0, 1) := by decide +kernel
theorem dL_law_202 : decode cL_law 202 = .ok (.iload_n 3, 1) := by decide +kernel
theorem dL_law_203 : decode cL_law 203 = .ok (.iconst 4, 1) := by decide +kernel
theorem dL_law_204 : decode cL_law 204 = .ok (.iadd, 1) := by decide +kernel
theorem dL_law_205 : decode cL_law 205 = .ok (.iaload, 1) := by decide +kernel
theorem dL_law_206 : decode cL_law 206 = .ok (.aload_n 0, 1) := by decide +kernel
theorem dL_law_207 : decode cL_law 207 = .ok (.iload_n 3, 1) := by decide +kernel
theorem dL_law_208 : decode cL_law 208 = .ok (.iconst 5, 1) := by decide +kernel
theorem dL_law_209 : decode cL_law 209 = .ok (.iadd, 1) := by decide +kernel
theorem dL_law_210 : decode cL_law 210 = .ok (.iaload, 1) := by decide +kernel
theorem dL_law_211 : decode cL_law 211 = .ok (.invokevirtual 17, 3) := by decide +kernel
theorem dL_law_214 : decode cL_law 214 = .ok (.if_icmp .eq 757, 3) := by decide +kernel
theorem dL_law_219 : decode cL_law 219 = .ok (.aload_n 1, 1) := by decide +kernel
theorem dL_law_220 : decode cL_law 220 = .ok (.aload_n 0, 1) := by decide +kernel
theorem dL_law_221 : decode cL_law 221 = .ok (.iload_n 3, 1) := by decide +kernel
theorem dL_law_222 : decode cL_law 222 = .ok (.iconst 1, 1) := by decide +kernel
theorem dL_law_223 : decode cL_law 223 = .ok (.iadd, 1) := by decide +kernel
theorem dL_law_224 : decode cL_law 224 = .ok (.iaload, 1) := by decide +kernel
theorem dL_law_225 : decode cL_law 225 = .ok (.invokevirtual 18, 3) := by decide +kernel
theorem dL_law_228 : decode cL_law 228 = .ok (.aload_n 2, 1) := by decide +kernel
theorem dL_law_229 : decode cL_law 229 = .ok (.aload_n 0, 1) := by decide +kernel
theorem dL_law_230 : decode cL_law 230 = .ok (.iload_n 3, 1) := by decide +kernel
theorem dL_law_231 : decode cL_law 231 = .ok (.iconst 1, 1) := by decide +kernel
theorem dL_law_232 : decode cL_law 232 = .ok (.iadd, 1) := by decide +kernel
theorem dL_law_233 : decode cL_law 233 = .ok (.iaload, 1) := by decide +kernel
theorem dL_law_234 : decode cL_law 234 = .ok (.invokevirtual 22, 3) := by decide +kernel
theorem dL_law_237 : decode cL_law 237 = .ok (.if_icmp .eq 734, 3) := by decide +kernel
theorem dL_law_242 : decode cL_law 242 = .ok (.aload_n 1, 1) := by decide +kernel
theorem dL_law_243 : decode cL_law 243 = .ok (.invokevirtual 23, 3) := by decide +kernel
theorem dL_law_246 : decode cL_law 246 = .ok (.aload_n 2, 1) := by decide +kernel
theorem dL_law_247 : decode cL_law 247 = .ok (.invokevirtual 27, 3) := by decide +kernel
theorem dL_law_250 : decode cL_law 250 = .ok (.if_icmp .eq 721, 3) := by decide +kernel
theorem dL_law_255 : decode cL_law 255 = .ok (.aload_n 1, 1) := by decide +kernel
theorem dL_law_256 : decode cL_law 256 = .ok (.aload_n 0, 1) := by decide +kernel
theorem dL_law_257 : decode cL_law 257 = .ok (.iload_n 3, 1) := by decide +kernel
theorem dL_law_258 : decode cL_law 258 = .ok (.iconst 1, 1) := by decide +kernel
theorem dL_law_259 : decode cL_law 259 = .ok (.iadd, 1) := by decide +kernel
theorem dL_law_260 : decode cL_law 260 = .ok (.iaload, 1) := by decide +kernel
theorem dL_law_261 : decode cL_law 261 = .ok (.aload_n 0, 1) := by decide +kernel
theorem dL_law_262 : decode cL_law 262 = .ok (.iload_n 3, 1) := by decide +kernel
theorem dL_law_263 : decode cL_law 263 = .ok (.iconst 2, 1) := by decide +kernel
theorem dL_law_264 : decode cL_law 264 = .ok (.iadd, 1) := by decide +kernel
theorem dL_law_265 : decode cL_law 265 = .ok (.iaload, 1) := by decide +kernel
theorem dL_law_266 : decode cL_law 266 = .ok (.aload_n 0, 1) := by decide +kernel
theorem dL_law_267 : decode cL_law 267 = .ok (.iload_n 3, 1) := by decide +kernel
theorem dL_law_268 : decode cL_law 268 = .ok (.iconst 3, 1) := by decide +kernel
theorem dL_law_269 : decode cL_law 269 = .ok (.iadd, 1) := by decide +kernel
theorem dL_law_270 : decode cL_law 270 = .ok (.iaload, 1) := by decide +kernel
theorem dL_law_271 : decode cL_law 271 = .ok (.aload_n 0, 1) := by decide +kernel
theorem dL_law_272 : decode cL_law 272 = .ok (.iload_n 3, 1) := by decide +kernel
theorem dL_law_273 : decode cL_law 273 = .ok (.iconst 4, 1) := by decide +kernel
theorem dL_law_274 : decode cL_law 274 = .ok (.iadd, 1) := by decide +kernel
theorem dL_law_275 : decode cL_law 275 = .ok (.iaload, 1) := by decide +kernel
theorem dL_law_276 : decode cL_law 276 = .ok (.aload_n 0, 1) := by decide +kernel
theorem dL_law_277 : decode cL_law 277 = .ok (.iload_n 3, 1) := by decide +kernel
theorem dL_law_278 : decode cL_law 278 = .ok (.iconst 5, 1) := by decide +kernel
theorem dL_law_279 : decode cL_law 279 = .ok (.iadd, 1) := by decide +kernel
theorem dL_law_280 : decode cL_law 280 = .ok (.iaload, 1) := by decide +kernel
theorem dL_law_281 : decode cL_law 281 = .ok (.invokevirtual 28, 3) := by decide +kernel
theorem dL_law_284 : decode cL_law 284 = .ok (.aload_n 2, 1) := by decide +kernel
theorem dL_law_285 : decode cL_law 285 = .ok (.aload_n 0, 1) := by decide +kernel
theorem dL_law_286 : decode cL_law 286 = .ok (.iload_n 3, 1) := by decide +kernel
theorem dL_law_287 : decode cL_law 287 = .ok (.iconst 1, 1) := by decide +kernel
theorem dL_law_288 : decode cL_law 288 = .ok (.iadd, 1) := by decide +kernel
theorem dL_law_289 : decode cL_law 289 = .ok (.iaload, 1) := by decide +kernel
theorem dL_law_290 : decode cL_law 290 = .ok (.aload_n 0, 1) := by decide +kernel
theorem dL_law_291 : decode cL_law 291 = .ok (.iload_n 3, 1) := by decide +kernel
theorem dL_law_292 : decode cL_law 292 = .ok (.iconst 2, 1) := by decide +kernel
theorem dL_law_293 : decode cL_law 293 = .ok (.iadd, 1) := by decide +kernel
theorem dL_law_294 : decode cL_law 294 = .ok (.iaload, 1) := by decide +kernel
theorem dL_law_295 : decode cL_law 295 = .ok (.aload_n 0, 1) := by decide +kernel
theorem dL_law_296 : decode cL_law 296 = .ok (.iload_n 3, 1) := by decide +kernel
theorem dL_law_297 : decode cL_law 297 = .ok (.iconst 3, 1) := by decide +kernel
theorem dL_law_298 : decode cL_law 298 = .ok (.iadd, 1) := by decide +kernel
theorem dL_law_299 : decode cL_law 299 = .ok (.iaload, 1) := by decide +kernel
theorem dL_law_300 : decode cL_law 300 = .ok (.aload_n 0, 1) := by decide +kernel
theorem dL_law_301 : decode cL_law 301 = .ok (.iload_n 3, 1) := by decide +kernel
theorem dL_law_302 : decode cL_law 302 = .ok (.iconst 4, 1) := by decide +kernel
theorem dL_law_303 : decode cL_law 303 = .ok (.iadd, 1) := by decide +kernel
theorem dL_law_304 : decode cL_law 304 = .ok (.iaload, 1) := by decide +kernel
theorem dL_law_305 : decode cL_law 305 = .ok (.aload_n 0, 1) := by decide +kernel
theorem dL_law_306 : decode cL_law 306 = .ok (.iload_n 3, 1) := by decide +kernel
theorem dL_law_307 : decode cL_law 307 = .ok (.iconst 5, 1) := by decide +kernel
theorem dL_law_308 : decode cL_law 308 = .ok (.iadd, 1) := by decide +kernel
theorem dL_law_309 : decode cL_law 309 = .ok (.iaload, 1) := by decide +kernel
theorem dL_law_310 : decode cL_law 310 = .ok (.invokevirtual 31, 3) := by decide +kernel
theorem dL_law_313 : decode cL_law 313 = .ok (.if_icmp .eq 658, 3) := by decide +kernel
theorem dL_law_318 : decode cL_law 318 = .ok (.aload_n 1, 1) := by decide +kernel
theorem dL_law_319 : decode cL_law 319 = .ok (.aload_n 0, 1) := by decide +kernel
theorem dL_law_320 : decode cL_law 320 = .ok (.iload_n 3, 1) := by decide +kernel
theorem dL_law_321 : decode cL_law 321 = .ok (.iconst 1, 1) := by decide +kernel
theorem dL_law_322 : decode cL_law 322 = .ok (.iadd, 1) := by decide +kernel
theorem dL_law_323 : decode cL_law 323 = .ok (.iaload, 1) := by decide +kernel
theorem dL_law_324 : decode cL_law 324 = .ok (.invokevirtual 32, 3) := by decide +kernel
theorem dL_law_327 : decode cL_law 327 = .ok (.aload_n 2, 1) := by decide +kernel
theorem dL_law_328 : decode cL_law 328 = .ok (.aload_n 0, 1) := by decide +kernel
theorem dL_law_329 : decode cL_law 329 = .ok (.iload_n 3, 1) := by decide +kernel
theorem dL_law_330 : decode cL_law 330 = .ok (.iconst 1, 1) := by decide +kernel
theorem dL_law_331 : decode cL_law 331 = .ok (.iadd, 1) := by decide +kernel
theorem dL_law_332 : decode cL_law 332 = .ok (.iaload, 1) := by decide +kernel
theorem dL_law_333 : decode cL_law 333 = .ok (.invokevirtual 35, 3) := by decide +kernel
theorem dL_law_336 : decode cL_law 336 = .ok (.if_icmp .eq 635, 3) := by decide +kernel
theorem dL_law_341 : decode cL_law 341 = .ok (.aload_n 1, 1) := by decide +kernel
theorem dL_law_342 : decode cL_law 342 = .ok (.aload_n 0, 1) := by decide +kernel
theorem dL_law_343 : decode cL_law 343 = .ok (.iload_n 3, 1) := by decide +kernel
theorem dL_law_344 : decode cL_law 344 = .ok (.iconst 1, 1) := by decide +kernel
theorem dL_law_345 : decode cL_law 345 = .ok (.iadd, 1) := by decide +kernel
theorem dL_law_346 : decode cL_law 346 = .ok (.iaload, 1) := by decide +kernel
theorem dL_law_347 : decode cL_law 347 = .ok (.aload_n 0, 1) := by decide +kernel
theorem dL_law_348 : decode cL_law 348 = .ok (.iload_n 3, 1) := by decide +kernel
theorem dL_law_349 : decode cL_law 349 = .ok (.iconst 2, 1) := by decide +kernel
theorem dL_law_350 : decode cL_law 350 = .ok (.iadd, 1) := by decide +kernel
theorem dL_law_351 : decode cL_law 351 = .ok (.iaload, 1) := by decide +kernel
theorem dL_law_352 : decode cL_law 352 = .ok (.aload_n 0, 1) := by decide +kernel
theorem dL_law_353 : decode cL_law 353 = .ok (.iload_n 3, 1) := by decide +kernel
theorem dL_law_354 : decode cL_law 354 = .ok (.iconst 3, 1) := by decide +kernel
theorem dL_law_355 : decode cL_law 355 = .ok (.iadd, 1) := by decide +kernel
theorem dL_law_356 : decode cL_law 356 = .ok (.iaload, 1) := by decide +kernel
theorem dL_law_357 : decode cL_law 357 = .ok (.invokevirtual 36, 3) := by decide +kernel
theorem dL_law_360 : decode cL_law 360 = .ok (.aload_n 2, 1) := by decide +kernel
theorem dL_law_361 : decode cL_law 361 = .ok (.aload_n 0, 1) := by decide +kernel
theorem dL_law_362 : decode cL_law 362 = .ok (.iload_n 3, 1) := by decide +kernel
theorem dL_law_363 : decode cL_law 363 = .ok (.iconst 1, 1) := by decide +kernel
theorem dL_law_364 : decode cL_law 364 = .ok (.iadd, 1) := by decide +kernel
theorem dL_law_365 : decode cL_law 365 = .ok (.iaload, 1) := by decide +kernel
theorem dL_law_366 : decode cL_law 366 = .ok (.aload_n 0, 1) := by decide +kernel
theorem dL_law_367 : decode cL_law 367 = .ok (.iload_n 3, 1) := by decide +kernel
theorem dL_law_368 : decode cL_law 368 = .ok (.iconst 2, 1) := by decide +kernel
theorem dL_law_369 : decode cL_law 369 = .ok (.iadd, 1) := by decide +kernel
theorem dL_law_370 : decode cL_law 370 = .ok (.iaload, 1) := by decide +kernel
theorem dL_law_371 : decode cL_law 371 = .ok (.aload_n 0, 1) := by decide +kernel
theorem dL_law_372 : decode cL_law 372 = .ok (.iload_n 3, 1) := by decide +kernel
theorem dL_law_373 : decode cL_law 373 = .ok (.iconst 3, 1) := by decide +kernel
theorem dL_law_374 : decode cL_law 374 = .ok (.iadd, 1) := by decide +kernel
theorem dL_law_375 : decode cL_law 375 = .ok (.iaload, 1) := by decide +kernel
theorem dL_law_376 : decode cL_law 376 = .ok (.invokevirtual 40, 3) := by decide +kernel
theorem dL_law_379 : decode cL_law 379 = .ok (.if_icmp .eq 592, 3) := by decide +kernel
theorem dL_law_384 : decode cL_law 384 = .ok (.aload_n 1, 1) := by decide +kernel
theorem dL_law_385 : decode cL_law 385 = .ok (.invokevirtual 41, 3) := by decide +kernel
theorem dL_law_388 : decode cL_law 388 = .ok (.aload_n 2, 1) := by decide +kernel
theorem dL_law_389 : decode cL_law 389 = .ok (.invokevirtual 44, 3) := by decide +kernel
theorem dL_law_392 : decode cL_law 392 = .ok (.if_icmp .eq 579, 3) := by decide +kernel
theorem dL_law_397 : decode cL_law 397 = .ok (.aload_n 1, 1) := by decide +kernel
theorem dL_law_398 : decode cL_law 398 = .ok (.aload_n 0, 1) := by decide +kernel
theorem dL_law_399 : decode cL_law 399 = .ok (.iload_n 3, 1) := by decide +kernel
theorem dL_law_400 : decode cL_law 400 = .ok (.iconst 1, 1) := by decide +kernel
theorem dL_law_401 : decode cL_law 401 = .ok (.iadd, 1) := by decide +kernel
theorem dL_law_402 : decode cL_law 402 = .ok (.iaload, 1) := by decide +kernel
theorem dL_law_403 : decode cL_law 403 = .ok (.aload_n 0, 1) := by decide +kernel
theorem dL_law_404 : decode cL_law 404 = .ok (.iload_n 3, 1) := by decide +kernel
theorem dL_law_405 : decode cL_law 405 = .ok (.iconst 2, 1) := by decide +kernel
theorem dL_law_406 : decode cL_law 406 = .ok (.iadd, 1) := by decide +kernel
theorem dL_law_407 : decode cL_law 407 = .ok (.iaload, 1) := by decide +kernel
theorem dL_law_408 : decode cL_law 408 = .ok (.invokevirtual 45, 3) := by decide +kernel
theorem dL_law_411 : decode cL_law 411 = .ok (.aload_n 2, 1) := by decide +kernel
theorem dL_law_412 : decode cL_law 412 = .ok (.aload_n 0, 1) := by decide +kernel
theorem dL_law_413 : decode cL_law 413 = .ok (.iload_n 3, 1) := by decide +kernel
theorem dL_law_414 : decode cL_law 414 = .ok (.iconst 1, 1) := by decide +kernel
theorem dL_law_415 : decode cL_law 415 = .ok (.iadd, 1) := by decide +kernel
theorem dL_law_416 : decode cL_law 416 = .ok (.iaload, 1) := by decide +kernel
theorem dL_law_417 : decode cL_law 417 = .ok (.aload_n 0, 1) := by decide +kernel
theorem dL_law_418 : decode cL_law 418 = .ok (.iload_n 3, 1) := by decide +kernel
theorem dL_law_419 : decode cL_law 419 = .ok (.iconst 2, 1) := by decide +kernel
theorem dL_law_420 : decode cL_law 420 = .ok (.iadd, 1) := by decide +kernel
theorem dL_law_421 : decode cL_law 421 = .ok (.iaload, 1) := by decide +kernel
theorem dL_law_422 : decode cL_law 422 = .ok (.invokevirtual 49, 3) := by decide +kernel
theorem dL_law_425 : decode cL_law 425 = .ok (.if_icmp .eq 546, 3) := by decide +kernel
theorem dL_law_430 : decode cL_law 430 = .ok (.aload_n 1, 1) := by decide +kernel
theorem dL_law_431 : decode cL_law 431 = .ok (.aload_n 0, 1) := by decide +kernel
theorem dL_law_432 : decode cL_law 432 = .ok (.iload_n 3, 1) := by decide +kernel
theorem dL_law_433 : decode cL_law 433 = .ok (.iconst 1, 1) := by decide +kernel
theorem dL_law_434 : decode cL_law 434 = .ok (.iadd, 1) := by decide +kernel
theorem dL_law_435 : decode cL_law 435 = .ok (.iaload, 1) := by decide +kernel
theorem dL_law_436 : decode cL_law 436 = .ok (.invokevirtual 50, 3) := by decide +kernel
theorem dL_law_439 : decode cL_law 439 = .ok (.aload_n 2, 1) := by decide +kernel
theorem dL_law_440 : decode cL_law 440 = .ok (.aload_n 0, 1) := by decide +kernel
theorem dL_law_441 : decode cL_law 441 = .ok (.iload_n 3, 1) := by decide +kernel
theorem dL_law_442 : decode cL_law 442 = .ok (.iconst 1, 1) := by decide +kernel
theorem dL_law_443 : decode cL_law 443 = .ok (.iadd, 1) := by decide +kernel
theorem dL_law_444 : decode cL_law 444 = .ok (.iaload, 1) := by decide +kernel
theorem dL_law_445 : decode cL_law 445 = .ok (.invokevirtual 53, 3) := by decide +kernel
theorem dL_law_448 : decode cL_law 448 = .ok (.if_icmp .eq 523, 3) := by decide +kernel
theorem dL_law_453 : decode cL_law 453 = .ok (.aload_n 1, 1) := by decide +kernel
theorem dL_law_454 : decode cL_law 454 = .ok (.aload_n 0, 1) := by decide +kernel
theorem dL_law_455 : decode cL_law 455 = .ok (.iload_n 3, 1) := by decide +kernel
theorem dL_law_456 : decode cL_law 456 = .ok (.iconst 1, 1) := by decide +kernel
theorem dL_law_457 : decode cL_law 457 = .ok (.iadd, 1) := by decide +kernel
theorem dL_law_458 : decode cL_law 458 = .ok (.iaload, 1) := by decide +kernel
theorem dL_law_459 : decode cL_law 459 = .ok (.invokevirtual 54, 3) := by decide +kernel
theorem dL_law_462 : decode cL_law 462 = .ok (.aload_n 2, 1) := by decide +kernel
theorem dL_law_463 : decode cL_law 463 = .ok (.aload_n 0, 1) := by decide +kernel
theorem dL_law_464 : decode cL_law 464 = .ok (.iload_n 3, 1) := by decide +kernel
theorem dL_law_465 : decode cL_law 465 = .ok (.iconst 1, 1) := by decide +kernel
theorem dL_law_466 : decode cL_law 466 = .ok (.iadd, 1) := by decide +kernel
theorem dL_law_467 : decode cL_law 467 = .ok (.iaload, 1) := by decide +kernel
theorem dL_law_468 : decode cL_law 468 = .ok (.invokevirtual 57, 3) := by decide +kernel
theorem dL_law_471 : decode cL_law 471 = .ok (.if_icmp .eq 500, 3) := by decide +kernel
theorem dL_law_476 : decode cL_law 476 = .ok (.aload_n 1, 1) := by decide +kernel
theorem dL_law_477 : decode cL_law 477 = .ok (.invokevirtual 58, 3) := by decide +kernel
theorem dL_law_480 : decode cL_law 480 = .ok (.aload_n 2, 1) := by decide +kernel
theorem dL_law_481 : decode cL_law 481 = .ok (.invokevirtual 61, 3) := by decide +kernel
theorem dL_law_484 : decode cL_law 484 = .ok (.if_icmp .eq 487, 3) := by decide +kernel
theorem dL_law_489 : decode cL_law 489 = .ok (.aload_n 1, 1) := by decide +kernel
theorem dL_law_490 : decode cL_law 490 = .ok (.aload_n 0, 1) := by decide +kernel
theorem dL_law_491 : decode cL_law 491 = .ok (.iload_n 3, 1) := by decide +kernel
theorem dL_law_492 : decode cL_law 492 = .ok (.iconst 1, 1) := by decide +kernel
theorem dL_law_493 : decode cL_law 493 = .ok (.iadd, 1) := by decide +kernel
theorem dL_law_494 : decode cL_law 494 = .ok (.iaload, 1) := by decide +kernel
theorem dL_law_495 : decode cL_law 495 = .ok (.invokevirtual 62, 3) := by decide +kernel
theorem dL_law_498 : decode cL_law 498 = .ok (.aload_n 2, 1) := by decide +kernel
theorem dL_law_499 : decode cL_law 499 = .ok (.aload_n 0, 1) := by decide +kernel
theorem dL_law_500 : decode cL_law 500 = .ok (.iload_n 3, 1) := by decide +kernel
theorem dL_law_501 : decode cL_law 501 = .ok (.iconst 1, 1) := by decide +kernel
theorem dL_law_502 : decode cL_law 502 = .ok (.iadd, 1) := by decide +kernel
theorem dL_law_503 : decode cL_law 503 = .ok (.iaload, 1) := by decide +kernel
theorem dL_law_504 : decode cL_law 504 = .ok (.invokevirtual 65, 3) := by decide +kernel
theorem dL_law_507 : decode cL_law 507 = .ok (.if_icmp .eq 464, 3) := by decide +kernel
theorem dL_law_512 : decode cL_law 512 = .ok (.aload_n 1, 1) := by decide +kernel
theorem dL_law_513 : decode cL_law 513 = .ok (.aload_n 0, 1) := by decide +kernel
theorem dL_law_514 : decode cL_law 514 = .ok (.iload_n 3, 1) := by decide +kernel
theorem dL_law_515 : decode cL_law 515 = .ok (.iconst 1, 1) := by decide +kernel
theorem dL_law_516 : decode cL_law 516 = .ok (.iadd, 1) := by decide +kernel
theorem dL_law_517 : decode cL_law 517 = .ok (.iaload, 1) := by decide +kernel
theorem dL_law_518 : decode cL_law 518 = .ok (.invokevirtual 66, 3) := by decide +kernel
theorem dL_law_521 : decode cL_law 521 = .ok (.aload_n 2, 1) := by decide +kernel
theorem dL_law_522 : decode cL_law 522 = .ok (.aload_n 0, 1) := by decide +kernel
theorem dL_law_523 : decode cL_law 523 = .ok (.iload_n 3, 1) := by decide +kernel
theorem dL_law_524 : decode cL_law 524 = .ok (.iconst 1, 1) := by decide +kernel
theorem dL_law_525 : decode cL_law 525 = .ok (.iadd, 1) := by decide +kernel
theorem dL_law_526 : decode cL_law 526 = .ok (.iaload, 1) := by decide +kernel
theorem dL_law_527 : decode cL_law 527 = .ok (.invokevirtual 69, 3) := by decide +kernel
theorem dL_law_530 : decode cL_law 530 = .ok (.if_icmp .eq 441, 3) := by decide +kernel
theorem dL_law_535 : decode cL_law 535 = .ok (.aload_n 1, 1) := by decide +kernel
theorem dL_law_536 : decode cL_law 536 = .ok (.aload_n 0, 1) := by decide +kernel
theorem dL_law_537 : decode cL_law 537 = .ok (.iload_n 3, 1) := by decide +kernel
theorem dL_law_538 : decode cL_law 538 = .ok (.iconst 1, 1) := by decide +kernel
theorem dL_law_539 : decode cL_law 539 = .ok (.iadd, 1) := by decide +kernel
theorem dL_law_540 : decode cL_law 540 = .ok (.iaload, 1) := by decide +kernel
theorem dL_law_541 : decode cL_law 541 = .ok (.aload_n 0, 1) := by decide +kernel
theorem dL_law_542 : decode cL_law 542 = .ok (.iload_n 3, 1) := by decide +kernel
theorem dL_law_543 : decode cL_law 543 = .ok (.iconst 2, 1) := by decide +kernel
theorem dL_law_544 : decode cL_law 544 = .ok (.iadd, 1) := by decide +kernel
theorem dL_law_545 : decode cL_law 545 = .ok (.iaload, 1) := by decide +kernel
theorem dL_law_546 : decode cL_law 546 = .ok (.invokevirtual 70, 3) := by decide +kernel
theorem dL_law_549 : decode cL_law 549 = .ok (.aload_n 2, 1) := by decide +kernel
theorem dL_law_550 : decode cL_law 550 = .ok (.aload_n 0, 1) := by decide +kernel
theorem dL_law_551 : decode cL_law 551 = .ok (.iload_n 3, 1) := by decide +kernel
theorem dL_law_552 : decode cL_law 552 = .ok (.iconst 1, 1) := by decide +kernel
theorem dL_law_553 : decode cL_law 553 = .ok (.iadd, 1) := by decide +kernel
theorem dL_law_554 : decode cL_law 554 = .ok (.iaload, 1) := by decide +kernel
theorem dL_law_555 : decode cL_law 555 = .ok (.aload_n 0, 1) := by decide +kernel
theorem dL_law_556 : decode cL_law 556 = .ok (.iload_n 3, 1) := by decide +kernel
theorem dL_law_557 : decode cL_law 557 = .ok (.iconst 2, 1) := by decide +kernel
theorem dL_law_558 : decode cL_law 558 = .ok (.iadd, 1) := by decide +kernel
theorem dL_law_559 : decode cL_law 559 = .ok (.iaload, 1) := by decide +kernel
theorem dL_law_560 : decode cL_law 560 = .ok (.invokevirtual 73, 3) := by decide +kernel
theorem dL_law_563 : decode cL_law 563 = .ok (.if_icmp .eq 408, 3) := by decide +kernel
theorem dL_law_568 : decode cL_law 568 = .ok (.aload_n 1, 1) := by decide +kernel
theorem dL_law_569 : decode cL_law 569 = .ok (.aload_n 0, 1) := by decide +kernel
theorem dL_law_570 : decode cL_law 570 = .ok (.iload_n 3, 1) := by decide +kernel
theorem dL_law_571 : decode cL_law 571 = .ok (.iconst 1, 1) := by decide +kernel
theorem dL_law_572 : decode cL_law 572 = .ok (.iadd, 1) := by decide +kernel
theorem dL_law_573 : decode cL_law 573 = .ok (.iaload, 1) := by decide +kernel
theorem dL_law_574 : decode cL_law 574 = .ok (.aload_n 0, 1) := by decide +kernel
theorem dL_law_575 : decode cL_law 575 = .ok (.iload_n 3, 1) := by decide +kernel
theorem dL_law_576 : decode cL_law 576 = .ok (.iconst 2, 1) := by decide +kernel
theorem dL_law_577 : decode cL_law 577 = .ok (.iadd, 1) := by decide +kernel
theorem dL_law_578 : decode cL_law 578 = .ok (.iaload, 1) := by decide +kernel
theorem dL_law_579 : decode cL_law 579 = .ok (.invokevirtual 74, 3) := by decide +kernel
theorem dL_law_582 : decode cL_law 582 = .ok (.aload_n 2, 1) := by decide +kernel
theorem dL_law_583 : decode cL_law 583 = .ok (.aload_n 0, 1) := by decide +kernel
theorem dL_law_584 : decode cL_law 584 = .ok (.iload_n 3, 1) := by decide +kernel
theorem dL_law_585 : decode cL_law 585 = .ok (.iconst 1, 1) := by decide +kernel
theorem dL_law_586 : decode cL_law 586 = .ok (.iadd, 1) := by decide +kernel
theorem dL_law_587 : decode cL_law 587 = .ok (.iaload, 1) := by decide +kernel
theorem dL_law_588 : decode cL_law 588 = .ok (.aload_n 0, 1) := by decide +kernel
theorem dL_law_589 : decode cL_law 589 = .ok (.iload_n 3, 1) := by decide +kernel
theorem dL_law_590 : decode cL_law 590 = .ok (.iconst 2, 1) := by decide +kernel
theorem dL_law_591 : decode cL_law 591 = .ok (.iadd, 1) := by decide +kernel
theorem dL_law_592 : decode cL_law 592 = .ok (.iaload, 1) := by decide +kernel
theorem dL_law_593 : decode cL_law 593 = .ok (.invokevirtual 77, 3) := by decide +kernel
theorem dL_law_596 : decode cL_law 596 = .ok (.if_icmp .eq 375, 3) := by decide +kernel
theorem dL_law_601 : decode cL_law 601 = .ok (.aload_n 1, 1) := by decide +kernel
theorem dL_law_602 : decode cL_law 602 = .ok (.aload_n 0, 1) := by decide +kernel
theorem dL_law_603 : decode cL_law 603 = .ok (.iload_n 3, 1) := by decide +kernel
theorem dL_law_604 : decode cL_law 604 = .ok (.iconst 1, 1) := by decide +kernel
theorem dL_law_605 : decode cL_law 605 = .ok (.iadd, 1) := by decide +kernel
theorem dL_law_606 : decode cL_law 606 = .ok (.iaload, 1) := by decide +kernel
theorem dL_law_607 : decode cL_law 607 = .ok (.aload_n 0, 1) := by decide +kernel
theorem dL_law_608 : decode cL_law 608 = .ok (.iload_n 3, 1) := by decide +kernel
theorem dL_law_609 : decode cL_law 609 = .ok (.iconst 2, 1) := by decide +kernel
theorem dL_law_610 : decode cL_law 610 = .ok (.iadd, 1) := by decide +kernel
theorem dL_law_611 : decode cL_law 611 = .ok (.iaload, 1) := by decide +kernel
theorem dL_law_612 : decode cL_law 612 = .ok (.invokevirtual 78, 3) := by decide +kernel
theorem dL_law_615 : decode cL_law 615 = .ok (.aload_n 2, 1) := by decide +kernel
theorem dL_law_616 : decode cL_law 616 = .ok (.aload_n 0, 1) := by decide +kernel
theorem dL_law_617 : decode cL_law 617 = .ok (.iload_n 3, 1) := by decide +kernel
theorem dL_law_618 : decode cL_law 618 = .ok (.iconst 1, 1) := by decide +kernel
theorem dL_law_619 : decode cL_law 619 = .ok (.iadd, 1) := by decide +kernel
theorem dL_law_620 : decode cL_law 620 = .ok (.iaload, 1) := by decide +kernel
theorem dL_law_621 : decode cL_law 621 = .ok (.aload_n 0, 1) := by decide +kernel
theorem dL_law_622 : decode cL_law 622 = .ok (.iload_n 3, 1) := by decide +kernel
theorem dL_law_623 : decode cL_law 623 = .ok (.iconst 2, 1) := by decide +kernel
theorem dL_law_624 : decode cL_law 624 = .ok (.iadd, 1) := by decide +kernel
theorem dL_law_625 : decode cL_law 625 = .ok (.iaload, 1) := by decide +kernel
theorem dL_law_626 : decode cL_law 626 = .ok (.invokevirtual 81, 3) := by decide +kernel
theorem dL_law_629 : decode cL_law 629 = .ok (.if_icmp .eq 342, 3) := by decide +kernel
theorem dL_law_634 : decode cL_law 634 = .ok (.aload_n 1, 1) := by decide +kernel
theorem dL_law_635 : decode cL_law 635 = .ok (.aload_n 0, 1) := by decide +kernel
theorem dL_law_636 : decode cL_law 636 = .ok (.iload_n 3, 1) := by decide +kernel
theorem dL_law_637 : decode cL_law 637 = .ok (.iconst 1, 1) := by decide +kernel
theorem dL_law_638 : decode cL_law 638 = .ok (.iadd, 1) := by decide +kernel
theorem dL_law_639 : decode cL_law 639 = .ok (.iaload, 1) := by decide +kernel
theorem dL_law_640 : decode cL_law 640 = .ok (.aload_n 0, 1) := by decide +kernel
theorem dL_law_641 : decode cL_law 641 = .ok (.iload_n 3, 1) := by decide +kernel
theorem dL_law_642 : decode cL_law 642 = .ok (.iconst 2, 1) := by decide +kernel
theorem dL_law_643 : decode cL_law 643 = .ok (.iadd, 1) := by decide +kernel
theorem dL_law_644 : decode cL_law 644 = .ok (.iaload, 1) := by decide +kernel
theorem dL_law_645 : decode cL_law 645 = .ok (.aload_n 0, 1) := by decide +kernel
theorem dL_law_646 : decode cL_law 646 = .ok (.iload_n 3, 1) := by decide +kernel
theorem dL_law_647 : decode cL_law 647 = .ok (.iconst 3, 1) := by decide +kernel
theorem dL_law_648 : decode cL_law 648 = .ok (.iadd, 1) := by decide +kernel
theorem dL_law_649 : decode cL_law 649 = .ok (.iaload, 1) := by decide +kernel
theorem dL_law_650 : decode cL_law 650 = .ok (.aload_n 0, 1) := by decide +kernel
theorem dL_law_651 : decode cL_law 651 = .ok (.iload_n 3, 1) := by decide +kernel
theorem dL_law_652 : decode cL_law 652 = .ok (.iconst 4, 1) := by decide +kernel
theorem dL_law_653 : decode cL_law 653 = .ok (.iadd, 1) := by decide +kernel
theorem dL_law_654 : decode cL_law 654 = .ok (.iaload, 1) := by decide +kernel
theorem dL_law_655 : decode cL_law 655 = .ok (.invokevirtual 82, 3) := by decide +kernel
theorem dL_law_658 : decode cL_law 658 = .ok (.aload_n 2, 1) := by decide +kernel
theorem dL_law_659 : decode cL_law 659 = .ok (.aload_n 0, 1) := by decide +kernel
theorem dL_law_660 : decode cL_law 660 = .ok (.iload_n 3, 1) := by decide +kernel
theorem dL_law_661 : decode cL_law 661 = .ok (.iconst 1, 1) := by decide +kernel
theorem dL_law_662 : decode cL_law 662 = .ok (.iadd, 1) := by decide +kernel
theorem dL_law_663 : decode cL_law 663 = .ok (.iaload, 1) := by decide +kernel
theorem dL_law_664 : decode cL_law 664 = .ok (.aload_n 0, 1) := by decide +kernel
theorem dL_law_665 : decode cL_law 665 = .ok (.iload_n 3, 1) := by decide +kernel
theorem dL_law_666 : decode cL_law 666 = .ok (.iconst 2, 1) := by decide +kernel
theorem dL_law_667 : decode cL_law 667 = .ok (.iadd, 1) := by decide +kernel
theorem dL_law_668 : decode cL_law 668 = .ok (.iaload, 1) := by decide +kernel
theorem dL_law_669 : decode cL_law 669 = .ok (.aload_n 0, 1) := by decide +kernel
theorem dL_law_670 : decode cL_law 670 = .ok (.iload_n 3, 1) := by decide +kernel
theorem dL_law_671 : decode cL_law 671 = .ok (.iconst 3, 1) := by decide +kernel
theorem dL_law_672 : decode cL_law 672 = .ok (.iadd, 1) := by decide +kernel
theorem dL_law_673 : decode cL_law 673 = .ok (.iaload, 1) := by decide +kernel
theorem dL_law_674 : decode cL_law 674 = .ok (.aload_n 0, 1) := by decide +kernel
theorem dL_law_675 : decode cL_law 675 = .ok (.iload_n 3, 1) := by decide +kernel
theorem dL_law_676 : decode cL_law 676 = .ok (.iconst 4, 1) := by decide +kernel
theorem dL_law_677 : decode cL_law 677 = .ok (.iadd, 1) := by decide +kernel
theorem dL_law_678 : decode cL_law 678 = .ok (.iaload, 1) := by decide +kernel
theorem dL_law_679 : decode cL_law 679 = .ok (.invokevirtual 86, 3) := by decide +kernel
theorem dL_law_682 : decode cL_law 682 = .ok (.if_icmp .eq 289, 3) := by decide +kernel
theorem dL_law_687 : decode cL_law 687 = .ok (.aload_n 1, 1) := by decide +kernel
theorem dL_law_688 : decode cL_law 688 = .ok (.aload_n 0, 1) := by decide +kernel
theorem dL_law_689 : decode cL_law 689 = .ok (.iload_n 3, 1) := by decide +kernel
theorem dL_law_690 : decode cL_law 690 = .ok (.iconst 1, 1) := by decide +kernel
theorem dL_law_691 : decode cL_law 691 = .ok (.iadd, 1) := by decide +kernel
theorem dL_law_692 : decode cL_law 692 = .ok (.iaload, 1) := by decide +kernel
theorem dL_law_693 : decode cL_law 693 = .ok (.aload_n 0, 1) := by decide +kernel
theorem dL_law_694 : decode cL_law 694 = .ok (.iload_n 3, 1) := by decide +kernel
theorem dL_law_695 : decode cL_law 695 = .ok (.iconst 2, 1) := by decide +kernel
theorem dL_law_696 : decode cL_law 696 = .ok (.iadd, 1) := by decide +kernel
theorem dL_law_697 : decode cL_law 697 = .ok (.iaload, 1) := by decide +kernel
theorem dL_law_698 : decode cL_law 698 = .ok (.aload_n 0, 1) := by decide +kernel
theorem dL_law_699 : decode cL_law 699 = .ok (.iload_n 3, 1) := by decide +kernel
theorem dL_law_700 : decode cL_law 700 = .ok (.iconst 3, 1) := by decide +kernel
theorem dL_law_701 : decode cL_law 701 = .ok (.iadd, 1) := by decide +kernel
theorem dL_law_702 : decode cL_law 702 = .ok (.iaload, 1) := by decide +kernel
theorem dL_law_703 : decode cL_law 703 = .ok (.aload_n 0, 1) := by decide +kernel
theorem dL_law_704 : decode cL_law 704 = .ok (.iload_n 3, 1) := by decide +kernel
theorem dL_law_705 : decode cL_law 705 = .ok (.iconst 4, 1) := by decide +kernel
theorem dL_law_706 : decode cL_law 706 = .ok (.iadd, 1) := by decide +kernel
theorem dL_law_707 : decode cL_law 707 = .ok (.iaload, 1) := by decide +kernel
theorem dL_law_708 : decode cL_law 708 = .ok (.aload_n 0, 1) := by decide +kernel
theorem dL_law_709 : decode cL_law 709 = .ok (.iload_n 3, 1) := by decide +kernel
theorem dL_law_710 : decode cL_law 710 = .ok (.iconst 5, 1) := by decide +kernel
theorem dL_law_711 : decode cL_law 711 = .ok (.iadd, 1) := by decide +kernel
theorem dL_law_712 : decode cL_law 712 = .ok (.iaload, 1) := by decide +kernel
theorem dL_law_713 : decode cL_law 713 = .ok (.invokevirtual 87, 3) := by decide +kernel
theorem dL_law_716 : decode cL_law 716 = .ok (.aload_n 2, 1) := by decide +kernel
theorem dL_law_717 : decode cL_law 717 = .ok (.aload_n 0, 1) := by decide +kernel
theorem dL_law_718 : decode cL_law 718 = .ok (.iload_n 3, 1) := by decide +kernel
theorem dL_law_719 : decode cL_law 719 = .ok (.iconst 1, 1) := by decide +kernel
theorem dL_law_720 : decode cL_law 720 = .ok (.iadd, 1) := by decide +kernel
theorem dL_law_721 : decode cL_law 721 = .ok (.iaload, 1) := by decide +kernel
theorem dL_law_722 : decode cL_law 722 = .ok (.aload_n 0, 1) := by decide +kernel
theorem dL_law_723 : decode cL_law 723 = .ok (.iload_n 3, 1) := by decide +kernel
theorem dL_law_724 : decode cL_law 724 = .ok (.iconst 2, 1) := by decide +kernel
theorem dL_law_725 : decode cL_law 725 = .ok (.iadd, 1) := by decide +kernel
theorem dL_law_726 : decode cL_law 726 = .ok (.iaload, 1) := by decide +kernel
theorem dL_law_727 : decode cL_law 727 = .ok (.aload_n 0, 1) := by decide +kernel
theorem dL_law_728 : decode cL_law 728 = .ok (.iload_n 3, 1) := by decide +kernel
theorem dL_law_729 : decode cL_law 729 = .ok (.iconst 3, 1) := by decide +kernel
theorem dL_law_730 : decode cL_law 730 = .ok (.iadd, 1) := by decide +kernel
theorem dL_law_731 : decode cL_law 731 = .ok (.iaload, 1) := by decide +kernel
theorem dL_law_732 : decode cL_law 732 = .ok (.aload_n 0, 1) := by decide +kernel
theorem dL_law_733 : decode cL_law 733 = .ok (.iload_n 3, 1) := by decide +kernel
theorem dL_law_734 : decode cL_law 734 = .ok (.iconst 4, 1) := by decide +kernel
theorem dL_law_735 : decode cL_law 735 = .ok (.iadd, 1) := by decide +kernel
theorem dL_law_736 : decode cL_law 736 = .ok (.iaload, 1) := by decide +kernel
theorem dL_law_737 : decode cL_law 737 = .ok (.aload_n 0, 1) := by decide +kernel
theorem dL_law_738 : decode cL_law 738 = .ok (.iload_n 3, 1) := by decide +kernel
theorem dL_law_739 : decode cL_law 739 = .ok (.iconst 5, 1) := by decide +kernel
theorem dL_law_740 : decode cL_law 740 = .ok (.iadd, 1) := by decide +kernel
theorem dL_law_741 : decode cL_law 741 = .ok (.iaload, 1) := by decide +kernel
theorem dL_law_742 : decode cL_law 742 = .ok (.invokevirtual 90, 3) := by decide +kernel
theorem dL_law_745 : decode cL_law 745 = .ok (.if_icmp .eq 226, 3) := by decide +kernel
theorem dL_law_750 : decode cL_law 750 = .ok (.aload_n 1, 1) := by decide +kernel
theorem dL_law_751 : decode cL_law 751 = .ok (.aload_n 0, 1) := by decide +kernel
theorem dL_law_752 : decode cL_law 752 = .ok (.iload_n 3, 1) := by decide +kernel
theorem dL_law_753 : decode cL_law 753 = .ok (.iconst 1, 1) := by decide +kernel
theorem dL_law_754 : decode cL_law 754 = .ok (.iadd, 1) := by decide +kernel
theorem dL_law_755 : decode cL_law 755 = .ok (.iaload, 1) := by decide +kernel
theorem dL_law_756 : decode cL_law 756 = .ok (.aload_n 0, 1) := by decide +kernel
theorem dL_law_757 : decode cL_law 757 = .ok (.iload_n 3, 1) := by decide +kernel
theorem dL_law_758 : decode cL_law 758 = .ok (.iconst 2, 1) := by decide +kernel
theorem dL_law_759 : decode cL_law 759 = .ok (.iadd, 1) := by decide +kernel
theorem dL_law_760 : decode cL_law 760 = .ok (.iaload, 1) := by decide +kernel
theorem dL_law_761 : decode cL_law 761 = .ok (.aload_n 0, 1) := by decide +kernel
theorem dL_law_762 : decode cL_law 762 = .ok (.iload_n 3, 1) := by decide +kernel
theorem dL_law_763 : decode cL_law 763 = .ok (.iconst 3, 1) := by decide +kernel
theorem dL_law_764 : decode cL_law 764 = .ok (.iadd, 1) := by decide +kernel
theorem dL_law_765 : decode cL_law 765 = .ok (.iaload, 1) := by decide +kernel
theorem dL_law_766 : decode cL_law 766 = .ok (.aload_n 0, 1) := by decide +kernel
theorem dL_law_767 : decode cL_law 767 = .ok (.iload_n 3, 1) := by decide +kernel
theorem dL_law_768 : decode cL_law 768 = .ok (.iconst 4, 1) := by decide +kernel
theorem dL_law_769 : decode cL_law 769 = .ok (.iadd, 1) := by decide +kernel
theorem dL_law_770 : decode cL_law 770 = .ok (.iaload, 1) := by decide +kernel
theorem dL_law_771 : decode cL_law 771 = .ok (.invokevirtual 91, 3) := by decide +kernel
theorem dL_law_774 : decode cL_law 774 = .ok (.aload_n 2, 1) := by decide +kernel
theorem dL_law_775 : decode cL_law 775 = .ok (.aload_n 0, 1) := by decide +kernel
theorem dL_law_776 : decode cL_law 776 = .ok (.iload_n 3, 1) := by decide +kernel
theorem dL_law_777 : decode cL_law 777 = .ok (.iconst 1, 1) := by decide +kernel
theorem dL_law_778 : decode cL_law 778 = .ok (.iadd, 1) := by decide +kernel
theorem dL_law_779 : decode cL_law 779 = .ok (.iaload, 1) := by decide +kernel
theorem dL_law_780 : decode cL_law 780 = .ok (.aload_n 0, 1) := by decide +kernel
theorem dL_law_781 : decode cL_law 781 = .ok (.iload_n 3, 1) := by decide +kernel
theorem dL_law_782 : decode cL_law 782 = .ok (.iconst 2, 1) := by decide +kernel
theorem dL_law_783 : decode cL_law 783 = .ok (.iadd, 1) := by decide +kernel
theorem dL_law_784 : decode cL_law 784 = .ok (.iaload, 1) := by decide +kernel
theorem dL_law_785 : decode cL_law 785 = .ok (.aload_n 0, 1) := by decide +kernel
theorem dL_law_786 : decode cL_law 786 = .ok (.iload_n 3, 1) := by decide +kernel
theorem dL_law_787 : decode cL_law 787 = .ok (.iconst 3, 1) := by decide +kernel
theorem dL_law_788 : decode cL_law 788 = .ok (.iadd, 1) := by decide +kernel
theorem dL_law_789 : decode cL_law 789 = .ok (.iaload, 1) := by decide +kernel
theorem dL_law_790 : decode cL_law 790 = .ok (.aload_n 0, 1) := by decide +kernel
theorem dL_law_791 : decode cL_law 791 = .ok (.iload_n 3, 1) := by decide +kernel
theorem dL_law_792 : decode cL_law 792 = .ok (.iconst 4, 1) := by decide +kernel
theorem dL_law_793 : decode cL_law 793 = .ok (.iadd, 1) := by decide +kernel
theorem dL_law_794 : decode cL_law 794 = .ok (.iaload, 1) := by decide +kernel
theorem dL_law_795 : decode cL_law 795 = .ok (.invokevirtual 94, 3) := by decide +kernel
theorem dL_law_798 : decode cL_law 798 = .ok (.if_icmp .eq 173, 3) := by decide +kernel
theorem dL_law_803 : decode cL_law 803 = .ok (.aload_n 1, 1) := by decide +kernel
theorem dL_law_804 : decode cL_law 804 = .ok (.invokevirtual 95, 3) := by decide +kernel
theorem dL_law_807 : decode cL_law 807 = .ok (.aload_n 2, 1) := by decide +kernel
theorem dL_law_808 : decode cL_law 808 = .ok (.invokevirtual 98, 3) := by decide +kernel
theorem dL_law_811 : decode cL_law 811 = .ok (.if_icmp .eq 160, 3) := by decide +kernel
theorem dL_law_816 : decode cL_law 816 = .ok (.aload_n 1, 1) := by decide +kernel
theorem dL_law_817 : decode cL_law 817 = .ok (.invokevirtual 99, 3) := by decide +kernel
theorem dL_law_820 : decode cL_law 820 = .ok (.aload_n 2, 1) := by decide +kernel
theorem dL_law_821 : decode cL_law 821 = .ok (.invokevirtual 103, 3) := by decide +kernel
theorem dL_law_824 : decode cL_law 824 = .ok (.lcmp, 1) := by decide +kernel
theorem dL_law_825 : decode cL_law 825 = .ok (.ifCond .eq 146, 3) := by decide +kernel
theorem dL_law_830 : decode cL_law 830 = .ok (.aload_n 1, 1) := by decide +kernel
theorem dL_law_831 : decode cL_law 831 = .ok (.aload_n 0, 1) := by decide +kernel
theorem dL_law_832 : decode cL_law 832 = .ok (.iload_n 3, 1) := by decide +kernel
theorem dL_law_833 : decode cL_law 833 = .ok (.iconst 1, 1) := by decide +kernel
theorem dL_law_834 : decode cL_law 834 = .ok (.iadd, 1) := by decide +kernel
theorem dL_law_835 : decode cL_law 835 = .ok (.iaload, 1) := by decide +kernel
theorem dL_law_836 : decode cL_law 836 = .ok (.invokevirtual 104, 3) := by decide +kernel
theorem dL_law_839 : decode cL_law 839 = .ok (.aload_n 2, 1) := by decide +kernel
theorem dL_law_840 : decode cL_law 840 = .ok (.aload_n 0, 1) := by decide +kernel
theorem dL_law_841 : decode cL_law 841 = .ok (.iload_n 3, 1) := by decide +kernel
theorem dL_law_842 : decode cL_law 842 = .ok (.iconst 1, 1) := by decide +kernel
theorem dL_law_843 : decode cL_law 843 = .ok (.iadd, 1) := by decide +kernel
theorem dL_law_844 : decode cL_law 844 = .ok (.iaload, 1) := by decide +kernel
theorem dL_law_845 : decode cL_law 845 = .ok (.invokevirtual 108, 3) := by decide +kernel
theorem dL_law_848 : decode cL_law 848 = .ok (.lcmp, 1) := by decide +kernel
theorem dL_law_849 : decode cL_law 849 = .ok (.ifCond .eq 122, 3) := by decide +kernel
theorem dL_law_854 : decode cL_law 854 = .ok (.aload_n 1, 1) := by decide +kernel
theorem dL_law_855 : decode cL_law 855 = .ok (.invokevirtual 109, 3) := by decide +kernel
theorem dL_law_858 : decode cL_law 858 = .ok (.aload_n 2, 1) := by decide +kernel
theorem dL_law_859 : decode cL_law 859 = .ok (.invokevirtual 112, 3) := by decide +kernel
theorem dL_law_862 : decode cL_law 862 = .ok (.if_icmp .eq 109, 3) := by decide +kernel
theorem dL_law_867 : decode cL_law 867 = .ok (.aload_n 1, 1) := by decide +kernel
theorem dL_law_868 : decode cL_law 868 = .ok (.aload_n 0, 1) := by decide +kernel
theorem dL_law_869 : decode cL_law 869 = .ok (.iload_n 3, 1) := by decide +kernel
theorem dL_law_870 : decode cL_law 870 = .ok (.iconst 1, 1) := by decide +kernel
theorem dL_law_871 : decode cL_law 871 = .ok (.iadd, 1) := by decide +kernel
theorem dL_law_872 : decode cL_law 872 = .ok (.iaload, 1) := by decide +kernel
theorem dL_law_873 : decode cL_law 873 = .ok (.aload_n 0, 1) := by decide +kernel
theorem dL_law_874 : decode cL_law 874 = .ok (.iload_n 3, 1) := by decide +kernel
theorem dL_law_875 : decode cL_law 875 = .ok (.iconst 2, 1) := by decide +kernel
theorem dL_law_876 : decode cL_law 876 = .ok (.iadd, 1) := by decide +kernel
theorem dL_law_877 : decode cL_law 877 = .ok (.iaload, 1) := by decide +kernel
theorem dL_law_878 : decode cL_law 878 = .ok (.invokevirtual 113, 3) := by decide +kernel
theorem dL_law_881 : decode cL_law 881 = .ok (.aload_n 2, 1) := by decide +kernel
theorem dL_law_882 : decode cL_law 882 = .ok (.aload_n 0, 1) := by decide +kernel
theorem dL_law_883 : decode cL_law 883 = .ok (.iload_n 3, 1) := by decide +kernel
theorem dL_law_884 : decode cL_law 884 = .ok (.iconst 1, 1) := by decide +kernel
theorem dL_law_885 : decode cL_law 885 = .ok (.iadd, 1) := by decide +kernel
theorem dL_law_886 : decode cL_law 886 = .ok (.iaload, 1) := by decide +kernel
theorem dL_law_887 : decode cL_law 887 = .ok (.aload_n 0, 1) := by decide +kernel
theorem dL_law_888 : decode cL_law 888 = .ok (.iload_n 3, 1) := by decide +kernel
theorem dL_law_889 : decode cL_law 889 = .ok (.iconst 2, 1) := by decide +kernel
theorem dL_law_890 : decode cL_law 890 = .ok (.iadd, 1) := by decide +kernel
theorem dL_law_891 : decode cL_law 891 = .ok (.iaload, 1) := by decide +kernel
theorem dL_law_892 : decode cL_law 892 = .ok (.invokevirtual 117, 3) := by decide +kernel
theorem dL_law_895 : decode cL_law 895 = .ok (.lcmp, 1) := by decide +kernel
theorem dL_law_896 : decode cL_law 896 = .ok (.ifCond .eq 75, 3) := by decide +kernel
theorem dL_law_901 : decode cL_law 901 = .ok (.aload_n 1, 1) := by decide +kernel
theorem dL_law_902 : decode cL_law 902 = .ok (.aload_n 0, 1) := by decide +kernel
theorem dL_law_903 : decode cL_law 903 = .ok (.iload_n 3, 1) := by decide +kernel
theorem dL_law_904 : decode cL_law 904 = .ok (.iconst 1, 1) := by decide +kernel
theorem dL_law_905 : decode cL_law 905 = .ok (.iadd, 1) := by decide +kernel
theorem dL_law_906 : decode cL_law 906 = .ok (.iaload, 1) := by decide +kernel
theorem dL_law_907 : decode cL_law 907 = .ok (.invokevirtual 118, 3) := by decide +kernel
theorem dL_law_910 : decode cL_law 910 = .ok (.aload_n 2, 1) := by decide +kernel
theorem dL_law_911 : decode cL_law 911 = .ok (.aload_n 0, 1) := by decide +kernel
theorem dL_law_912 : decode cL_law 912 = .ok (.iload_n 3, 1) := by decide +kernel
theorem dL_law_913 : decode cL_law 913 = .ok (.iconst 1, 1) := by decide +kernel
theorem dL_law_914 : decode cL_law 914 = .ok (.iadd, 1) := by decide +kernel
theorem dL_law_915 : decode cL_law 915 = .ok (.iaload, 1) := by decide +kernel
theorem dL_law_916 : decode cL_law 916 = .ok (.invokevirtual 121, 3) := by decide +kernel
theorem dL_law_919 : decode cL_law 919 = .ok (.lcmp, 1) := by decide +kernel
theorem dL_law_920 : decode cL_law 920 = .ok (.ifCond .eq 51, 3) := by decide +kernel
theorem dL_law_925 : decode cL_law 925 = .ok (.aload_n 1, 1) := by decide +kernel
theorem dL_law_926 : decode cL_law 926 = .ok (.aload_n 0, 1) := by decide +kernel
theorem dL_law_927 : decode cL_law 927 = .ok (.iload_n 3, 1) := by decide +kernel
theorem dL_law_928 : decode cL_law 928 = .ok (.iconst 1, 1) := by decide +kernel
theorem dL_law_929 : decode cL_law 929 = .ok (.iadd, 1) := by decide +kernel
theorem dL_law_930 : decode cL_law 930 = .ok (.iaload, 1) := by decide +kernel
theorem dL_law_931 : decode cL_law 931 = .ok (.invokevirtual 122, 3) := by decide +kernel
theorem dL_law_934 : decode cL_law 934 = .ok (.aload_n 2, 1) := by decide +kernel
theorem dL_law_935 : decode cL_law 935 = .ok (.aload_n 0, 1) := by decide +kernel
theorem dL_law_936 : decode cL_law 936 = .ok (.iload_n 3, 1) := by decide +kernel
theorem dL_law_937 : decode cL_law 937 = .ok (.iconst 1, 1) := by decide +kernel
theorem dL_law_938 : decode cL_law 938 = .ok (.iadd, 1) := by decide +kernel
theorem dL_law_939 : decode cL_law 939 = .ok (.iaload, 1) := by decide +kernel
theorem dL_law_940 : decode cL_law 940 = .ok (.invokevirtual 125, 3) := by decide +kernel
theorem dL_law_943 : decode cL_law 943 = .ok (.if_icmp .eq 28, 3) := by decide +kernel
theorem dL_law_948 : decode cL_law 948 = .ok (.aload_n 1, 1) := by decide +kernel
theorem dL_law_949 : decode cL_law 949 = .ok (.aload_n 0, 1) := by decide +kernel
theorem dL_law_950 : decode cL_law 950 = .ok (.iload_n 3, 1) := by decide +kernel
theorem dL_law_951 : decode cL_law 951 = .ok (.iconst 1, 1) := by decide +kernel
theorem dL_law_952 : decode cL_law 952 = .ok (.iadd, 1) := by decide +kernel
theorem dL_law_953 : decode cL_law 953 = .ok (.iaload, 1) := by decide +kernel
theorem dL_law_954 : decode cL_law 954 = .ok (.invokevirtual 126, 3) := by decide +kernel
theorem dL_law_957 : decode cL_law 957 = .ok (.aload_n 2, 1) := by decide +kernel
theorem dL_law_958 : decode cL_law 958 = .ok (.aload_n 0, 1) := by decide +kernel
theorem dL_law_959 : decode cL_law 959 = .ok (.iload_n 3, 1) := by decide +kernel
theorem dL_law_960 : decode cL_law 960 = .ok (.iconst 1, 1) := by decide +kernel
theorem dL_law_961 : decode cL_law 961 = .ok (.iadd, 1) := by decide +kernel
theorem dL_law_962 : decode cL_law 962 = .ok (.iaload, 1) := by decide +kernel
theorem dL_law_963 : decode cL_law 963 = .ok (.invokevirtual 129, 3) := by decide +kernel
theorem dL_law_966 : decode cL_law 966 = .ok (.if_icmp .eq 5, 3) := by decide +kernel
theorem dL_law_971 : decode cL_law 971 = .ok (.iinc 3 6, 3) := by decide +kernel
theorem dL_law_974 : decode cL_law 974 = .ok (.goto (-956), 3) := by decide +kernel
theorem dL_law_977 : decode cL_law 977 = .ok (.iconst 1, 1) := by decide +kernel
theorem dL_law_978 : decode cL_law 978 = .ok (.ireturn, 1) := by decide +kernel
end
section
theorem kz_good : wsU.all goodWord = true := by decide +kernel
theorem kz_sub {ws : List Cond} (h : ∀ w ∈ ws, w ∈ wsU) : GoodIn wsU ws := fun w hw => ⟨h w hw, good_of_word (List.all_eq_true.mp kz_good w (h w hw))⟩
theorem kz_g {y : MethodName} {bytes : ByteArray} {mL : Nat} {ret : Option FieldType} (h5 : Cond.code y bytes mL ret ∈ wsU) : GoodIn wsU (Cond.code y bytes mL ret :: wsU) := kz_sub (fun w hw => (List.mem_cons.mp hw).elim (fun e => e ▸ h5) id)
theorem kz_gV {own C : String} {idx : Nat} {y : MethodName} {bytes : ByteArray} {mL : Nat} {ret : Option FieldType} (h1 : Cond.methodLink own idx y ∈ wsU) (h2 : Cond.instanceMethod y ∈ wsU) (h3 : Cond.selects C y y ∈ wsU) (h4 : Cond.initialized C ∈ wsU) (h5 : Cond.code y bytes mL ret ∈ wsU) : GoodIn wsU (wsV own idx C y (Cond.code y bytes mL ret :: wsU)) := kz_sub (fun w hw => by
  simp only [wsV, List.cons_append, List.nil_append, List.mem_cons] at hw
  rcases hw with rfl | rfl | rfl | rfl | rfl | h <;> assumption)
theorem kz_gS {own : String} {idx : Nat} {y : MethodName} {bytes : ByteArray} {mL : Nat} {ret : Option FieldType} (h1 : Cond.methodLink own idx y ∈ wsU) (h2 : Cond.static y ∈ wsU) (h3 : Cond.initialized y.cls ∈ wsU) (h5 : Cond.code y bytes mL ret ∈ wsU) : GoodIn wsU (va_wsS own idx y (Cond.code y bytes mL ret :: wsU)) := kz_sub (fun w hw => by
  simp only [va_wsS, List.cons_append, List.nil_append, List.mem_cons] at hw
  rcases hw with rfl | rfl | rfl | rfl | h <;> assumption)
abbrev kz_B (D : va_G) (sz : Nat) (ws : va_W) (tys : List (ClassId × FieldType)) (U : State) : Prop := U.heap.size = sz ∧ va_P D vwCl ws U.heap ∧ va_K D vwCl tys U ∧ va_D (fun _ => True) ws
abbrev kz_E (D : va_G) (A : Nat → Prop) (ws : va_W) (tys : List (ClassId × FieldType)) (t : State) : Prop := va_P D vwCl ws t.heap ∧ va_K D vwCl tys t ∧ va_D A ws
theorem kz_P0 {D : va_G} {H : Heap} : va_P D vwCl [] H := fun k q h => by simp at h
theorem kz_D0 {A : Nat → Prop} : va_D A [] := ⟨fun i j p q h => by simp at h, fun k q h => by simp at h⟩
theorem kz_preS {s : State} {H : Heap} {D : va_G} {A : Nat → Prop} {ws : va_W} {tys : List (ClassId × FieldType)} {av : List Value} (hP : va_P D vwCl ws H) (hK : va_K D vwCl tys s) (hD : va_D A ws) : PreS s H (va_Pc av (kz_B D H.size ws tys)) av := ⟨fun a U g mk q => ⟨q.1, q.2.1, q.2.2.1, va_K.moved (u := U) (U := U.calling g mk a) (Vm.Alike.refl U.vm) q.2.2.2.1, q.2.2.2.2⟩, fun U hU hW => ⟨rfl, by rw [hU], by rw [hU]; exact hP, va_K.moved hW.alike hK, hD.weaken (fun _ _ _ _ => trivial)⟩⟩
/-- what else a constructor needs: the calls between nest mates, and the classes of rows of rows -/
def kz_Am (U : State) : Prop := va_Nw (.methodLinkNest RX1 11 yX0_init RX11) U ∧ va_Nw (.methodLinkNest RX7 18 yX0_init RX11) U ∧ va_Nw (.methodLinkNest RX6 11 yX0_init RX11) U ∧ va_Nw (.methodLinkNest RX4 20 yX0_init RX11) U ∧ va_AO RX10 U ∧ va_AOA .int U
theorem kz_Am.same {u U : State} (h : u.vm = U.vm) (q : kz_Am u) : kz_Am U := ⟨va_Nw.same rfl h q.1, va_Nw.same rfl h q.2.1, va_Nw.same rfl h q.2.2.1, va_Nw.same rfl h q.2.2.2.1, va_AO.moved (h ▸ Vm.Alike.refl u.vm) q.2.2.2.2.1, over_moved (a := #[]) (a' := #[]) (h ▸ Vm.Alike.refl u.vm) q.2.2.2.2.2⟩
theorem kz_Am.warm {s U : State} (hW : s.WarmedH U.vm) (q : kz_Am s) : kz_Am U := ⟨va_Nw.warmM hW q.1, va_Nw.warmM hW q.2.1, va_Nw.warmM hW q.2.2.1, va_Nw.warmM hW q.2.2.2.1, va_AO.moved hW.alike q.2.2.2.2.1, over_moved (a := #[]) (a' := #[]) hW.alike q.2.2.2.2.2⟩
theorem kz_preA {s : State} {H : Heap} {D : va_G} {A : Nat → Prop} {ws : va_W} {tys : List (ClassId × FieldType)} {av : List Value} (hP : va_P D vwCl ws H) (hK : va_K D vwCl tys s) (hD : va_D A ws) (hAm : kz_Am s) : PreS s H (va_Pc av (fun U => kz_B D H.size ws tys U ∧ kz_Am U)) av := ⟨fun a U g mk q => ⟨q.1, ⟨q.2.1.1, q.2.1.2.1, va_K.moved (u := U) (U := U.calling g mk a) (Vm.Alike.refl U.vm) q.2.1.2.2.1, q.2.1.2.2.2⟩, kz_Am.same (u := U) (U := U.calling g mk a) rfl q.2.2⟩, fun U hU hW => ⟨rfl, ⟨by rw [hU], by rw [hU]; exact hP, va_K.moved hW.alike hK, hD.weaken (fun _ _ _ _ => trivial)⟩, kz_Am.warm hW hAm⟩⟩
theorem kz_inner (c : ClassId) (K : Nat) : Jvm.Free.Multi.innerC c K (defaultValue .int) = vp_cell c (K, .inl (fun _ => 0)) := by
  rw [vp_cell_i]
  first | rfl | exact (arrV_new ..).symm | exact arrV_new ..
section KZ
variable {p : Program} {l : Launch} {e : Env} {R : Room} {s : State} {m : MethodId} {args : Array Value} {below : List Frame} {meth : Method} {c : Code} {H : Heap} {locs : List Loc} {cells slots : Nat} {Q : State → Prop} {pc : Nat} {ls : Array Slot} {rest : List Value}
theorem kz_topi {x y : Int32} (h : x = y) (k : W p l e R s m args below meth c H locs cells slots Q (F0 m pc ls (.int y :: rest))) : W p l e R s m args below meth c H locs cells slots Q (F0 m pc ls (.int x :: rest)) := by subst h; exact k
end KZ
theorem dfX0 : ∀ j, j < 4 → defaultValue (tyX0 j) = vp_V [.int 0, .int 0, .int 0, .int 0] j := by decide +kernel
theorem dfX1 : ∀ j, j < 10 → defaultValue (tyX1 j) = vp_V [.null, .null, .null, .null, .int 0, .int 0, .int 0, .int 0, .int 0, .int 0] j := by decide +kernel
theorem dfX2 : ∀ j, j < 8 → defaultValue (tyX2 j) = vp_V [.null, .null, .null, .null, .null, .int 0, .null, .int 0] j := by decide +kernel
theorem dfX3 : ∀ j, j < 4 → defaultValue (tyX3 j) = vp_V [.int 0, .null, .null, .int 0] j := by decide +kernel
theorem dfX4 : ∀ j, j < 4 → defaultValue (tyX4 j) = vp_V [.null, .null, .null, .null] j := by decide +kernel
theorem dfX5 : ∀ j, j < 2 → defaultValue (tyX5 j) = vp_V [.null, .null] j := by decide +kernel
theorem dfX6 : ∀ j, j < 10 → defaultValue (tyX6 j) = vp_V [.int 0, .int 0, .int 0, .null, .null, .null, .null, .null, .int 0, .int 0] j := by decide +kernel
theorem dfX7 : ∀ j, j < 5 → defaultValue (tyX7 j) = vp_V [.null, .null, .null, .int 0, .int 0] j := by decide +kernel
theorem dfX8 : ∀ j, j < 11 → defaultValue (tyX8 j) = vp_V [.null, .null, .int 0, .int 0, .int 0, .int 0, .int 0, .null, .int 0, .int 0, .int 0] j := by decide +kernel
theorem dfX9 : ∀ j, j < 1 → defaultValue (tyX9 j) = vp_V [.null] j := by decide +kernel
theorem dfX10 : ∀ j, j < 13 → defaultValue (tyX10 j) = vp_V [.int 0, .int 0, .int 0, .int 0, .int 0, .int 0, .int 0, .int 0, .null, .null, .null, .null, .null] j := by decide +kernel
theorem dfX11 : ∀ j, j < 12 → defaultValue (tyX11 j) = vp_V [.null, .null, .null, .null, .null, .null, .null, .null, .null, .null, .int 0, .int 0] j := by decide +kernel
theorem dfX12 : ∀ j, j < 37 → defaultValue (tyX12 j) = vp_V [.null, .int 0, .int 0, .int 0, .int 0, .int 0, .int 0, .int 0, .int 0, .null, .null, .null, .null, .int 0, .int 0, .int 0, .null, .null, .null, .null, .null, .null, .null, .null, .null, .null, .null, .int 0, .null, .null, .null, .null, .null, .null, .int 0, .null, .null] j := by decide +kernel
/-- what the two sides answer on a fresh object, as far as it hangs on an argument -/
def spS (x : Int32) : Int32 := if x < 0 then 0 else if 2 ≤ x then 0 else 1
def spD (x : Int32) : Int32 := if 0 ≤ x then 0 else -1
def spE (x : Int32) : Int32 := if x < 0 then -1 else if x ≤ 0 then x else -1
def spI (v lo hi : Int64) : Int32 := if lg_cmp v lo < 0 then 0 else if 0 < lg_cmp v hi then 0 else 1
def spC (x : Int32) : Int32 := if 0 ≤ x.toInt ∧ x.toInt ≤ 11 then 0 else -1
theorem kz_shelf {x r : Int32} (h : r = spS x) (c : ¬ r = 0) : vp_in x 2 := by
  unfold spS at h
  by_cases h1 : x < 0
  · rw [if_pos h1] at h; exact absurd h c
  · rw [if_neg h1] at h
    by_cases h2 : 2 ≤ x
    · rw [if_pos h2] at h; exact absurd h c
    · rw [vp_in_iff]
      rw [Int32.lt_iff_toInt_lt] at h1
      rw [Int32.le_iff_toInt_le] at h2
      have e0 : (0 : Int32).toInt = 0 := by decide
      have e2 : (2 : Int32).toInt = 2 := by decide
      rw [e0] at h1
      rw [e2] at h2
      omega
theorem kz_lt (a b : Int64) : lg_cmp a b < 0 ↔ a.toInt < b.toInt := by
  unfold lg_cmp
  by_cases h1 : a > b
  · rw [if_pos h1]
    have : b.toInt < a.toInt := Int64.lt_iff_toInt_lt.mp h1
    constructor
    · intro h; exact absurd h (by decide)
    · intro h; omega
  · rw [if_neg h1]
    have h1' : ¬ b.toInt < a.toInt := fun q => h1 (Int64.lt_iff_toInt_lt.mpr q)
    by_cases h2 : a = b
    · rw [if_pos h2]
      subst h2
      constructor
      · intro h; exact absurd h (by decide)
      · intro h; omega
    · rw [if_neg h2]
      have h3 : a.toInt ≠ b.toInt := fun q => h2 (Int64.toInt_inj.mp q)
      constructor
      · intro _; omega
      · intro _; decide
theorem kz_gt (a b : Int64) : 0 < lg_cmp a b ↔ b.toInt < a.toInt := by
  unfold lg_cmp
  by_cases h1 : a > b
  · rw [if_pos h1]
    have : b.toInt < a.toInt := Int64.lt_iff_toInt_lt.mp h1
    constructor
    · intro _; exact this
    · intro _; decide
  · rw [if_neg h1]
    have h1' : ¬ b.toInt < a.toInt := fun q => h1 (Int64.lt_iff_toInt_lt.mpr q)
    by_cases h2 : a = b
    · rw [if_pos h2]
      constructor
      · intro h; exact absurd h (by decide)
      · intro h; omega
    · rw [if_neg h2]
      constructor
      · intro h; exact absurd h (by decide)
      · intro h; omega
theorem kz_spI (v lo hi : Int64) : spI v lo hi = if lo.toInt ≤ v.toInt ∧ v.toInt ≤ hi.toInt then 1 else 0 := by
  unfold spI
  by_cases h1 : lg_cmp v lo < 0
  · rw [if_pos h1, if_neg]
    rw [kz_lt] at h1
    omega
  · rw [if_neg h1]
    rw [kz_lt] at h1
    by_cases h2 : 0 < lg_cmp v hi
    · rw [if_pos h2, if_neg]
      rw [kz_gt] at h2
      omega
    · rw [if_neg h2, if_pos]
      rw [kz_gt] at h2
      omega
theorem kz_spI_none (v : Int64) : spI v 0 (-1) = 0 := by
  rw [kz_spI, if_neg]
  have e0 : (0 : Int64).toInt = 0 := by decide
  have e1 : (-1 : Int64).toInt = -1 := by decide
  rw [e0, e1]
  omega
theorem kz_toL (x : Int32) : x.toInt64.toInt = x.toInt := Int32.toInt_toInt64 x
theorem kz_spI_32 (x : Int32) (lo hi : Int64) : spI x.toInt64 lo hi = if lo.toInt ≤ x.toInt ∧ x.toInt ≤ hi.toInt then 1 else 0 := by rw [kz_spI, kz_toL]
theorem kz_back (x : Int32) : (if spS x = 0 then (-1 : Int32) else -2) = if spI x.toInt64 0 1 = 0 then -1 else -2 := by
  have e0 : (0 : Int64).toInt = 0 := by decide
  have e1 : (1 : Int64).toInt = 1 := by decide
  have f0 : (0 : Int32).toInt = 0 := by decide
  have f2 : (2 : Int32).toInt = 2 := by decide
  rw [kz_spI_32, e0, e1]
  unfold spS
  by_cases h1 : x < 0
  · rw [if_pos h1]
    rw [Int32.lt_iff_toInt_lt, f0] at h1
    rw [if_neg (show ¬ (0 ≤ x.toInt ∧ x.toInt ≤ 1) by omega)]
  · rw [if_neg h1]
    rw [Int32.lt_iff_toInt_lt, f0] at h1
    by_cases h2 : 2 ≤ x
    · rw [if_pos h2]
      rw [Int32.le_iff_toInt_le, f2] at h2
      rw [if_neg (show ¬ (0 ≤ x.toInt ∧ x.toInt ≤ 1) by omega)]
    · rw [if_neg h2]
      rw [Int32.le_iff_toInt_le, f2] at h2
      rw [if_pos (show (0 ≤ x.toInt ∧ x.toInt ≤ 1) by omega)]
theorem kz_sw8_11 (x : Int32) : x = 8 ∨ x = 9 ∨ x = 10 ∨ x = 11 ∨ (x.toInt < 8 ∨ 11 < x.toInt) := by
  by_cases h : x.toInt < 8 ∨ 11 < x.toInt
  · exact Or.inr (Or.inr (Or.inr (Or.inr h)))
  · have hj : ∀ n : Int32, x.toInt = n.toInt → x = n := fun n q => Int32.toInt_inj.mp q
    have e8 : (8 : Int32).toInt = 8 := by decide
    have e9 : (9 : Int32).toInt = 9 := by decide
    have e10 : (10 : Int32).toInt = 10 := by decide
    have e11 : (11 : Int32).toInt = 11 := by decide
    rcases (show x.toInt = 8 ∨ x.toInt = 9 ∨ x.toInt = 10 ∨ x.toInt = 11 by omega) with q | q | q | q
    · exact Or.inl (hj 8 (by rw [q, e8]))
    · exact Or.inr (Or.inl (hj 9 (by rw [q, e9])))
    · exact Or.inr (Or.inr (Or.inl (hj 10 (by rw [q, e10]))))
    · exact Or.inr (Or.inr (Or.inr (Or.inl (hj 11 (by rw [q, e11])))))
theorem kz_cnt_neg {x : Int32} (h : x < 0) (h2 : x.toInt < 8 ∨ 11 < x.toInt) : (-1 : Int32) = spC x := by
  have f0 : (0 : Int32).toInt = 0 := by decide
  rw [Int32.lt_iff_toInt_lt, f0] at h
  unfold spC
  rw [if_neg (by omega)]
theorem kz_cnt_big {x : Int32} (h : 7 < x) (h2 : x.toInt < 8 ∨ 11 < x.toInt) : (-1 : Int32) = spC x := by
  have f7 : (7 : Int32).toInt = 7 := by decide
  rw [Int32.lt_iff_toInt_lt, f7] at h
  unfold spC
  rw [if_neg (by omega)]
theorem kz_cnt_in {x : Int32} (h : ¬ x < 0) (h2 : ¬ 7 < x) : (0 : Int32) = spC x := by
  have f0 : (0 : Int32).toInt = 0 := by decide
  have f7 : (7 : Int32).toInt = 7 := by decide
  rw [Int32.lt_iff_toInt_lt, f0] at h
  rw [Int32.lt_iff_toInt_lt, f7] at h2
  unfold spC
  rw [if_pos ⟨by omega, by omega⟩]
theorem kz_cnt_r0 {x r : Int32} (h : r = spI x.toInt64 0 7) (c : r = 0) (h2 : x.toInt < 8 ∨ 11 < x.toInt) : (-1 : Int32) = spC x := by
  have e0 : (0 : Int64).toInt = 0 := by decide
  have e7 : (7 : Int64).toInt = 7 := by decide
  rw [kz_spI_32, e0, e7] at h
  unfold spC
  rw [if_neg]
  intro q
  rw [if_pos ⟨by omega, by omega⟩] at h
  rw [h] at c
  exact absurd c (by decide)
theorem kz_cnt_r1 {x r : Int32} (h : r = spI x.toInt64 0 7) (c : ¬ r = 0) : (0 : Int32) = spC x := by
  have e0 : (0 : Int64).toInt = 0 := by decide
  have e7 : (7 : Int64).toInt = 7 := by decide
  rw [kz_spI_32, e0, e7] at h
  unfold spC
  by_cases q : 0 ≤ x.toInt ∧ x.toInt ≤ 7
  · rw [if_pos ⟨by omega, by omega⟩]
  · rw [if_neg q] at h
    exact absurd h c
theorem kz_rect {x r k : Int32} (h : r = spI x.toInt64 0 99) (c : ¬ r = 0) (hk : k = ((11900 + (6 * x)) + 0)) : vp_in k 12507 := by
  have e0 : (0 : Int64).toInt = 0 := by decide
  have e7 : (99 : Int64).toInt = 99 := by decide
  rw [kz_spI_32, e0, e7] at h
  by_cases q : 0 ≤ x.toInt ∧ x.toInt ≤ 99
  · obtain ⟨j, hj, rfl⟩ := nI_of2 (x := x) (M := 99) (n := 99) (by decide) (fun g => by
      rw [Int32.lt_iff_toInt_lt, show (0 : Int32).toInt = 0 by decide] at g
      omega) (by
      rw [Int32.le_iff_toInt_le, show (99 : Int32).toInt = 99 by decide]
      omega)
    have hk2 : k = nI (11900 + 6 * j + 0) := by
      rw [hk]
      rw [← nI_add, ← nI_add, ← pk_mul]
      rfl
    rw [hk2]
    exact vp_in_nI (by omega) (by omega)
  · rw [if_neg q] at h
    exact absurd h c
theorem kz_shr0 (x : Int32) : (0 : Int32) >>> x = 0 := by simp
theorem kz_in {i : Int32} {n : Nat} (h : decide (¬ (i < 0 ∨ n ≤ i.toNatClampNeg)) = true) : vp_in i n := of_decide_eq_true h
/-- the word 'page' at q, its bytes at v, none of it among what may change -/
def kz_Ss (q v : Nat) (A : Nat → Prop) (U : State) (H : Heap) : Prop := va_Z RJ0 "COMPACT_STRINGS" "Z" (.int 1) A U H ∧ va_O RJ0 q A U H ∧ va_OF RJ0 "code\x72" "B" (.int 0) q A U H ∧ va_OF RJ0 "value" "[B" (.ref v) q A U H ∧ va_T .byte v 4 (fun j => .int (([112, 97, 103, 101] : List Int32).getD j 0)) A U H
theorem kz_Ss.moved {q v : Nat} {A : Nat → Prop} {u U : State} {H : Heap} (hal : u.vm.Alike U.vm) (h : kz_Ss q v A u H) : kz_Ss q v A U H := ⟨va_Z.moved hal h.1, va_O.moved hal h.2.1, va_OF.moved hal h.2.2.1, va_OF.moved hal h.2.2.2.1, va_T.moved hal h.2.2.2.2⟩
theorem kz_Ss.pass {q v : Nat} {A B : Nat → Prop} {s U : State} {H : Heap} {locs : List Loc} (h : kz_Ss q v A s s.heap) (hS : va_S A s.heap H locs) (hF : ∀ x, B x → A x) (hal : s.vm.Alike U.vm) : kz_Ss q v B U H := kz_Ss.moved hal ⟨(h.1.kept hS.2.1).narrow hF, (h.2.1.kept hS.2.1).narrow hF, (h.2.2.1.kept hS.2.1).narrow hF, (h.2.2.2.1.kept hS.2.1).narrow hF, (h.2.2.2.2.kept hS.2.1).narrow hF⟩
def kz_St (own : String) (k q v : Nat) (A : Nat → Prop) (U : State) : Prop := vk_R own k "page" q U ∧ kz_Ss q v A U U.heap
theorem kz_preT {s : State} {H : Heap} {D : va_G} {A : Nat → Prop} {ws : va_W} {tys : List (ClassId × FieldType)} {av : List Value} {q v : Nat} {locs : List Loc} (hP : va_P D vwCl ws H) (hK : va_K D vwCl tys s) (hD : va_D A ws) (h : kz_Ss q v A s s.heap) (hS : va_S A s.heap H locs) (hF : ∀ x, va_A ws H.size x → A x) : PreS s H (va_Pc av (fun U => kz_B D H.size ws tys U ∧ kz_Ss q v (va_A ws H.size) U U.heap)) av := ⟨fun a U g mk q => ⟨q.1, ⟨q.2.1.1, q.2.1.2.1, va_K.moved (u := U) (U := U.calling g mk a) (Vm.Alike.refl U.vm) q.2.1.2.2.1, q.2.1.2.2.2⟩, kz_Ss.moved (u := U) (U := U.calling g mk a) (Vm.Alike.refl U.vm) q.2.2⟩, fun U hU hW => ⟨rfl, ⟨by rw [hU], by rw [hU]; exact hP, va_K.moved hW.alike hK, hD.weaken (fun _ _ _ _ => trivial)⟩, by rw [hU]; exact kz_Ss.pass h hS hF hW.alike⟩⟩
theorem kz_preU {s : State} {H : Heap} {D : va_G} {A : Nat → Prop} {ws : va_W} {tys : List (ClassId × FieldType)} {av : List Value} {own : String} {k q v : Nat} {locs : List Loc} (hP : va_P D vwCl ws H) (hK : va_K D vwCl tys s) (hD : va_D A ws) (h : kz_St own k q v A s) (hS : va_S A s.heap H locs) (hF : ∀ x, va_A ws H.size x → A x) : PreS s H (va_Pc av (fun U => kz_B D H.size ws tys U ∧ kz_St own k q v (va_A ws H.size) U)) av := ⟨fun a U g mk q => ⟨q.1, ⟨q.2.1.1, q.2.1.2.1, va_K.moved (u := U) (U := U.calling g mk a) (Vm.Alike.refl U.vm) q.2.1.2.2.1, q.2.1.2.2.2⟩, vk_R.same (u := U) (U := U.calling g mk a) rfl q.2.2.1, kz_Ss.moved (u := U) (U := U.calling g mk a) (Vm.Alike.refl U.vm) q.2.2.2⟩, fun U hU hW => ⟨rfl, ⟨by rw [hU], by rw [hU]; exact hP, va_K.moved hW.alike hK, hD.weaken (fun _ _ _ _ => trivial)⟩, vk_R.warm hW h.1, by rw [hU]; exact kz_Ss.pass h.2 hS hF hW.alike⟩⟩
theorem kz_recvT {q v : Nat} {A : Nat → Prop} {s : State} {H : Heap} {locs : List Loc} (h : kz_Ss q v A s s.heap) (hS : va_S A s.heap H locs) : ∃ cell : Cell, H[q]? = some cell ∧ cell.vm.isStatics = false ∧ s.vm.findClass RJ0 = some cell.cls := by
  obtain ⟨cell, h1, h2, h3, h4⟩ := h.2.1
  exact ⟨cell, by rw [hS.2.1 q (Array.getElem?_eq_some_iff.mp h1).1 h4]; exact h1, h2, h3⟩
end
section
set_option maxHeartbeats 4000000 in
set_option maxRecDepth 100000 in
/-- Box(): nothing -/
theorem c_X0_init (l : Launch) (dC : Nat → ClassId) (dI : Nat → Nat → Nat) (h0 : Nat) (sz : Nat) : Met l yX0_init (Cond.code yX0_init cX0_init 1 none :: wsU) ({ frames := 1, cells := 0, slots := 0, locals := 12 }) (va_Pc [.ref h0] (kz_B (dC, dI) sz [] [])) (va_Qv (fun (_ : Unit) => True) (fun _ _ => True) (va_A [] sz)) 0 0 (va_A [] sz) := by
  refine Met.ofW (cc := cX0_init) (maxL := 1) (ret := none) (by decide) rfl ?_
  intro p e s m args below meth c s₁ B hml hv
  obtain ⟨rfl, hsz, hP, hK, hD0⟩ := hv
  have hx := B.exec
  have hb := B.bytes
  have hr := B.returns
  have hts := atoms_spec (ws := (Cond.code yX0_init cX0_init 1 none :: wsU)) B.pre
  have hts : ∀ w ∈ wsU, w.before _ s = true := fun w h => hts w (List.mem_cons_of_mem _ h)
  have hown : s.vm.findClass RX0 = some m.cls := findClass_of_methodNamed B.named
  have hlocks := B.notSynchronized
  have hin : meth.name = "<init>" := (name_of_methodNamed B.named B.method).1
  subst hsz
  have hD := hD0.self (sz := s.heap.size)
  generalize hAe : va_A [] s.heap.size = A at hD ⊢
  have hA : ∀ q : Nat, s.heap.size ≤ q → A q := fun q h => by rw [← hAe]; exact Or.inr h
  have hS : va_S A s.heap s.heap [] := va_S.rf
  have hP : va_P (dC, dI) vwCl [] s.heap := hP
  have hl := lv_entry ([.ref h0]) (n := 1) (Nat.le_of_ble_eq_true rfl)
  rw [lg_entry_eq]
  generalize (lg_sl ([.ref h0]) ++ List.replicate (1 - (lg_sl ([.ref h0])).length) Slot.unset).toArray = ls at hl ⊢
  have hl : lv_has ls 1 [(0, .ref h0)] := hl
  refine lv_aload_n hx hb dX0_init_0 rfl (lv_at hl 0 rfl) ?_
  refine W.objInit hx hb hown (hts _ qw_98) (hts _ qw_10) (hts _ qw_11) rfl (by rw [hml]; exact hl.1) rfl dX0_init_1 (Nat.le_of_ble_eq_true rfl) (Nat.le_of_ble_eq_true rfl) ?_
  refine W.eq (g2 := F0 m 4 ls []) rfl ?_
  exact W.vret hx hb hr (fun t ht hW => ⟨⟨(), rfl, trivial, trivial⟩, hS.F ht⟩) hS.2.2 dX0_init_4
set_option maxHeartbeats 4000000 in
set_option maxRecDepth 100000 in
/-- Tape(): three rows, no byte fed -/
theorem c_X8_init (l : Launch) (dC : Nat → ClassId) (dI : Nat → Nat → Nat) (h0 : Nat) (sz : Nat) : Met l yX8_init (Cond.code yX8_init cX8_init 1 none :: wsU) ({ frames := 1, cells := 3, slots := 400, locals := 12 }) (va_Pc [.ref h0] (kz_B (dC, dI) sz [(h0, .inr (8, [.null, .null, .int 0, .int 0, .int 0, .int 0, .int 0, .null, .int 0, .int 0, .int 0]))] [])) (va_Qv (fun (_ : Nat × Nat × Nat × ClassId) => True) (fun (u : Nat × Nat × Nat × ClassId) t => match u with | (i1, i2, bt, cB) => kz_E (dC, dI) (va_A [(h0, .inr (8, [.null, .null, .int 0, .int 0, .int 0, .int 0, .int 0, .null, .int 0, .int 0, .int 0]))] sz) [(h0, .inr (8, [.ref i1, .ref i2, .int 0, .int 0, .int 0, .int 0, .int 0, .ref bt, .int 0, .int 0, .int 0])), (bt, .inl (cB, 300, .inl (fun _ => 0)))] [(cB, .byte)] t) (va_A [(h0, .inr (8, [.null, .null, .int 0, .int 0, .int 0, .int 0, .int 0, .null, .int 0, .int 0, .int 0]))] sz)) 3 400 (va_A [(h0, .inr (8, [.null, .null, .int 0, .int 0, .int 0, .int 0, .int 0, .null, .int 0, .int 0, .int 0]))] sz) := by
  refine Met.ofW (cc := cX8_init) (maxL := 1) (ret := none) (by decide) rfl ?_
  intro p e s m args below meth c s₁ B hml hv
  obtain ⟨rfl, hsz, hP, hK, hD0⟩ := hv
  have hx := B.exec
  have hb := B.bytes
  have hr := B.returns
  have hts := atoms_spec (ws := (Cond.code yX8_init cX8_init 1 none :: wsU)) B.pre
  have hts : ∀ w ∈ wsU, w.before _ s = true := fun w h => hts w (List.mem_cons_of_mem _ h)
  have hown : s.vm.findClass RX8 = some m.cls := findClass_of_methodNamed B.named
  have hlocks := B.notSynchronized
  have hin : meth.name = "<init>" := (name_of_methodNamed B.named B.method).1
  subst hsz
  have hD := hD0.self (sz := s.heap.size)
  generalize hAe : va_A [(h0, .inr (8, [.null, .null, .int 0, .int 0, .int 0, .int 0, .int 0, .null, .int 0, .int 0, .int 0]))] s.heap.size = A at hD ⊢
  have hA : ∀ q : Nat, s.heap.size ≤ q → A q := fun q h => by rw [← hAe]; exact Or.inr h
  have hS : va_S A s.heap s.heap [] := va_S.rf
  have hP : va_P (dC, dI) vwCl [(h0, .inr (8, [.null, .null, .int 0, .int 0, .int 0, .int 0, .int 0, .null, .int 0, .int 0, .int 0]))] s.heap := hP
  have hl := lv_entry ([.ref h0]) (n := 1) (Nat.le_of_ble_eq_true rfl)
  rw [lg_entry_eq]
  generalize (lg_sl ([.ref h0]) ++ List.replicate (1 - (lg_sl ([.ref h0])).length) Slot.unset).toArray = ls at hl ⊢
  have hl : lv_has ls 1 [(0, .ref h0)] := hl
  refine lv_aload_n hx hb dX8_init_0 rfl (lv_at hl 0 rfl) ?_
  refine W.objInit hx hb hown (hts _ qw_51) (hts _ qw_10) (hts _ qw_11) rfl (by rw [hml]; exact hl.1) rfl dX8_init_1 (Nat.le_of_ble_eq_true rfl) (Nat.le_of_ble_eq_true rfl) ?_
  refine W.eq (g2 := F0 m 4 ls []) rfl ?_
  refine lv_aload_n hx hb dX8_init_4 rfl (lv_at hl 0 rfl) ?_
  refine lv_bipush (v := 20) hx hb dX8_init_5 (by decide) ?_
  refine va_newa (atype := .int) (N' := 20) (a0 := (20, .inl (fun _ => 0))) hx hb (hts _ qw_52) rfl hK hP hD hS hA (fun _ => rfl) (by decide) (by decide) (Nat.le_of_ble_eq_true rfl) (Nat.le_of_ble_eq_true rfl) (Nat.le_of_ble_eq_true rfl) dX8_init_7 (fun q1 cA2 H hK hP hD hS => ?_)
  have hP : va_P (dC, dI) vwCl [(h0, .inr (8, [.null, .null, .int 0, .int 0, .int 0, .int 0, .int 0, .null, .int 0, .int 0, .int 0])), (q1, .inl (cA2, 20, .inl (fun _ => 0)))] H := hP
  have hD : va_D A [(h0, .inr (8, [.null, .null, .int 0, .int 0, .int 0, .int 0, .int 0, .null, .int 0, .int 0, .int 0])), (q1, .inl (cA2, 20, .inl (fun _ => 0)))] := hD
  have hK : va_K (dC, dI) vwCl [(cA2, .int)] s := hK
  refine W.widen (k := 1) (n := 20) (Nat.le_of_ble_eq_true rfl) (Nat.le_of_ble_eq_true rfl) ?_
  refine va_putF (D := (dC, dI)) (ci := 8) (v := .ref q1) (ty := .array .int) (C := RX8) (T := TX8) (N := 11) hx hb hts inlX8 tyX8 tyX8_ok nmX8 hown hK hP hD hS 0 rfl rfl 0 (by decide) (hts _ qw_53) (fun _ h9 => h9) rfl hin rfl (by decide +kernel) rfl rfl (Nat.le_of_ble_eq_true rfl) dX8_init_9 (fun H locs hP hD hS => ?_)
  have hP : va_P (dC, dI) vwCl [(h0, .inr (8, [.ref q1, .null, .int 0, .int 0, .int 0, .int 0, .int 0, .null, .int 0, .int 0, .int 0])), (q1, .inl (cA2, 20, .inl (fun _ => 0)))] H := hP
  have hD : va_D A [(h0, .inr (8, [.ref q1, .null, .int 0, .int 0, .int 0, .int 0, .int 0, .null, .int 0, .int 0, .int 0])), (q1, .inl (cA2, 20, .inl (fun _ => 0)))] := hD
  have hP := hP.sub (ws' := [(h0, .inr (8, [.ref q1, .null, .int 0, .int 0, .int 0, .int 0, .int 0, .null, .int 0, .int 0, .int 0]))]) [0] rfl
  have hD := hD.sub (ws' := [(h0, .inr (8, [.ref q1, .null, .int 0, .int 0, .int 0, .int 0, .int 0, .null, .int 0, .int 0, .int 0]))]) [0] (by decide) rfl
  have hK := hK.sub (tys' := []) [] rfl
  refine lv_aload_n hx hb dX8_init_12 rfl (lv_at hl 0 rfl) ?_
  refine lv_bipush (v := 80) hx hb dX8_init_13 (by decide) ?_
  refine va_newa (atype := .int) (N' := 80) (a0 := (80, .inl (fun _ => 0))) hx hb (hts _ qw_52) rfl hK hP hD hS hA (fun _ => rfl) (by decide) (by decide) (Nat.le_of_ble_eq_true rfl) (Nat.le_of_ble_eq_true rfl) (Nat.le_of_ble_eq_true rfl) dX8_init_15 (fun q3 cA4 H hK hP hD hS => ?_)
  have hP : va_P (dC, dI) vwCl [(h0, .inr (8, [.ref q1, .null, .int 0, .int 0, .int 0, .int 0, .int 0, .null, .int 0, .int 0, .int 0])), (q3, .inl (cA4, 80, .inl (fun _ => 0)))] H := hP
  have hD : va_D A [(h0, .inr (8, [.ref q1, .null, .int 0, .int 0, .int 0, .int 0, .int 0, .null, .int 0, .int 0, .int 0])), (q3, .inl (cA4, 80, .inl (fun _ => 0)))] := hD
  have hK : va_K (dC, dI) vwCl [(cA4, .int)] s := hK
  refine W.widen (k := 2) (n := 100) (Nat.le_of_ble_eq_true rfl) (Nat.le_of_ble_eq_true rfl) ?_
  refine va_putF (D := (dC, dI)) (ci := 8) (v := .ref q3) (ty := .array .int) (C := RX8) (T := TX8) (N := 11) hx hb hts inlX8 tyX8 tyX8_ok nmX8 hown hK hP hD hS 0 rfl rfl 1 (by decide) (hts _ qw_54) (fun _ h9 => h9) rfl hin rfl (by decide +kernel) rfl rfl (Nat.le_of_ble_eq_true rfl) dX8_init_17 (fun H locs hP hD hS => ?_)
  have hP : va_P (dC, dI) vwCl [(h0, .inr (8, [.ref q1, .ref q3, .int 0, .int 0, .int 0, .int 0, .int 0, .null, .int 0, .int 0, .int 0])), (q3, .inl (cA4, 80, .inl (fun _ => 0)))] H := hP
  have hD : va_D A [(h0, .inr (8, [.ref q1, .ref q3, .int 0, .int 0, .int 0, .int 0, .int 0, .null, .int 0, .int 0, .int 0])), (q3, .inl (cA4, 80, .inl (fun _ => 0)))] := hD
  have hP := hP.sub (ws' := [(h0, .inr (8, [.ref q1, .ref q3, .int 0, .int 0, .int 0, .int 0, .int 0, .null, .int 0, .int 0, .int 0]))]) [0] rfl
  have hD := hD.sub (ws' := [(h0, .inr (8, [.ref q1, .ref q3, .int 0, .int 0, .int 0, .int 0, .int 0, .null, .int 0, .int 0, .int 0]))]) [0] (by decide) rfl
  have hK := hK.sub (tys' := []) [] rfl
  refine lv_aload_n hx hb dX8_init_20 rfl (lv_at hl 0 rfl) ?_
  refine lv_sipush (v := 300) hx hb dX8_init_21 (by decide) ?_
  refine va_newa (atype := .byte) (N' := 300) (a0 := (300, .inl (fun _ => 0))) hx hb (hts _ qw_55) rfl hK hP hD hS hA (fun _ => rfl) (by decide) (by decide) (Nat.le_of_ble_eq_true rfl) (Nat.le_of_ble_eq_true rfl) (Nat.le_of_ble_eq_true rfl) dX8_init_24 (fun q5 cA6 H hK hP hD hS => ?_)
  have hP : va_P (dC, dI) vwCl [(h0, .inr (8, [.ref q1, .ref q3, .int 0, .int 0, .int 0, .int 0, .int 0, .null, .int 0, .int 0, .int 0])), (q5, .inl (cA6, 300, .inl (fun _ => 0)))] H := hP
  have hD : va_D A [(h0, .inr (8, [.ref q1, .ref q3, .int 0, .int 0, .int 0, .int 0, .int 0, .null, .int 0, .int 0, .int 0])), (q5, .inl (cA6, 300, .inl (fun _ => 0)))] := hD
  have hK : va_K (dC, dI) vwCl [(cA6, .byte)] s := hK
  refine W.widen (k := 3) (n := 400) (Nat.le_of_ble_eq_true rfl) (Nat.le_of_ble_eq_true rfl) ?_
  refine va_putF (D := (dC, dI)) (ci := 8) (v := .ref q5) (ty := .array .byte) (C := RX8) (T := TX8) (N := 11) hx hb hts inlX8 tyX8 tyX8_ok nmX8 hown hK hP hD hS 0 rfl rfl 7 (by decide) (hts _ qw_56) (fun _ h9 => h9) rfl hin rfl (by decide +kernel) rfl rfl (Nat.le_of_ble_eq_true rfl) dX8_init_26 (fun H locs hP hD hS => ?_)
  have hP : va_P (dC, dI) vwCl [(h0, .inr (8, [.ref q1, .ref q3, .int 0, .int 0, .int 0, .int 0, .int 0, .ref q5, .int 0, .int 0, .int 0])), (q5, .inl (cA6, 300, .inl (fun _ => 0)))] H := hP
  have hD : va_D A [(h0, .inr (8, [.ref q1, .ref q3, .int 0, .int 0, .int 0, .int 0, .int 0, .ref q5, .int 0, .int 0, .int 0])), (q5, .inl (cA6, 300, .inl (fun _ => 0)))] := hD
  refine lv_aload_n hx hb dX8_init_29 rfl (lv_at hl 0 rfl) ?_
  refine lv_iconst (v := 0) hx hb dX8_init_30 (by decide) ?_
  refine va_put (D := (dC, dI)) (ci := 8) (v := .int 0) (ty := .int) (C := RX8) (T := TX8) (N := 11) hx hb hts inlX8 tyX8 tyX8_ok nmX8 hown hK hP hD hS 0 rfl rfl 2 (by decide) (hts _ qw_57) (fun _ h9 => h9) rfl (by decide +kernel) rfl rfl (Nat.le_of_ble_eq_true rfl) dX8_init_31 (fun H locs hP hD hS => ?_)
  have hP : va_P (dC, dI) vwCl [(h0, .inr (8, [.ref q1, .ref q3, .int 0, .int 0, .int 0, .int 0, .int 0, .ref q5, .int 0, .int 0, .int 0])), (q5, .inl (cA6, 300, .inl (fun _ => 0)))] H := hP
  have hD : va_D A [(h0, .inr (8, [.ref q1, .ref q3, .int 0, .int 0, .int 0, .int 0, .int 0, .ref q5, .int 0, .int 0, .int 0])), (q5, .inl (cA6, 300, .inl (fun _ => 0)))] := hD
  have hP9 := hP.sub (ws' := [(h0, .inr (8, [.ref q1, .ref q3, .int 0, .int 0, .int 0, .int 0, .int 0, .ref q5, .int 0, .int 0, .int 0])), (q5, .inl (cA6, 300, .inl (fun _ => 0)))]) [0, 1] rfl
  have hD9 := hD.sub (ws' := [(h0, .inr (8, [.ref q1, .ref q3, .int 0, .int 0, .int 0, .int 0, .int 0, .ref q5, .int 0, .int 0, .int 0])), (q5, .inl (cA6, 300, .inl (fun _ => 0)))]) [0, 1] (by decide) rfl
  have hK9 := hK.sub (tys' := [(cA6, .byte)]) [0] rfl
  exact W.vret hx hb hr (fun t ht hW => ⟨⟨(q1, q3, q5, cA6), rfl, trivial, ⟨by rw [ht]; exact hP9, va_K.moved hW.alike hK9, hD9⟩⟩, hS.F ht⟩) hS.2.2 dX8_init_34
set_option maxHeartbeats 4000000 in
set_option maxRecDepth 100000 in
/-- History(): none held -/
theorem c_X3_init (l : Launch) (dC : Nat → ClassId) (dI : Nat → Nat → Nat) (h0 : Nat) (sz : Nat) : Met l yX3_init (Cond.code yX3_init cX3_init 1 none :: wsU) ({ frames := 1, cells := 2, slots := 16, locals := 12 }) (va_Pc [.ref h0] (fun U => kz_B (dC, dI) sz [(h0, .inr (3, [.int 0, .null, .null, .int 0]))] [] U ∧ kz_Am U)) (va_Qv (fun (_ : Nat × Nat) => True) (fun (u : Nat × Nat) t => match u with | (t1, t2) => kz_E (dC, dI) (va_A [(h0, .inr (3, [.int 0, .null, .null, .int 0]))] sz) [(h0, .inr (3, [.int 0, .ref t1, .ref t2, .int 0]))] [] t) (va_A [(h0, .inr (3, [.int 0, .null, .null, .int 0]))] sz)) 2 16 (va_A [(h0, .inr (3, [.int 0, .null, .null, .int 0]))] sz) := by
  refine Met.ofW (cc := cX3_init) (maxL := 1) (ret := none) (by decide) rfl ?_
  intro p e s m args below meth c s₁ B hml hv
  obtain ⟨rfl, ⟨hsz, hP, hK, hD0⟩, hAm⟩ := hv
  have hx := B.exec
  have hb := B.bytes
  have hr := B.returns
  have hts := atoms_spec (ws := (Cond.code yX3_init cX3_init 1 none :: wsU)) B.pre
  have hts : ∀ w ∈ wsU, w.before _ s = true := fun w h => hts w (List.mem_cons_of_mem _ h)
  have hown : s.vm.findClass RX3 = some m.cls := findClass_of_methodNamed B.named
  have hlocks := B.notSynchronized
  have hin : meth.name = "<init>" := (name_of_methodNamed B.named B.method).1
  subst hsz
  have hD := hD0.self (sz := s.heap.size)
  generalize hAe : va_A [(h0, .inr (3, [.int 0, .null, .null, .int 0]))] s.heap.size = A at hD ⊢
  have hA : ∀ q : Nat, s.heap.size ≤ q → A q := fun q h => by rw [← hAe]; exact Or.inr h
  have hS : va_S A s.heap s.heap [] := va_S.rf
  have hP : va_P (dC, dI) vwCl [(h0, .inr (3, [.int 0, .null, .null, .int 0]))] s.heap := hP
  have hl := lv_entry ([.ref h0]) (n := 1) (Nat.le_of_ble_eq_true rfl)
  rw [lg_entry_eq]
  generalize (lg_sl ([.ref h0]) ++ List.replicate (1 - (lg_sl ([.ref h0])).length) Slot.unset).toArray = ls at hl ⊢
  have hl : lv_has ls 1 [(0, .ref h0)] := hl
  refine lv_aload_n hx hb dX3_init_0 rfl (lv_at hl 0 rfl) ?_
  refine W.objInit hx hb hown (hts _ qw_61) (hts _ qw_10) (hts _ qw_11) rfl (by rw [hml]; exact hl.1) rfl dX3_init_1 (Nat.le_of_ble_eq_true rfl) (Nat.le_of_ble_eq_true rfl) ?_
  refine W.eq (g2 := F0 m 4 ls []) rfl ?_
  refine lv_aload_n hx hb dX3_init_4 rfl (lv_at hl 0 rfl) ?_
  refine lv_bipush (v := 8) hx hb dX3_init_5 (by decide) ?_
  refine va_newq (C := RX10) (N' := 8) hx hb hown (hts _ qw_62) hAm.2.2.2.2.1 hK hP hD hS hA (by decide) (by decide) (Nat.le_of_ble_eq_true rfl) (Nat.le_of_ble_eq_true rfl) (Nat.le_of_ble_eq_true rfl) dX3_init_7 (fun q1 cA2 H hK hP hD hS => ?_)
  have hP : va_P (dC, dI) vwCl [(h0, .inr (3, [.int 0, .null, .null, .int 0])), (q1, .inl (cA2, 8, .inr (.inr (.inr (.inr (fun _ => none))))))] H := hP
  have hD : va_D A [(h0, .inr (3, [.int 0, .null, .null, .int 0])), (q1, .inl (cA2, 8, .inr (.inr (.inr (.inr (fun _ => none))))))] := hD
  have hK : va_K (dC, dI) vwCl [(cA2, .object RX10)] s := hK
  refine W.widen (k := 1) (n := 8) (Nat.le_of_ble_eq_true rfl) (Nat.le_of_ble_eq_true rfl) ?_
  refine va_putF (D := (dC, dI)) (ci := 3) (v := .ref q1) (ty := .array (.object "RectFile$Tree")) (C := RX3) (T := TX3) (N := 4) hx hb hts inlX3 tyX3 tyX3_ok nmX3 hown hK hP hD hS 0 rfl rfl 1 (by decide) (hts _ qw_63) (fun _ h9 => h9) rfl hin rfl (by decide +kernel) rfl rfl (Nat.le_of_ble_eq_true rfl) dX3_init_10 (fun H locs hP hD hS => ?_)
  have hP : va_P (dC, dI) vwCl [(h0, .inr (3, [.int 0, .ref q1, .null, .int 0])), (q1, .inl (cA2, 8, .inr (.inr (.inr (.inr (fun _ => none))))))] H := hP
  have hD : va_D A [(h0, .inr (3, [.int 0, .ref q1, .null, .int 0])), (q1, .inl (cA2, 8, .inr (.inr (.inr (.inr (fun _ => none))))))] := hD
  have hP := hP.sub (ws' := [(h0, .inr (3, [.int 0, .ref q1, .null, .int 0]))]) [0] rfl
  have hD := hD.sub (ws' := [(h0, .inr (3, [.int 0, .ref q1, .null, .int 0]))]) [0] (by decide) rfl
  have hK := hK.sub (tys' := []) [] rfl
  refine lv_aload_n hx hb dX3_init_13 rfl (lv_at hl 0 rfl) ?_
  refine lv_bipush (v := 8) hx hb dX3_init_14 (by decide) ?_
  refine va_newa (atype := .int) (N' := 8) (a0 := (8, .inl (fun _ => 0))) hx hb (hts _ qw_52) rfl hK hP hD hS hA (fun _ => rfl) (by decide) (by decide) (Nat.le_of_ble_eq_true rfl) (Nat.le_of_ble_eq_true rfl) (Nat.le_of_ble_eq_true rfl) dX3_init_16 (fun q3 cA4 H hK hP hD hS => ?_)
  have hP : va_P (dC, dI) vwCl [(h0, .inr (3, [.int 0, .ref q1, .null, .int 0])), (q3, .inl (cA4, 8, .inl (fun _ => 0)))] H := hP
  have hD : va_D A [(h0, .inr (3, [.int 0, .ref q1, .null, .int 0])), (q3, .inl (cA4, 8, .inl (fun _ => 0)))] := hD
  have hK : va_K (dC, dI) vwCl [(cA4, .int)] s := hK
  refine W.widen (k := 2) (n := 16) (Nat.le_of_ble_eq_true rfl) (Nat.le_of_ble_eq_true rfl) ?_
  refine va_putF (D := (dC, dI)) (ci := 3) (v := .ref q3) (ty := .array .int) (C := RX3) (T := TX3) (N := 4) hx hb hts inlX3 tyX3 tyX3_ok nmX3 hown hK hP hD hS 0 rfl rfl 2 (by decide) (hts _ qw_64) (fun _ h9 => h9) rfl hin rfl (by decide +kernel) rfl rfl (Nat.le_of_ble_eq_true rfl) dX3_init_18 (fun H locs hP hD hS => ?_)
  have hP : va_P (dC, dI) vwCl [(h0, .inr (3, [.int 0, .ref q1, .ref q3, .int 0])), (q3, .inl (cA4, 8, .inl (fun _ => 0)))] H := hP
  have hD : va_D A [(h0, .inr (3, [.int 0, .ref q1, .ref q3, .int 0])), (q3, .inl (cA4, 8, .inl (fun _ => 0)))] := hD
  have hP := hP.sub (ws' := [(h0, .inr (3, [.int 0, .ref q1, .ref q3, .int 0]))]) [0] rfl
  have hD := hD.sub (ws' := [(h0, .inr (3, [.int 0, .ref q1, .ref q3, .int 0]))]) [0] (by decide) rfl
  have hK := hK.sub (tys' := []) [] rfl
  refine lv_aload_n hx hb dX3_init_21 rfl (lv_at hl 0 rfl) ?_
  refine lv_iconst (v := 0) hx hb dX3_init_22 (by decide) ?_
  refine va_put (D := (dC, dI)) (ci := 3) (v := .int 0) (ty := .int) (C := RX3) (T := TX3) (N := 4) hx hb hts inlX3 tyX3 tyX3_ok nmX3 hown hK hP hD hS 0 rfl rfl 0 (by decide) (hts _ qw_65) (fun _ h9 => h9) rfl (by decide +kernel) rfl rfl (Nat.le_of_ble_eq_true rfl) dX3_init_23 (fun H locs hP hD hS => ?_)
  have hP : va_P (dC, dI) vwCl [(h0, .inr (3, [.int 0, .ref q1, .ref q3, .int 0]))] H := hP
  have hD : va_D A [(h0, .inr (3, [.int 0, .ref q1, .ref q3, .int 0]))] := hD
  refine lv_aload_n hx hb dX3_init_26 rfl (lv_at hl 0 rfl) ?_
  refine lv_iconst (v := 0) hx hb dX3_init_27 (by decide) ?_
  refine va_put (D := (dC, dI)) (ci := 3) (v := .int 0) (ty := .int) (C := RX3) (T := TX3) (N := 4) hx hb hts inlX3 tyX3 tyX3_ok nmX3 hown hK hP hD hS 0 rfl rfl 3 (by decide) (hts _ qw_66) (fun _ h9 => h9) rfl (by decide +kernel) rfl rfl (Nat.le_of_ble_eq_true rfl) dX3_init_28 (fun H locs hP hD hS => ?_)
  have hP : va_P (dC, dI) vwCl [(h0, .inr (3, [.int 0, .ref q1, .ref q3, .int 0]))] H := hP
  have hD : va_D A [(h0, .inr (3, [.int 0, .ref q1, .ref q3, .int 0]))] := hD
  have hP9 := hP.sub (ws' := [(h0, .inr (3, [.int 0, .ref q1, .ref q3, .int 0]))]) [0] rfl
  have hD9 := hD.sub (ws' := [(h0, .inr (3, [.int 0, .ref q1, .ref q3, .int 0]))]) [0] (by decide) rfl
  have hK9 := hK.sub (tys' := []) [] rfl
  exact W.vret hx hb hr (fun t ht hW => ⟨⟨(q1, q3), rfl, trivial, ⟨by rw [ht]; exact hP9, va_K.moved hW.alike hK9, hD9⟩⟩, hS.F ht⟩) hS.2.2 dX3_init_31
set_option maxHeartbeats 4000000 in
set_option maxRecDepth 100000 in
/-- Chooser() -/
theorem c_X1_init (l : Launch) (dC : Nat → ClassId) (dI : Nat → Nat → Nat) (h0 : Nat) (sz : Nat) : Met l yX1_init (Cond.code yX1_init cX1_init 1 none :: wsU) ({ frames := 2, cells := 4, slots := 16, locals := 32 }) (va_Pc [.ref h0] (fun U => kz_B (dC, dI) sz [(h0, .inr (1, [.null, .null, .null, .null, .int 0, .int 0, .int 0, .int 0, .int 0, .int 0]))] [] U ∧ kz_Am U)) (va_Qv (fun (_ : Unit) => True) (fun _ _ => True) (va_A [(h0, .inr (1, [.null, .null, .null, .null, .int 0, .int 0, .int 0, .int 0, .int 0, .int 0]))] sz)) 4 16 (va_A [(h0, .inr (1, [.null, .null, .null, .null, .int 0, .int 0, .int 0, .int 0, .int 0, .int 0]))] sz) := by
  refine Met.ofW (cc := cX1_init) (maxL := 1) (ret := none) (by decide) rfl ?_
  intro p e s m args below meth c s₁ B hml hv
  obtain ⟨rfl, ⟨hsz, hP, hK, hD0⟩, hAm⟩ := hv
  have hx := B.exec
  have hb := B.bytes
  have hr := B.returns
  have hts := atoms_spec (ws := (Cond.code yX1_init cX1_init 1 none :: wsU)) B.pre
  have hts : ∀ w ∈ wsU, w.before _ s = true := fun w h => hts w (List.mem_cons_of_mem _ h)
  have hown : s.vm.findClass RX1 = some m.cls := findClass_of_methodNamed B.named
  have hlocks := B.notSynchronized
  have hin : meth.name = "<init>" := (name_of_methodNamed B.named B.method).1
  subst hsz
  have hD := hD0.self (sz := s.heap.size)
  generalize hAe : va_A [(h0, .inr (1, [.null, .null, .null, .null, .int 0, .int 0, .int 0, .int 0, .int 0, .int 0]))] s.heap.size = A at hD ⊢
  have hA : ∀ q : Nat, s.heap.size ≤ q → A q := fun q h => by rw [← hAe]; exact Or.inr h
  have hS : va_S A s.heap s.heap [] := va_S.rf
  have hP : va_P (dC, dI) vwCl [(h0, .inr (1, [.null, .null, .null, .null, .int 0, .int 0, .int 0, .int 0, .int 0, .int 0]))] s.heap := hP
  have hl := lv_entry ([.ref h0]) (n := 1) (Nat.le_of_ble_eq_true rfl)
  rw [lg_entry_eq]
  generalize (lg_sl ([.ref h0]) ++ List.replicate (1 - (lg_sl ([.ref h0])).length) Slot.unset).toArray = ls at hl ⊢
  have hl : lv_has ls 1 [(0, .ref h0)] := hl
  refine lv_aload_n hx hb dX1_init_0 rfl (lv_at hl 0 rfl) ?_
  refine W.objInit hx hb hown (hts _ qw_88) (hts _ qw_10) (hts _ qw_11) rfl (by rw [hml]; exact hl.1) rfl dX1_init_1 (Nat.le_of_ble_eq_true rfl) (Nat.le_of_ble_eq_true rfl) ?_
  refine W.eq (g2 := F0 m 4 ls []) rfl ?_
  refine lv_aload_n hx hb dX1_init_4 rfl (lv_at hl 0 rfl) ?_
  refine va_new (ci := 0) (fs := [.int 0, .int 0, .int 0, .int 0]) (C := RX0) (T := TX0) (N := 4) hx hb hts inlX0 tyX0 tyX0_ok hown (hts _ qw_89) (hts _ qw_90) (hts _ qw_91) hK hP hD hS hA rfl dfX0 (Nat.le_of_ble_eq_true rfl) (Nat.le_of_ble_eq_true rfl) dX1_init_5 (fun q1 H hP hD hS => ?_)
  have hP : va_P (dC, dI) vwCl [(h0, .inr (1, [.null, .null, .null, .null, .int 0, .int 0, .int 0, .int 0, .int 0, .int 0])), (q1, .inr (0, [.int 0, .int 0, .int 0, .int 0]))] H := hP
  have hD : va_D A [(h0, .inr (1, [.null, .null, .null, .null, .int 0, .int 0, .int 0, .int 0, .int 0, .int 0])), (q1, .inr (0, [.int 0, .int 0, .int 0, .int 0]))] := hD
  refine W.widen (k := 1) (n := 4) (Nat.le_of_ble_eq_true rfl) (Nat.le_of_ble_eq_true rfl) ?_
  refine lv_dup hx hb dX1_init_8 rfl ?_
  have hPc := hP.sub (ws' := []) [] rfl
  have hDc := hD.sub (ws' := []) [] (by decide) rfl
  have hKc := hK.sub (tys' := []) [] rfl
  have hFc := va_free (wc := []) hD hS hA [] rfl
  refine va_callv (va_runIN (As := []) (rest := [.ref q1, .ref h0]) ⟨hx, hb, hml, hown, hts⟩ (c_X0_init l dC dI (q1) H.size) (⟨va_cnB 0 hts (kz_g qw_97) rfl rfl rfl hAm.1 (hts _ qw_91) (by decide +kernel) ⟨Nat.le_of_ble_eq_true rfl, Nat.le_of_ble_eq_true rfl⟩, rfl, (hts _ qw_96)⟩) (kz_preS hPc hKc hDc) rfl rfl hl.1 rfl (lv_room (Nat.le_of_ble_eq_true rfl)) dX1_init_9 ⟨Nat.le_of_ble_eq_true rfl, Nat.le_of_ble_eq_true rfl⟩) hS (fun q _ h => hFc q h) hFc (fun u_3 t H1 locs ht hvm hw hB hz1 hk1 hS => ?_)
  try dsimp only at hw
  have hP1 : va_P (dC, dI) vwCl [] H1 := kz_P0
  have hD1 : va_D (va_A [] H.size) [] := kz_D0
  have hK1 : va_K (dC, dI) vwCl [] s := hK.sub [] rfl
  obtain ⟨hP, hD⟩ := va_join (wr := [(h0, .inr (1, [.null, .null, .null, .null, .int 0, .int 0, .int 0, .int 0, .int 0, .int 0])), (q1, .inr (0, [.int 0, .int 0, .int 0, .int 0]))]) (w1 := []) hP hD [] [0, 1] rfl rfl (by decide) (by decide) hk1 hFc hP1 hD1
  have hK := (hK.sub (tys' := []) [] rfl).app hK1
  generalize H1 = H at hP hS ⊢
  have hP : va_P (dC, dI) vwCl [(h0, .inr (1, [.null, .null, .null, .null, .int 0, .int 0, .int 0, .int 0, .int 0, .int 0])), (q1, .inr (0, [.int 0, .int 0, .int 0, .int 0]))] H := hP
  have hD : va_D A [(h0, .inr (1, [.null, .null, .null, .null, .int 0, .int 0, .int 0, .int 0, .int 0, .int 0])), (q1, .inr (0, [.int 0, .int 0, .int 0, .int 0]))] := hD
  have hK : va_K (dC, dI) vwCl [] s := hK
  refine va_putF (D := (dC, dI)) (ci := 1) (v := .ref q1) (ty := .object "RectFile$Box") (C := RX1) (T := TX1) (N := 10) hx hb hts inlX1 tyX1 tyX1_ok nmX1 hown hK hP hD hS 0 rfl rfl 0 (by decide) (hts _ qw_92) (fun _ h9 => h9) rfl hin rfl (by decide +kernel) rfl rfl (Nat.le_of_ble_eq_true rfl) dX1_init_12 (fun H locs hP hD hS => ?_)
  have hP : va_P (dC, dI) vwCl [(h0, .inr (1, [.ref q1, .null, .null, .null, .int 0, .int 0, .int 0, .int 0, .int 0, .int 0])), (q1, .inr (0, [.int 0, .int 0, .int 0, .int 0]))] H := hP
  have hD : va_D A [(h0, .inr (1, [.ref q1, .null, .null, .null, .int 0, .int 0, .int 0, .int 0, .int 0, .int 0])), (q1, .inr (0, [.int 0, .int 0, .int 0, .int 0]))] := hD
  have hP := hP.sub (ws' := [(h0, .inr (1, [.ref q1, .null, .null, .null, .int 0, .int 0, .int 0, .int 0, .int 0, .int 0]))]) [0] rfl
  have hD := hD.sub (ws' := [(h0, .inr (1, [.ref q1, .null, .null, .null, .int 0, .int 0, .int 0, .int 0, .int 0, .int 0]))]) [0] (by decide) rfl
  have hK := hK.sub (tys' := []) [] rfl
  refine lv_aload_n hx hb dX1_init_15 rfl (lv_at hl 0 rfl) ?_
  refine va_new (ci := 0) (fs := [.int 0, .int 0, .int 0, .int 0]) (C := RX0) (T := TX0) (N := 4) hx hb hts inlX0 tyX0 tyX0_ok hown (hts _ qw_89) (hts _ qw_90) (hts _ qw_91) hK hP hD hS hA rfl dfX0 (Nat.le_of_ble_eq_true rfl) (Nat.le_of_ble_eq_true rfl) dX1_init_16 (fun q4 H hP hD hS => ?_)
  have hP : va_P (dC, dI) vwCl [(h0, .inr (1, [.ref q1, .null, .null, .null, .int 0, .int 0, .int 0, .int 0, .int 0, .int 0])), (q4, .inr (0, [.int 0, .int 0, .int 0, .int 0]))] H := hP
  have hD : va_D A [(h0, .inr (1, [.ref q1, .null, .null, .null, .int 0, .int 0, .int 0, .int 0, .int 0, .int 0])), (q4, .inr (0, [.int 0, .int 0, .int 0, .int 0]))] := hD
  refine W.widen (k := 2) (n := 8) (Nat.le_of_ble_eq_true rfl) (Nat.le_of_ble_eq_true rfl) ?_
  refine lv_dup hx hb dX1_init_19 rfl ?_
  have hPc := hP.sub (ws' := []) [] rfl
  have hDc := hD.sub (ws' := []) [] (by decide) rfl
  have hKc := hK.sub (tys' := []) [] rfl
  have hFc := va_free (wc := []) hD hS hA [] rfl
  refine va_callv (va_runIN (As := []) (rest := [.ref q4, .ref h0]) ⟨hx, hb, hml, hown, hts⟩ (c_X0_init l dC dI (q4) H.size) (⟨va_cnB 0 hts (kz_g qw_97) rfl rfl rfl hAm.1 (hts _ qw_91) (by decide +kernel) ⟨Nat.le_of_ble_eq_true rfl, Nat.le_of_ble_eq_true rfl⟩, rfl, (hts _ qw_96)⟩) (kz_preS hPc hKc hDc) rfl rfl hl.1 rfl (lv_room (Nat.le_of_ble_eq_true rfl)) dX1_init_20 ⟨Nat.le_of_ble_eq_true rfl, Nat.le_of_ble_eq_true rfl⟩) hS (fun q _ h => hFc q h) hFc (fun u_6 t H1 locs ht hvm hw hB hz1 hk1 hS => ?_)
  try dsimp only at hw
  have hP1 : va_P (dC, dI) vwCl [] H1 := kz_P0
  have hD1 : va_D (va_A [] H.size) [] := kz_D0
  have hK1 : va_K (dC, dI) vwCl [] s := hK.sub [] rfl
  obtain ⟨hP, hD⟩ := va_join (wr := [(h0, .inr (1, [.ref q1, .null, .null, .null, .int 0, .int 0, .int 0, .int 0, .int 0, .int 0])), (q4, .inr (0, [.int 0, .int 0, .int 0, .int 0]))]) (w1 := []) hP hD [] [0, 1] rfl rfl (by decide) (by decide) hk1 hFc hP1 hD1
  have hK := (hK.sub (tys' := []) [] rfl).app hK1
  generalize H1 = H at hP hS ⊢
  have hP : va_P (dC, dI) vwCl [(h0, .inr (1, [.ref q1, .null, .null, .null, .int 0, .int 0, .int 0, .int 0, .int 0, .int 0])), (q4, .inr (0, [.int 0, .int 0, .int 0, .int 0]))] H := hP
  have hD : va_D A [(h0, .inr (1, [.ref q1, .null, .null, .null, .int 0, .int 0, .int 0, .int 0, .int 0, .int 0])), (q4, .inr (0, [.int 0, .int 0, .int 0, .int 0]))] := hD
  have hK : va_K (dC, dI) vwCl [] s := hK
  refine va_putF (D := (dC, dI)) (ci := 1) (v := .ref q4) (ty := .object "RectFile$Box") (C := RX1) (T := TX1) (N := 10) hx hb hts inlX1 tyX1 tyX1_ok nmX1 hown hK hP hD hS 0 rfl rfl 1 (by decide) (hts _ qw_93) (fun _ h9 => h9) rfl hin rfl (by decide +kernel) rfl rfl (Nat.le_of_ble_eq_true rfl) dX1_init_23 (fun H locs hP hD hS => ?_)
  have hP : va_P (dC, dI) vwCl [(h0, .inr (1, [.ref q1, .ref q4, .null, .null, .int 0, .int 0, .int 0, .int 0, .int 0, .int 0])), (q4, .inr (0, [.int 0, .int 0, .int 0, .int 0]))] H := hP
  have hD : va_D A [(h0, .inr (1, [.ref q1, .ref q4, .null, .null, .int 0, .int 0, .int 0, .int 0, .int 0, .int 0])), (q4, .inr (0, [.int 0, .int 0, .int 0, .int 0]))] := hD
  have hP := hP.sub (ws' := [(h0, .inr (1, [.ref q1, .ref q4, .null, .null, .int 0, .int 0, .int 0, .int 0, .int 0, .int 0]))]) [0] rfl
  have hD := hD.sub (ws' := [(h0, .inr (1, [.ref q1, .ref q4, .null, .null, .int 0, .int 0, .int 0, .int 0, .int 0, .int 0]))]) [0] (by decide) rfl
  have hK := hK.sub (tys' := []) [] rfl
  refine lv_aload_n hx hb dX1_init_26 rfl (lv_at hl 0 rfl) ?_
  refine va_new (ci := 0) (fs := [.int 0, .int 0, .int 0, .int 0]) (C := RX0) (T := TX0) (N := 4) hx hb hts inlX0 tyX0 tyX0_ok hown (hts _ qw_89) (hts _ qw_90) (hts _ qw_91) hK hP hD hS hA rfl dfX0 (Nat.le_of_ble_eq_true rfl) (Nat.le_of_ble_eq_true rfl) dX1_init_27 (fun q7 H hP hD hS => ?_)
  have hP : va_P (dC, dI) vwCl [(h0, .inr (1, [.ref q1, .ref q4, .null, .null, .int 0, .int 0, .int 0, .int 0, .int 0, .int 0])), (q7, .inr (0, [.int 0, .int 0, .int 0, .int 0]))] H := hP
  have hD : va_D A [(h0, .inr (1, [.ref q1, .ref q4, .null, .null, .int 0, .int 0, .int 0, .int 0, .int 0, .int 0])), (q7, .inr (0, [.int 0, .int 0, .int 0, .int 0]))] := hD
  refine W.widen (k := 3) (n := 12) (Nat.le_of_ble_eq_true rfl) (Nat.le_of_ble_eq_true rfl) ?_
  refine lv_dup hx hb dX1_init_30 rfl ?_
  have hPc := hP.sub (ws' := []) [] rfl
  have hDc := hD.sub (ws' := []) [] (by decide) rfl
  have hKc := hK.sub (tys' := []) [] rfl
  have hFc := va_free (wc := []) hD hS hA [] rfl
  refine va_callv (va_runIN (As := []) (rest := [.ref q7, .ref h0]) ⟨hx, hb, hml, hown, hts⟩ (c_X0_init l dC dI (q7) H.size) (⟨va_cnB 0 hts (kz_g qw_97) rfl rfl rfl hAm.1 (hts _ qw_91) (by decide +kernel) ⟨Nat.le_of_ble_eq_true rfl, Nat.le_of_ble_eq_true rfl⟩, rfl, (hts _ qw_96)⟩) (kz_preS hPc hKc hDc) rfl rfl hl.1 rfl (lv_room (Nat.le_of_ble_eq_true rfl)) dX1_init_31 ⟨Nat.le_of_ble_eq_true rfl, Nat.le_of_ble_eq_true rfl⟩) hS (fun q _ h => hFc q h) hFc (fun u_9 t H1 locs ht hvm hw hB hz1 hk1 hS => ?_)
  try dsimp only at hw
  have hP1 : va_P (dC, dI) vwCl [] H1 := kz_P0
  have hD1 : va_D (va_A [] H.size) [] := kz_D0
  have hK1 : va_K (dC, dI) vwCl [] s := hK.sub [] rfl
  obtain ⟨hP, hD⟩ := va_join (wr := [(h0, .inr (1, [.ref q1, .ref q4, .null, .null, .int 0, .int 0, .int 0, .int 0, .int 0, .int 0])), (q7, .inr (0, [.int 0, .int 0, .int 0, .int 0]))]) (w1 := []) hP hD [] [0, 1] rfl rfl (by decide) (by decide) hk1 hFc hP1 hD1
  have hK := (hK.sub (tys' := []) [] rfl).app hK1
  generalize H1 = H at hP hS ⊢
  have hP : va_P (dC, dI) vwCl [(h0, .inr (1, [.ref q1, .ref q4, .null, .null, .int 0, .int 0, .int 0, .int 0, .int 0, .int 0])), (q7, .inr (0, [.int 0, .int 0, .int 0, .int 0]))] H := hP
  have hD : va_D A [(h0, .inr (1, [.ref q1, .ref q4, .null, .null, .int 0, .int 0, .int 0, .int 0, .int 0, .int 0])), (q7, .inr (0, [.int 0, .int 0, .int 0, .int 0]))] := hD
  have hK : va_K (dC, dI) vwCl [] s := hK
  refine va_putF (D := (dC, dI)) (ci := 1) (v := .ref q7) (ty := .object "RectFile$Box") (C := RX1) (T := TX1) (N := 10) hx hb hts inlX1 tyX1 tyX1_ok nmX1 hown hK hP hD hS 0 rfl rfl 2 (by decide) (hts _ qw_94) (fun _ h9 => h9) rfl hin rfl (by decide +kernel) rfl rfl (Nat.le_of_ble_eq_true rfl) dX1_init_34 (fun H locs hP hD hS => ?_)
  have hP : va_P (dC, dI) vwCl [(h0, .inr (1, [.ref q1, .ref q4, .ref q7, .null, .int 0, .int 0, .int 0, .int 0, .int 0, .int 0])), (q7, .inr (0, [.int 0, .int 0, .int 0, .int 0]))] H := hP
  have hD : va_D A [(h0, .inr (1, [.ref q1, .ref q4, .ref q7, .null, .int 0, .int 0, .int 0, .int 0, .int 0, .int 0])), (q7, .inr (0, [.int 0, .int 0, .int 0, .int 0]))] := hD
  have hP := hP.sub (ws' := [(h0, .inr (1, [.ref q1, .ref q4, .ref q7, .null, .int 0, .int 0, .int 0, .int 0, .int 0, .int 0]))]) [0] rfl
  have hD := hD.sub (ws' := [(h0, .inr (1, [.ref q1, .ref q4, .ref q7, .null, .int 0, .int 0, .int 0, .int 0, .int 0, .int 0]))]) [0] (by decide) rfl
  have hK := hK.sub (tys' := []) [] rfl
  refine lv_aload_n hx hb dX1_init_37 rfl (lv_at hl 0 rfl) ?_
  refine va_new (ci := 0) (fs := [.int 0, .int 0, .int 0, .int 0]) (C := RX0) (T := TX0) (N := 4) hx hb hts inlX0 tyX0 tyX0_ok hown (hts _ qw_89) (hts _ qw_90) (hts _ qw_91) hK hP hD hS hA rfl dfX0 (Nat.le_of_ble_eq_true rfl) (Nat.le_of_ble_eq_true rfl) dX1_init_38 (fun q10 H hP hD hS => ?_)
  have hP : va_P (dC, dI) vwCl [(h0, .inr (1, [.ref q1, .ref q4, .ref q7, .null, .int 0, .int 0, .int 0, .int 0, .int 0, .int 0])), (q10, .inr (0, [.int 0, .int 0, .int 0, .int 0]))] H := hP
  have hD : va_D A [(h0, .inr (1, [.ref q1, .ref q4, .ref q7, .null, .int 0, .int 0, .int 0, .int 0, .int 0, .int 0])), (q10, .inr (0, [.int 0, .int 0, .int 0, .int 0]))] := hD
  refine W.widen (k := 4) (n := 16) (Nat.le_of_ble_eq_true rfl) (Nat.le_of_ble_eq_true rfl) ?_
  refine lv_dup hx hb dX1_init_41 rfl ?_
  have hPc := hP.sub (ws' := []) [] rfl
  have hDc := hD.sub (ws' := []) [] (by decide) rfl
  have hKc := hK.sub (tys' := []) [] rfl
  have hFc := va_free (wc := []) hD hS hA [] rfl
  refine va_callv (va_runIN (As := []) (rest := [.ref q10, .ref h0]) ⟨hx, hb, hml, hown, hts⟩ (c_X0_init l dC dI (q10) H.size) (⟨va_cnB 0 hts (kz_g qw_97) rfl rfl rfl hAm.1 (hts _ qw_91) (by decide +kernel) ⟨Nat.le_of_ble_eq_true rfl, Nat.le_of_ble_eq_true rfl⟩, rfl, (hts _ qw_96)⟩) (kz_preS hPc hKc hDc) rfl rfl hl.1 rfl (lv_room (Nat.le_of_ble_eq_true rfl)) dX1_init_42 ⟨Nat.le_of_ble_eq_true rfl, Nat.le_of_ble_eq_true rfl⟩) hS (fun q _ h => hFc q h) hFc (fun u_12 t H1 locs ht hvm hw hB hz1 hk1 hS => ?_)
  try dsimp only at hw
  have hP1 : va_P (dC, dI) vwCl [] H1 := kz_P0
  have hD1 : va_D (va_A [] H.size) [] := kz_D0
  have hK1 : va_K (dC, dI) vwCl [] s := hK.sub [] rfl
  obtain ⟨hP, hD⟩ := va_join (wr := [(h0, .inr (1, [.ref q1, .ref q4, .ref q7, .null, .int 0, .int 0, .int 0, .int 0, .int 0, .int 0])), (q10, .inr (0, [.int 0, .int 0, .int 0, .int 0]))]) (w1 := []) hP hD [] [0, 1] rfl rfl (by decide) (by decide) hk1 hFc hP1 hD1
  have hK := (hK.sub (tys' := []) [] rfl).app hK1
  generalize H1 = H at hP hS ⊢
  have hP : va_P (dC, dI) vwCl [(h0, .inr (1, [.ref q1, .ref q4, .ref q7, .null, .int 0, .int 0, .int 0, .int 0, .int 0, .int 0])), (q10, .inr (0, [.int 0, .int 0, .int 0, .int 0]))] H := hP
  have hD : va_D A [(h0, .inr (1, [.ref q1, .ref q4, .ref q7, .null, .int 0, .int 0, .int 0, .int 0, .int 0, .int 0])), (q10, .inr (0, [.int 0, .int 0, .int 0, .int 0]))] := hD
  have hK : va_K (dC, dI) vwCl [] s := hK
  refine va_putF (D := (dC, dI)) (ci := 1) (v := .ref q10) (ty := .object "RectFile$Box") (C := RX1) (T := TX1) (N := 10) hx hb hts inlX1 tyX1 tyX1_ok nmX1 hown hK hP hD hS 0 rfl rfl 3 (by decide) (hts _ qw_95) (fun _ h9 => h9) rfl hin rfl (by decide +kernel) rfl rfl (Nat.le_of_ble_eq_true rfl) dX1_init_45 (fun H locs hP hD hS => ?_)
  have hP : va_P (dC, dI) vwCl [(h0, .inr (1, [.ref q1, .ref q4, .ref q7, .ref q10, .int 0, .int 0, .int 0, .int 0, .int 0, .int 0])), (q10, .inr (0, [.int 0, .int 0, .int 0, .int 0]))] H := hP
  have hD : va_D A [(h0, .inr (1, [.ref q1, .ref q4, .ref q7, .ref q10, .int 0, .int 0, .int 0, .int 0, .int 0, .int 0])), (q10, .inr (0, [.int 0, .int 0, .int 0, .int 0]))] := hD
  have hP := hP.sub (ws' := [(h0, .inr (1, [.ref q1, .ref q4, .ref q7, .ref q10, .int 0, .int 0, .int 0, .int 0, .int 0, .int 0]))]) [0] rfl
  have hD := hD.sub (ws' := [(h0, .inr (1, [.ref q1, .ref q4, .ref q7, .ref q10, .int 0, .int 0, .int 0, .int 0, .int 0, .int 0]))]) [0] (by decide) rfl
  have hK := hK.sub (tys' := []) [] rfl
  exact W.vret hx hb hr (fun t ht hW => ⟨⟨(), rfl, trivial, trivial⟩, hS.F ht⟩) hS.2.2 dX1_init_48
set_option maxHeartbeats 4000000 in
set_option maxRecDepth 100000 in
/-- Splitter() -/
theorem c_X7_init (l : Launch) (dC : Nat → ClassId) (dI : Nat → Nat → Nat) (h0 : Nat) (sz : Nat) : Met l yX7_init (Cond.code yX7_init cX7_init 1 none :: wsU) ({ frames := 2, cells := 7, slots := 48, locals := 32 }) (va_Pc [.ref h0] (fun U => kz_B (dC, dI) sz [(h0, .inr (7, [.null, .null, .null, .int 0, .int 0]))] [] U ∧ kz_Am U)) (va_Qv (fun (_ : Unit) => True) (fun _ _ => True) (va_A [(h0, .inr (7, [.null, .null, .null, .int 0, .int 0]))] sz)) 7 48 (va_A [(h0, .inr (7, [.null, .null, .null, .int 0, .int 0]))] sz) := by
  refine Met.ofW (cc := cX7_init) (maxL := 1) (ret := none) (by decide) rfl ?_
  intro p e s m args below meth c s₁ B hml hv
  obtain ⟨rfl, ⟨hsz, hP, hK, hD0⟩, hAm⟩ := hv
  have hx := B.exec
  have hb := B.bytes
  have hr := B.returns
  have hts := atoms_spec (ws := (Cond.code yX7_init cX7_init 1 none :: wsU)) B.pre
  have hts : ∀ w ∈ wsU, w.before _ s = true := fun w h => hts w (List.mem_cons_of_mem _ h)
  have hown : s.vm.findClass RX7 = some m.cls := findClass_of_methodNamed B.named
  have hlocks := B.notSynchronized
  have hin : meth.name = "<init>" := (name_of_methodNamed B.named B.method).1
  subst hsz
  have hD := hD0.self (sz := s.heap.size)
  generalize hAe : va_A [(h0, .inr (7, [.null, .null, .null, .int 0, .int 0]))] s.heap.size = A at hD ⊢
  have hA : ∀ q : Nat, s.heap.size ≤ q → A q := fun q h => by rw [← hAe]; exact Or.inr h
  have hS : va_S A s.heap s.heap [] := va_S.rf
  have hP : va_P (dC, dI) vwCl [(h0, .inr (7, [.null, .null, .null, .int 0, .int 0]))] s.heap := hP
  have hl := lv_entry ([.ref h0]) (n := 1) (Nat.le_of_ble_eq_true rfl)
  rw [lg_entry_eq]
  generalize (lg_sl ([.ref h0]) ++ List.replicate (1 - (lg_sl ([.ref h0])).length) Slot.unset).toArray = ls at hl ⊢
  have hl : lv_has ls 1 [(0, .ref h0)] := hl
  refine lv_aload_n hx hb dX7_init_0 rfl (lv_at hl 0 rfl) ?_
  refine W.objInit hx hb hown (hts _ qw_102) (hts _ qw_10) (hts _ qw_11) rfl (by rw [hml]; exact hl.1) rfl dX7_init_1 (Nat.le_of_ble_eq_true rfl) (Nat.le_of_ble_eq_true rfl) ?_
  refine W.eq (g2 := F0 m 4 ls []) rfl ?_
  refine lv_aload_n hx hb dX7_init_4 rfl (lv_at hl 0 rfl) ?_
  refine lv_iconst (v := 4) hx hb dX7_init_5 (by decide) ?_
  refine lv_bipush (v := 9) hx hb dX7_init_6 (by decide) ?_
  obtain ⟨cy, ky, compy, hcy, -, -⟩ := Cond.arrayClass_spec (hts _ qw_52)
  refine va_mna (X := [(h0, .inr (7, [.null, .null, .null, .int 0, .int 0]))]) (L := []) (f := fun _ => .inr (0, [])) (ty := .int) (cy := cy) (N' := 4) (K' := 9) (z := (9, .inl (fun _ => 0))) hx hb hown (hts _ qw_103) hAm.2.2.2.2.2 (hts _ qw_52) hcy hK hP hD hS hA (by decide) (by decide) (by decide) (by decide) (Nat.le_of_ble_eq_true rfl) (Nat.le_of_ble_eq_true rfl) (Nat.le_of_ble_eq_true rfl) rfl rfl (Nat.le_of_ble_eq_true rfl) (Nat.le_of_ble_eq_true rfl) (fun cz => kz_inner cz 9) dX7_init_8 (fun q1 rz cA2 H hrz1 hrz2 hK hP hD hS => ?_)
  have hP := hP.sub (ws' := [(h0, .inr (7, [.null, .null, .null, .int 0, .int 0]))]) [0] rfl
  have hD := hD.sub (ws' := [(h0, .inr (7, [.null, .null, .null, .int 0, .int 0]))]) [0] (by decide) rfl
  have hK := hK.sub (tys' := []) [] rfl
  refine W.widen (k := 5) (n := 40) (Nat.le_of_ble_eq_true rfl) (Nat.le_of_ble_eq_true rfl) ?_
  refine va_putF (D := (dC, dI)) (ci := 7) (v := .ref q1) (ty := .array (.array .int)) (C := RX7) (T := TX7) (N := 5) hx hb hts inlX7 tyX7 tyX7_ok nmX7 hown hK hP hD hS 0 rfl rfl 0 (by decide) (hts _ qw_104) (fun _ h9 => h9) rfl hin rfl (by decide +kernel) rfl rfl (Nat.le_of_ble_eq_true rfl) dX7_init_12 (fun H locs hP hD hS => ?_)
  have hP : va_P (dC, dI) vwCl [(h0, .inr (7, [.ref q1, .null, .null, .int 0, .int 0]))] H := hP
  have hD : va_D A [(h0, .inr (7, [.ref q1, .null, .null, .int 0, .int 0]))] := hD
  have hP := hP.sub (ws' := [(h0, .inr (7, [.ref q1, .null, .null, .int 0, .int 0]))]) [0] rfl
  have hD := hD.sub (ws' := [(h0, .inr (7, [.ref q1, .null, .null, .int 0, .int 0]))]) [0] (by decide) rfl
  have hK := hK.sub (tys' := []) [] rfl
  refine lv_aload_n hx hb dX7_init_15 rfl (lv_at hl 0 rfl) ?_
  refine va_new (ci := 0) (fs := [.int 0, .int 0, .int 0, .int 0]) (C := RX0) (T := TX0) (N := 4) hx hb hts inlX0 tyX0 tyX0_ok hown (hts _ qw_105) (hts _ qw_90) (hts _ qw_91) hK hP hD hS hA rfl dfX0 (Nat.le_of_ble_eq_true rfl) (Nat.le_of_ble_eq_true rfl) dX7_init_16 (fun q3 H hP hD hS => ?_)
  have hP : va_P (dC, dI) vwCl [(h0, .inr (7, [.ref q1, .null, .null, .int 0, .int 0])), (q3, .inr (0, [.int 0, .int 0, .int 0, .int 0]))] H := hP
  have hD : va_D A [(h0, .inr (7, [.ref q1, .null, .null, .int 0, .int 0])), (q3, .inr (0, [.int 0, .int 0, .int 0, .int 0]))] := hD
  refine W.widen (k := 6) (n := 44) (Nat.le_of_ble_eq_true rfl) (Nat.le_of_ble_eq_true rfl) ?_
  refine lv_dup hx hb dX7_init_19 rfl ?_
  have hPc := hP.sub (ws' := []) [] rfl
  have hDc := hD.sub (ws' := []) [] (by decide) rfl
  have hKc := hK.sub (tys' := []) [] rfl
  have hFc := va_free (wc := []) hD hS hA [] rfl
  refine va_callv (va_runIN (As := []) (rest := [.ref q3, .ref h0]) ⟨hx, hb, hml, hown, hts⟩ (c_X0_init l dC dI (q3) H.size) (⟨va_cnB 0 hts (kz_g qw_97) rfl rfl rfl hAm.2.1 (hts _ qw_91) (by decide +kernel) ⟨Nat.le_of_ble_eq_true rfl, Nat.le_of_ble_eq_true rfl⟩, rfl, (hts _ qw_96)⟩) (kz_preS hPc hKc hDc) rfl rfl hl.1 rfl (lv_room (Nat.le_of_ble_eq_true rfl)) dX7_init_20 ⟨Nat.le_of_ble_eq_true rfl, Nat.le_of_ble_eq_true rfl⟩) hS (fun q _ h => hFc q h) hFc (fun u_5 t H1 locs ht hvm hw hB hz1 hk1 hS => ?_)
  try dsimp only at hw
  have hP1 : va_P (dC, dI) vwCl [] H1 := kz_P0
  have hD1 : va_D (va_A [] H.size) [] := kz_D0
  have hK1 : va_K (dC, dI) vwCl [] s := hK.sub [] rfl
  obtain ⟨hP, hD⟩ := va_join (wr := [(h0, .inr (7, [.ref q1, .null, .null, .int 0, .int 0])), (q3, .inr (0, [.int 0, .int 0, .int 0, .int 0]))]) (w1 := []) hP hD [] [0, 1] rfl rfl (by decide) (by decide) hk1 hFc hP1 hD1
  have hK := (hK.sub (tys' := []) [] rfl).app hK1
  generalize H1 = H at hP hS ⊢
  have hP : va_P (dC, dI) vwCl [(h0, .inr (7, [.ref q1, .null, .null, .int 0, .int 0])), (q3, .inr (0, [.int 0, .int 0, .int 0, .int 0]))] H := hP
  have hD : va_D A [(h0, .inr (7, [.ref q1, .null, .null, .int 0, .int 0])), (q3, .inr (0, [.int 0, .int 0, .int 0, .int 0]))] := hD
  have hK : va_K (dC, dI) vwCl [] s := hK
  refine va_putF (D := (dC, dI)) (ci := 7) (v := .ref q3) (ty := .object "RectFile$Box") (C := RX7) (T := TX7) (N := 5) hx hb hts inlX7 tyX7 tyX7_ok nmX7 hown hK hP hD hS 0 rfl rfl 1 (by decide) (hts _ qw_106) (fun _ h9 => h9) rfl hin rfl (by decide +kernel) rfl rfl (Nat.le_of_ble_eq_true rfl) dX7_init_23 (fun H locs hP hD hS => ?_)
  have hP : va_P (dC, dI) vwCl [(h0, .inr (7, [.ref q1, .ref q3, .null, .int 0, .int 0])), (q3, .inr (0, [.int 0, .int 0, .int 0, .int 0]))] H := hP
  have hD : va_D A [(h0, .inr (7, [.ref q1, .ref q3, .null, .int 0, .int 0])), (q3, .inr (0, [.int 0, .int 0, .int 0, .int 0]))] := hD
  have hP := hP.sub (ws' := [(h0, .inr (7, [.ref q1, .ref q3, .null, .int 0, .int 0]))]) [0] rfl
  have hD := hD.sub (ws' := [(h0, .inr (7, [.ref q1, .ref q3, .null, .int 0, .int 0]))]) [0] (by decide) rfl
  have hK := hK.sub (tys' := []) [] rfl
  refine lv_aload_n hx hb dX7_init_26 rfl (lv_at hl 0 rfl) ?_
  refine va_new (ci := 0) (fs := [.int 0, .int 0, .int 0, .int 0]) (C := RX0) (T := TX0) (N := 4) hx hb hts inlX0 tyX0 tyX0_ok hown (hts _ qw_105) (hts _ qw_90) (hts _ qw_91) hK hP hD hS hA rfl dfX0 (Nat.le_of_ble_eq_true rfl) (Nat.le_of_ble_eq_true rfl) dX7_init_27 (fun q6 H hP hD hS => ?_)
  have hP : va_P (dC, dI) vwCl [(h0, .inr (7, [.ref q1, .ref q3, .null, .int 0, .int 0])), (q6, .inr (0, [.int 0, .int 0, .int 0, .int 0]))] H := hP
  have hD : va_D A [(h0, .inr (7, [.ref q1, .ref q3, .null, .int 0, .int 0])), (q6, .inr (0, [.int 0, .int 0, .int 0, .int 0]))] := hD
  refine W.widen (k := 7) (n := 48) (Nat.le_of_ble_eq_true rfl) (Nat.le_of_ble_eq_true rfl) ?_
  refine lv_dup hx hb dX7_init_30 rfl ?_
  have hPc := hP.sub (ws' := []) [] rfl
  have hDc := hD.sub (ws' := []) [] (by decide) rfl
  have hKc := hK.sub (tys' := []) [] rfl
  have hFc := va_free (wc := []) hD hS hA [] rfl
  refine va_callv (va_runIN (As := []) (rest := [.ref q6, .ref h0]) ⟨hx, hb, hml, hown, hts⟩ (c_X0_init l dC dI (q6) H.size) (⟨va_cnB 0 hts (kz_g qw_97) rfl rfl rfl hAm.2.1 (hts _ qw_91) (by decide +kernel) ⟨Nat.le_of_ble_eq_true rfl, Nat.le_of_ble_eq_true rfl⟩, rfl, (hts _ qw_96)⟩) (kz_preS hPc hKc hDc) rfl rfl hl.1 rfl (lv_room (Nat.le_of_ble_eq_true rfl)) dX7_init_31 ⟨Nat.le_of_ble_eq_true rfl, Nat.le_of_ble_eq_true rfl⟩) hS (fun q _ h => hFc q h) hFc (fun u_8 t H1 locs ht hvm hw hB hz1 hk1 hS => ?_)
  try dsimp only at hw
  have hP1 : va_P (dC, dI) vwCl [] H1 := kz_P0
  have hD1 : va_D (va_A [] H.size) [] := kz_D0
  have hK1 : va_K (dC, dI) vwCl [] s := hK.sub [] rfl
  obtain ⟨hP, hD⟩ := va_join (wr := [(h0, .inr (7, [.ref q1, .ref q3, .null, .int 0, .int 0])), (q6, .inr (0, [.int 0, .int 0, .int 0, .int 0]))]) (w1 := []) hP hD [] [0, 1] rfl rfl (by decide) (by decide) hk1 hFc hP1 hD1
  have hK := (hK.sub (tys' := []) [] rfl).app hK1
  generalize H1 = H at hP hS ⊢
  have hP : va_P (dC, dI) vwCl [(h0, .inr (7, [.ref q1, .ref q3, .null, .int 0, .int 0])), (q6, .inr (0, [.int 0, .int 0, .int 0, .int 0]))] H := hP
  have hD : va_D A [(h0, .inr (7, [.ref q1, .ref q3, .null, .int 0, .int 0])), (q6, .inr (0, [.int 0, .int 0, .int 0, .int 0]))] := hD
  have hK : va_K (dC, dI) vwCl [] s := hK
  refine va_putF (D := (dC, dI)) (ci := 7) (v := .ref q6) (ty := .object "RectFile$Box") (C := RX7) (T := TX7) (N := 5) hx hb hts inlX7 tyX7 tyX7_ok nmX7 hown hK hP hD hS 0 rfl rfl 2 (by decide) (hts _ qw_107) (fun _ h9 => h9) rfl hin rfl (by decide +kernel) rfl rfl (Nat.le_of_ble_eq_true rfl) dX7_init_34 (fun H locs hP hD hS => ?_)
  have hP : va_P (dC, dI) vwCl [(h0, .inr (7, [.ref q1, .ref q3, .ref q6, .int 0, .int 0])), (q6, .inr (0, [.int 0, .int 0, .int 0, .int 0]))] H := hP
  have hD : va_D A [(h0, .inr (7, [.ref q1, .ref q3, .ref q6, .int 0, .int 0])), (q6, .inr (0, [.int 0, .int 0, .int 0, .int 0]))] := hD
  have hP := hP.sub (ws' := [(h0, .inr (7, [.ref q1, .ref q3, .ref q6, .int 0, .int 0]))]) [0] rfl
  have hD := hD.sub (ws' := [(h0, .inr (7, [.ref q1, .ref q3, .ref q6, .int 0, .int 0]))]) [0] (by decide) rfl
  have hK := hK.sub (tys' := []) [] rfl
  exact W.vret hx hb hr (fun t ht hW => ⟨⟨(), rfl, trivial, trivial⟩, hS.F ht⟩) hS.2.2 dX7_init_37
set_option maxHeartbeats 4000000 in
set_option maxRecDepth 100000 in
/-- Grower() -/
theorem c_X2_init (l : Launch) (dC : Nat → ClassId) (dI : Nat → Nat → Nat) (h0 : Nat) (sz : Nat) : Met l yX2_init (Cond.code yX2_init cX2_init 1 none :: wsU) ({ frames := 3, cells := 17, slots := 280, locals := 52 }) (va_Pc [.ref h0] (fun U => kz_B (dC, dI) sz [(h0, .inr (2, [.null, .null, .null, .null, .null, .int 0, .null, .int 0]))] [] U ∧ kz_Am U)) (va_Qv (fun (_ : Unit) => True) (fun _ _ => True) (va_A [(h0, .inr (2, [.null, .null, .null, .null, .null, .int 0, .null, .int 0]))] sz)) 17 280 (va_A [(h0, .inr (2, [.null, .null, .null, .null, .null, .int 0, .null, .int 0]))] sz) := by
  refine Met.ofW (cc := cX2_init) (maxL := 1) (ret := none) (by decide) rfl ?_
  intro p e s m args below meth c s₁ B hml hv
  obtain ⟨rfl, ⟨hsz, hP, hK, hD0⟩, hAm⟩ := hv
  have hx := B.exec
  have hb := B.bytes
  have hr := B.returns
  have hts := atoms_spec (ws := (Cond.code yX2_init cX2_init 1 none :: wsU)) B.pre
  have hts : ∀ w ∈ wsU, w.before _ s = true := fun w h => hts w (List.mem_cons_of_mem _ h)
  have hown : s.vm.findClass RX2 = some m.cls := findClass_of_methodNamed B.named
  have hlocks := B.notSynchronized
  have hin : meth.name = "<init>" := (name_of_methodNamed B.named B.method).1
  subst hsz
  have hD := hD0.self (sz := s.heap.size)
  generalize hAe : va_A [(h0, .inr (2, [.null, .null, .null, .null, .null, .int 0, .null, .int 0]))] s.heap.size = A at hD ⊢
  have hA : ∀ q : Nat, s.heap.size ≤ q → A q := fun q h => by rw [← hAe]; exact Or.inr h
  have hS : va_S A s.heap s.heap [] := va_S.rf
  have hP : va_P (dC, dI) vwCl [(h0, .inr (2, [.null, .null, .null, .null, .null, .int 0, .null, .int 0]))] s.heap := hP
  have hl := lv_entry ([.ref h0]) (n := 1) (Nat.le_of_ble_eq_true rfl)
  rw [lg_entry_eq]
  generalize (lg_sl ([.ref h0]) ++ List.replicate (1 - (lg_sl ([.ref h0])).length) Slot.unset).toArray = ls at hl ⊢
  have hl : lv_has ls 1 [(0, .ref h0)] := hl
  refine lv_aload_n hx hb dX2_init_0 rfl (lv_at hl 0 rfl) ?_
  refine W.objInit hx hb hown (hts _ qw_70) (hts _ qw_10) (hts _ qw_11) rfl (by rw [hml]; exact hl.1) rfl dX2_init_1 (Nat.le_of_ble_eq_true rfl) (Nat.le_of_ble_eq_true rfl) ?_
  refine W.eq (g2 := F0 m 4 ls []) rfl ?_
  refine lv_aload_n hx hb dX2_init_4 rfl (lv_at hl 0 rfl) ?_
  refine va_new (ci := 1) (fs := [.null, .null, .null, .null, .int 0, .int 0, .int 0, .int 0, .int 0, .int 0]) (C := RX1) (T := TX1) (N := 10) hx hb hts inlX1 tyX1 tyX1_ok hown (hts _ qw_71) (hts _ qw_72) (hts _ qw_73) hK hP hD hS hA rfl dfX1 (Nat.le_of_ble_eq_true rfl) (Nat.le_of_ble_eq_true rfl) dX2_init_5 (fun q1 H hP hD hS => ?_)
  have hP : va_P (dC, dI) vwCl [(h0, .inr (2, [.null, .null, .null, .null, .null, .int 0, .null, .int 0])), (q1, .inr (1, [.null, .null, .null, .null, .int 0, .int 0, .int 0, .int 0, .int 0, .int 0]))] H := hP
  have hD : va_D A [(h0, .inr (2, [.null, .null, .null, .null, .null, .int 0, .null, .int 0])), (q1, .inr (1, [.null, .null, .null, .null, .int 0, .int 0, .int 0, .int 0, .int 0, .int 0]))] := hD
  refine W.widen (k := 1) (n := 10) (Nat.le_of_ble_eq_true rfl) (Nat.le_of_ble_eq_true rfl) ?_
  refine lv_dup hx hb dX2_init_8 rfl ?_
  have hPc := hP.sub (ws' := [(q1, .inr (1, [.null, .null, .null, .null, .int 0, .int 0, .int 0, .int 0, .int 0, .int 0]))]) [1] rfl
  have hDc := hD.sub (ws' := [(q1, .inr (1, [.null, .null, .null, .null, .int 0, .int 0, .int 0, .int 0, .int 0, .int 0]))]) [1] (by decide) rfl
  have hKc := hK.sub (tys' := []) [] rfl
  have hFc := va_free (wc := [(q1, .inr (1, [.null, .null, .null, .null, .int 0, .int 0, .int 0, .int 0, .int 0, .int 0]))]) hD hS hA [1] rfl
  refine va_callv (va_runI (As := []) (rest := [.ref q1, .ref h0]) ⟨hx, hb, hml, hown, hts⟩ (c_X1_init l dC dI (q1) H.size) (cwI 0 hts (kz_g qw_87) rfl rfl rfl (hts _ qw_73) (hts _ qw_85) (hts _ qw_86) rfl (by decide +kernel) ⟨Nat.le_of_ble_eq_true rfl, Nat.le_of_ble_eq_true rfl⟩) (kz_preA hPc hKc hDc hAm) rfl rfl hl.1 rfl (lv_room (Nat.le_of_ble_eq_true rfl)) dX2_init_9 ⟨Nat.le_of_ble_eq_true rfl, Nat.le_of_ble_eq_true rfl⟩) hS (fun q _ h => hFc q h) hFc (fun u_3 t H1 locs ht hvm hw hB hz1 hk1 hS => ?_)
  try dsimp only at hw
  have hP1 : va_P (dC, dI) vwCl [] H1 := kz_P0
  have hD1 : va_D (va_A [(q1, .inr (1, [.null, .null, .null, .null, .int 0, .int 0, .int 0, .int 0, .int 0, .int 0]))] H.size) [] := kz_D0
  have hK1 : va_K (dC, dI) vwCl [] s := hK.sub [] rfl
  obtain ⟨hP, hD⟩ := va_join (wr := [(h0, .inr (2, [.null, .null, .null, .null, .null, .int 0, .null, .int 0]))]) (w1 := []) hP hD [1] [0] rfl rfl (by decide) (by decide) hk1 hFc hP1 hD1
  have hK := (hK.sub (tys' := []) [] rfl).app hK1
  generalize H1 = H at hP hS ⊢
  have hP : va_P (dC, dI) vwCl [(h0, .inr (2, [.null, .null, .null, .null, .null, .int 0, .null, .int 0]))] H := hP
  have hD : va_D A [(h0, .inr (2, [.null, .null, .null, .null, .null, .int 0, .null, .int 0]))] := hD
  have hK : va_K (dC, dI) vwCl [] s := hK
  refine W.widen (k := 5) (n := 26) (Nat.le_of_ble_eq_true rfl) (Nat.le_of_ble_eq_true rfl) ?_
  refine va_putF (D := (dC, dI)) (ci := 2) (v := .ref q1) (ty := .object "RectFile$Choose\x72") (C := RX2) (T := TX2) (N := 8) hx hb hts inlX2 tyX2 tyX2_ok nmX2 hown hK hP hD hS 0 rfl rfl 0 (by decide) (hts _ qw_74) (fun _ h9 => h9) rfl hin rfl (by decide +kernel) rfl rfl (Nat.le_of_ble_eq_true rfl) dX2_init_12 (fun H locs hP hD hS => ?_)
  have hP : va_P (dC, dI) vwCl [(h0, .inr (2, [.ref q1, .null, .null, .null, .null, .int 0, .null, .int 0]))] H := hP
  have hD : va_D A [(h0, .inr (2, [.ref q1, .null, .null, .null, .null, .int 0, .null, .int 0]))] := hD
  have hP := hP.sub (ws' := [(h0, .inr (2, [.ref q1, .null, .null, .null, .null, .int 0, .null, .int 0]))]) [0] rfl
  have hD := hD.sub (ws' := [(h0, .inr (2, [.ref q1, .null, .null, .null, .null, .int 0, .null, .int 0]))]) [0] (by decide) rfl
  have hK := hK.sub (tys' := []) [] rfl
  refine lv_aload_n hx hb dX2_init_15 rfl (lv_at hl 0 rfl) ?_
  refine va_new (ci := 7) (fs := [.null, .null, .null, .int 0, .int 0]) (C := RX7) (T := TX7) (N := 5) hx hb hts inlX7 tyX7 tyX7_ok hown (hts _ qw_75) (hts _ qw_76) (hts _ qw_77) hK hP hD hS hA rfl dfX7 (Nat.le_of_ble_eq_true rfl) (Nat.le_of_ble_eq_true rfl) dX2_init_16 (fun q4 H hP hD hS => ?_)
  have hP : va_P (dC, dI) vwCl [(h0, .inr (2, [.ref q1, .null, .null, .null, .null, .int 0, .null, .int 0])), (q4, .inr (7, [.null, .null, .null, .int 0, .int 0]))] H := hP
  have hD : va_D A [(h0, .inr (2, [.ref q1, .null, .null, .null, .null, .int 0, .null, .int 0])), (q4, .inr (7, [.null, .null, .null, .int 0, .int 0]))] := hD
  refine W.widen (k := 6) (n := 31) (Nat.le_of_ble_eq_true rfl) (Nat.le_of_ble_eq_true rfl) ?_
  refine lv_dup hx hb dX2_init_19 rfl ?_
  have hPc := hP.sub (ws' := [(q4, .inr (7, [.null, .null, .null, .int 0, .int 0]))]) [1] rfl
  have hDc := hD.sub (ws' := [(q4, .inr (7, [.null, .null, .null, .int 0, .int 0]))]) [1] (by decide) rfl
  have hKc := hK.sub (tys' := []) [] rfl
  have hFc := va_free (wc := [(q4, .inr (7, [.null, .null, .null, .int 0, .int 0]))]) hD hS hA [1] rfl
  refine va_callv (va_runI (As := []) (rest := [.ref q4, .ref h0]) ⟨hx, hb, hml, hown, hts⟩ (c_X7_init l dC dI (q4) H.size) (cwI 0 hts (kz_g qw_101) rfl rfl rfl (hts _ qw_77) (hts _ qw_99) (hts _ qw_100) rfl (by decide +kernel) ⟨Nat.le_of_ble_eq_true rfl, Nat.le_of_ble_eq_true rfl⟩) (kz_preA hPc hKc hDc hAm) rfl rfl hl.1 rfl (lv_room (Nat.le_of_ble_eq_true rfl)) dX2_init_20 ⟨Nat.le_of_ble_eq_true rfl, Nat.le_of_ble_eq_true rfl⟩) hS (fun q _ h => hFc q h) hFc (fun u_6 t H1 locs ht hvm hw hB hz1 hk1 hS => ?_)
  try dsimp only at hw
  have hP1 : va_P (dC, dI) vwCl [] H1 := kz_P0
  have hD1 : va_D (va_A [(q4, .inr (7, [.null, .null, .null, .int 0, .int 0]))] H.size) [] := kz_D0
  have hK1 : va_K (dC, dI) vwCl [] s := hK.sub [] rfl
  obtain ⟨hP, hD⟩ := va_join (wr := [(h0, .inr (2, [.ref q1, .null, .null, .null, .null, .int 0, .null, .int 0]))]) (w1 := []) hP hD [1] [0] rfl rfl (by decide) (by decide) hk1 hFc hP1 hD1
  have hK := (hK.sub (tys' := []) [] rfl).app hK1
  generalize H1 = H at hP hS ⊢
  have hP : va_P (dC, dI) vwCl [(h0, .inr (2, [.ref q1, .null, .null, .null, .null, .int 0, .null, .int 0]))] H := hP
  have hD : va_D A [(h0, .inr (2, [.ref q1, .null, .null, .null, .null, .int 0, .null, .int 0]))] := hD
  have hK : va_K (dC, dI) vwCl [] s := hK
  refine W.widen (k := 13) (n := 79) (Nat.le_of_ble_eq_true rfl) (Nat.le_of_ble_eq_true rfl) ?_
  refine va_putF (D := (dC, dI)) (ci := 2) (v := .ref q4) (ty := .object "RectFile$Splitte\x72") (C := RX2) (T := TX2) (N := 8) hx hb hts inlX2 tyX2 tyX2_ok nmX2 hown hK hP hD hS 0 rfl rfl 1 (by decide) (hts _ qw_78) (fun _ h9 => h9) rfl hin rfl (by decide +kernel) rfl rfl (Nat.le_of_ble_eq_true rfl) dX2_init_23 (fun H locs hP hD hS => ?_)
  have hP : va_P (dC, dI) vwCl [(h0, .inr (2, [.ref q1, .ref q4, .null, .null, .null, .int 0, .null, .int 0]))] H := hP
  have hD : va_D A [(h0, .inr (2, [.ref q1, .ref q4, .null, .null, .null, .int 0, .null, .int 0]))] := hD
  have hP := hP.sub (ws' := [(h0, .inr (2, [.ref q1, .ref q4, .null, .null, .null, .int 0, .null, .int 0]))]) [0] rfl
  have hD := hD.sub (ws' := [(h0, .inr (2, [.ref q1, .ref q4, .null, .null, .null, .int 0, .null, .int 0]))]) [0] (by decide) rfl
  have hK := hK.sub (tys' := []) [] rfl
  refine lv_aload_n hx hb dX2_init_26 rfl (lv_at hl 0 rfl) ?_
  refine lv_bipush (v := 9) hx hb dX2_init_27 (by decide) ?_
  refine va_newa (atype := .int) (N' := 9) (a0 := (9, .inl (fun _ => 0))) hx hb (hts _ qw_52) rfl hK hP hD hS hA (fun _ => rfl) (by decide) (by decide) (Nat.le_of_ble_eq_true rfl) (Nat.le_of_ble_eq_true rfl) (Nat.le_of_ble_eq_true rfl) dX2_init_29 (fun q7 cA8 H hK hP hD hS => ?_)
  have hP : va_P (dC, dI) vwCl [(h0, .inr (2, [.ref q1, .ref q4, .null, .null, .null, .int 0, .null, .int 0])), (q7, .inl (cA8, 9, .inl (fun _ => 0)))] H := hP
  have hD : va_D A [(h0, .inr (2, [.ref q1, .ref q4, .null, .null, .null, .int 0, .null, .int 0])), (q7, .inl (cA8, 9, .inl (fun _ => 0)))] := hD
  have hK : va_K (dC, dI) vwCl [(cA8, .int)] s := hK
  refine W.widen (k := 14) (n := 88) (Nat.le_of_ble_eq_true rfl) (Nat.le_of_ble_eq_true rfl) ?_
  refine va_putF (D := (dC, dI)) (ci := 2) (v := .ref q7) (ty := .array .int) (C := RX2) (T := TX2) (N := 8) hx hb hts inlX2 tyX2 tyX2_ok nmX2 hown hK hP hD hS 0 rfl rfl 2 (by decide) (hts _ qw_79) (fun _ h9 => h9) rfl hin rfl (by decide +kernel) rfl rfl (Nat.le_of_ble_eq_true rfl) dX2_init_31 (fun H locs hP hD hS => ?_)
  have hP : va_P (dC, dI) vwCl [(h0, .inr (2, [.ref q1, .ref q4, .ref q7, .null, .null, .int 0, .null, .int 0])), (q7, .inl (cA8, 9, .inl (fun _ => 0)))] H := hP
  have hD : va_D A [(h0, .inr (2, [.ref q1, .ref q4, .ref q7, .null, .null, .int 0, .null, .int 0])), (q7, .inl (cA8, 9, .inl (fun _ => 0)))] := hD
  have hP := hP.sub (ws' := [(h0, .inr (2, [.ref q1, .ref q4, .ref q7, .null, .null, .int 0, .null, .int 0]))]) [0] rfl
  have hD := hD.sub (ws' := [(h0, .inr (2, [.ref q1, .ref q4, .ref q7, .null, .null, .int 0, .null, .int 0]))]) [0] (by decide) rfl
  have hK := hK.sub (tys' := []) [] rfl
  refine lv_aload_n hx hb dX2_init_34 rfl (lv_at hl 0 rfl) ?_
  refine lv_bipush (v := 64) hx hb dX2_init_35 (by decide) ?_
  refine va_newa (atype := .int) (N' := 64) (a0 := (64, .inl (fun _ => 0))) hx hb (hts _ qw_52) rfl hK hP hD hS hA (fun _ => rfl) (by decide) (by decide) (Nat.le_of_ble_eq_true rfl) (Nat.le_of_ble_eq_true rfl) (Nat.le_of_ble_eq_true rfl) dX2_init_37 (fun q9 cA10 H hK hP hD hS => ?_)
  have hP : va_P (dC, dI) vwCl [(h0, .inr (2, [.ref q1, .ref q4, .ref q7, .null, .null, .int 0, .null, .int 0])), (q9, .inl (cA10, 64, .inl (fun _ => 0)))] H := hP
  have hD : va_D A [(h0, .inr (2, [.ref q1, .ref q4, .ref q7, .null, .null, .int 0, .null, .int 0])), (q9, .inl (cA10, 64, .inl (fun _ => 0)))] := hD
  have hK : va_K (dC, dI) vwCl [(cA10, .int)] s := hK
  refine W.widen (k := 15) (n := 152) (Nat.le_of_ble_eq_true rfl) (Nat.le_of_ble_eq_true rfl) ?_
  refine va_put (D := (dC, dI)) (ci := 2) (v := .ref q9) (ty := .array .int) (C := RX2) (T := TX2) (N := 8) hx hb hts inlX2 tyX2 tyX2_ok nmX2 hown hK hP hD hS 0 rfl rfl 3 (by decide) (hts _ qw_80) (fun _ h9 => h9) rfl (by decide +kernel) rfl rfl (Nat.le_of_ble_eq_true rfl) dX2_init_39 (fun H locs hP hD hS => ?_)
  have hP : va_P (dC, dI) vwCl [(h0, .inr (2, [.ref q1, .ref q4, .ref q7, .ref q9, .null, .int 0, .null, .int 0])), (q9, .inl (cA10, 64, .inl (fun _ => 0)))] H := hP
  have hD : va_D A [(h0, .inr (2, [.ref q1, .ref q4, .ref q7, .ref q9, .null, .int 0, .null, .int 0])), (q9, .inl (cA10, 64, .inl (fun _ => 0)))] := hD
  have hP := hP.sub (ws' := [(h0, .inr (2, [.ref q1, .ref q4, .ref q7, .ref q9, .null, .int 0, .null, .int 0]))]) [0] rfl
  have hD := hD.sub (ws' := [(h0, .inr (2, [.ref q1, .ref q4, .ref q7, .ref q9, .null, .int 0, .null, .int 0]))]) [0] (by decide) rfl
  have hK := hK.sub (tys' := []) [] rfl
  refine lv_aload_n hx hb dX2_init_42 rfl (lv_at hl 0 rfl) ?_
  refine lv_bipush (v := 64) hx hb dX2_init_43 (by decide) ?_
  refine va_newa (atype := .int) (N' := 64) (a0 := (64, .inl (fun _ => 0))) hx hb (hts _ qw_52) rfl hK hP hD hS hA (fun _ => rfl) (by decide) (by decide) (Nat.le_of_ble_eq_true rfl) (Nat.le_of_ble_eq_true rfl) (Nat.le_of_ble_eq_true rfl) dX2_init_45 (fun q11 cA12 H hK hP hD hS => ?_)
  have hP : va_P (dC, dI) vwCl [(h0, .inr (2, [.ref q1, .ref q4, .ref q7, .ref q9, .null, .int 0, .null, .int 0])), (q11, .inl (cA12, 64, .inl (fun _ => 0)))] H := hP
  have hD : va_D A [(h0, .inr (2, [.ref q1, .ref q4, .ref q7, .ref q9, .null, .int 0, .null, .int 0])), (q11, .inl (cA12, 64, .inl (fun _ => 0)))] := hD
  have hK : va_K (dC, dI) vwCl [(cA12, .int)] s := hK
  refine W.widen (k := 16) (n := 216) (Nat.le_of_ble_eq_true rfl) (Nat.le_of_ble_eq_true rfl) ?_
  refine va_put (D := (dC, dI)) (ci := 2) (v := .ref q11) (ty := .array .int) (C := RX2) (T := TX2) (N := 8) hx hb hts inlX2 tyX2 tyX2_ok nmX2 hown hK hP hD hS 0 rfl rfl 4 (by decide) (hts _ qw_81) (fun _ h9 => h9) rfl (by decide +kernel) rfl rfl (Nat.le_of_ble_eq_true rfl) dX2_init_47 (fun H locs hP hD hS => ?_)
  have hP : va_P (dC, dI) vwCl [(h0, .inr (2, [.ref q1, .ref q4, .ref q7, .ref q9, .ref q11, .int 0, .null, .int 0])), (q11, .inl (cA12, 64, .inl (fun _ => 0)))] H := hP
  have hD : va_D A [(h0, .inr (2, [.ref q1, .ref q4, .ref q7, .ref q9, .ref q11, .int 0, .null, .int 0])), (q11, .inl (cA12, 64, .inl (fun _ => 0)))] := hD
  have hP := hP.sub (ws' := [(h0, .inr (2, [.ref q1, .ref q4, .ref q7, .ref q9, .ref q11, .int 0, .null, .int 0]))]) [0] rfl
  have hD := hD.sub (ws' := [(h0, .inr (2, [.ref q1, .ref q4, .ref q7, .ref q9, .ref q11, .int 0, .null, .int 0]))]) [0] (by decide) rfl
  have hK := hK.sub (tys' := []) [] rfl
  refine lv_aload_n hx hb dX2_init_50 rfl (lv_at hl 0 rfl) ?_
  refine lv_bipush (v := 64) hx hb dX2_init_51 (by decide) ?_
  refine va_newa (atype := .int) (N' := 64) (a0 := (64, .inl (fun _ => 0))) hx hb (hts _ qw_52) rfl hK hP hD hS hA (fun _ => rfl) (by decide) (by decide) (Nat.le_of_ble_eq_true rfl) (Nat.le_of_ble_eq_true rfl) (Nat.le_of_ble_eq_true rfl) dX2_init_53 (fun q13 cA14 H hK hP hD hS => ?_)
  have hP : va_P (dC, dI) vwCl [(h0, .inr (2, [.ref q1, .ref q4, .ref q7, .ref q9, .ref q11, .int 0, .null, .int 0])), (q13, .inl (cA14, 64, .inl (fun _ => 0)))] H := hP
  have hD : va_D A [(h0, .inr (2, [.ref q1, .ref q4, .ref q7, .ref q9, .ref q11, .int 0, .null, .int 0])), (q13, .inl (cA14, 64, .inl (fun _ => 0)))] := hD
  have hK : va_K (dC, dI) vwCl [(cA14, .int)] s := hK
  refine W.widen (k := 17) (n := 280) (Nat.le_of_ble_eq_true rfl) (Nat.le_of_ble_eq_true rfl) ?_
  refine va_put (D := (dC, dI)) (ci := 2) (v := .ref q13) (ty := .array .int) (C := RX2) (T := TX2) (N := 8) hx hb hts inlX2 tyX2 tyX2_ok nmX2 hown hK hP hD hS 0 rfl rfl 6 (by decide) (hts _ qw_82) (fun _ h9 => h9) rfl (by decide +kernel) rfl rfl (Nat.le_of_ble_eq_true rfl) dX2_init_55 (fun H locs hP hD hS => ?_)
  have hP : va_P (dC, dI) vwCl [(h0, .inr (2, [.ref q1, .ref q4, .ref q7, .ref q9, .ref q11, .int 0, .ref q13, .int 0])), (q13, .inl (cA14, 64, .inl (fun _ => 0)))] H := hP
  have hD : va_D A [(h0, .inr (2, [.ref q1, .ref q4, .ref q7, .ref q9, .ref q11, .int 0, .ref q13, .int 0])), (q13, .inl (cA14, 64, .inl (fun _ => 0)))] := hD
  have hP := hP.sub (ws' := [(h0, .inr (2, [.ref q1, .ref q4, .ref q7, .ref q9, .ref q11, .int 0, .ref q13, .int 0]))]) [0] rfl
  have hD := hD.sub (ws' := [(h0, .inr (2, [.ref q1, .ref q4, .ref q7, .ref q9, .ref q11, .int 0, .ref q13, .int 0]))]) [0] (by decide) rfl
  have hK := hK.sub (tys' := []) [] rfl
  refine lv_aload_n hx hb dX2_init_58 rfl (lv_at hl 0 rfl) ?_
  refine lv_iconst (v := 0) hx hb dX2_init_59 (by decide) ?_
  refine va_put (D := (dC, dI)) (ci := 2) (v := .int 0) (ty := .int) (C := RX2) (T := TX2) (N := 8) hx hb hts inlX2 tyX2 tyX2_ok nmX2 hown hK hP hD hS 0 rfl rfl 5 (by decide) (hts _ qw_83) (fun _ h9 => h9) rfl (by decide +kernel) rfl rfl (Nat.le_of_ble_eq_true rfl) dX2_init_60 (fun H locs hP hD hS => ?_)
  have hP : va_P (dC, dI) vwCl [(h0, .inr (2, [.ref q1, .ref q4, .ref q7, .ref q9, .ref q11, .int 0, .ref q13, .int 0]))] H := hP
  have hD : va_D A [(h0, .inr (2, [.ref q1, .ref q4, .ref q7, .ref q9, .ref q11, .int 0, .ref q13, .int 0]))] := hD
  refine lv_aload_n hx hb dX2_init_63 rfl (lv_at hl 0 rfl) ?_
  refine lv_iconst (v := 0) hx hb dX2_init_64 (by decide) ?_
  refine va_put (D := (dC, dI)) (ci := 2) (v := .int 0) (ty := .int) (C := RX2) (T := TX2) (N := 8) hx hb hts inlX2 tyX2 tyX2_ok nmX2 hown hK hP hD hS 0 rfl rfl 7 (by decide) (hts _ qw_84) (fun _ h9 => h9) rfl (by decide +kernel) rfl rfl (Nat.le_of_ble_eq_true rfl) dX2_init_65 (fun H locs hP hD hS => ?_)
  have hP : va_P (dC, dI) vwCl [(h0, .inr (2, [.ref q1, .ref q4, .ref q7, .ref q9, .ref q11, .int 0, .ref q13, .int 0]))] H := hP
  have hD : va_D A [(h0, .inr (2, [.ref q1, .ref q4, .ref q7, .ref q9, .ref q11, .int 0, .ref q13, .int 0]))] := hD
  exact W.vret hx hb hr (fun t ht hW => ⟨⟨(), rfl, trivial, trivial⟩, hS.F ht⟩) hS.2.2 dX2_init_68
set_option maxHeartbeats 4000000 in
set_option maxRecDepth 100000 in
/-- Numberer() -/
theorem c_X5_init (l : Launch) (dC : Nat → ClassId) (dI : Nat → Nat → Nat) (h0 : Nat) (sz : Nat) : Met l yX5_init (Cond.code yX5_init cX5_init 1 none :: wsU) ({ frames := 1, cells := 2, slots := 64, locals := 12 }) (va_Pc [.ref h0] (kz_B (dC, dI) sz [(h0, .inr (5, [.null, .null]))] [])) (va_Qv (fun (_ : Unit) => True) (fun _ _ => True) (va_A [(h0, .inr (5, [.null, .null]))] sz)) 2 64 (va_A [(h0, .inr (5, [.null, .null]))] sz) := by
  refine Met.ofW (cc := cX5_init) (maxL := 1) (ret := none) (by decide) rfl ?_
  intro p e s m args below meth c s₁ B hml hv
  obtain ⟨rfl, hsz, hP, hK, hD0⟩ := hv
  have hx := B.exec
  have hb := B.bytes
  have hr := B.returns
  have hts := atoms_spec (ws := (Cond.code yX5_init cX5_init 1 none :: wsU)) B.pre
  have hts : ∀ w ∈ wsU, w.before _ s = true := fun w h => hts w (List.mem_cons_of_mem _ h)
  have hown : s.vm.findClass RX5 = some m.cls := findClass_of_methodNamed B.named
  have hlocks := B.notSynchronized
  have hin : meth.name = "<init>" := (name_of_methodNamed B.named B.method).1
  subst hsz
  have hD := hD0.self (sz := s.heap.size)
  generalize hAe : va_A [(h0, .inr (5, [.null, .null]))] s.heap.size = A at hD ⊢
  have hA : ∀ q : Nat, s.heap.size ≤ q → A q := fun q h => by rw [← hAe]; exact Or.inr h
  have hS : va_S A s.heap s.heap [] := va_S.rf
  have hP : va_P (dC, dI) vwCl [(h0, .inr (5, [.null, .null]))] s.heap := hP
  have hl := lv_entry ([.ref h0]) (n := 1) (Nat.le_of_ble_eq_true rfl)
  rw [lg_entry_eq]
  generalize (lg_sl ([.ref h0]) ++ List.replicate (1 - (lg_sl ([.ref h0])).length) Slot.unset).toArray = ls at hl ⊢
  have hl : lv_has ls 1 [(0, .ref h0)] := hl
  refine lv_aload_n hx hb dX5_init_0 rfl (lv_at hl 0 rfl) ?_
  refine W.objInit hx hb hown (hts _ qw_111) (hts _ qw_10) (hts _ qw_11) rfl (by rw [hml]; exact hl.1) rfl dX5_init_1 (Nat.le_of_ble_eq_true rfl) (Nat.le_of_ble_eq_true rfl) ?_
  refine W.eq (g2 := F0 m 4 ls []) rfl ?_
  refine lv_aload_n hx hb dX5_init_4 rfl (lv_at hl 0 rfl) ?_
  refine lv_bipush (v := 32) hx hb dX5_init_5 (by decide) ?_
  refine va_newa (atype := .int) (N' := 32) (a0 := (32, .inl (fun _ => 0))) hx hb (hts _ qw_52) rfl hK hP hD hS hA (fun _ => rfl) (by decide) (by decide) (Nat.le_of_ble_eq_true rfl) (Nat.le_of_ble_eq_true rfl) (Nat.le_of_ble_eq_true rfl) dX5_init_7 (fun q1 cA2 H hK hP hD hS => ?_)
  have hP : va_P (dC, dI) vwCl [(h0, .inr (5, [.null, .null])), (q1, .inl (cA2, 32, .inl (fun _ => 0)))] H := hP
  have hD : va_D A [(h0, .inr (5, [.null, .null])), (q1, .inl (cA2, 32, .inl (fun _ => 0)))] := hD
  have hK : va_K (dC, dI) vwCl [(cA2, .int)] s := hK
  refine W.widen (k := 1) (n := 32) (Nat.le_of_ble_eq_true rfl) (Nat.le_of_ble_eq_true rfl) ?_
  refine va_put (D := (dC, dI)) (ci := 5) (v := .ref q1) (ty := .array .int) (C := RX5) (T := TX5) (N := 2) hx hb hts inlX5 tyX5 tyX5_ok nmX5 hown hK hP hD hS 0 rfl rfl 0 (by decide) (hts _ qw_112) (fun _ h9 => h9) rfl (by decide +kernel) rfl rfl (Nat.le_of_ble_eq_true rfl) dX5_init_9 (fun H locs hP hD hS => ?_)
  have hP : va_P (dC, dI) vwCl [(h0, .inr (5, [.ref q1, .null])), (q1, .inl (cA2, 32, .inl (fun _ => 0)))] H := hP
  have hD : va_D A [(h0, .inr (5, [.ref q1, .null])), (q1, .inl (cA2, 32, .inl (fun _ => 0)))] := hD
  have hP := hP.sub (ws' := [(h0, .inr (5, [.ref q1, .null]))]) [0] rfl
  have hD := hD.sub (ws' := [(h0, .inr (5, [.ref q1, .null]))]) [0] (by decide) rfl
  have hK := hK.sub (tys' := []) [] rfl
  refine lv_aload_n hx hb dX5_init_12 rfl (lv_at hl 0 rfl) ?_
  refine lv_bipush (v := 32) hx hb dX5_init_13 (by decide) ?_
  refine va_newa (atype := .int) (N' := 32) (a0 := (32, .inl (fun _ => 0))) hx hb (hts _ qw_52) rfl hK hP hD hS hA (fun _ => rfl) (by decide) (by decide) (Nat.le_of_ble_eq_true rfl) (Nat.le_of_ble_eq_true rfl) (Nat.le_of_ble_eq_true rfl) dX5_init_15 (fun q3 cA4 H hK hP hD hS => ?_)
  have hP : va_P (dC, dI) vwCl [(h0, .inr (5, [.ref q1, .null])), (q3, .inl (cA4, 32, .inl (fun _ => 0)))] H := hP
  have hD : va_D A [(h0, .inr (5, [.ref q1, .null])), (q3, .inl (cA4, 32, .inl (fun _ => 0)))] := hD
  have hK : va_K (dC, dI) vwCl [(cA4, .int)] s := hK
  refine W.widen (k := 2) (n := 64) (Nat.le_of_ble_eq_true rfl) (Nat.le_of_ble_eq_true rfl) ?_
  refine va_put (D := (dC, dI)) (ci := 5) (v := .ref q3) (ty := .array .int) (C := RX5) (T := TX5) (N := 2) hx hb hts inlX5 tyX5 tyX5_ok nmX5 hown hK hP hD hS 0 rfl rfl 1 (by decide) (hts _ qw_113) (fun _ h9 => h9) rfl (by decide +kernel) rfl rfl (Nat.le_of_ble_eq_true rfl) dX5_init_17 (fun H locs hP hD hS => ?_)
  have hP : va_P (dC, dI) vwCl [(h0, .inr (5, [.ref q1, .ref q3])), (q3, .inl (cA4, 32, .inl (fun _ => 0)))] H := hP
  have hD : va_D A [(h0, .inr (5, [.ref q1, .ref q3])), (q3, .inl (cA4, 32, .inl (fun _ => 0)))] := hD
  have hP := hP.sub (ws' := [(h0, .inr (5, [.ref q1, .ref q3]))]) [0] rfl
  have hD := hD.sub (ws' := [(h0, .inr (5, [.ref q1, .ref q3]))]) [0] (by decide) rfl
  have hK := hK.sub (tys' := []) [] rfl
  exact W.vret hx hb hr (fun t ht hW => ⟨⟨(), rfl, trivial, trivial⟩, hS.F ht⟩) hS.2.2 dX5_init_20
set_option maxHeartbeats 4000000 in
set_option maxRecDepth 100000 in
/-- Tiler() -/
theorem c_X9_init (l : Launch) (dC : Nat → ClassId) (dI : Nat → Nat → Nat) (h0 : Nat) (sz : Nat) : Met l yX9_init (Cond.code yX9_init cX9_init 1 none :: wsU) ({ frames := 1, cells := 1, slots := 100, locals := 12 }) (va_Pc [.ref h0] (kz_B (dC, dI) sz [(h0, .inr (9, [.null]))] [])) (va_Qv (fun (_ : Unit) => True) (fun _ _ => True) (va_A [(h0, .inr (9, [.null]))] sz)) 1 100 (va_A [(h0, .inr (9, [.null]))] sz) := by
  refine Met.ofW (cc := cX9_init) (maxL := 1) (ret := none) (by decide) rfl ?_
  intro p e s m args below meth c s₁ B hml hv
  obtain ⟨rfl, hsz, hP, hK, hD0⟩ := hv
  have hx := B.exec
  have hb := B.bytes
  have hr := B.returns
  have hts := atoms_spec (ws := (Cond.code yX9_init cX9_init 1 none :: wsU)) B.pre
  have hts : ∀ w ∈ wsU, w.before _ s = true := fun w h => hts w (List.mem_cons_of_mem _ h)
  have hown : s.vm.findClass RX9 = some m.cls := findClass_of_methodNamed B.named
  have hlocks := B.notSynchronized
  have hin : meth.name = "<init>" := (name_of_methodNamed B.named B.method).1
  subst hsz
  have hD := hD0.self (sz := s.heap.size)
  generalize hAe : va_A [(h0, .inr (9, [.null]))] s.heap.size = A at hD ⊢
  have hA : ∀ q : Nat, s.heap.size ≤ q → A q := fun q h => by rw [← hAe]; exact Or.inr h
  have hS : va_S A s.heap s.heap [] := va_S.rf
  have hP : va_P (dC, dI) vwCl [(h0, .inr (9, [.null]))] s.heap := hP
  have hl := lv_entry ([.ref h0]) (n := 1) (Nat.le_of_ble_eq_true rfl)
  rw [lg_entry_eq]
  generalize (lg_sl ([.ref h0]) ++ List.replicate (1 - (lg_sl ([.ref h0])).length) Slot.unset).toArray = ls at hl ⊢
  have hl : lv_has ls 1 [(0, .ref h0)] := hl
  refine lv_aload_n hx hb dX9_init_0 rfl (lv_at hl 0 rfl) ?_
  refine W.objInit hx hb hown (hts _ qw_117) (hts _ qw_10) (hts _ qw_11) rfl (by rw [hml]; exact hl.1) rfl dX9_init_1 (Nat.le_of_ble_eq_true rfl) (Nat.le_of_ble_eq_true rfl) ?_
  refine W.eq (g2 := F0 m 4 ls []) rfl ?_
  refine lv_aload_n hx hb dX9_init_4 rfl (lv_at hl 0 rfl) ?_
  refine lv_bipush (v := 100) hx hb dX9_init_5 (by decide) ?_
  refine va_newa (atype := .int) (N' := 100) (a0 := (100, .inl (fun _ => 0))) hx hb (hts _ qw_52) rfl hK hP hD hS hA (fun _ => rfl) (by decide) (by decide) (Nat.le_of_ble_eq_true rfl) (Nat.le_of_ble_eq_true rfl) (Nat.le_of_ble_eq_true rfl) dX9_init_7 (fun q1 cA2 H hK hP hD hS => ?_)
  have hP : va_P (dC, dI) vwCl [(h0, .inr (9, [.null])), (q1, .inl (cA2, 100, .inl (fun _ => 0)))] H := hP
  have hD : va_D A [(h0, .inr (9, [.null])), (q1, .inl (cA2, 100, .inl (fun _ => 0)))] := hD
  have hK : va_K (dC, dI) vwCl [(cA2, .int)] s := hK
  refine W.widen (k := 1) (n := 100) (Nat.le_of_ble_eq_true rfl) (Nat.le_of_ble_eq_true rfl) ?_
  refine va_putF (D := (dC, dI)) (ci := 9) (v := .ref q1) (ty := .array .int) (C := RX9) (T := TX9) (N := 1) hx hb hts inlX9 tyX9 tyX9_ok nmX9 hown hK hP hD hS 0 rfl rfl 0 (by decide) (hts _ qw_118) (fun _ h9 => h9) rfl hin rfl (by decide +kernel) rfl rfl (Nat.le_of_ble_eq_true rfl) dX9_init_9 (fun H locs hP hD hS => ?_)
  have hP : va_P (dC, dI) vwCl [(h0, .inr (9, [.ref q1])), (q1, .inl (cA2, 100, .inl (fun _ => 0)))] H := hP
  have hD : va_D A [(h0, .inr (9, [.ref q1])), (q1, .inl (cA2, 100, .inl (fun _ => 0)))] := hD
  have hP := hP.sub (ws' := [(h0, .inr (9, [.ref q1]))]) [0] rfl
  have hD := hD.sub (ws' := [(h0, .inr (9, [.ref q1]))]) [0] (by decide) rfl
  have hK := hK.sub (tys' := []) [] rfl
  exact W.vret hx hb hr (fun t ht hW => ⟨⟨(), rfl, trivial, trivial⟩, hS.F ht⟩) hS.2.2 dX9_init_12
set_option maxHeartbeats 4000000 in
set_option maxRecDepth 100000 in
/-- Seeker() -/
theorem c_X6_init (l : Launch) (dC : Nat → ClassId) (dI : Nat → Nat → Nat) (h0 : Nat) (sz : Nat) : Met l yX6_init (Cond.code yX6_init cX6_init 1 none :: wsU) ({ frames := 2, cells := 5, slots := 304, locals := 32 }) (va_Pc [.ref h0] (fun U => kz_B (dC, dI) sz [(h0, .inr (6, [.int 0, .int 0, .int 0, .null, .null, .null, .null, .null, .int 0, .int 0]))] [] U ∧ kz_Am U)) (va_Qv (fun (_ : Unit) => True) (fun _ _ => True) (va_A [(h0, .inr (6, [.int 0, .int 0, .int 0, .null, .null, .null, .null, .null, .int 0, .int 0]))] sz)) 5 304 (va_A [(h0, .inr (6, [.int 0, .int 0, .int 0, .null, .null, .null, .null, .null, .int 0, .int 0]))] sz) := by
  refine Met.ofW (cc := cX6_init) (maxL := 1) (ret := none) (by decide) rfl ?_
  intro p e s m args below meth c s₁ B hml hv
  obtain ⟨rfl, ⟨hsz, hP, hK, hD0⟩, hAm⟩ := hv
  have hx := B.exec
  have hb := B.bytes
  have hr := B.returns
  have hts := atoms_spec (ws := (Cond.code yX6_init cX6_init 1 none :: wsU)) B.pre
  have hts : ∀ w ∈ wsU, w.before _ s = true := fun w h => hts w (List.mem_cons_of_mem _ h)
  have hown : s.vm.findClass RX6 = some m.cls := findClass_of_methodNamed B.named
  have hlocks := B.notSynchronized
  have hin : meth.name = "<init>" := (name_of_methodNamed B.named B.method).1
  subst hsz
  have hD := hD0.self (sz := s.heap.size)
  generalize hAe : va_A [(h0, .inr (6, [.int 0, .int 0, .int 0, .null, .null, .null, .null, .null, .int 0, .int 0]))] s.heap.size = A at hD ⊢
  have hA : ∀ q : Nat, s.heap.size ≤ q → A q := fun q h => by rw [← hAe]; exact Or.inr h
  have hS : va_S A s.heap s.heap [] := va_S.rf
  have hP : va_P (dC, dI) vwCl [(h0, .inr (6, [.int 0, .int 0, .int 0, .null, .null, .null, .null, .null, .int 0, .int 0]))] s.heap := hP
  have hl := lv_entry ([.ref h0]) (n := 1) (Nat.le_of_ble_eq_true rfl)
  rw [lg_entry_eq]
  generalize (lg_sl ([.ref h0]) ++ List.replicate (1 - (lg_sl ([.ref h0])).length) Slot.unset).toArray = ls at hl ⊢
  have hl : lv_has ls 1 [(0, .ref h0)] := hl
  refine lv_aload_n hx hb dX6_init_0 rfl (lv_at hl 0 rfl) ?_
  refine W.objInit hx hb hown (hts _ qw_122) (hts _ qw_10) (hts _ qw_11) rfl (by rw [hml]; exact hl.1) rfl dX6_init_1 (Nat.le_of_ble_eq_true rfl) (Nat.le_of_ble_eq_true rfl) ?_
  refine W.eq (g2 := F0 m 4 ls []) rfl ?_
  refine lv_aload_n hx hb dX6_init_4 rfl (lv_at hl 0 rfl) ?_
  refine va_new (ci := 0) (fs := [.int 0, .int 0, .int 0, .int 0]) (C := RX0) (T := TX0) (N := 4) hx hb hts inlX0 tyX0 tyX0_ok hown (hts _ qw_123) (hts _ qw_90) (hts _ qw_91) hK hP hD hS hA rfl dfX0 (Nat.le_of_ble_eq_true rfl) (Nat.le_of_ble_eq_true rfl) dX6_init_5 (fun q1 H hP hD hS => ?_)
  have hP : va_P (dC, dI) vwCl [(h0, .inr (6, [.int 0, .int 0, .int 0, .null, .null, .null, .null, .null, .int 0, .int 0])), (q1, .inr (0, [.int 0, .int 0, .int 0, .int 0]))] H := hP
  have hD : va_D A [(h0, .inr (6, [.int 0, .int 0, .int 0, .null, .null, .null, .null, .null, .int 0, .int 0])), (q1, .inr (0, [.int 0, .int 0, .int 0, .int 0]))] := hD
  refine W.widen (k := 1) (n := 4) (Nat.le_of_ble_eq_true rfl) (Nat.le_of_ble_eq_true rfl) ?_
  refine lv_dup hx hb dX6_init_8 rfl ?_
  have hPc := hP.sub (ws' := []) [] rfl
  have hDc := hD.sub (ws' := []) [] (by decide) rfl
  have hKc := hK.sub (tys' := []) [] rfl
  have hFc := va_free (wc := []) hD hS hA [] rfl
  refine va_callv (va_runIN (As := []) (rest := [.ref q1, .ref h0]) ⟨hx, hb, hml, hown, hts⟩ (c_X0_init l dC dI (q1) H.size) (⟨va_cnB 0 hts (kz_g qw_97) rfl rfl rfl hAm.2.2.1 (hts _ qw_91) (by decide +kernel) ⟨Nat.le_of_ble_eq_true rfl, Nat.le_of_ble_eq_true rfl⟩, rfl, (hts _ qw_96)⟩) (kz_preS hPc hKc hDc) rfl rfl hl.1 rfl (lv_room (Nat.le_of_ble_eq_true rfl)) dX6_init_9 ⟨Nat.le_of_ble_eq_true rfl, Nat.le_of_ble_eq_true rfl⟩) hS (fun q _ h => hFc q h) hFc (fun u_3 t H1 locs ht hvm hw hB hz1 hk1 hS => ?_)
  try dsimp only at hw
  have hP1 : va_P (dC, dI) vwCl [] H1 := kz_P0
  have hD1 : va_D (va_A [] H.size) [] := kz_D0
  have hK1 : va_K (dC, dI) vwCl [] s := hK.sub [] rfl
  obtain ⟨hP, hD⟩ := va_join (wr := [(h0, .inr (6, [.int 0, .int 0, .int 0, .null, .null, .null, .null, .null, .int 0, .int 0])), (q1, .inr (0, [.int 0, .int 0, .int 0, .int 0]))]) (w1 := []) hP hD [] [0, 1] rfl rfl (by decide) (by decide) hk1 hFc hP1 hD1
  have hK := (hK.sub (tys' := []) [] rfl).app hK1
  generalize H1 = H at hP hS ⊢
  have hP : va_P (dC, dI) vwCl [(h0, .inr (6, [.int 0, .int 0, .int 0, .null, .null, .null, .null, .null, .int 0, .int 0])), (q1, .inr (0, [.int 0, .int 0, .int 0, .int 0]))] H := hP
  have hD : va_D A [(h0, .inr (6, [.int 0, .int 0, .int 0, .null, .null, .null, .null, .null, .int 0, .int 0])), (q1, .inr (0, [.int 0, .int 0, .int 0, .int 0]))] := hD
  have hK : va_K (dC, dI) vwCl [] s := hK
  refine va_putF (D := (dC, dI)) (ci := 6) (v := .ref q1) (ty := .object "RectFile$Box") (C := RX6) (T := TX6) (N := 10) hx hb hts inlX6 tyX6 tyX6_ok nmX6 hown hK hP hD hS 0 rfl rfl 3 (by decide) (hts _ qw_124) (fun _ h9 => h9) rfl hin rfl (by decide +kernel) rfl rfl (Nat.le_of_ble_eq_true rfl) dX6_init_12 (fun H locs hP hD hS => ?_)
  have hP : va_P (dC, dI) vwCl [(h0, .inr (6, [.int 0, .int 0, .int 0, .ref q1, .null, .null, .null, .null, .int 0, .int 0])), (q1, .inr (0, [.int 0, .int 0, .int 0, .int 0]))] H := hP
  have hD : va_D A [(h0, .inr (6, [.int 0, .int 0, .int 0, .ref q1, .null, .null, .null, .null, .int 0, .int 0])), (q1, .inr (0, [.int 0, .int 0, .int 0, .int 0]))] := hD
  have hP := hP.sub (ws' := [(h0, .inr (6, [.int 0, .int 0, .int 0, .ref q1, .null, .null, .null, .null, .int 0, .int 0]))]) [0] rfl
  have hD := hD.sub (ws' := [(h0, .inr (6, [.int 0, .int 0, .int 0, .ref q1, .null, .null, .null, .null, .int 0, .int 0]))]) [0] (by decide) rfl
  have hK := hK.sub (tys' := []) [] rfl
  refine lv_aload_n hx hb dX6_init_15 rfl (lv_at hl 0 rfl) ?_
  refine va_new (ci := 0) (fs := [.int 0, .int 0, .int 0, .int 0]) (C := RX0) (T := TX0) (N := 4) hx hb hts inlX0 tyX0 tyX0_ok hown (hts _ qw_123) (hts _ qw_90) (hts _ qw_91) hK hP hD hS hA rfl dfX0 (Nat.le_of_ble_eq_true rfl) (Nat.le_of_ble_eq_true rfl) dX6_init_16 (fun q4 H hP hD hS => ?_)
  have hP : va_P (dC, dI) vwCl [(h0, .inr (6, [.int 0, .int 0, .int 0, .ref q1, .null, .null, .null, .null, .int 0, .int 0])), (q4, .inr (0, [.int 0, .int 0, .int 0, .int 0]))] H := hP
  have hD : va_D A [(h0, .inr (6, [.int 0, .int 0, .int 0, .ref q1, .null, .null, .null, .null, .int 0, .int 0])), (q4, .inr (0, [.int 0, .int 0, .int 0, .int 0]))] := hD
  refine W.widen (k := 2) (n := 8) (Nat.le_of_ble_eq_true rfl) (Nat.le_of_ble_eq_true rfl) ?_
  refine lv_dup hx hb dX6_init_19 rfl ?_
  have hPc := hP.sub (ws' := []) [] rfl
  have hDc := hD.sub (ws' := []) [] (by decide) rfl
  have hKc := hK.sub (tys' := []) [] rfl
  have hFc := va_free (wc := []) hD hS hA [] rfl
  refine va_callv (va_runIN (As := []) (rest := [.ref q4, .ref h0]) ⟨hx, hb, hml, hown, hts⟩ (c_X0_init l dC dI (q4) H.size) (⟨va_cnB 0 hts (kz_g qw_97) rfl rfl rfl hAm.2.2.1 (hts _ qw_91) (by decide +kernel) ⟨Nat.le_of_ble_eq_true rfl, Nat.le_of_ble_eq_true rfl⟩, rfl, (hts _ qw_96)⟩) (kz_preS hPc hKc hDc) rfl rfl hl.1 rfl (lv_room (Nat.le_of_ble_eq_true rfl)) dX6_init_20 ⟨Nat.le_of_ble_eq_true rfl, Nat.le_of_ble_eq_true rfl⟩) hS (fun q _ h => hFc q h) hFc (fun u_6 t H1 locs ht hvm hw hB hz1 hk1 hS => ?_)
  try dsimp only at hw
  have hP1 : va_P (dC, dI) vwCl [] H1 := kz_P0
  have hD1 : va_D (va_A [] H.size) [] := kz_D0
  have hK1 : va_K (dC, dI) vwCl [] s := hK.sub [] rfl
  obtain ⟨hP, hD⟩ := va_join (wr := [(h0, .inr (6, [.int 0, .int 0, .int 0, .ref q1, .null, .null, .null, .null, .int 0, .int 0])), (q4, .inr (0, [.int 0, .int 0, .int 0, .int 0]))]) (w1 := []) hP hD [] [0, 1] rfl rfl (by decide) (by decide) hk1 hFc hP1 hD1
  have hK := (hK.sub (tys' := []) [] rfl).app hK1
  generalize H1 = H at hP hS ⊢
  have hP : va_P (dC, dI) vwCl [(h0, .inr (6, [.int 0, .int 0, .int 0, .ref q1, .null, .null, .null, .null, .int 0, .int 0])), (q4, .inr (0, [.int 0, .int 0, .int 0, .int 0]))] H := hP
  have hD : va_D A [(h0, .inr (6, [.int 0, .int 0, .int 0, .ref q1, .null, .null, .null, .null, .int 0, .int 0])), (q4, .inr (0, [.int 0, .int 0, .int 0, .int 0]))] := hD
  have hK : va_K (dC, dI) vwCl [] s := hK
  refine va_putF (D := (dC, dI)) (ci := 6) (v := .ref q4) (ty := .object "RectFile$Box") (C := RX6) (T := TX6) (N := 10) hx hb hts inlX6 tyX6 tyX6_ok nmX6 hown hK hP hD hS 0 rfl rfl 4 (by decide) (hts _ qw_125) (fun _ h9 => h9) rfl hin rfl (by decide +kernel) rfl rfl (Nat.le_of_ble_eq_true rfl) dX6_init_23 (fun H locs hP hD hS => ?_)
  have hP : va_P (dC, dI) vwCl [(h0, .inr (6, [.int 0, .int 0, .int 0, .ref q1, .ref q4, .null, .null, .null, .int 0, .int 0])), (q4, .inr (0, [.int 0, .int 0, .int 0, .int 0]))] H := hP
  have hD : va_D A [(h0, .inr (6, [.int 0, .int 0, .int 0, .ref q1, .ref q4, .null, .null, .null, .int 0, .int 0])), (q4, .inr (0, [.int 0, .int 0, .int 0, .int 0]))] := hD
  have hP := hP.sub (ws' := [(h0, .inr (6, [.int 0, .int 0, .int 0, .ref q1, .ref q4, .null, .null, .null, .int 0, .int 0]))]) [0] rfl
  have hD := hD.sub (ws' := [(h0, .inr (6, [.int 0, .int 0, .int 0, .ref q1, .ref q4, .null, .null, .null, .int 0, .int 0]))]) [0] (by decide) rfl
  have hK := hK.sub (tys' := []) [] rfl
  refine lv_aload_n hx hb dX6_init_26 rfl (lv_at hl 0 rfl) ?_
  refine lv_bipush (v := 32) hx hb dX6_init_27 (by decide) ?_
  refine va_newa (atype := .boolean) (N' := 32) (a0 := (32, .inl (fun _ => 0))) hx hb (hts _ qw_126) rfl hK hP hD hS hA (fun _ => rfl) (by decide) (by decide) (Nat.le_of_ble_eq_true rfl) (Nat.le_of_ble_eq_true rfl) (Nat.le_of_ble_eq_true rfl) dX6_init_29 (fun q7 cA8 H hK hP hD hS => ?_)
  have hP : va_P (dC, dI) vwCl [(h0, .inr (6, [.int 0, .int 0, .int 0, .ref q1, .ref q4, .null, .null, .null, .int 0, .int 0])), (q7, .inl (cA8, 32, .inl (fun _ => 0)))] H := hP
  have hD : va_D A [(h0, .inr (6, [.int 0, .int 0, .int 0, .ref q1, .ref q4, .null, .null, .null, .int 0, .int 0])), (q7, .inl (cA8, 32, .inl (fun _ => 0)))] := hD
  have hK : va_K (dC, dI) vwCl [(cA8, .boolean)] s := hK
  refine W.widen (k := 3) (n := 40) (Nat.le_of_ble_eq_true rfl) (Nat.le_of_ble_eq_true rfl) ?_
  refine va_put (D := (dC, dI)) (ci := 6) (v := .ref q7) (ty := .array .boolean) (C := RX6) (T := TX6) (N := 10) hx hb hts inlX6 tyX6 tyX6_ok nmX6 hown hK hP hD hS 0 rfl rfl 5 (by decide) (hts _ qw_127) (fun _ h9 => h9) rfl (by decide +kernel) rfl rfl (Nat.le_of_ble_eq_true rfl) dX6_init_31 (fun H locs hP hD hS => ?_)
  have hP : va_P (dC, dI) vwCl [(h0, .inr (6, [.int 0, .int 0, .int 0, .ref q1, .ref q4, .ref q7, .null, .null, .int 0, .int 0])), (q7, .inl (cA8, 32, .inl (fun _ => 0)))] H := hP
  have hD : va_D A [(h0, .inr (6, [.int 0, .int 0, .int 0, .ref q1, .ref q4, .ref q7, .null, .null, .int 0, .int 0])), (q7, .inl (cA8, 32, .inl (fun _ => 0)))] := hD
  have hP := hP.sub (ws' := [(h0, .inr (6, [.int 0, .int 0, .int 0, .ref q1, .ref q4, .ref q7, .null, .null, .int 0, .int 0]))]) [0] rfl
  have hD := hD.sub (ws' := [(h0, .inr (6, [.int 0, .int 0, .int 0, .ref q1, .ref q4, .ref q7, .null, .null, .int 0, .int 0]))]) [0] (by decide) rfl
  have hK := hK.sub (tys' := []) [] rfl
  refine lv_aload_n hx hb dX6_init_34 rfl (lv_at hl 0 rfl) ?_
  refine lv_sipush (v := 132) hx hb dX6_init_35 (by decide) ?_
  refine va_newa (atype := .int) (N' := 132) (a0 := (132, .inl (fun _ => 0))) hx hb (hts _ qw_52) rfl hK hP hD hS hA (fun _ => rfl) (by decide) (by decide) (Nat.le_of_ble_eq_true rfl) (Nat.le_of_ble_eq_true rfl) (Nat.le_of_ble_eq_true rfl) dX6_init_38 (fun q9 cA10 H hK hP hD hS => ?_)
  have hP : va_P (dC, dI) vwCl [(h0, .inr (6, [.int 0, .int 0, .int 0, .ref q1, .ref q4, .ref q7, .null, .null, .int 0, .int 0])), (q9, .inl (cA10, 132, .inl (fun _ => 0)))] H := hP
  have hD : va_D A [(h0, .inr (6, [.int 0, .int 0, .int 0, .ref q1, .ref q4, .ref q7, .null, .null, .int 0, .int 0])), (q9, .inl (cA10, 132, .inl (fun _ => 0)))] := hD
  have hK : va_K (dC, dI) vwCl [(cA10, .int)] s := hK
  refine W.widen (k := 4) (n := 172) (Nat.le_of_ble_eq_true rfl) (Nat.le_of_ble_eq_true rfl) ?_
  refine va_put (D := (dC, dI)) (ci := 6) (v := .ref q9) (ty := .array .int) (C := RX6) (T := TX6) (N := 10) hx hb hts inlX6 tyX6 tyX6_ok nmX6 hown hK hP hD hS 0 rfl rfl 6 (by decide) (hts _ qw_128) (fun _ h9 => h9) rfl (by decide +kernel) rfl rfl (Nat.le_of_ble_eq_true rfl) dX6_init_40 (fun H locs hP hD hS => ?_)
  have hP : va_P (dC, dI) vwCl [(h0, .inr (6, [.int 0, .int 0, .int 0, .ref q1, .ref q4, .ref q7, .ref q9, .null, .int 0, .int 0])), (q9, .inl (cA10, 132, .inl (fun _ => 0)))] H := hP
  have hD : va_D A [(h0, .inr (6, [.int 0, .int 0, .int 0, .ref q1, .ref q4, .ref q7, .ref q9, .null, .int 0, .int 0])), (q9, .inl (cA10, 132, .inl (fun _ => 0)))] := hD
  have hP := hP.sub (ws' := [(h0, .inr (6, [.int 0, .int 0, .int 0, .ref q1, .ref q4, .ref q7, .ref q9, .null, .int 0, .int 0]))]) [0] rfl
  have hD := hD.sub (ws' := [(h0, .inr (6, [.int 0, .int 0, .int 0, .ref q1, .ref q4, .ref q7, .ref q9, .null, .int 0, .int 0]))]) [0] (by decide) rfl
  have hK := hK.sub (tys' := []) [] rfl
  refine lv_aload_n hx hb dX6_init_43 rfl (lv_at hl 0 rfl) ?_
  refine lv_sipush (v := 132) hx hb dX6_init_44 (by decide) ?_
  refine va_newa (atype := .long) (N' := 132) (a0 := (132, .inr (.inl (fun _ => 0)))) hx hb (hts _ qw_129) rfl hK hP hD hS hA (fun _ => rfl) (by decide) (by decide) (Nat.le_of_ble_eq_true rfl) (Nat.le_of_ble_eq_true rfl) (Nat.le_of_ble_eq_true rfl) dX6_init_47 (fun q11 cA12 H hK hP hD hS => ?_)
  have hP : va_P (dC, dI) vwCl [(h0, .inr (6, [.int 0, .int 0, .int 0, .ref q1, .ref q4, .ref q7, .ref q9, .null, .int 0, .int 0])), (q11, .inl (cA12, 132, .inr (.inl (fun _ => 0))))] H := hP
  have hD : va_D A [(h0, .inr (6, [.int 0, .int 0, .int 0, .ref q1, .ref q4, .ref q7, .ref q9, .null, .int 0, .int 0])), (q11, .inl (cA12, 132, .inr (.inl (fun _ => 0))))] := hD
  have hK : va_K (dC, dI) vwCl [(cA12, .long)] s := hK
  refine W.widen (k := 5) (n := 304) (Nat.le_of_ble_eq_true rfl) (Nat.le_of_ble_eq_true rfl) ?_
  refine va_put (D := (dC, dI)) (ci := 6) (v := .ref q11) (ty := .array .long) (C := RX6) (T := TX6) (N := 10) hx hb hts inlX6 tyX6 tyX6_ok nmX6 hown hK hP hD hS 0 rfl rfl 7 (by decide) (hts _ qw_130) (fun _ h9 => h9) rfl (by decide +kernel) rfl rfl (Nat.le_of_ble_eq_true rfl) dX6_init_49 (fun H locs hP hD hS => ?_)
  have hP : va_P (dC, dI) vwCl [(h0, .inr (6, [.int 0, .int 0, .int 0, .ref q1, .ref q4, .ref q7, .ref q9, .ref q11, .int 0, .int 0])), (q11, .inl (cA12, 132, .inr (.inl (fun _ => 0))))] H := hP
  have hD : va_D A [(h0, .inr (6, [.int 0, .int 0, .int 0, .ref q1, .ref q4, .ref q7, .ref q9, .ref q11, .int 0, .int 0])), (q11, .inl (cA12, 132, .inr (.inl (fun _ => 0))))] := hD
  have hP := hP.sub (ws' := [(h0, .inr (6, [.int 0, .int 0, .int 0, .ref q1, .ref q4, .ref q7, .ref q9, .ref q11, .int 0, .int 0]))]) [0] rfl
  have hD := hD.sub (ws' := [(h0, .inr (6, [.int 0, .int 0, .int 0, .ref q1, .ref q4, .ref q7, .ref q9, .ref q11, .int 0, .int 0]))]) [0] (by decide) rfl
  have hK := hK.sub (tys' := []) [] rfl
  exact W.vret hx hb hr (fun t ht hW => ⟨⟨(), rfl, trivial, trivial⟩, hS.F ht⟩) hS.2.2 dX6_init_52
set_option maxHeartbeats 4000000 in
set_option maxRecDepth 100000 in
/-- Measurer() -/
theorem c_X4_init (l : Launch) (dC : Nat → ClassId) (dI : Nat → Nat → Nat) (h0 : Nat) (sz : Nat) : Met l yX4_init (Cond.code yX4_init cX4_init 1 none :: wsU) ({ frames := 2, cells := 4, slots := 308, locals := 32 }) (va_Pc [.ref h0] (fun U => kz_B (dC, dI) sz [(h0, .inr (4, [.null, .null, .null, .null]))] [] U ∧ kz_Am U)) (va_Qv (fun (_ : Unit) => True) (fun _ _ => True) (va_A [(h0, .inr (4, [.null, .null, .null, .null]))] sz)) 4 308 (va_A [(h0, .inr (4, [.null, .null, .null, .null]))] sz) := by
  refine Met.ofW (cc := cX4_init) (maxL := 1) (ret := none) (by decide) rfl ?_
  intro p e s m args below meth c s₁ B hml hv
  obtain ⟨rfl, ⟨hsz, hP, hK, hD0⟩, hAm⟩ := hv
  have hx := B.exec
  have hb := B.bytes
  have hr := B.returns
  have hts := atoms_spec (ws := (Cond.code yX4_init cX4_init 1 none :: wsU)) B.pre
  have hts : ∀ w ∈ wsU, w.before _ s = true := fun w h => hts w (List.mem_cons_of_mem _ h)
  have hown : s.vm.findClass RX4 = some m.cls := findClass_of_methodNamed B.named
  have hlocks := B.notSynchronized
  have hin : meth.name = "<init>" := (name_of_methodNamed B.named B.method).1
  subst hsz
  have hD := hD0.self (sz := s.heap.size)
  generalize hAe : va_A [(h0, .inr (4, [.null, .null, .null, .null]))] s.heap.size = A at hD ⊢
  have hA : ∀ q : Nat, s.heap.size ≤ q → A q := fun q h => by rw [← hAe]; exact Or.inr h
  have hS : va_S A s.heap s.heap [] := va_S.rf
  have hP : va_P (dC, dI) vwCl [(h0, .inr (4, [.null, .null, .null, .null]))] s.heap := hP
  have hl := lv_entry ([.ref h0]) (n := 1) (Nat.le_of_ble_eq_true rfl)
  rw [lg_entry_eq]
  generalize (lg_sl ([.ref h0]) ++ List.replicate (1 - (lg_sl ([.ref h0])).length) Slot.unset).toArray = ls at hl ⊢
  have hl : lv_has ls 1 [(0, .ref h0)] := hl
  refine lv_aload_n hx hb dX4_init_0 rfl (lv_at hl 0 rfl) ?_
  refine W.objInit hx hb hown (hts _ qw_134) (hts _ qw_10) (hts _ qw_11) rfl (by rw [hml]; exact hl.1) rfl dX4_init_1 (Nat.le_of_ble_eq_true rfl) (Nat.le_of_ble_eq_true rfl) ?_
  refine W.eq (g2 := F0 m 4 ls []) rfl ?_
  refine lv_aload_n hx hb dX4_init_4 rfl (lv_at hl 0 rfl) ?_
  refine lv_bipush (v := 100) hx hb dX4_init_5 (by decide) ?_
  refine va_newa (atype := .int) (N' := 100) (a0 := (100, .inl (fun _ => 0))) hx hb (hts _ qw_52) rfl hK hP hD hS hA (fun _ => rfl) (by decide) (by decide) (Nat.le_of_ble_eq_true rfl) (Nat.le_of_ble_eq_true rfl) (Nat.le_of_ble_eq_true rfl) dX4_init_7 (fun q1 cA2 H hK hP hD hS => ?_)
  have hP : va_P (dC, dI) vwCl [(h0, .inr (4, [.null, .null, .null, .null])), (q1, .inl (cA2, 100, .inl (fun _ => 0)))] H := hP
  have hD : va_D A [(h0, .inr (4, [.null, .null, .null, .null])), (q1, .inl (cA2, 100, .inl (fun _ => 0)))] := hD
  have hK : va_K (dC, dI) vwCl [(cA2, .int)] s := hK
  refine W.widen (k := 1) (n := 100) (Nat.le_of_ble_eq_true rfl) (Nat.le_of_ble_eq_true rfl) ?_
  refine va_putF (D := (dC, dI)) (ci := 4) (v := .ref q1) (ty := .array .int) (C := RX4) (T := TX4) (N := 4) hx hb hts inlX4 tyX4 tyX4_ok nmX4 hown hK hP hD hS 0 rfl rfl 0 (by decide) (hts _ qw_135) (fun _ h9 => h9) rfl hin rfl (by decide +kernel) rfl rfl (Nat.le_of_ble_eq_true rfl) dX4_init_9 (fun H locs hP hD hS => ?_)
  have hP : va_P (dC, dI) vwCl [(h0, .inr (4, [.ref q1, .null, .null, .null])), (q1, .inl (cA2, 100, .inl (fun _ => 0)))] H := hP
  have hD : va_D A [(h0, .inr (4, [.ref q1, .null, .null, .null])), (q1, .inl (cA2, 100, .inl (fun _ => 0)))] := hD
  have hP := hP.sub (ws' := [(h0, .inr (4, [.ref q1, .null, .null, .null]))]) [0] rfl
  have hD := hD.sub (ws' := [(h0, .inr (4, [.ref q1, .null, .null, .null]))]) [0] (by decide) rfl
  have hK := hK.sub (tys' := []) [] rfl
  refine lv_aload_n hx hb dX4_init_12 rfl (lv_at hl 0 rfl) ?_
  refine lv_sipush (v := 200) hx hb dX4_init_13 (by decide) ?_
  refine va_newa (atype := .int) (N' := 200) (a0 := (200, .inl (fun _ => 0))) hx hb (hts _ qw_52) rfl hK hP hD hS hA (fun _ => rfl) (by decide) (by decide) (Nat.le_of_ble_eq_true rfl) (Nat.le_of_ble_eq_true rfl) (Nat.le_of_ble_eq_true rfl) dX4_init_16 (fun q3 cA4 H hK hP hD hS => ?_)
  have hP : va_P (dC, dI) vwCl [(h0, .inr (4, [.ref q1, .null, .null, .null])), (q3, .inl (cA4, 200, .inl (fun _ => 0)))] H := hP
  have hD : va_D A [(h0, .inr (4, [.ref q1, .null, .null, .null])), (q3, .inl (cA4, 200, .inl (fun _ => 0)))] := hD
  have hK : va_K (dC, dI) vwCl [(cA4, .int)] s := hK
  refine W.widen (k := 2) (n := 300) (Nat.le_of_ble_eq_true rfl) (Nat.le_of_ble_eq_true rfl) ?_
  refine va_putF (D := (dC, dI)) (ci := 4) (v := .ref q3) (ty := .array .int) (C := RX4) (T := TX4) (N := 4) hx hb hts inlX4 tyX4 tyX4_ok nmX4 hown hK hP hD hS 0 rfl rfl 1 (by decide) (hts _ qw_136) (fun _ h9 => h9) rfl hin rfl (by decide +kernel) rfl rfl (Nat.le_of_ble_eq_true rfl) dX4_init_18 (fun H locs hP hD hS => ?_)
  have hP : va_P (dC, dI) vwCl [(h0, .inr (4, [.ref q1, .ref q3, .null, .null])), (q3, .inl (cA4, 200, .inl (fun _ => 0)))] H := hP
  have hD : va_D A [(h0, .inr (4, [.ref q1, .ref q3, .null, .null])), (q3, .inl (cA4, 200, .inl (fun _ => 0)))] := hD
  have hP := hP.sub (ws' := [(h0, .inr (4, [.ref q1, .ref q3, .null, .null]))]) [0] rfl
  have hD := hD.sub (ws' := [(h0, .inr (4, [.ref q1, .ref q3, .null, .null]))]) [0] (by decide) rfl
  have hK := hK.sub (tys' := []) [] rfl
  refine lv_aload_n hx hb dX4_init_21 rfl (lv_at hl 0 rfl) ?_
  refine va_new (ci := 0) (fs := [.int 0, .int 0, .int 0, .int 0]) (C := RX0) (T := TX0) (N := 4) hx hb hts inlX0 tyX0 tyX0_ok hown (hts _ qw_137) (hts _ qw_90) (hts _ qw_91) hK hP hD hS hA rfl dfX0 (Nat.le_of_ble_eq_true rfl) (Nat.le_of_ble_eq_true rfl) dX4_init_22 (fun q5 H hP hD hS => ?_)
  have hP : va_P (dC, dI) vwCl [(h0, .inr (4, [.ref q1, .ref q3, .null, .null])), (q5, .inr (0, [.int 0, .int 0, .int 0, .int 0]))] H := hP
  have hD : va_D A [(h0, .inr (4, [.ref q1, .ref q3, .null, .null])), (q5, .inr (0, [.int 0, .int 0, .int 0, .int 0]))] := hD
  refine W.widen (k := 3) (n := 304) (Nat.le_of_ble_eq_true rfl) (Nat.le_of_ble_eq_true rfl) ?_
  refine lv_dup hx hb dX4_init_25 rfl ?_
  have hPc := hP.sub (ws' := []) [] rfl
  have hDc := hD.sub (ws' := []) [] (by decide) rfl
  have hKc := hK.sub (tys' := []) [] rfl
  have hFc := va_free (wc := []) hD hS hA [] rfl
  refine va_callv (va_runIN (As := []) (rest := [.ref q5, .ref h0]) ⟨hx, hb, hml, hown, hts⟩ (c_X0_init l dC dI (q5) H.size) (⟨va_cnB 0 hts (kz_g qw_97) rfl rfl rfl hAm.2.2.2.1 (hts _ qw_91) (by decide +kernel) ⟨Nat.le_of_ble_eq_true rfl, Nat.le_of_ble_eq_true rfl⟩, rfl, (hts _ qw_96)⟩) (kz_preS hPc hKc hDc) rfl rfl hl.1 rfl (lv_room (Nat.le_of_ble_eq_true rfl)) dX4_init_26 ⟨Nat.le_of_ble_eq_true rfl, Nat.le_of_ble_eq_true rfl⟩) hS (fun q _ h => hFc q h) hFc (fun u_7 t H1 locs ht hvm hw hB hz1 hk1 hS => ?_)
  try dsimp only at hw
  have hP1 : va_P (dC, dI) vwCl [] H1 := kz_P0
  have hD1 : va_D (va_A [] H.size) [] := kz_D0
  have hK1 : va_K (dC, dI) vwCl [] s := hK.sub [] rfl
  obtain ⟨hP, hD⟩ := va_join (wr := [(h0, .inr (4, [.ref q1, .ref q3, .null, .null])), (q5, .inr (0, [.int 0, .int 0, .int 0, .int 0]))]) (w1 := []) hP hD [] [0, 1] rfl rfl (by decide) (by decide) hk1 hFc hP1 hD1
  have hK := (hK.sub (tys' := []) [] rfl).app hK1
  generalize H1 = H at hP hS ⊢
  have hP : va_P (dC, dI) vwCl [(h0, .inr (4, [.ref q1, .ref q3, .null, .null])), (q5, .inr (0, [.int 0, .int 0, .int 0, .int 0]))] H := hP
  have hD : va_D A [(h0, .inr (4, [.ref q1, .ref q3, .null, .null])), (q5, .inr (0, [.int 0, .int 0, .int 0, .int 0]))] := hD
  have hK : va_K (dC, dI) vwCl [] s := hK
  refine va_putF (D := (dC, dI)) (ci := 4) (v := .ref q5) (ty := .object "RectFile$Box") (C := RX4) (T := TX4) (N := 4) hx hb hts inlX4 tyX4 tyX4_ok nmX4 hown hK hP hD hS 0 rfl rfl 2 (by decide) (hts _ qw_138) (fun _ h9 => h9) rfl hin rfl (by decide +kernel) rfl rfl (Nat.le_of_ble_eq_true rfl) dX4_init_29 (fun H locs hP hD hS => ?_)
  have hP : va_P (dC, dI) vwCl [(h0, .inr (4, [.ref q1, .ref q3, .ref q5, .null])), (q5, .inr (0, [.int 0, .int 0, .int 0, .int 0]))] H := hP
  have hD : va_D A [(h0, .inr (4, [.ref q1, .ref q3, .ref q5, .null])), (q5, .inr (0, [.int 0, .int 0, .int 0, .int 0]))] := hD
  have hP := hP.sub (ws' := [(h0, .inr (4, [.ref q1, .ref q3, .ref q5, .null]))]) [0] rfl
  have hD := hD.sub (ws' := [(h0, .inr (4, [.ref q1, .ref q3, .ref q5, .null]))]) [0] (by decide) rfl
  have hK := hK.sub (tys' := []) [] rfl
  refine lv_aload_n hx hb dX4_init_32 rfl (lv_at hl 0 rfl) ?_
  refine va_new (ci := 0) (fs := [.int 0, .int 0, .int 0, .int 0]) (C := RX0) (T := TX0) (N := 4) hx hb hts inlX0 tyX0 tyX0_ok hown (hts _ qw_137) (hts _ qw_90) (hts _ qw_91) hK hP hD hS hA rfl dfX0 (Nat.le_of_ble_eq_true rfl) (Nat.le_of_ble_eq_true rfl) dX4_init_33 (fun q8 H hP hD hS => ?_)
  have hP : va_P (dC, dI) vwCl [(h0, .inr (4, [.ref q1, .ref q3, .ref q5, .null])), (q8, .inr (0, [.int 0, .int 0, .int 0, .int 0]))] H := hP
  have hD : va_D A [(h0, .inr (4, [.ref q1, .ref q3, .ref q5, .null])), (q8, .inr (0, [.int 0, .int 0, .int 0, .int 0]))] := hD
  refine W.widen (k := 4) (n := 308) (Nat.le_of_ble_eq_true rfl) (Nat.le_of_ble_eq_true rfl) ?_
  refine lv_dup hx hb dX4_init_36 rfl ?_
  have hPc := hP.sub (ws' := []) [] rfl
  have hDc := hD.sub (ws' := []) [] (by decide) rfl
  have hKc := hK.sub (tys' := []) [] rfl
  have hFc := va_free (wc := []) hD hS hA [] rfl
  refine va_callv (va_runIN (As := []) (rest := [.ref q8, .ref h0]) ⟨hx, hb, hml, hown, hts⟩ (c_X0_init l dC dI (q8) H.size) (⟨va_cnB 0 hts (kz_g qw_97) rfl rfl rfl hAm.2.2.2.1 (hts _ qw_91) (by decide +kernel) ⟨Nat.le_of_ble_eq_true rfl, Nat.le_of_ble_eq_true rfl⟩, rfl, (hts _ qw_96)⟩) (kz_preS hPc hKc hDc) rfl rfl hl.1 rfl (lv_room (Nat.le_of_ble_eq_true rfl)) dX4_init_37 ⟨Nat.le_of_ble_eq_true rfl, Nat.le_of_ble_eq_true rfl⟩) hS (fun q _ h => hFc q h) hFc (fun u_10 t H1 locs ht hvm hw hB hz1 hk1 hS => ?_)
  try dsimp only at hw
  have hP1 : va_P (dC, dI) vwCl [] H1 := kz_P0
  have hD1 : va_D (va_A [] H.size) [] := kz_D0
  have hK1 : va_K (dC, dI) vwCl [] s := hK.sub [] rfl
  obtain ⟨hP, hD⟩ := va_join (wr := [(h0, .inr (4, [.ref q1, .ref q3, .ref q5, .null])), (q8, .inr (0, [.int 0, .int 0, .int 0, .int 0]))]) (w1 := []) hP hD [] [0, 1] rfl rfl (by decide) (by decide) hk1 hFc hP1 hD1
  have hK := (hK.sub (tys' := []) [] rfl).app hK1
  generalize H1 = H at hP hS ⊢
  have hP : va_P (dC, dI) vwCl [(h0, .inr (4, [.ref q1, .ref q3, .ref q5, .null])), (q8, .inr (0, [.int 0, .int 0, .int 0, .int 0]))] H := hP
  have hD : va_D A [(h0, .inr (4, [.ref q1, .ref q3, .ref q5, .null])), (q8, .inr (0, [.int 0, .int 0, .int 0, .int 0]))] := hD
  have hK : va_K (dC, dI) vwCl [] s := hK
  refine va_putF (D := (dC, dI)) (ci := 4) (v := .ref q8) (ty := .object "RectFile$Box") (C := RX4) (T := TX4) (N := 4) hx hb hts inlX4 tyX4 tyX4_ok nmX4 hown hK hP hD hS 0 rfl rfl 3 (by decide) (hts _ qw_139) (fun _ h9 => h9) rfl hin rfl (by decide +kernel) rfl rfl (Nat.le_of_ble_eq_true rfl) dX4_init_40 (fun H locs hP hD hS => ?_)
  have hP : va_P (dC, dI) vwCl [(h0, .inr (4, [.ref q1, .ref q3, .ref q5, .ref q8])), (q8, .inr (0, [.int 0, .int 0, .int 0, .int 0]))] H := hP
  have hD : va_D A [(h0, .inr (4, [.ref q1, .ref q3, .ref q5, .ref q8])), (q8, .inr (0, [.int 0, .int 0, .int 0, .int 0]))] := hD
  have hP := hP.sub (ws' := [(h0, .inr (4, [.ref q1, .ref q3, .ref q5, .ref q8]))]) [0] rfl
  have hD := hD.sub (ws' := [(h0, .inr (4, [.ref q1, .ref q3, .ref q5, .ref q8]))]) [0] (by decide) rfl
  have hK := hK.sub (tys' := []) [] rfl
  exact W.vret hx hb hr (fun t ht hW => ⟨⟨(), rfl, trivial, trivial⟩, hS.F ht⟩) hS.2.2 dX4_init_43
set_option maxHeartbeats 4000000 in
set_option maxRecDepth 100000 in
/-- the loop of Arrays.fill, at its head -/
theorem fill_loop {p : Program} {l : Launch} {e : Env} {R : Room} {s : State} {m : MethodId} {args : Array Value} {below : List Frame} {meth : Method} {c : Code} {cells slots : Nat} {Q : State → Prop} {dC : Nat → ClassId} {dI : Nat → Nat → Nat} {A : Nat → Prop} {a0 : Nat} {cA : ClassId} {v0 : Int32} (hx : p.tables.exec = Jvm.exec) (hb : c.code = cJ7_fill_53178) (hK : va_K (dC, dI) vwCl [(cA, .int)] s)
    (kk : ∀ (g : Nat → Int32) (H : Heap) (locs : List Loc) (ls : Array Slot), va_P (dC, dI) vwCl [(a0, .inl (cA, 132, .inl g))] H → va_D A [(a0, .inl (cA, 132, .inl g))] → va_S A s.heap H locs → W p l e R s m args below meth c H locs cells slots Q (F0 m 20 ls [])) :
    ∀ (n i : Nat) (x2 : Int32), i ≤ 132 → 133 ≤ i + n → x2 = nI i → ∀ (f : Nat → Int32) (H : Heap) (locs : List Loc), va_P (dC, dI) vwCl [(a0, .inl (cA, 132, .inl f))] H → va_D A [(a0, .inl (cA, 132, .inl f))] → va_S A s.heap H locs → ∀ (ls : Array Slot), lv_has ls 4 [(3, .int 132), (2, .int x2), (0, .ref a0), (1, .int v0)] → W p l e R s m args below meth c H locs cells slots Q (F0 m 5 ls []) := by
  intro n
  induction n with
  | zero =>
    intro i x2 h1 h2
    exact absurd h2 (by omega)
  | succ n ih =>
    intro i x2 hi hin ex2 f H locs hP hD hS ls hl
    refine lv_iload_n hx hb dJ7_fill_53178_5 rfl (lv_at hl 1 rfl) ?_
    refine lv_iload_n hx hb dJ7_fill_53178_6 rfl (lv_at hl 0 rfl) ?_
    refine lv_icmp_ge (tgt := 20) hx hb dJ7_fill_53178_7 (by decide) (fun c1 => ?_) (fun c1 => ?_)
    · exact kk f H locs ls hP hD hS
    · have hlt : i < 132 := by
        rcases Nat.lt_or_ge i 132 with q | q
        · exact q
        · exact absurd (by rw [ex2]; exact nI_le (a := 132) q (by omega)) c1
      have h2 : vp_in x2 132 := by rw [ex2]; exact vp_in_nI hlt (by omega)
      refine lv_aload_n hx hb dJ7_fill_53178_10 rfl (lv_at hl 2 rfl) ?_
      refine lv_iload_n hx hb dJ7_fill_53178_11 rfl (lv_at hl 1 rfl) ?_
      refine lv_iload_n hx hb dJ7_fill_53178_12 rfl (lv_at hl 3 rfl) ?_
      refine va_iast hx hb hK hP hD hS 0 0 rfl rfl (i := x2) (x := v0) h2 dJ7_fill_53178_13 (fun H locs hP hD hS => ?_)
      generalize hf9 : upd f _ _ = f1 at hP hD
      have hP : va_P (dC, dI) vwCl [(a0, .inl (cA, 132, .inl f1))] H := hP
      have hD : va_D A [(a0, .inl (cA, 132, .inl f1))] := hD
      refine lv_iinc (v := x2 + 1) (lv' := [(2, .int (x2 + 1)), (3, .int 132), (0, .ref a0), (1, .int v0)]) hx hb dJ7_fill_53178_14 hl (k := 1) rfl rfl (by decide) rfl (fun ls hl => ?_)
      refine lv_goto (tgt := 5) hx hb dJ7_fill_53178_17 (by decide) ?_
      exact ih (i + 1) (x2 + 1) hlt (by omega) (by rw [ex2]; exact nI_1 i) f1 H locs hP hD hS ls (lv_sub hl [1, 0, 2, 3] rfl)
set_option maxHeartbeats 4000000 in
set_option maxRecDepth 100000 in
/-- Arrays.fill of 132 places -/
theorem c_J7_fill_53178 (l : Launch) (dC : Nat → ClassId) (dI : Nat → Nat → Nat) (a0 : Nat) (cA : ClassId) (f : Nat → Int32) (v0 : Int32) (sz : Nat) : Met l yJ7_fill_53178 (Cond.code yJ7_fill_53178 cJ7_fill_53178 4 none :: wsU) ({ frames := 0, cells := 0, slots := 0, locals := 0 }) (va_Pc [.ref a0, .int v0] (kz_B (dC, dI) sz [(a0, .inl (cA, 132, .inl f))] [(cA, .int)])) (va_Qv (fun (_ : Nat → Int32) => True) (fun (u : Nat → Int32) t => match u with | g => kz_E (dC, dI) (va_A [(a0, .inl (cA, 132, .inl f))] sz) [(a0, .inl (cA, 132, .inl g))] [(cA, .int)] t) (va_A [(a0, .inl (cA, 132, .inl f))] sz)) 0 0 (va_A [(a0, .inl (cA, 132, .inl f))] sz) := by
  refine Met.ofW (cc := cJ7_fill_53178) (maxL := 4) (ret := none) (by decide) rfl ?_
  intro p e s m args below meth c s₁ B hml hv
  obtain ⟨rfl, hsz, hP, hK, hD0⟩ := hv
  have hx := B.exec
  have hb := B.bytes
  have hr := B.returns
  have hts := atoms_spec (ws := (Cond.code yJ7_fill_53178 cJ7_fill_53178 4 none :: wsU)) B.pre
  have hts : ∀ w ∈ wsU, w.before _ s = true := fun w h => hts w (List.mem_cons_of_mem _ h)
  have hown : s.vm.findClass RJ7 = some m.cls := findClass_of_methodNamed B.named
  have hlocks := B.notSynchronized
  subst hsz
  have hD := hD0.self (sz := s.heap.size)
  generalize hAe : va_A [(a0, .inl (cA, 132, .inl f))] s.heap.size = A at hD ⊢
  have hA : ∀ q : Nat, s.heap.size ≤ q → A q := fun q h => by rw [← hAe]; exact Or.inr h
  have hS : va_S A s.heap s.heap [] := va_S.rf
  have hP : va_P (dC, dI) vwCl [(a0, .inl (cA, 132, .inl f))] s.heap := hP
  have hl := lv_entry ([.ref a0, .int v0]) (n := 4) (Nat.le_of_ble_eq_true rfl)
  rw [lg_entry_eq]
  generalize (lg_sl ([.ref a0, .int v0]) ++ List.replicate (4 - (lg_sl ([.ref a0, .int v0])).length) Slot.unset).toArray = ls at hl ⊢
  have hl : lv_has ls 4 [(0, .ref a0), (1, .int v0)] := hl
  refine lv_iconst (v := 0) hx hb dJ7_fill_53178_0 (by decide) ?_
  refine lv_istore_n (lv' := [(2, .int 0), (0, .ref a0), (1, .int v0)]) hx hb dJ7_fill_53178_1 rfl hl (by decide) rfl (fun ls hl => ?_)
  refine lv_aload_n hx hb dJ7_fill_53178_2 rfl (lv_at hl 1 rfl) ?_
  refine va_alen (v := 132) hx hb hK hP 0 0 rfl rfl (by decide) dJ7_fill_53178_3 ?_
  refine lv_istore_n (lv' := [(3, .int 132), (2, .int 0), (0, .ref a0), (1, .int v0)]) hx hb dJ7_fill_53178_4 rfl hl (by decide) rfl (fun ls hl => ?_)
  exact fill_loop hx hb hK (fun g H locs ls hP hD hS => W.vret hx hb hr (fun t ht hW => ⟨⟨g, rfl, trivial, by rw [ht]; exact hP, va_K.moved hW.alike hK, hD⟩, hS.F ht⟩) hS.2.2 dJ7_fill_53178_20) 133 0 0 (by omega) (by omega) rfl f _ _ hP hD hS ls hl
set_option maxHeartbeats 4000000 in
set_option maxRecDepth 100000 in
/-- Tree() -/
theorem c_X10_init (l : Launch) (dC : Nat → ClassId) (dI : Nat → Nat → Nat) (h0 : Nat) (sz : Nat) : Met l yX10_init (Cond.code yX10_init cX10_init 1 none :: wsU) ({ frames := 1, cells := 5, slots := 1012, locals := 23 }) (va_Pc [.ref h0] (kz_B (dC, dI) sz [(h0, .inr (10, [.int 0, .int 0, .int 0, .int 0, .int 0, .int 0, .int 0, .int 0, .null, .null, .null, .null, .null]))] [])) (va_Qv (fun (_ : Unit) => True) (fun _ _ => True) (va_A [(h0, .inr (10, [.int 0, .int 0, .int 0, .int 0, .int 0, .int 0, .int 0, .int 0, .null, .null, .null, .null, .null]))] sz)) 5 1012 (va_A [(h0, .inr (10, [.int 0, .int 0, .int 0, .int 0, .int 0, .int 0, .int 0, .int 0, .null, .null, .null, .null, .null]))] sz) := by
  refine Met.ofW (cc := cX10_init) (maxL := 1) (ret := none) (by decide) rfl ?_
  intro p e s m args below meth c s₁ B hml hv
  obtain ⟨rfl, hsz, hP, hK, hD0⟩ := hv
  have hx := B.exec
  have hb := B.bytes
  have hr := B.returns
  have hts := atoms_spec (ws := (Cond.code yX10_init cX10_init 1 none :: wsU)) B.pre
  have hts : ∀ w ∈ wsU, w.before _ s = true := fun w h => hts w (List.mem_cons_of_mem _ h)
  have hown : s.vm.findClass RX10 = some m.cls := findClass_of_methodNamed B.named
  have hlocks := B.notSynchronized
  have hin : meth.name = "<init>" := (name_of_methodNamed B.named B.method).1
  subst hsz
  have hD := hD0.self (sz := s.heap.size)
  generalize hAe : va_A [(h0, .inr (10, [.int 0, .int 0, .int 0, .int 0, .int 0, .int 0, .int 0, .int 0, .null, .null, .null, .null, .null]))] s.heap.size = A at hD ⊢
  have hA : ∀ q : Nat, s.heap.size ≤ q → A q := fun q h => by rw [← hAe]; exact Or.inr h
  have hS : va_S A s.heap s.heap [] := va_S.rf
  have hP : va_P (dC, dI) vwCl [(h0, .inr (10, [.int 0, .int 0, .int 0, .int 0, .int 0, .int 0, .int 0, .int 0, .null, .null, .null, .null, .null]))] s.heap := hP
  have hl := lv_entry ([.ref h0]) (n := 1) (Nat.le_of_ble_eq_true rfl)
  rw [lg_entry_eq]
  generalize (lg_sl ([.ref h0]) ++ List.replicate (1 - (lg_sl ([.ref h0])).length) Slot.unset).toArray = ls at hl ⊢
  have hl : lv_has ls 1 [(0, .ref h0)] := hl
  refine lv_aload_n hx hb dX10_init_0 rfl (lv_at hl 0 rfl) ?_
  refine W.objInit hx hb hown (hts _ qw_143) (hts _ qw_10) (hts _ qw_11) rfl (by rw [hml]; exact hl.1) rfl dX10_init_1 (Nat.le_of_ble_eq_true rfl) (Nat.le_of_ble_eq_true rfl) ?_
  refine W.eq (g2 := F0 m 4 ls []) rfl ?_
  refine lv_aload_n hx hb dX10_init_4 rfl (lv_at hl 0 rfl) ?_
  refine lv_sipush (v := 528) hx hb dX10_init_5 (by decide) ?_
  refine va_newa (atype := .int) (N' := 528) (a0 := (528, .inl (fun _ => 0))) hx hb (hts _ qw_52) rfl hK hP hD hS hA (fun _ => rfl) (by decide) (by decide) (Nat.le_of_ble_eq_true rfl) (Nat.le_of_ble_eq_true rfl) (Nat.le_of_ble_eq_true rfl) dX10_init_8 (fun q1 cA2 H hK hP hD hS => ?_)
  have hP : va_P (dC, dI) vwCl [(h0, .inr (10, [.int 0, .int 0, .int 0, .int 0, .int 0, .int 0, .int 0, .int 0, .null, .null, .null, .null, .null])), (q1, .inl (cA2, 528, .inl (fun _ => 0)))] H := hP
  have hD : va_D A [(h0, .inr (10, [.int 0, .int 0, .int 0, .int 0, .int 0, .int 0, .int 0, .int 0, .null, .null, .null, .null, .null])), (q1, .inl (cA2, 528, .inl (fun _ => 0)))] := hD
  have hK : va_K (dC, dI) vwCl [(cA2, .int)] s := hK
  refine W.widen (k := 1) (n := 528) (Nat.le_of_ble_eq_true rfl) (Nat.le_of_ble_eq_true rfl) ?_
  refine va_put (D := (dC, dI)) (ci := 10) (v := .ref q1) (ty := .array .int) (C := RX10) (T := TX10) (N := 13) hx hb hts inlX10 tyX10 tyX10_ok nmX10 hown hK hP hD hS 0 rfl rfl 8 (by decide) (hts _ qw_144) (fun _ h9 => h9) rfl (by decide +kernel) rfl rfl (Nat.le_of_ble_eq_true rfl) dX10_init_10 (fun H locs hP hD hS => ?_)
  have hP : va_P (dC, dI) vwCl [(h0, .inr (10, [.int 0, .int 0, .int 0, .int 0, .int 0, .int 0, .int 0, .int 0, .ref q1, .null, .null, .null, .null])), (q1, .inl (cA2, 528, .inl (fun _ => 0)))] H := hP
  have hD : va_D A [(h0, .inr (10, [.int 0, .int 0, .int 0, .int 0, .int 0, .int 0, .int 0, .int 0, .ref q1, .null, .null, .null, .null])), (q1, .inl (cA2, 528, .inl (fun _ => 0)))] := hD
  have hP := hP.sub (ws' := [(h0, .inr (10, [.int 0, .int 0, .int 0, .int 0, .int 0, .int 0, .int 0, .int 0, .ref q1, .null, .null, .null, .null]))]) [0] rfl
  have hD := hD.sub (ws' := [(h0, .inr (10, [.int 0, .int 0, .int 0, .int 0, .int 0, .int 0, .int 0, .int 0, .ref q1, .null, .null, .null, .null]))]) [0] (by decide) rfl
  have hK := hK.sub (tys' := []) [] rfl
  refine lv_aload_n hx hb dX10_init_13 rfl (lv_at hl 0 rfl) ?_
  refine lv_sipush (v := 132) hx hb dX10_init_14 (by decide) ?_
  refine va_newa (atype := .int) (N' := 132) (a0 := (132, .inl (fun _ => 0))) hx hb (hts _ qw_52) rfl hK hP hD hS hA (fun _ => rfl) (by decide) (by decide) (Nat.le_of_ble_eq_true rfl) (Nat.le_of_ble_eq_true rfl) (Nat.le_of_ble_eq_true rfl) dX10_init_17 (fun q3 cA4 H hK hP hD hS => ?_)
  have hP : va_P (dC, dI) vwCl [(h0, .inr (10, [.int 0, .int 0, .int 0, .int 0, .int 0, .int 0, .int 0, .int 0, .ref q1, .null, .null, .null, .null])), (q3, .inl (cA4, 132, .inl (fun _ => 0)))] H := hP
  have hD : va_D A [(h0, .inr (10, [.int 0, .int 0, .int 0, .int 0, .int 0, .int 0, .int 0, .int 0, .ref q1, .null, .null, .null, .null])), (q3, .inl (cA4, 132, .inl (fun _ => 0)))] := hD
  have hK : va_K (dC, dI) vwCl [(cA4, .int)] s := hK
  refine W.widen (k := 2) (n := 660) (Nat.le_of_ble_eq_true rfl) (Nat.le_of_ble_eq_true rfl) ?_
  refine va_put (D := (dC, dI)) (ci := 10) (v := .ref q3) (ty := .array .int) (C := RX10) (T := TX10) (N := 13) hx hb hts inlX10 tyX10 tyX10_ok nmX10 hown hK hP hD hS 0 rfl rfl 9 (by decide) (hts _ qw_145) (fun _ h9 => h9) rfl (by decide +kernel) rfl rfl (Nat.le_of_ble_eq_true rfl) dX10_init_19 (fun H locs hP hD hS => ?_)
  have hP : va_P (dC, dI) vwCl [(h0, .inr (10, [.int 0, .int 0, .int 0, .int 0, .int 0, .int 0, .int 0, .int 0, .ref q1, .ref q3, .null, .null, .null])), (q3, .inl (cA4, 132, .inl (fun _ => 0)))] H := hP
  have hD : va_D A [(h0, .inr (10, [.int 0, .int 0, .int 0, .int 0, .int 0, .int 0, .int 0, .int 0, .ref q1, .ref q3, .null, .null, .null])), (q3, .inl (cA4, 132, .inl (fun _ => 0)))] := hD
  refine lv_aload_n hx hb dX10_init_22 rfl (lv_at hl 0 rfl) ?_
  refine lv_bipush (v := 32) hx hb dX10_init_23 (by decide) ?_
  refine va_newa (atype := .int) (N' := 32) (a0 := (32, .inl (fun _ => 0))) hx hb (hts _ qw_52) rfl hK hP hD hS hA (fun _ => rfl) (by decide) (by decide) (Nat.le_of_ble_eq_true rfl) (Nat.le_of_ble_eq_true rfl) (Nat.le_of_ble_eq_true rfl) dX10_init_25 (fun q5 cA6 H hK hP hD hS => ?_)
  have hP : va_P (dC, dI) vwCl [(h0, .inr (10, [.int 0, .int 0, .int 0, .int 0, .int 0, .int 0, .int 0, .int 0, .ref q1, .ref q3, .null, .null, .null])), (q3, .inl (cA4, 132, .inl (fun _ => 0))), (q5, .inl (cA6, 32, .inl (fun _ => 0)))] H := hP
  have hD : va_D A [(h0, .inr (10, [.int 0, .int 0, .int 0, .int 0, .int 0, .int 0, .int 0, .int 0, .ref q1, .ref q3, .null, .null, .null])), (q3, .inl (cA4, 132, .inl (fun _ => 0))), (q5, .inl (cA6, 32, .inl (fun _ => 0)))] := hD
  have hK : va_K (dC, dI) vwCl [(cA4, .int), (cA6, .int)] s := hK
  refine W.widen (k := 3) (n := 692) (Nat.le_of_ble_eq_true rfl) (Nat.le_of_ble_eq_true rfl) ?_
  refine va_put (D := (dC, dI)) (ci := 10) (v := .ref q5) (ty := .array .int) (C := RX10) (T := TX10) (N := 13) hx hb hts inlX10 tyX10 tyX10_ok nmX10 hown hK hP hD hS 0 rfl rfl 10 (by decide) (hts _ qw_146) (fun _ h9 => h9) rfl (by decide +kernel) rfl rfl (Nat.le_of_ble_eq_true rfl) dX10_init_27 (fun H locs hP hD hS => ?_)
  have hP : va_P (dC, dI) vwCl [(h0, .inr (10, [.int 0, .int 0, .int 0, .int 0, .int 0, .int 0, .int 0, .int 0, .ref q1, .ref q3, .ref q5, .null, .null])), (q3, .inl (cA4, 132, .inl (fun _ => 0))), (q5, .inl (cA6, 32, .inl (fun _ => 0)))] H := hP
  have hD : va_D A [(h0, .inr (10, [.int 0, .int 0, .int 0, .int 0, .int 0, .int 0, .int 0, .int 0, .ref q1, .ref q3, .ref q5, .null, .null])), (q3, .inl (cA4, 132, .inl (fun _ => 0))), (q5, .inl (cA6, 32, .inl (fun _ => 0)))] := hD
  have hP := hP.sub (ws' := [(h0, .inr (10, [.int 0, .int 0, .int 0, .int 0, .int 0, .int 0, .int 0, .int 0, .ref q1, .ref q3, .ref q5, .null, .null])), (q3, .inl (cA4, 132, .inl (fun _ => 0)))]) [0, 1] rfl
  have hD := hD.sub (ws' := [(h0, .inr (10, [.int 0, .int 0, .int 0, .int 0, .int 0, .int 0, .int 0, .int 0, .ref q1, .ref q3, .ref q5, .null, .null])), (q3, .inl (cA4, 132, .inl (fun _ => 0)))]) [0, 1] (by decide) rfl
  have hK := hK.sub (tys' := [(cA4, .int)]) [0] rfl
  refine lv_aload_n hx hb dX10_init_30 rfl (lv_at hl 0 rfl) ?_
  refine lv_bipush (v := 32) hx hb dX10_init_31 (by decide) ?_
  refine va_newa (atype := .int) (N' := 32) (a0 := (32, .inl (fun _ => 0))) hx hb (hts _ qw_52) rfl hK hP hD hS hA (fun _ => rfl) (by decide) (by decide) (Nat.le_of_ble_eq_true rfl) (Nat.le_of_ble_eq_true rfl) (Nat.le_of_ble_eq_true rfl) dX10_init_33 (fun q7 cA8 H hK hP hD hS => ?_)
  have hP : va_P (dC, dI) vwCl [(h0, .inr (10, [.int 0, .int 0, .int 0, .int 0, .int 0, .int 0, .int 0, .int 0, .ref q1, .ref q3, .ref q5, .null, .null])), (q3, .inl (cA4, 132, .inl (fun _ => 0))), (q7, .inl (cA8, 32, .inl (fun _ => 0)))] H := hP
  have hD : va_D A [(h0, .inr (10, [.int 0, .int 0, .int 0, .int 0, .int 0, .int 0, .int 0, .int 0, .ref q1, .ref q3, .ref q5, .null, .null])), (q3, .inl (cA4, 132, .inl (fun _ => 0))), (q7, .inl (cA8, 32, .inl (fun _ => 0)))] := hD
  have hK : va_K (dC, dI) vwCl [(cA4, .int), (cA8, .int)] s := hK
  refine W.widen (k := 4) (n := 724) (Nat.le_of_ble_eq_true rfl) (Nat.le_of_ble_eq_true rfl) ?_
  refine va_put (D := (dC, dI)) (ci := 10) (v := .ref q7) (ty := .array .int) (C := RX10) (T := TX10) (N := 13) hx hb hts inlX10 tyX10 tyX10_ok nmX10 hown hK hP hD hS 0 rfl rfl 11 (by decide) (hts _ qw_147) (fun _ h9 => h9) rfl (by decide +kernel) rfl rfl (Nat.le_of_ble_eq_true rfl) dX10_init_35 (fun H locs hP hD hS => ?_)
  have hP : va_P (dC, dI) vwCl [(h0, .inr (10, [.int 0, .int 0, .int 0, .int 0, .int 0, .int 0, .int 0, .int 0, .ref q1, .ref q3, .ref q5, .ref q7, .null])), (q3, .inl (cA4, 132, .inl (fun _ => 0))), (q7, .inl (cA8, 32, .inl (fun _ => 0)))] H := hP
  have hD : va_D A [(h0, .inr (10, [.int 0, .int 0, .int 0, .int 0, .int 0, .int 0, .int 0, .int 0, .ref q1, .ref q3, .ref q5, .ref q7, .null])), (q3, .inl (cA4, 132, .inl (fun _ => 0))), (q7, .inl (cA8, 32, .inl (fun _ => 0)))] := hD
  have hP := hP.sub (ws' := [(h0, .inr (10, [.int 0, .int 0, .int 0, .int 0, .int 0, .int 0, .int 0, .int 0, .ref q1, .ref q3, .ref q5, .ref q7, .null])), (q3, .inl (cA4, 132, .inl (fun _ => 0)))]) [0, 1] rfl
  have hD := hD.sub (ws' := [(h0, .inr (10, [.int 0, .int 0, .int 0, .int 0, .int 0, .int 0, .int 0, .int 0, .ref q1, .ref q3, .ref q5, .ref q7, .null])), (q3, .inl (cA4, 132, .inl (fun _ => 0)))]) [0, 1] (by decide) rfl
  have hK := hK.sub (tys' := [(cA4, .int)]) [0] rfl
  refine lv_aload_n hx hb dX10_init_38 rfl (lv_at hl 0 rfl) ?_
  refine lv_sipush (v := 288) hx hb dX10_init_39 (by decide) ?_
  refine va_newa (atype := .int) (N' := 288) (a0 := (288, .inl (fun _ => 0))) hx hb (hts _ qw_52) rfl hK hP hD hS hA (fun _ => rfl) (by decide) (by decide) (Nat.le_of_ble_eq_true rfl) (Nat.le_of_ble_eq_true rfl) (Nat.le_of_ble_eq_true rfl) dX10_init_42 (fun q9 cA10 H hK hP hD hS => ?_)
  have hP : va_P (dC, dI) vwCl [(h0, .inr (10, [.int 0, .int 0, .int 0, .int 0, .int 0, .int 0, .int 0, .int 0, .ref q1, .ref q3, .ref q5, .ref q7, .null])), (q3, .inl (cA4, 132, .inl (fun _ => 0))), (q9, .inl (cA10, 288, .inl (fun _ => 0)))] H := hP
  have hD : va_D A [(h0, .inr (10, [.int 0, .int 0, .int 0, .int 0, .int 0, .int 0, .int 0, .int 0, .ref q1, .ref q3, .ref q5, .ref q7, .null])), (q3, .inl (cA4, 132, .inl (fun _ => 0))), (q9, .inl (cA10, 288, .inl (fun _ => 0)))] := hD
  have hK : va_K (dC, dI) vwCl [(cA4, .int), (cA10, .int)] s := hK
  refine W.widen (k := 5) (n := 1012) (Nat.le_of_ble_eq_true rfl) (Nat.le_of_ble_eq_true rfl) ?_
  refine va_put (D := (dC, dI)) (ci := 10) (v := .ref q9) (ty := .array .int) (C := RX10) (T := TX10) (N := 13) hx hb hts inlX10 tyX10 tyX10_ok nmX10 hown hK hP hD hS 0 rfl rfl 12 (by decide) (hts _ qw_148) (fun _ h9 => h9) rfl (by decide +kernel) rfl rfl (Nat.le_of_ble_eq_true rfl) dX10_init_44 (fun H locs hP hD hS => ?_)
  have hP : va_P (dC, dI) vwCl [(h0, .inr (10, [.int 0, .int 0, .int 0, .int 0, .int 0, .int 0, .int 0, .int 0, .ref q1, .ref q3, .ref q5, .ref q7, .ref q9])), (q3, .inl (cA4, 132, .inl (fun _ => 0))), (q9, .inl (cA10, 288, .inl (fun _ => 0)))] H := hP
  have hD : va_D A [(h0, .inr (10, [.int 0, .int 0, .int 0, .int 0, .int 0, .int 0, .int 0, .int 0, .ref q1, .ref q3, .ref q5, .ref q7, .ref q9])), (q3, .inl (cA4, 132, .inl (fun _ => 0))), (q9, .inl (cA10, 288, .inl (fun _ => 0)))] := hD
  have hP := hP.sub (ws' := [(h0, .inr (10, [.int 0, .int 0, .int 0, .int 0, .int 0, .int 0, .int 0, .int 0, .ref q1, .ref q3, .ref q5, .ref q7, .ref q9])), (q3, .inl (cA4, 132, .inl (fun _ => 0)))]) [0, 1] rfl
  have hD := hD.sub (ws' := [(h0, .inr (10, [.int 0, .int 0, .int 0, .int 0, .int 0, .int 0, .int 0, .int 0, .ref q1, .ref q3, .ref q5, .ref q7, .ref q9])), (q3, .inl (cA4, 132, .inl (fun _ => 0)))]) [0, 1] (by decide) rfl
  have hK := hK.sub (tys' := [(cA4, .int)]) [0] rfl
  refine lv_aload_n hx hb dX10_init_47 rfl (lv_at hl 0 rfl) ?_
  refine va_get (D := (dC, dI)) (ci := 10) (v := .ref q3) (C := RX10) (T := TX10) (N := 13) hx hb hts inlX10 hown hK hP 0 rfl rfl 9 (by decide) (hts _ qw_145) (fun _ h9 => h9) rfl dX10_init_48 ?_
  refine lv_iconst (v := (-1)) hx hb dX10_init_51 (by decide) ?_
  have hPc := hP.sub (ws' := [(q3, .inl (cA4, 132, .inl ((fun _ => 0))))]) [1] rfl
  have hDc := hD.sub (ws' := [(q3, .inl (cA4, 132, .inl ((fun _ => 0))))]) [1] (by decide) rfl
  have hKc := hK.sub (tys' := [(cA4, .int)]) [0] rfl
  have hFc := va_free (wc := [(q3, .inl (cA4, 132, .inl ((fun _ => 0))))]) hD hS hA [1] rfl
  refine va_callv (va_runS (As := [.ref q3, .int (-1)]) (rest := []) ⟨hx, hb, hml, hown, hts⟩ (c_J7_fill_53178 l dC dI (q3) (cA4) ((fun _ => 0)) ((-1)) H.size) (va_cwS 2 hts (kz_gS qw_149 qw_150 qw_151 qw_152) rfl rfl rfl (by decide +kernel) ⟨Nat.le_of_ble_eq_true rfl, Nat.le_of_ble_eq_true rfl⟩) (kz_preS hPc hKc hDc) rfl rfl hl.1 rfl (lv_room (Nat.le_of_ble_eq_true rfl)) dX10_init_52 ⟨Nat.le_of_ble_eq_true rfl, Nat.le_of_ble_eq_true rfl⟩) hS (fun q _ h => hFc q h) hFc (fun u_12 t H1 locs ht hvm hw hB hz1 hk1 hS => ?_)
  try dsimp only at hw
  obtain ⟨g_13, rfl⟩ : ∃ z, z = u_12 := ⟨_, rfl⟩
  obtain ⟨hP1, hK1, hD1⟩ := hB
  rw [ht] at hP1
  have hK1 := va_K.moved hvm.symm hK1
  obtain ⟨hP, hD⟩ := va_join (wr := [(h0, .inr (10, [.int 0, .int 0, .int 0, .int 0, .int 0, .int 0, .int 0, .int 0, .ref q1, .ref q3, .ref q5, .ref q7, .ref q9]))]) (w1 := [(q3, .inl (cA4, 132, .inl g_13))]) hP hD [1] [0] rfl rfl (by decide) (by decide) hk1 hFc hP1 hD1
  have hK := (hK.sub (tys' := []) [] rfl).app hK1
  generalize H1 = H at hP hS ⊢
  have hP : va_P (dC, dI) vwCl [(h0, .inr (10, [.int 0, .int 0, .int 0, .int 0, .int 0, .int 0, .int 0, .int 0, .ref q1, .ref q3, .ref q5, .ref q7, .ref q9])), (q3, .inl (cA4, 132, .inl g_13))] H := hP
  have hD : va_D A [(h0, .inr (10, [.int 0, .int 0, .int 0, .int 0, .int 0, .int 0, .int 0, .int 0, .ref q1, .ref q3, .ref q5, .ref q7, .ref q9])), (q3, .inl (cA4, 132, .inl g_13))] := hD
  have hK : va_K (dC, dI) vwCl [(cA4, .int)] s := hK
  exact W.vret hx hb hr (fun t ht hW => ⟨⟨(), rfl, trivial, trivial⟩, hS.F ht⟩) hS.2.2 dX10_init_55
end
