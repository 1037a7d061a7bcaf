section
-- ===== PART A: goes FIRST, ahead of the names: the tables' words, and 'selects' of the private methods out of them =====
/-- a private method of a class that the tables say can be made, by its rows of tables_1 -/
def lw_okq (q : MethodName × Nat) : Prop := (q.1.cls ≠ "java/lang/invoke/MethodHandle" ∧ q.1.cls ≠ "java/lang/invoke/VarHandle") ∧ Cond.instantiable q.1.cls q.2 ∈ tables_1 ∧ Cond.privateMethod q.1 ∈ tables_1 ∧ Cond.instanceMethod q.1 ∈ tables_1
theorem lw_p0 : lw_okq (⟨"ClassFrames$Maker", "begin", "()V"⟩, 8) := ⟨⟨by decide +kernel, by decide +kernel⟩, List.mem_of_getElem? (i := 104) (by decide +kernel), List.mem_of_getElem? (i := 348) (by decide +kernel), List.mem_of_getElem? (i := 349) (by decide +kernel)⟩
theorem lw_p1 : lw_okq (⟨"ClassFrames$Maker", "goRound", "()I"⟩, 8) := ⟨⟨by decide +kernel, by decide +kernel⟩, List.mem_of_getElem? (i := 104) (by decide +kernel), List.mem_of_getElem? (i := 387) (by decide +kernel), List.mem_of_getElem? (i := 388) (by decide +kernel)⟩
theorem lw_p2 : lw_okq (⟨"ClassFrames$Maker", "workHandlers", "(I)I"⟩, 8) := ⟨⟨by decide +kernel, by decide +kernel⟩, List.mem_of_getElem? (i := 104) (by decide +kernel), List.mem_of_getElem? (i := 399) (by decide +kernel), List.mem_of_getElem? (i := 400) (by decide +kernel)⟩
theorem lw_p3 : lw_okq (⟨"ClassFrames$Code", "hasHandler", "(I)Z"⟩, 11) := ⟨⟨by decide +kernel, by decide +kernel⟩, List.mem_of_getElem? (i := 31) (by decide +kernel), List.mem_of_getElem? (i := 411) (by decide +kernel), List.mem_of_getElem? (i := 412) (by decide +kernel)⟩
theorem lw_p4 : lw_okq (⟨"ClassFrames$Maker", "joinAt", "(I)I"⟩, 8) := ⟨⟨by decide +kernel, by decide +kernel⟩, List.mem_of_getElem? (i := 104) (by decide +kernel), List.mem_of_getElem? (i := 442) (by decide +kernel), List.mem_of_getElem? (i := 443) (by decide +kernel)⟩
theorem lw_p5 : lw_okq (⟨"ClassFrames$Table", "isCell", "(II)Z"⟩, 2) := ⟨⟨by decide +kernel, by decide +kernel⟩, List.mem_of_getElem? (i := 78) (by decide +kernel), List.mem_of_getElem? (i := 455) (by decide +kernel), List.mem_of_getElem? (i := 456) (by decide +kernel)⟩
theorem lw_p6 : lw_okq (⟨"ClassFrames$Maker", "workOp", "(I)I"⟩, 8) := ⟨⟨by decide +kernel, by decide +kernel⟩, List.mem_of_getElem? (i := 104) (by decide +kernel), List.mem_of_getElem? (i := 470) (by decide +kernel), List.mem_of_getElem? (i := 471) (by decide +kernel)⟩
theorem lw_p7 : lw_okq (⟨"ClassFrames$Maker", "workWays", "(I)I"⟩, 8) := ⟨⟨by decide +kernel, by decide +kernel⟩, List.mem_of_getElem? (i := 104) (by decide +kernel), List.mem_of_getElem? (i := 527) (by decide +kernel), List.mem_of_getElem? (i := 528) (by decide +kernel)⟩
theorem lw_p8 : lw_okq (⟨"ClassFrames$Maker", "gatherFrames", "()V"⟩, 8) := ⟨⟨by decide +kernel, by decide +kernel⟩, List.mem_of_getElem? (i := 104) (by decide +kernel), List.mem_of_getElem? (i := 549) (by decide +kernel), List.mem_of_getElem? (i := 550) (by decide +kernel)⟩
theorem lw_p9 : lw_okq (⟨"ClassFrames$Maker", "isHandlers", "(I)Z"⟩, 8) := ⟨⟨by decide +kernel, by decide +kernel⟩, List.mem_of_getElem? (i := 104) (by decide +kernel), List.mem_of_getElem? (i := 553) (by decide +kernel), List.mem_of_getElem? (i := 554) (by decide +kernel)⟩
theorem lw_p10 : lw_okq (⟨"ClassFrames$Maker", "isGoneTo", "(I)Z"⟩, 8) := ⟨⟨by decide +kernel, by decide +kernel⟩, List.mem_of_getElem? (i := 104) (by decide +kernel), List.mem_of_getElem? (i := 557) (by decide +kernel), List.mem_of_getElem? (i := 558) (by decide +kernel)⟩
theorem lw_p11 : lw_okq (⟨"ClassFrames$Maker", "isBehindGap", "(I)Z"⟩, 8) := ⟨⟨by decide +kernel, by decide +kernel⟩, List.mem_of_getElem? (i := 104) (by decide +kernel), List.mem_of_getElem? (i := 561) (by decide +kernel), List.mem_of_getElem? (i := 562) (by decide +kernel)⟩
theorem lw_p12 : lw_okq (⟨"ClassFrames$Frames", "has", "(I)Z"⟩, 4) := ⟨⟨by decide +kernel, by decide +kernel⟩, List.mem_of_getElem? (i := 72) (by decide +kernel), List.mem_of_getElem? (i := 618) (by decide +kernel), List.mem_of_getElem? (i := 619) (by decide +kernel)⟩
theorem lw_p13 : lw_okq (⟨"ClassFrames$Frames", "hasEntry", "(II)Z"⟩, 4) := ⟨⟨by decide +kernel, by decide +kernel⟩, List.mem_of_getElem? (i := 72) (by decide +kernel), List.mem_of_getElem? (i := 639) (by decide +kernel), List.mem_of_getElem? (i := 640) (by decide +kernel)⟩
theorem lw_p14 : lw_okq (⟨"ClassFrames$Frames", "column", "(II)I"⟩, 4) := ⟨⟨by decide +kernel, by decide +kernel⟩, List.mem_of_getElem? (i := 72) (by decide +kernel), List.mem_of_getElem? (i := 643) (by decide +kernel), List.mem_of_getElem? (i := 644) (by decide +kernel)⟩
theorem lw_p15 : lw_okq (⟨"ClassFrames$Judge", "firstTorn", "()I"⟩, 5) := ⟨⟨by decide +kernel, by decide +kernel⟩, List.mem_of_getElem? (i := 150) (by decide +kernel), List.mem_of_getElem? (i := 665) (by decide +kernel), List.mem_of_getElem? (i := 666) (by decide +kernel)⟩
def lw_privs_1 : List (MethodName × Nat) := [(⟨"ClassFrames$Maker", "begin", "()V"⟩, 8), (⟨"ClassFrames$Maker", "goRound", "()I"⟩, 8), (⟨"ClassFrames$Maker", "workHandlers", "(I)I"⟩, 8), (⟨"ClassFrames$Code", "hasHandler", "(I)Z"⟩, 11), (⟨"ClassFrames$Maker", "joinAt", "(I)I"⟩, 8), (⟨"ClassFrames$Table", "isCell", "(II)Z"⟩, 2), (⟨"ClassFrames$Maker", "workOp", "(I)I"⟩, 8), (⟨"ClassFrames$Maker", "workWays", "(I)I"⟩, 8), (⟨"ClassFrames$Maker", "gatherFrames", "()V"⟩, 8), (⟨"ClassFrames$Maker", "isHandlers", "(I)Z"⟩, 8), (⟨"ClassFrames$Maker", "isGoneTo", "(I)Z"⟩, 8), (⟨"ClassFrames$Maker", "isBehindGap", "(I)Z"⟩, 8), (⟨"ClassFrames$Frames", "has", "(I)Z"⟩, 4), (⟨"ClassFrames$Frames", "hasEntry", "(II)Z"⟩, 4), (⟨"ClassFrames$Frames", "column", "(II)I"⟩, 4), (⟨"ClassFrames$Judge", "firstTorn", "()I"⟩, 5)]
theorem lw_r1 : ∀ q ∈ lw_privs_1, lw_okq q := List.forall_mem_cons.mpr ⟨lw_p0, List.forall_mem_cons.mpr ⟨lw_p1, List.forall_mem_cons.mpr ⟨lw_p2, List.forall_mem_cons.mpr ⟨lw_p3, List.forall_mem_cons.mpr ⟨lw_p4, List.forall_mem_cons.mpr ⟨lw_p5, List.forall_mem_cons.mpr ⟨lw_p6, List.forall_mem_cons.mpr ⟨lw_p7, List.forall_mem_cons.mpr ⟨lw_p8, List.forall_mem_cons.mpr ⟨lw_p9, List.forall_mem_cons.mpr ⟨lw_p10, List.forall_mem_cons.mpr ⟨lw_p11, List.forall_mem_cons.mpr ⟨lw_p12, List.forall_mem_cons.mpr ⟨lw_p13, List.forall_mem_cons.mpr ⟨lw_p14, List.forall_mem_cons.mpr ⟨lw_p15, fun _ h => absurd h List.not_mem_nil⟩⟩⟩⟩⟩⟩⟩⟩⟩⟩⟩⟩⟩⟩⟩⟩
theorem lw_p16 : lw_okq (⟨"ClassFrames$State", "isLone", "(III)Z"⟩, 2) := ⟨⟨by decide +kernel, by decide +kernel⟩, List.mem_of_getElem? (i := 112) (by decide +kernel), List.mem_of_getElem? (i := 679) (by decide +kernel), List.mem_of_getElem? (i := 680) (by decide +kernel)⟩
theorem lw_p17 : lw_okq (⟨"ClassFrames$Judge", "enters", "(IZ)Z"⟩, 5) := ⟨⟨by decide +kernel, by decide +kernel⟩, List.mem_of_getElem? (i := 150) (by decide +kernel), List.mem_of_getElem? (i := 688) (by decide +kernel), List.mem_of_getElem? (i := 689) (by decide +kernel)⟩
theorem lw_p18 : lw_okq (⟨"ClassFrames$Judge", "readFrame", "(ILClassFrames$State;)Z"⟩, 5) := ⟨⟨by decide +kernel, by decide +kernel⟩, List.mem_of_getElem? (i := 150) (by decide +kernel), List.mem_of_getElem? (i := 692) (by decide +kernel), List.mem_of_getElem? (i := 693) (by decide +kernel)⟩
theorem lw_p19 : lw_okq (⟨"ClassFrames$Judge", "handlersHold", "(I)Z"⟩, 5) := ⟨⟨by decide +kernel, by decide +kernel⟩, List.mem_of_getElem? (i := 150) (by decide +kernel), List.mem_of_getElem? (i := 709) (by decide +kernel), List.mem_of_getElem? (i := 710) (by decide +kernel)⟩
theorem lw_p20 : lw_okq (⟨"ClassFrames$Judge", "isTaken", "(I)Z"⟩, 5) := ⟨⟨by decide +kernel, by decide +kernel⟩, List.mem_of_getElem? (i := 150) (by decide +kernel), List.mem_of_getElem? (i := 717) (by decide +kernel), List.mem_of_getElem? (i := 718) (by decide +kernel)⟩
theorem lw_p21 : lw_okq (⟨"ClassFrames$Judge", "leaves", "(I)Z"⟩, 5) := ⟨⟨by decide +kernel, by decide +kernel⟩, List.mem_of_getElem? (i := 150) (by decide +kernel), List.mem_of_getElem? (i := 725) (by decide +kernel), List.mem_of_getElem? (i := 726) (by decide +kernel)⟩
theorem lw_p22 : lw_okq (⟨"ClassFrames$Packer", "gatherParameters", "()V"⟩, 11) := ⟨⟨by decide +kernel, by decide +kernel⟩, List.mem_of_getElem? (i := 174) (by decide +kernel), List.mem_of_getElem? (i := 743) (by decide +kernel), List.mem_of_getElem? (i := 744) (by decide +kernel)⟩
theorem lw_p23 : lw_okq (⟨"ClassFrames$Packer", "gatherFrame", "(I)V"⟩, 11) := ⟨⟨by decide +kernel, by decide +kernel⟩, List.mem_of_getElem? (i := 174) (by decide +kernel), List.mem_of_getElem? (i := 753) (by decide +kernel), List.mem_of_getElem? (i := 754) (by decide +kernel)⟩
theorem lw_p24 : lw_okq (⟨"ClassFrames$Packer", "gather", "(II[I)I"⟩, 11) := ⟨⟨by decide +kernel, by decide +kernel⟩, List.mem_of_getElem? (i := 174) (by decide +kernel), List.mem_of_getElem? (i := 759) (by decide +kernel), List.mem_of_getElem? (i := 760) (by decide +kernel)⟩
theorem lw_p25 : lw_okq (⟨"ClassFrames$Packer", "packFrame", "(I)V"⟩, 11) := ⟨⟨by decide +kernel, by decide +kernel⟩, List.mem_of_getElem? (i := 174) (by decide +kernel), List.mem_of_getElem? (i := 766) (by decide +kernel), List.mem_of_getElem? (i := 767) (by decide +kernel)⟩
theorem lw_p26 : lw_okq (⟨"ClassFrames$Packer", "startsAlike", "()Z"⟩, 11) := ⟨⟨by decide +kernel, by decide +kernel⟩, List.mem_of_getElem? (i := 174) (by decide +kernel), List.mem_of_getElem? (i := 770) (by decide +kernel), List.mem_of_getElem? (i := 771) (by decide +kernel)⟩
theorem lw_p27 : lw_okq (⟨"ClassFrames$Packer", "write", "(I)V"⟩, 11) := ⟨⟨by decide +kernel, by decide +kernel⟩, List.mem_of_getElem? (i := 174) (by decide +kernel), List.mem_of_getElem? (i := 774) (by decide +kernel), List.mem_of_getElem? (i := 775) (by decide +kernel)⟩
theorem lw_p28 : lw_okq (⟨"ClassFrames$Packer", "writeEntries", "([III)V"⟩, 11) := ⟨⟨by decide +kernel, by decide +kernel⟩, List.mem_of_getElem? (i := 174) (by decide +kernel), List.mem_of_getElem? (i := 778) (by decide +kernel), List.mem_of_getElem? (i := 779) (by decide +kernel)⟩
theorem lw_p29 : lw_okq (⟨"ClassFrames$Packer", "writeEntry", "(I)V"⟩, 11) := ⟨⟨by decide +kernel, by decide +kernel⟩, List.mem_of_getElem? (i := 174) (by decide +kernel), List.mem_of_getElem? (i := 782) (by decide +kernel), List.mem_of_getElem? (i := 783) (by decide +kernel)⟩
theorem lw_p30 : lw_okq (⟨"ClassFrames$Packer", "packWhole", "(I)V"⟩, 11) := ⟨⟨by decide +kernel, by decide +kernel⟩, List.mem_of_getElem? (i := 174) (by decide +kernel), List.mem_of_getElem? (i := 786) (by decide +kernel), List.mem_of_getElem? (i := 787) (by decide +kernel)⟩
theorem lw_p31 : lw_okq (⟨"ClassFrames$Packer", "keepAhead", "()V"⟩, 11) := ⟨⟨by decide +kernel, by decide +kernel⟩, List.mem_of_getElem? (i := 174) (by decide +kernel), List.mem_of_getElem? (i := 790) (by decide +kernel), List.mem_of_getElem? (i := 791) (by decide +kernel)⟩
def lw_privs_2 : List (MethodName × Nat) := [(⟨"ClassFrames$State", "isLone", "(III)Z"⟩, 2), (⟨"ClassFrames$Judge", "enters", "(IZ)Z"⟩, 5), (⟨"ClassFrames$Judge", "readFrame", "(ILClassFrames$State;)Z"⟩, 5), (⟨"ClassFrames$Judge", "handlersHold", "(I)Z"⟩, 5), (⟨"ClassFrames$Judge", "isTaken", "(I)Z"⟩, 5), (⟨"ClassFrames$Judge", "leaves", "(I)Z"⟩, 5), (⟨"ClassFrames$Packer", "gatherParameters", "()V"⟩, 11), (⟨"ClassFrames$Packer", "gatherFrame", "(I)V"⟩, 11), (⟨"ClassFrames$Packer", "gather", "(II[I)I"⟩, 11), (⟨"ClassFrames$Packer", "packFrame", "(I)V"⟩, 11), (⟨"ClassFrames$Packer", "startsAlike", "()Z"⟩, 11), (⟨"ClassFrames$Packer", "write", "(I)V"⟩, 11), (⟨"ClassFrames$Packer", "writeEntries", "([III)V"⟩, 11), (⟨"ClassFrames$Packer", "writeEntry", "(I)V"⟩, 11), (⟨"ClassFrames$Packer", "packWhole", "(I)V"⟩, 11), (⟨"ClassFrames$Packer", "keepAhead", "()V"⟩, 11)]
theorem lw_r2 : ∀ q ∈ lw_privs_2, lw_okq q := List.forall_mem_cons.mpr ⟨lw_p16, List.forall_mem_cons.mpr ⟨lw_p17, List.forall_mem_cons.mpr ⟨lw_p18, List.forall_mem_cons.mpr ⟨lw_p19, List.forall_mem_cons.mpr ⟨lw_p20, List.forall_mem_cons.mpr ⟨lw_p21, List.forall_mem_cons.mpr ⟨lw_p22, List.forall_mem_cons.mpr ⟨lw_p23, List.forall_mem_cons.mpr ⟨lw_p24, List.forall_mem_cons.mpr ⟨lw_p25, List.forall_mem_cons.mpr ⟨lw_p26, List.forall_mem_cons.mpr ⟨lw_p27, List.forall_mem_cons.mpr ⟨lw_p28, List.forall_mem_cons.mpr ⟨lw_p29, List.forall_mem_cons.mpr ⟨lw_p30, List.forall_mem_cons.mpr ⟨lw_p31, fun _ h => absurd h List.not_mem_nil⟩⟩⟩⟩⟩⟩⟩⟩⟩⟩⟩⟩⟩⟩⟩⟩
theorem lw_p32 : lw_okq (⟨"ClassFrames$Machine", "begin", "()V"⟩, 15) := ⟨⟨by decide +kernel, by decide +kernel⟩, List.mem_of_getElem? (i := 216) (by decide +kernel), List.mem_of_getElem? (i := 815) (by decide +kernel), List.mem_of_getElem? (i := 816) (by decide +kernel)⟩
theorem lw_p33 : lw_okq (⟨"ClassFrames$Machine", "beginLocal", "(I)V"⟩, 15) := ⟨⟨by decide +kernel, by decide +kernel⟩, List.mem_of_getElem? (i := 216) (by decide +kernel), List.mem_of_getElem? (i := 824) (by decide +kernel), List.mem_of_getElem? (i := 825) (by decide +kernel)⟩
theorem lw_p34 : lw_okq (⟨"ClassFrames$Machine", "setValue", "(IJ)V"⟩, 15) := ⟨⟨by decide +kernel, by decide +kernel⟩, List.mem_of_getElem? (i := 216) (by decide +kernel), List.mem_of_getElem? (i := 829) (by decide +kernel), List.mem_of_getElem? (i := 830) (by decide +kernel)⟩
theorem lw_p35 : lw_okq (⟨"ClassFrames$Machine", "refuse", "(I)V"⟩, 15) := ⟨⟨by decide +kernel, by decide +kernel⟩, List.mem_of_getElem? (i := 216) (by decide +kernel), List.mem_of_getElem? (i := 840) (by decide +kernel), List.mem_of_getElem? (i := 841) (by decide +kernel)⟩
theorem lw_p36 : lw_okq (⟨"ClassFrames$Machine", "step", "()V"⟩, 15) := ⟨⟨by decide +kernel, by decide +kernel⟩, List.mem_of_getElem? (i := 216) (by decide +kernel), List.mem_of_getElem? (i := 844) (by decide +kernel), List.mem_of_getElem? (i := 845) (by decide +kernel)⟩
theorem lw_p37 : lw_okq (⟨"ClassFrames$Machine", "look", "()V"⟩, 15) := ⟨⟨by decide +kernel, by decide +kernel⟩, List.mem_of_getElem? (i := 216) (by decide +kernel), List.mem_of_getElem? (i := 850) (by decide +kernel), List.mem_of_getElem? (i := 851) (by decide +kernel)⟩
theorem lw_p38 : lw_okq (⟨"ClassFrames$Machine", "value", "(I)J"⟩, 15) := ⟨⟨by decide +kernel, by decide +kernel⟩, List.mem_of_getElem? (i := 216) (by decide +kernel), List.mem_of_getElem? (i := 856) (by decide +kernel), List.mem_of_getElem? (i := 857) (by decide +kernel)⟩
theorem lw_p39 : lw_okq (⟨"ClassFrames$Machine", "refusalOf", "(II)I"⟩, 15) := ⟨⟨by decide +kernel, by decide +kernel⟩, List.mem_of_getElem? (i := 216) (by decide +kernel), List.mem_of_getElem? (i := 861) (by decide +kernel), List.mem_of_getElem? (i := 862) (by decide +kernel)⟩
theorem lw_p40 : lw_okq (⟨"ClassFrames$Machine", "takenInt", "(I)I"⟩, 15) := ⟨⟨by decide +kernel, by decide +kernel⟩, List.mem_of_getElem? (i := 216) (by decide +kernel), List.mem_of_getElem? (i := 865) (by decide +kernel), List.mem_of_getElem? (i := 866) (by decide +kernel)⟩
theorem lw_p41 : lw_okq (⟨"ClassFrames$Machine", "raise", "(IJ)V"⟩, 15) := ⟨⟨by decide +kernel, by decide +kernel⟩, List.mem_of_getElem? (i := 216) (by decide +kernel), List.mem_of_getElem? (i := 874) (by decide +kernel), List.mem_of_getElem? (i := 875) (by decide +kernel)⟩
theorem lw_p42 : lw_okq (⟨"ClassFrames$Machine", "finish", "(I)V"⟩, 15) := ⟨⟨by decide +kernel, by decide +kernel⟩, List.mem_of_getElem? (i := 216) (by decide +kernel), List.mem_of_getElem? (i := 885) (by decide +kernel), List.mem_of_getElem? (i := 886) (by decide +kernel)⟩
theorem lw_p43 : lw_okq (⟨"ClassFrames$Machine", "goTo", "(I)V"⟩, 15) := ⟨⟨by decide +kernel, by decide +kernel⟩, List.mem_of_getElem? (i := 216) (by decide +kernel), List.mem_of_getElem? (i := 891) (by decide +kernel), List.mem_of_getElem? (i := 892) (by decide +kernel)⟩
theorem lw_p44 : lw_okq (⟨"ClassFrames$Machine", "work", "(II)V"⟩, 15) := ⟨⟨by decide +kernel, by decide +kernel⟩, List.mem_of_getElem? (i := 216) (by decide +kernel), List.mem_of_getElem? (i := 896) (by decide +kernel), List.mem_of_getElem? (i := 897) (by decide +kernel)⟩
theorem lw_p45 : lw_okq (⟨"ClassFrames$Machine", "leave", "(J)V"⟩, 15) := ⟨⟨by decide +kernel, by decide +kernel⟩, List.mem_of_getElem? (i := 216) (by decide +kernel), List.mem_of_getElem? (i := 900) (by decide +kernel), List.mem_of_getElem? (i := 901) (by decide +kernel)⟩
theorem lw_p46 : lw_okq (⟨"ClassFrames$Machine", "reckon", "(I)V"⟩, 15) := ⟨⟨by decide +kernel, by decide +kernel⟩, List.mem_of_getElem? (i := 216) (by decide +kernel), List.mem_of_getElem? (i := 905) (by decide +kernel), List.mem_of_getElem? (i := 906) (by decide +kernel)⟩
theorem lw_p47 : lw_okq (⟨"ClassFrames$Machine", "goFrom", "(II)V"⟩, 15) := ⟨⟨by decide +kernel, by decide +kernel⟩, List.mem_of_getElem? (i := 216) (by decide +kernel), List.mem_of_getElem? (i := 922) (by decide +kernel), List.mem_of_getElem? (i := 923) (by decide +kernel)⟩
def lw_privs_3 : List (MethodName × Nat) := [(⟨"ClassFrames$Machine", "begin", "()V"⟩, 15), (⟨"ClassFrames$Machine", "beginLocal", "(I)V"⟩, 15), (⟨"ClassFrames$Machine", "setValue", "(IJ)V"⟩, 15), (⟨"ClassFrames$Machine", "refuse", "(I)V"⟩, 15), (⟨"ClassFrames$Machine", "step", "()V"⟩, 15), (⟨"ClassFrames$Machine", "look", "()V"⟩, 15), (⟨"ClassFrames$Machine", "value", "(I)J"⟩, 15), (⟨"ClassFrames$Machine", "refusalOf", "(II)I"⟩, 15), (⟨"ClassFrames$Machine", "takenInt", "(I)I"⟩, 15), (⟨"ClassFrames$Machine", "raise", "(IJ)V"⟩, 15), (⟨"ClassFrames$Machine", "finish", "(I)V"⟩, 15), (⟨"ClassFrames$Machine", "goTo", "(I)V"⟩, 15), (⟨"ClassFrames$Machine", "work", "(II)V"⟩, 15), (⟨"ClassFrames$Machine", "leave", "(J)V"⟩, 15), (⟨"ClassFrames$Machine", "reckon", "(I)V"⟩, 15), (⟨"ClassFrames$Machine", "goFrom", "(II)V"⟩, 15)]
theorem lw_r3 : ∀ q ∈ lw_privs_3, lw_okq q := List.forall_mem_cons.mpr ⟨lw_p32, List.forall_mem_cons.mpr ⟨lw_p33, List.forall_mem_cons.mpr ⟨lw_p34, List.forall_mem_cons.mpr ⟨lw_p35, List.forall_mem_cons.mpr ⟨lw_p36, List.forall_mem_cons.mpr ⟨lw_p37, List.forall_mem_cons.mpr ⟨lw_p38, List.forall_mem_cons.mpr ⟨lw_p39, List.forall_mem_cons.mpr ⟨lw_p40, List.forall_mem_cons.mpr ⟨lw_p41, List.forall_mem_cons.mpr ⟨lw_p42, List.forall_mem_cons.mpr ⟨lw_p43, List.forall_mem_cons.mpr ⟨lw_p44, List.forall_mem_cons.mpr ⟨lw_p45, List.forall_mem_cons.mpr ⟨lw_p46, List.forall_mem_cons.mpr ⟨lw_p47, fun _ h => absurd h List.not_mem_nil⟩⟩⟩⟩⟩⟩⟩⟩⟩⟩⟩⟩⟩⟩⟩⟩
theorem lw_p48 : lw_okq (⟨"ClassFrames$Machine", "topmostKind", "()I"⟩, 15) := ⟨⟨by decide +kernel, by decide +kernel⟩, List.mem_of_getElem? (i := 216) (by decide +kernel), List.mem_of_getElem? (i := 946) (by decide +kernel), List.mem_of_getElem? (i := 947) (by decide +kernel)⟩
theorem lw_p49 : lw_okq (⟨"ClassFrames$Machine", "hasReturned", "()Z"⟩, 15) := ⟨⟨by decide +kernel, by decide +kernel⟩, List.mem_of_getElem? (i := 216) (by decide +kernel), List.mem_of_getElem? (i := 950) (by decide +kernel), List.mem_of_getElem? (i := 951) (by decide +kernel)⟩
theorem lw_p50 : lw_okq (⟨"ClassFrames$Machine", "topmostNumber", "()J"⟩, 15) := ⟨⟨by decide +kernel, by decide +kernel⟩, List.mem_of_getElem? (i := 216) (by decide +kernel), List.mem_of_getElem? (i := 954) (by decide +kernel), List.mem_of_getElem? (i := 955) (by decide +kernel)⟩
theorem lw_p51 : lw_okq (⟨"java/lang/Throwable", "fillInStackTrace", "(I)Ljava/lang/Throwable;"⟩, 6) := ⟨⟨by decide +kernel, by decide +kernel⟩, List.mem_of_getElem? (i := 1012) (by decide +kernel), List.mem_of_getElem? (i := 1010) (by decide +kernel), List.mem_of_getElem? (i := 1011) (by decide +kernel)⟩
theorem lw_p52 : lw_okq (⟨"ClassFramesModel", "begin", "([I)V"⟩, 51) := ⟨⟨by decide +kernel, by decide +kernel⟩, List.mem_of_getElem? (i := 1073) (by decide +kernel), List.mem_of_getElem? (i := 1238) (by decide +kernel), List.mem_of_getElem? (i := 1239) (by decide +kernel)⟩
theorem lw_p53 : lw_okq (⟨"ClassFramesModel", "join", "(I[II)I"⟩, 51) := ⟨⟨by decide +kernel, by decide +kernel⟩, List.mem_of_getElem? (i := 1073) (by decide +kernel), List.mem_of_getElem? (i := 1242) (by decide +kernel), List.mem_of_getElem? (i := 1243) (by decide +kernel)⟩
theorem lw_p54 : lw_okq (⟨"ClassFramesModel", "work", "(I)I"⟩, 51) := ⟨⟨by decide +kernel, by decide +kernel⟩, List.mem_of_getElem? (i := 1073) (by decide +kernel), List.mem_of_getElem? (i := 1258) (by decide +kernel), List.mem_of_getElem? (i := 1259) (by decide +kernel)⟩
theorem lw_p55 : lw_okq (⟨"ClassFramesModel", "lay", "(I)V"⟩, 51) := ⟨⟨by decide +kernel, by decide +kernel⟩, List.mem_of_getElem? (i := 1073) (by decide +kernel), List.mem_of_getElem? (i := 1262) (by decide +kernel), List.mem_of_getElem? (i := 1263) (by decide +kernel)⟩
theorem lw_p56 : lw_okq (⟨"ClassFramesModel", "has", "(II)Z"⟩, 51) := ⟨⟨by decide +kernel, by decide +kernel⟩, List.mem_of_getElem? (i := 1073) (by decide +kernel), List.mem_of_getElem? (i := 1266) (by decide +kernel), List.mem_of_getElem? (i := 1267) (by decide +kernel)⟩
theorem lw_p57 : lw_okq (⟨"ClassFramesModel", "does", "(I)I"⟩, 51) := ⟨⟨by decide +kernel, by decide +kernel⟩, List.mem_of_getElem? (i := 1073) (by decide +kernel), List.mem_of_getElem? (i := 1270) (by decide +kernel), List.mem_of_getElem? (i := 1271) (by decide +kernel)⟩
theorem lw_p58 : lw_okq (⟨"ClassFramesModel", "push", "(I)V"⟩, 51) := ⟨⟨by decide +kernel, by decide +kernel⟩, List.mem_of_getElem? (i := 1073) (by decide +kernel), List.mem_of_getElem? (i := 1274) (by decide +kernel), List.mem_of_getElem? (i := 1275) (by decide +kernel)⟩
theorem lw_p59 : lw_okq (⟨"ClassFramesModel", "fails", "(I)V"⟩, 51) := ⟨⟨by decide +kernel, by decide +kernel⟩, List.mem_of_getElem? (i := 1073) (by decide +kernel), List.mem_of_getElem? (i := 1278) (by decide +kernel), List.mem_of_getElem? (i := 1279) (by decide +kernel)⟩
theorem lw_p60 : lw_okq (⟨"ClassFramesModel", "need", "(I)V"⟩, 51) := ⟨⟨by decide +kernel, by decide +kernel⟩, List.mem_of_getElem? (i := 1073) (by decide +kernel), List.mem_of_getElem? (i := 1282) (by decide +kernel), List.mem_of_getElem? (i := 1283) (by decide +kernel)⟩
theorem lw_p61 : lw_okq (⟨"ClassFramesModel", "top", "()I"⟩, 51) := ⟨⟨by decide +kernel, by decide +kernel⟩, List.mem_of_getElem? (i := 1073) (by decide +kernel), List.mem_of_getElem? (i := 1286) (by decide +kernel), List.mem_of_getElem? (i := 1287) (by decide +kernel)⟩
theorem lw_p62 : lw_okq (⟨"ClassFramesModel", "load", "(I)V"⟩, 51) := ⟨⟨by decide +kernel, by decide +kernel⟩, List.mem_of_getElem? (i := 1073) (by decide +kernel), List.mem_of_getElem? (i := 1293) (by decide +kernel), List.mem_of_getElem? (i := 1294) (by decide +kernel)⟩
theorem lw_p63 : lw_okq (⟨"ClassFramesModel", "store", "(I)V"⟩, 51) := ⟨⟨by decide +kernel, by decide +kernel⟩, List.mem_of_getElem? (i := 1073) (by decide +kernel), List.mem_of_getElem? (i := 1297) (by decide +kernel), List.mem_of_getElem? (i := 1298) (by decide +kernel)⟩
def lw_privs_4 : List (MethodName × Nat) := [(⟨"ClassFrames$Machine", "topmostKind", "()I"⟩, 15), (⟨"ClassFrames$Machine", "hasReturned", "()Z"⟩, 15), (⟨"ClassFrames$Machine", "topmostNumber", "()J"⟩, 15), (⟨"java/lang/Throwable", "fillInStackTrace", "(I)Ljava/lang/Throwable;"⟩, 6), (⟨"ClassFramesModel", "begin", "([I)V"⟩, 51), (⟨"ClassFramesModel", "join", "(I[II)I"⟩, 51), (⟨"ClassFramesModel", "work", "(I)I"⟩, 51), (⟨"ClassFramesModel", "lay", "(I)V"⟩, 51), (⟨"ClassFramesModel", "has", "(II)Z"⟩, 51), (⟨"ClassFramesModel", "does", "(I)I"⟩, 51), (⟨"ClassFramesModel", "push", "(I)V"⟩, 51), (⟨"ClassFramesModel", "fails", "(I)V"⟩, 51), (⟨"ClassFramesModel", "need", "(I)V"⟩, 51), (⟨"ClassFramesModel", "top", "()I"⟩, 51), (⟨"ClassFramesModel", "load", "(I)V"⟩, 51), (⟨"ClassFramesModel", "store", "(I)V"⟩, 51)]
theorem lw_r4 : ∀ q ∈ lw_privs_4, lw_okq q := List.forall_mem_cons.mpr ⟨lw_p48, List.forall_mem_cons.mpr ⟨lw_p49, List.forall_mem_cons.mpr ⟨lw_p50, List.forall_mem_cons.mpr ⟨lw_p51, List.forall_mem_cons.mpr ⟨lw_p52, List.forall_mem_cons.mpr ⟨lw_p53, List.forall_mem_cons.mpr ⟨lw_p54, List.forall_mem_cons.mpr ⟨lw_p55, List.forall_mem_cons.mpr ⟨lw_p56, List.forall_mem_cons.mpr ⟨lw_p57, List.forall_mem_cons.mpr ⟨lw_p58, List.forall_mem_cons.mpr ⟨lw_p59, List.forall_mem_cons.mpr ⟨lw_p60, List.forall_mem_cons.mpr ⟨lw_p61, List.forall_mem_cons.mpr ⟨lw_p62, List.forall_mem_cons.mpr ⟨lw_p63, fun _ h => absurd h List.not_mem_nil⟩⟩⟩⟩⟩⟩⟩⟩⟩⟩⟩⟩⟩⟩⟩⟩
theorem lw_p64 : lw_okq (⟨"ClassFramesModel", "pop", "(Z)V"⟩, 51) := ⟨⟨by decide +kernel, by decide +kernel⟩, List.mem_of_getElem? (i := 1073) (by decide +kernel), List.mem_of_getElem? (i := 1301) (by decide +kernel), List.mem_of_getElem? (i := 1302) (by decide +kernel)⟩
theorem lw_p65 : lw_okq (⟨"ClassFramesModel", "jumps", "(I)I"⟩, 51) := ⟨⟨by decide +kernel, by decide +kernel⟩, List.mem_of_getElem? (i := 1073) (by decide +kernel), List.mem_of_getElem? (i := 1305) (by decide +kernel), List.mem_of_getElem? (i := 1306) (by decide +kernel)⟩
theorem lw_p66 : lw_okq (⟨"ClassFramesModel", "jump", "(II)I"⟩, 51) := ⟨⟨by decide +kernel, by decide +kernel⟩, List.mem_of_getElem? (i := 1073) (by decide +kernel), List.mem_of_getElem? (i := 1309) (by decide +kernel), List.mem_of_getElem? (i := 1310) (by decide +kernel)⟩
theorem lw_p67 : lw_okq (⟨"ClassFramesModel", "goesOn", "(I)Z"⟩, 51) := ⟨⟨by decide +kernel, by decide +kernel⟩, List.mem_of_getElem? (i := 1073) (by decide +kernel), List.mem_of_getElem? (i := 1313) (by decide +kernel), List.mem_of_getElem? (i := 1314) (by decide +kernel)⟩
theorem lw_p68 : lw_okq (⟨"ClassFramesModel", "isFrame", "(I)Z"⟩, 51) := ⟨⟨by decide +kernel, by decide +kernel⟩, List.mem_of_getElem? (i := 1073) (by decide +kernel), List.mem_of_getElem? (i := 1317) (by decide +kernel), List.mem_of_getElem? (i := 1318) (by decide +kernel)⟩
theorem lw_p69 : lw_okq (⟨"ClassFramesModel", "keep", "(I)V"⟩, 51) := ⟨⟨by decide +kernel, by decide +kernel⟩, List.mem_of_getElem? (i := 1073) (by decide +kernel), List.mem_of_getElem? (i := 1321) (by decide +kernel), List.mem_of_getElem? (i := 1322) (by decide +kernel)⟩
theorem lw_p70 : lw_okq (⟨"ClassFramesModel", "frameAt", "(I)I"⟩, 51) := ⟨⟨by decide +kernel, by decide +kernel⟩, List.mem_of_getElem? (i := 1073) (by decide +kernel), List.mem_of_getElem? (i := 1332) (by decide +kernel), List.mem_of_getElem? (i := 1333) (by decide +kernel)⟩
theorem lw_p71 : lw_okq (⟨"ClassFramesModel", "goes", "(I)Z"⟩, 51) := ⟨⟨by decide +kernel, by decide +kernel⟩, List.mem_of_getElem? (i := 1073) (by decide +kernel), List.mem_of_getElem? (i := 1336) (by decide +kernel), List.mem_of_getElem? (i := 1337) (by decide +kernel)⟩
theorem lw_p72 : lw_okq (⟨"ClassFramesModel", "localsGo", "(I)Z"⟩, 51) := ⟨⟨by decide +kernel, by decide +kernel⟩, List.mem_of_getElem? (i := 1073) (by decide +kernel), List.mem_of_getElem? (i := 1340) (by decide +kernel), List.mem_of_getElem? (i := 1341) (by decide +kernel)⟩
theorem lw_p73 : lw_okq (⟨"ClassFramesModel", "frameLocal", "(II)I"⟩, 51) := ⟨⟨by decide +kernel, by decide +kernel⟩, List.mem_of_getElem? (i := 1073) (by decide +kernel), List.mem_of_getElem? (i := 1344) (by decide +kernel), List.mem_of_getElem? (i := 1345) (by decide +kernel)⟩
theorem lw_p74 : lw_okq (⟨"ClassFramesModel", "take", "(I)V"⟩, 51) := ⟨⟨by decide +kernel, by decide +kernel⟩, List.mem_of_getElem? (i := 1073) (by decide +kernel), List.mem_of_getElem? (i := 1348) (by decide +kernel), List.mem_of_getElem? (i := 1349) (by decide +kernel)⟩
theorem lw_p75 : lw_okq (⟨"ClassFramesModel", "isRight", "(I)Z"⟩, 51) := ⟨⟨by decide +kernel, by decide +kernel⟩, List.mem_of_getElem? (i := 1073) (by decide +kernel), List.mem_of_getElem? (i := 1352) (by decide +kernel), List.mem_of_getElem? (i := 1353) (by decide +kernel)⟩
theorem lw_p76 : lw_okq (⟨"ClassFramesModel", "pack", "(I)V"⟩, 51) := ⟨⟨by decide +kernel, by decide +kernel⟩, List.mem_of_getElem? (i := 1073) (by decide +kernel), List.mem_of_getElem? (i := 1360) (by decide +kernel), List.mem_of_getElem? (i := 1361) (by decide +kernel)⟩
theorem lw_p77 : lw_okq (⟨"ClassFramesModel", "alike", "(I)Z"⟩, 51) := ⟨⟨by decide +kernel, by decide +kernel⟩, List.mem_of_getElem? (i := 1073) (by decide +kernel), List.mem_of_getElem? (i := 1373) (by decide +kernel), List.mem_of_getElem? (i := 1374) (by decide +kernel)⟩
theorem lw_p78 : lw_okq (⟨"ClassFramesModel", "put", "(I)V"⟩, 51) := ⟨⟨by decide +kernel, by decide +kernel⟩, List.mem_of_getElem? (i := 1073) (by decide +kernel), List.mem_of_getElem? (i := 1377) (by decide +kernel), List.mem_of_getElem? (i := 1378) (by decide +kernel)⟩
theorem lw_p79 : lw_okq (⟨"ClassFramesModel", "putEntries", "([III)V"⟩, 51) := ⟨⟨by decide +kernel, by decide +kernel⟩, List.mem_of_getElem? (i := 1073) (by decide +kernel), List.mem_of_getElem? (i := 1381) (by decide +kernel), List.mem_of_getElem? (i := 1382) (by decide +kernel)⟩
def lw_privs_5 : List (MethodName × Nat) := [(⟨"ClassFramesModel", "pop", "(Z)V"⟩, 51), (⟨"ClassFramesModel", "jumps", "(I)I"⟩, 51), (⟨"ClassFramesModel", "jump", "(II)I"⟩, 51), (⟨"ClassFramesModel", "goesOn", "(I)Z"⟩, 51), (⟨"ClassFramesModel", "isFrame", "(I)Z"⟩, 51), (⟨"ClassFramesModel", "keep", "(I)V"⟩, 51), (⟨"ClassFramesModel", "frameAt", "(I)I"⟩, 51), (⟨"ClassFramesModel", "goes", "(I)Z"⟩, 51), (⟨"ClassFramesModel", "localsGo", "(I)Z"⟩, 51), (⟨"ClassFramesModel", "frameLocal", "(II)I"⟩, 51), (⟨"ClassFramesModel", "take", "(I)V"⟩, 51), (⟨"ClassFramesModel", "isRight", "(I)Z"⟩, 51), (⟨"ClassFramesModel", "pack", "(I)V"⟩, 51), (⟨"ClassFramesModel", "alike", "(I)Z"⟩, 51), (⟨"ClassFramesModel", "put", "(I)V"⟩, 51), (⟨"ClassFramesModel", "putEntries", "([III)V"⟩, 51)]
theorem lw_r5 : ∀ q ∈ lw_privs_5, lw_okq q := List.forall_mem_cons.mpr ⟨lw_p64, List.forall_mem_cons.mpr ⟨lw_p65, List.forall_mem_cons.mpr ⟨lw_p66, List.forall_mem_cons.mpr ⟨lw_p67, List.forall_mem_cons.mpr ⟨lw_p68, List.forall_mem_cons.mpr ⟨lw_p69, List.forall_mem_cons.mpr ⟨lw_p70, List.forall_mem_cons.mpr ⟨lw_p71, List.forall_mem_cons.mpr ⟨lw_p72, List.forall_mem_cons.mpr ⟨lw_p73, List.forall_mem_cons.mpr ⟨lw_p74, List.forall_mem_cons.mpr ⟨lw_p75, List.forall_mem_cons.mpr ⟨lw_p76, List.forall_mem_cons.mpr ⟨lw_p77, List.forall_mem_cons.mpr ⟨lw_p78, List.forall_mem_cons.mpr ⟨lw_p79, fun _ h => absurd h List.not_mem_nil⟩⟩⟩⟩⟩⟩⟩⟩⟩⟩⟩⟩⟩⟩⟩⟩
theorem lw_p80 : lw_okq (⟨"ClassFramesModel", "fill", "()V"⟩, 51) := ⟨⟨by decide +kernel, by decide +kernel⟩, List.mem_of_getElem? (i := 1073) (by decide +kernel), List.mem_of_getElem? (i := 1430) (by decide +kernel), List.mem_of_getElem? (i := 1431) (by decide +kernel)⟩
theorem lw_p81 : lw_okq (⟨"ClassFramesModel", "thing", "(I)I"⟩, 51) := ⟨⟨by decide +kernel, by decide +kernel⟩, List.mem_of_getElem? (i := 1073) (by decide +kernel), List.mem_of_getElem? (i := 1435) (by decide +kernel), List.mem_of_getElem? (i := 1436) (by decide +kernel)⟩
theorem lw_p82 : lw_okq (⟨"ClassFramesModel", "over", "(I)V"⟩, 51) := ⟨⟨by decide +kernel, by decide +kernel⟩, List.mem_of_getElem? (i := 1073) (by decide +kernel), List.mem_of_getElem? (i := 1439) (by decide +kernel), List.mem_of_getElem? (i := 1440) (by decide +kernel)⟩
theorem lw_p83 : lw_okq (⟨"ClassFramesModel", "step", "(I)V"⟩, 51) := ⟨⟨by decide +kernel, by decide +kernel⟩, List.mem_of_getElem? (i := 1073) (by decide +kernel), List.mem_of_getElem? (i := 1443) (by decide +kernel), List.mem_of_getElem? (i := 1444) (by decide +kernel)⟩
theorem lw_p84 : lw_okq (⟨"ClassFramesModel", "bad", "(II)V"⟩, 51) := ⟨⟨by decide +kernel, by decide +kernel⟩, List.mem_of_getElem? (i := 1073) (by decide +kernel), List.mem_of_getElem? (i := 1447) (by decide +kernel), List.mem_of_getElem? (i := 1448) (by decide +kernel)⟩
theorem lw_p85 : lw_okq (⟨"ClassFramesModel", "acts", "(II)V"⟩, 51) := ⟨⟨by decide +kernel, by decide +kernel⟩, List.mem_of_getElem? (i := 1073) (by decide +kernel), List.mem_of_getElem? (i := 1451) (by decide +kernel), List.mem_of_getElem? (i := 1452) (by decide +kernel)⟩
theorem lw_p86 : lw_okq (⟨"ClassFramesModel", "row", "(II)V"⟩, 51) := ⟨⟨by decide +kernel, by decide +kernel⟩, List.mem_of_getElem? (i := 1073) (by decide +kernel), List.mem_of_getElem? (i := 1455) (by decide +kernel), List.mem_of_getElem? (i := 1456) (by decide +kernel)⟩
theorem lw_p87 : lw_okq (⟨"ClassFramesModel", "refuse", "(II)V"⟩, 51) := ⟨⟨by decide +kernel, by decide +kernel⟩, List.mem_of_getElem? (i := 1073) (by decide +kernel), List.mem_of_getElem? (i := 1459) (by decide +kernel), List.mem_of_getElem? (i := 1460) (by decide +kernel)⟩
theorem lw_p88 : lw_okq (⟨"ClassFramesModel", "raise", "(III)V"⟩, 51) := ⟨⟨by decide +kernel, by decide +kernel⟩, List.mem_of_getElem? (i := 1073) (by decide +kernel), List.mem_of_getElem? (i := 1463) (by decide +kernel), List.mem_of_getElem? (i := 1464) (by decide +kernel)⟩
theorem lw_p89 : lw_okq (⟨"ClassFramesModel", "go", "(II)V"⟩, 51) := ⟨⟨by decide +kernel, by decide +kernel⟩, List.mem_of_getElem? (i := 1073) (by decide +kernel), List.mem_of_getElem? (i := 1467) (by decide +kernel), List.mem_of_getElem? (i := 1468) (by decide +kernel)⟩
theorem lw_p90 : lw_okq (⟨"ClassFramesModel", "makes", "(II)V"⟩, 51) := ⟨⟨by decide +kernel, by decide +kernel⟩, List.mem_of_getElem? (i := 1073) (by decide +kernel), List.mem_of_getElem? (i := 1471) (by decide +kernel), List.mem_of_getElem? (i := 1472) (by decide +kernel)⟩
theorem lw_p91 : lw_okq (⟨"ClassFramesModel", "numbers", "(II)V"⟩, 51) := ⟨⟨by decide +kernel, by decide +kernel⟩, List.mem_of_getElem? (i := 1073) (by decide +kernel), List.mem_of_getElem? (i := 1476) (by decide +kernel), List.mem_of_getElem? (i := 1477) (by decide +kernel)⟩
def lw_privs_6 : List (MethodName × Nat) := [(⟨"ClassFramesModel", "fill", "()V"⟩, 51), (⟨"ClassFramesModel", "thing", "(I)I"⟩, 51), (⟨"ClassFramesModel", "over", "(I)V"⟩, 51), (⟨"ClassFramesModel", "step", "(I)V"⟩, 51), (⟨"ClassFramesModel", "bad", "(II)V"⟩, 51), (⟨"ClassFramesModel", "acts", "(II)V"⟩, 51), (⟨"ClassFramesModel", "row", "(II)V"⟩, 51), (⟨"ClassFramesModel", "refuse", "(II)V"⟩, 51), (⟨"ClassFramesModel", "raise", "(III)V"⟩, 51), (⟨"ClassFramesModel", "go", "(II)V"⟩, 51), (⟨"ClassFramesModel", "makes", "(II)V"⟩, 51), (⟨"ClassFramesModel", "numbers", "(II)V"⟩, 51)]
theorem lw_r6 : ∀ q ∈ lw_privs_6, lw_okq q := List.forall_mem_cons.mpr ⟨lw_p80, List.forall_mem_cons.mpr ⟨lw_p81, List.forall_mem_cons.mpr ⟨lw_p82, List.forall_mem_cons.mpr ⟨lw_p83, List.forall_mem_cons.mpr ⟨lw_p84, List.forall_mem_cons.mpr ⟨lw_p85, List.forall_mem_cons.mpr ⟨lw_p86, List.forall_mem_cons.mpr ⟨lw_p87, List.forall_mem_cons.mpr ⟨lw_p88, List.forall_mem_cons.mpr ⟨lw_p89, List.forall_mem_cons.mpr ⟨lw_p90, List.forall_mem_cons.mpr ⟨lw_p91, fun _ h => absurd h List.not_mem_nil⟩⟩⟩⟩⟩⟩⟩⟩⟩⟩⟩⟩
def lw_privs : List (MethodName × Nat) := lw_privs_1 ++ (lw_privs_2 ++ (lw_privs_3 ++ (lw_privs_4 ++ (lw_privs_5 ++ (lw_privs_6)))))
def lw_tbl : List Cond := k2_sels lw_privs ++ tables_1
theorem lw_privs_ok : ∀ q ∈ lw_privs, lw_okq q := by
  show ∀ q ∈ lw_privs_1 ++ (lw_privs_2 ++ (lw_privs_3 ++ (lw_privs_4 ++ (lw_privs_5 ++ (lw_privs_6))))), lw_okq q
  exact List.forall_mem_append.mpr ⟨lw_r1, List.forall_mem_append.mpr ⟨lw_r2, List.forall_mem_append.mpr ⟨lw_r3, List.forall_mem_append.mpr ⟨lw_r4, List.forall_mem_append.mpr ⟨lw_r5, lw_r6⟩⟩⟩⟩⟩
end
section
/-! ===== 01: an interpreter of the instructions that the class and the reference use, over a heap of cells that are known by their numbers (a reference is .ref of a cell's number); no cell is made. Program tables are a parameter. ===== -/
/-- a cell: an array (kind 0 int, 1 long, 2 boolean; its contents), or an object (number of its class; its fields) -/
abbrev zx_E : Type := (Nat × vp_A) ⊕ (Nat × List Value)
abbrev zx_H : Type := List zx_E
abbrev zx_L : Type := List (Nat × Value)
/-- a method: name, bytes, locals, return type, class of its receiver (none: static), parameters, number of its own class, instructions -/
abbrev zx_M : Type := MethodName × ByteArray × Nat × Option FieldType × Option Nat × Nat × Nat × List (Nat × Instr × Nat)
abbrev zx_my (q : zx_M) : MethodName := q.1
abbrev zx_mb (q : zx_M) : ByteArray := q.2.1
abbrev zx_ml (q : zx_M) : Nat := q.2.2.1
abbrev zx_mr (q : zx_M) : Option FieldType := q.2.2.2.1
abbrev zx_mc (q : zx_M) : Option Nat := q.2.2.2.2.1
abbrev zx_mp (q : zx_M) : Nat := q.2.2.2.2.2.1
abbrev zx_mo (q : zx_M) : Nat := q.2.2.2.2.2.2.1
abbrev zx_mi (q : zx_M) : List (Nat × Instr × Nat) := q.2.2.2.2.2.2.2
/-- the program: methods; names of own classes; (own class, entry) to (class, field); .. to method; .. to the number of a static row; rows; .. to a long; a field's type and whether it is final; .. to whether it is Math.min -/
abbrev zx_P : Type := List zx_M × (Nat → String) × (Nat → Nat → Option (Nat × Nat)) × (Nat → Nat → Option Nat) × (Nat → Nat → Option Nat) × (Nat → Option (Nat × (Nat → Int32))) × (Nat → Nat → Option Int64) × (Nat → Nat → FieldType × Bool) × (Nat → Nat → Bool)
abbrev zx_pm (P : zx_P) : List zx_M := P.1
abbrev zx_po (P : zx_P) : Nat → String := P.2.1
abbrev zx_pf (P : zx_P) : Nat → Nat → Option (Nat × Nat) := P.2.2.1
abbrev zx_pc (P : zx_P) : Nat → Nat → Option Nat := P.2.2.2.1
abbrev zx_ps (P : zx_P) : Nat → Nat → Option Nat := P.2.2.2.2.1
abbrev zx_pa (P : zx_P) : Nat → Option (Nat × (Nat → Int32)) := P.2.2.2.2.2.1
abbrev zx_pl (P : zx_P) : Nat → Nat → Option Int64 := P.2.2.2.2.2.2.1
abbrev zx_pt (P : zx_P) : Nat → Nat → FieldType × Bool := P.2.2.2.2.2.2.2.1
abbrev zx_pn (P : zx_P) : Nat → Nat → Bool := P.2.2.2.2.2.2.2.2
def zx_at : List (Nat × Instr × Nat) → Nat → Option (Instr × Nat)
  | [], _ => none
  | q :: r, pc => match Nat.beq q.1 pc with
    | true => some q.2
    | false => zx_at r pc
def zx_lk : zx_L → Nat → Option Value
  | [], _ => none
  | q :: r, i => match Nat.beq q.1 i with
    | true => some q.2
    | false => zx_lk r i
def zx_set1 (ls : zx_L) (i : Nat) (v : Value) : zx_L := (i, v) :: ls.filter (fun q => !(q.1 == i) && !(q.1 + 1 == i && q.2.category == 2))
def zx_set2 (ls : zx_L) (i : Nat) (v : Value) : zx_L := (i, v) :: ls.filter (fun q => !(q.1 == i) && (!(q.1 == i + 1) && !(q.1 + 1 == i && q.2.category == 2)))
/-- what works on the stack alone: the instruction's length, the stack behind it -/
def zx_s (i : Instr) (st : List Value) : Option (Nat × List Value) :=
  match i, st with
  | .iconst n, st => some (1, .int (Int32.ofInt n) :: st)
  | .bipush n, st => some (2, .int (Int8.ofInt n).toInt32 :: st)
  | .sipush n, st => some (3, .int (Int16.ofInt n).toInt32 :: st)
  | .lconst n, st => some (1, .long (Int64.ofNat n.val) :: st)
  | .iadd, .int y :: .int x :: r => some (1, .int (x + y) :: r)
  | .isub, .int y :: .int x :: r => some (1, .int (x - y) :: r)
  | .imul, .int y :: .int x :: r => some (1, .int (x * y) :: r)
  | .iand, .int y :: .int x :: r => some (1, .int (x &&& y) :: r)
  | .idiv, .int y :: .int x :: r => if y = 0 then none else some (1, .int (x / y) :: r)
  | .iushr, .int y :: .int x :: r => some (1, .int ((x.toUInt32 >>> (y.toUInt32 &&& Int32.toUInt32 31)).toInt32) :: r)
  | .ladd, .long y :: .long x :: r => some (1, .long (x + y) :: r)
  | .land, .long y :: .long x :: r => some (1, .long (x &&& y) :: r)
  | .lor, .long y :: .long x :: r => some (1, .long (x ||| y) :: r)
  | .ldiv, .long y :: .long x :: r => if y = 0 then none else some (1, .long (x / y) :: r)
  | .lshl, .int y :: .long x :: r => some (1, .long (x <<< (y.toInt64 &&& 63)) :: r)
  | .i2l, .int x :: r => some (1, .long x.toInt64 :: r)
  | .l2i, .long x :: r => some (1, .int x.toInt32 :: r)
  | .lcmp, .long y :: .long x :: r => some (1, .int (lg_cmp x y) :: r)
  | .dup, v :: r => if v.category = 1 then some (1, v :: v :: r) else none
  | .pop, v :: r => if v.category = 1 then some (1, r) else none
  | .pop2, v :: r => if v.category = 2 then some (1, r) else none
  | .dup_x1, v :: w :: r => if v.category = 1 ∧ w.category = 1 then some (1, v :: w :: v :: r) else none
  | _, _ => none
def zx_gi (ls : zx_L) (k n : Nat) : Option (Nat × Value) := match zx_lk ls k with
  | some (.int x) => some (n, .int x)
  | _ => none
def zx_gl (ls : zx_L) (k n : Nat) : Option (Nat × Value) := match zx_lk ls k with
  | some (.long x) => some (n, .long x)
  | _ => none
def zx_gr (ls : zx_L) (k n : Nat) : Option (Nat × Value) := match zx_lk ls k with
  | some (.ref x) => some (n, .ref x)
  | _ => none
/-- loads -/
def zx_l (i : Instr) (ls : zx_L) : Option (Nat × Value) :=
  match i with
  | .iload_n k => zx_gi ls k.val 1
  | .iload k => zx_gi ls k 2
  | .lload_n k => zx_gl ls k.val 1
  | .lload k => zx_gl ls k 2
  | .aload_n k => zx_gr ls k.val 1
  | .aload k => zx_gr ls k 2
  | _ => none
/-- stores, iinc -/
def zx_t (i : Instr) (nL : Nat) (ls : zx_L) (st : List Value) : Option (Nat × zx_L × List Value) :=
  match i, st with
  | .istore_n k, .int x :: r => if k.val < nL then some (1, zx_set1 ls k.val (.int x), r) else none
  | .istore k, .int x :: r => if k < nL then some (2, zx_set1 ls k (.int x), r) else none
  | .lstore_n k, .long x :: r => if k.val + 1 < nL then some (1, zx_set2 ls k.val (.long x), r) else none
  | .lstore k, .long x :: r => if k + 1 < nL then some (2, zx_set2 ls k (.long x), r) else none
  | .astore_n k, .ref x :: r => if k.val < nL then some (1, zx_set1 ls k.val (.ref x), r) else none
  | .astore k, .ref x :: r => if k < nL then some (2, zx_set1 ls k (.ref x), r) else none
  | .iinc k n, st => match zx_lk ls k with
    | some (.int x) => if k < nL then some (3, zx_set1 ls k (.int (x + Int32.ofInt n)), st) else none
    | _ => none
  | _, _ => none
def zx_tg (pc : Nat) (off : Int) : Option Nat := if 0 ≤ (pc : Int) + off then some ((pc : Int) + off).toNat else none
def zx_cmp (k : Jvm.ClassFile.Cond) (x y : Int32) : Bool := match k with
  | .eq => decide (x = y)
  | .ne => decide (¬ x = y)
  | .lt => decide (x < y)
  | .ge => decide (y ≤ x)
  | .gt => decide (y < x)
  | .le => decide (x ≤ y)
/-- jumps: where it goes on, the stack there -/
def zx_j (i : Instr) (n pc : Nat) (st : List Value) : Option (Nat × List Value) :=
  match i, st with
  | .goto off, st => if n = 3 then (zx_tg pc off).map (fun t => (t, st)) else none
  | .ifCond k off, .int x :: r => if n = 3 then (match zx_tg pc off with
    | some t => some (if zx_cmp k x 0 then t else pc + 3, r)
    | none => none) else none
  | .if_icmp k off, .int y :: .int x :: r => if n = 3 then (match zx_tg pc off with
    | some t => some (if zx_cmp k x y then t else pc + 3, r)
    | none => none) else none
  | .tableswitch dflt lo hi offs, .int x :: r => if x.toInt < lo ∨ hi < x.toInt then (zx_tg pc dflt).map (fun t => (t, r)) else (match offs[(x.toInt - lo).toNat]? with
    | some off => (zx_tg pc off).map (fun t => (t, r))
    | none => none)
  | .lookupswitch dflt ps, .int x :: r => if (ps.toList.zip (ps.toList.drop 1)).all (fun q => q.1.1 < q.2.1) = true then (zx_tg pc (Op.lookupswitch.offset ps.toList dflt x.toInt)).map (fun t => (t, r)) else none
  | _, _ => none
/-- fields, arrays, constants: length, stack, heap -/
def zx_gf (P : zx_P) (o idx a : Nat) (h : zx_H) : Option Value := match zx_pf P o idx with
  | some (ci, k) => (match h[a]? with
    | some (.inr (cj, fs)) => if cj = ci then fs[k]? else none
    | _ => none)
  | none => none
def zx_pu (P : zx_P) (o idx a : Nat) (v : Value) (h : zx_H) : Option zx_H := match zx_pf P o idx with
  | some (ci, k) => (match h[a]? with
    | some (.inr (cj, fs)) => if cj = ci ∧ k < fs.length ∧ (zx_pt P ci k).2 = false ∧ narrow (zx_pt P ci k).1 v = v ∧ fits (zx_pt P ci k).1 v = true then some (h.set a (.inr (cj, fs.set k v))) else none
    | _ => none)
  | none => none
def zx_g (P : zx_P) (o : Nat) (i : Instr) (st : List Value) (h : zx_H) : Option (Nat × List Value × zx_H) :=
  match i, st with
  | .getfield idx, .ref a :: r => (zx_gf P o idx a h).map (fun v => (3, v :: r, h))
  | .putfield idx, .int x :: .ref a :: r => (zx_pu P o idx a (.int x) h).map (fun h' => (3, r, h'))
  | .putfield idx, .long x :: .ref a :: r => (zx_pu P o idx a (.long x) h).map (fun h' => (3, r, h'))
  | .iaload, .int i :: .ref a :: r => (match h[a]? with
    | some (.inl (0, n, .inl f)) => if i < 0 ∨ n ≤ i.toNatClampNeg then none else some (1, .int (f i.toNatClampNeg) :: r, h)
    | none => (match zx_pa P a with
      | some (n, f) => if i < 0 ∨ n ≤ i.toNatClampNeg then none else some (1, .int (f i.toNatClampNeg) :: r, h)
      | none => none)
    | _ => none)
  | .laload, .int i :: .ref a :: r => (match h[a]? with
    | some (.inl (1, n, .inr (.inl f))) => if i < 0 ∨ n ≤ i.toNatClampNeg then none else some (1, .long (f i.toNatClampNeg) :: r, h)
    | _ => none)
  | .baload, .int i :: .ref a :: r => (match h[a]? with
    | some (.inl (2, n, .inl f)) => if i < 0 ∨ n ≤ i.toNatClampNeg then none else some (1, .int (f i.toNatClampNeg) :: r, h)
    | _ => none)
  | .iastore, .int x :: .int i :: .ref a :: r => (match h[a]? with
    | some (.inl (0, n, .inl f)) => if i < 0 ∨ n ≤ i.toNatClampNeg then none else some (1, r, h.set a (.inl (0, n, .inl (upd f i.toNatClampNeg x))))
    | _ => none)
  | .lastore, .long x :: .int i :: .ref a :: r => (match h[a]? with
    | some (.inl (1, n, .inr (.inl f))) => if i < 0 ∨ n ≤ i.toNatClampNeg then none else some (1, r, h.set a (.inl (1, n, .inr (.inl (vp_updL f i.toNatClampNeg x)))))
    | _ => none)
  | .bastore, .int x :: .int i :: .ref a :: r => (match h[a]? with
    | some (.inl (2, n, .inl f)) => if i < 0 ∨ n ≤ i.toNatClampNeg then none else some (1, r, h.set a (.inl (2, n, .inl (upd f i.toNatClampNeg (vp_nar .boolean x)))))
    | _ => none)
  | .arraylength, .ref a :: r => (match h[a]? with
    | some (.inl (t, n, _)) => if t < 3 then some (1, .int (Int32.ofNat n) :: r, h) else none
    | none => (match zx_pa P a with
      | some (n, _) => some (1, .int (Int32.ofNat n) :: r, h)
      | none => none)
    | _ => none)
  | .getstatic idx, st => (zx_ps P o idx).map (fun k => (3, .ref k :: st, h))
  | .ldc2_w idx, st => (zx_pl P o idx).map (fun v => (3, .long v :: st, h))
  | _, _ => none
/-- calls: the method's number, its arguments, the rest of the stack -/
def zx_k (P : zx_P) (o : Nat) (i : Instr) (n : Nat) (st : List Value) (h : zx_H) : Option (Nat × List Value × List Value) :=
  match i with
  | .invokevirtual idx => (match zx_pc P o idx with
    | some cj => (match (zx_pm P)[cj]? with
      | some q => (match st.drop (zx_mp q) with
        | .ref b :: rest => (match h[b]? with
          | some (.inr (ci, _)) => if n = 3 ∧ zx_mc q = some ci ∧ (st.take (zx_mp q)).length = zx_mp q ∧ (rest.map fun v => v.category).sum ≤ 8 ∧ zx_ml q ≤ 21 ∧ (lg_sl (.ref b :: (st.take (zx_mp q)).reverse)).length ≤ zx_ml q then some (cj, .ref b :: (st.take (zx_mp q)).reverse, rest) else none
          | _ => none)
        | _ => none)
      | none => none)
    | none => none)
  | .invokestatic idx => (match zx_pc P o idx with
    | some cj => (match (zx_pm P)[cj]? with
      | some q => if n = 3 ∧ zx_mc q = none ∧ (st.take (zx_mp q)).length = zx_mp q ∧ ((st.drop (zx_mp q)).map fun v => v.category).sum ≤ 8 ∧ zx_ml q ≤ 21 ∧ (lg_sl (st.take (zx_mp q)).reverse).length ≤ zx_ml q then some (cj, (st.take (zx_mp q)).reverse, st.drop (zx_mp q)) else none
      | none => none)
    | none => none)
  | _ => none
/-- Math.min, which the machine has by itself -/
def zx_n (P : zx_P) (o : Nat) (i : Instr) (n : Nat) (st : List Value) : Option (List Value) :=
  match i, st with
  | .invokestatic idx, .int y :: .int x :: r => if zx_pn P o idx = true ∧ n = 3 ∧ (r.map fun v => v.category).sum ≤ 8 then some (.int (if y < x then y else x) :: r) else none
  | _, _ => none
/-- returns -/
def zx_r (i : Instr) (n : Nat) (ret : Option FieldType) (st : List Value) : Option (Option Value) :=
  match i, st, ret with
  | .ireturn, [.int v], some ty => if n = 1 ∧ narrow ty (.int v) = .int v then some (some (.int v)) else none
  | .lreturn, [.long v], some .long => if n = 1 then some (some (.long v)) else none
  | .return_, [], none => if n = 1 then some none else none
  | _, _, _ => none
/-- the interpreter: fuel, depth left, method, pc, locals, stack, heap -/
def zx_x (P : zx_P) : Nat → Nat → zx_M → Nat → zx_L → List Value → zx_H → Option (Option Value × zx_H)
  | 0, _, _, _, _, _, _ => none
  | n + 1, d, q, pc, ls, st, h =>
    match zx_at (zx_mi q) pc with
    | none => none
    | some (i, len) =>
      match zx_s i st with
      | some (k, st') => if len = k then zx_x P n d q (pc + k) ls st' h else none
      | none =>
      match zx_l i ls with
      | some (k, v) => if len = k then zx_x P n d q (pc + k) ls (v :: st) h else none
      | none =>
      match zx_t i (zx_ml q) ls st with
      | some (k, ls', st') => if len = k then zx_x P n d q (pc + k) ls' st' h else none
      | none =>
      match zx_j i len pc st with
      | some (pc', st') => zx_x P n d q pc' ls st' h
      | none =>
      match zx_g P (zx_mo q) i st h with
      | some (k, st', h') => if len = k then zx_x P n d q (pc + k) ls st' h' else none
      | none =>
      match zx_r i len (zx_mr q) st with
      | some r => some (r, h)
      | none =>
      match zx_n P (zx_mo q) i len st with
      | some st' =>
        (match d with
        | 0 => none
        | d' + 1 => zx_x P n (d' + 1) q (pc + 3) ls st' h)
      | none =>
      match zx_k P (zx_mo q) i len st h with
      | some (cj, as, rest) =>
        (match d with
        | 0 => none
        | d' + 1 =>
          (match (zx_pm P)[cj]? with
          | none => none
          | some q' =>
            (match zx_x P n d' q' 0 (lv_args 0 as) [] h with
            | none => none
            | some (r, h') => zx_x P n (d' + 1) q (pc + 3) ls (r.toList ++ rest) h')))
      | none => none
end
section
/-! ===== 02: from the interpreter's heap to the machine's world ===== -/
def zx_v (ad : Nat → Nat) : Value → Value
  | .ref i => .ref (ad i)
  | v => v
def zx_e (ad : Nat → Nat) (cA : Nat → ClassId) : zx_E → va_E
  | .inl (t, a) => .inl (cA t, a)
  | .inr (ci, fs) => .inr (ci, fs.map (zx_v ad))
def zx_w (ad : Nat → Nat) (cA : Nat → ClassId) (h : zx_H) : va_W := h.mapIdx (fun i c => (ad i, zx_e ad cA c))
def zx_lm (ad : Nat → Nat) (ls : zx_L) : List (Nat × Value) := ls.map (fun q => (q.1, zx_v ad q.2))
def zx_ty (cA : Nat → ClassId) : List (ClassId × FieldType) := [(cA 0, .int), (cA 1, .long), (cA 2, .boolean)]
theorem zx_v_cat (ad : Nat → Nat) (v : Value) : (zx_v ad v).category = v.category := by cases v <;> rfl
theorem zx_w_get (ad : Nat → Nat) (cA : Nat → ClassId) (h : zx_H) (i : Nat) : (zx_w ad cA h)[i]? = (h[i]?).map (fun c => (ad i, zx_e ad cA c)) := by
  simp [zx_w]
theorem zx_w_at {ad : Nat → Nat} {cA : Nat → ClassId} {h : zx_H} {i : Nat} {c : zx_E} (hc : h[i]? = some c) : (zx_w ad cA h)[i]? = some (ad i, zx_e ad cA c) := by
  rw [zx_w_get, hc]; rfl
theorem zx_w_set (ad : Nat → Nat) (cA : Nat → ClassId) (h : zx_H) (i : Nat) (c : zx_E) : (zx_w ad cA h).set i (ad i, zx_e ad cA c) = zx_w ad cA (h.set i c) := by
  refine List.ext_getElem? fun j => ?_
  rw [zx_w_get, List.getElem?_set, List.getElem?_set, zx_w_get]
  by_cases e : i = j
  · subst e
    have : (zx_w ad cA h).length = h.length := by simp [zx_w]
    rw [if_pos rfl, if_pos rfl, this]
    by_cases hl : i < h.length
    · simp [hl]
    · simp [hl]
  · rw [if_neg e, if_neg e]
theorem zx_lk_mem {ls : zx_L} {i : Nat} {v : Value} (h : zx_lk ls i = some v) : (i, v) ∈ ls := by
  induction ls with
  | nil => simp [zx_lk] at h
  | cons q r ih =>
    rw [zx_lk] at h
    split at h
    · next e =>
      have e' : q.1 = i := Nat.eq_of_beq_eq_true e
      have : q = (i, v) := by rw [← e', ← Option.some.inj h]
      rw [this]; exact List.mem_cons_self
    · exact List.mem_cons_of_mem _ (ih h)
theorem zx_at_mem {tab : List (Nat × Instr × Nat)} {pc : Nat} {i : Instr × Nat} (h : zx_at tab pc = some i) : (pc, i) ∈ tab := by
  induction tab with
  | nil => simp [zx_at] at h
  | cons q r ih =>
    rw [zx_at] at h
    split at h
    · next e =>
      have e' : q.1 = pc := Nat.eq_of_beq_eq_true e
      have : q = (pc, i) := by rw [← e', ← Option.some.inj h]
      rw [this]; exact List.mem_cons_self
    · exact List.mem_cons_of_mem _ (ih h)
theorem zx_lm_at {ad : Nat → Nat} {ls : zx_L} {i : Nat} {v : Value} {lsA : Array Slot} {nL : Nat} (hl : lv_has lsA nL (zx_lm ad ls)) (h : zx_lk ls i = some v) : lsA[i]? = some (.val (zx_v ad v)) :=
  hl.2.2 (i, zx_v ad v) (List.mem_map.mpr ⟨(i, v), zx_lk_mem h, rfl⟩)
theorem zx_lm_ix {ad : Nat → Nat} {ls : zx_L} {i : Nat} {v : Value} (h : zx_lk ls i = some v) : ∃ k : Nat, (zx_lm ad ls)[k]? = some (i, zx_v ad v) :=
  List.mem_iff_getElem?.mp (List.mem_map.mpr ⟨(i, v), zx_lk_mem h, rfl⟩)
theorem zx_lm_set1 (ad : Nat → Nat) (ls : zx_L) (i : Nat) (v : Value) : (i, zx_v ad v) :: (zx_lm ad ls).filter (fun q => !(q.1 == i) && !(q.1 + 1 == i && q.2.category == 2)) = zx_lm ad (zx_set1 ls i v) := by
  rw [zx_set1, zx_lm, zx_lm, List.map_cons, List.filter_map]
  congr 2
  refine List.filter_congr fun q _ => ?_
  simp only [Function.comp, zx_v_cat]
theorem zx_lm_set2 (ad : Nat → Nat) (ls : zx_L) (i : Nat) (v : Value) : (i, zx_v ad v) :: (zx_lm ad ls).filter (fun q => !(q.1 == i) && (!(q.1 == i + 1) && !(q.1 + 1 == i && q.2.category == 2))) = zx_lm ad (zx_set2 ls i v) := by
  rw [zx_set2, zx_lm, zx_lm, List.map_cons, List.filter_map]
  congr 2
  refine List.filter_congr fun q _ => ?_
  simp only [Function.comp, zx_v_cat]
theorem zx_lm_args (ad : Nat → Nat) (as : List Value) : ∀ i : Nat, lv_args i (as.map (zx_v ad)) = zx_lm ad (lv_args i as) := by
  induction as with
  | nil => intro i; rfl
  | cons v vs ih =>
    intro i
    rw [List.map_cons, lv_args, zx_v_cat, ih, lv_args]
    rfl
theorem zx_sl_len (ad : Nat → Nat) (as : List Value) : (lg_sl (as.map (zx_v ad))).length = (lg_sl as).length := by
  induction as with
  | nil => rfl
  | cons v vs ih =>
    have h1 : ∀ w : Value, ∀ ws : List Value, (lg_sl (w :: ws)).length = (lg_sl [w]).length + (lg_sl ws).length := by
      intro w ws; simp [lg_sl]
    rw [List.map_cons, h1, h1 v vs, ih]
    congr 1
    cases v <;> rfl
theorem zx_cat_sum (ad : Nat → Nat) (st : List Value) : ((st.map (zx_v ad)).map fun v => v.category) = st.map fun v => v.category := by
  rw [List.map_map]
  exact List.map_congr_left fun v _ => zx_v_cat ad v
theorem zx_tg_ok {pc t : Nat} {off : Int} (h : zx_tg pc off = some t) : (pc : Int) + off = (t : Int) := by
  unfold zx_tg at h
  split at h
  · next e => rw [← Option.some.inj h]; omega
  · cases h
end
section
/-! ===== 03: one step of the interpreter is a step of the machine: stack, locals, jumps ===== -/
section ZXA
variable {p : Program} {l : Launch} {e : Env} {R : Room} {s : State} {m : MethodId} {args : Array Value} {below : List Frame} {meth : Method} {c : Code} {H : Heap} {locs : List Loc} {cells slots : Nat} {Q : State → Prop}
variable {cc : ByteArray} {pc : Nat} {lsA : Array Slot} {ad : Nat → Nat}
set_option maxHeartbeats 4000000 in
theorem zx_s_W (hx : p.tables.exec = Jvm.exec) (hb : c.code = cc) {i : Instr} {k : Nat} {st st' : List Value} (h : zx_s i st = some (k, st')) (hd : decode cc pc = .ok (i, k))
    (kk : W p l e R s m args below meth c H locs cells slots Q (F0 m (pc + k) lsA (st'.map (zx_v ad)))) : W p l e R s m args below meth c H locs cells slots Q (F0 m pc lsA (st.map (zx_v ad))) := by
  unfold zx_s at h
  split at h
  · cases h; exact lv_iconst hx hb hd rfl kk
  · cases h; exact lv_bipush hx hb hd rfl kk
  · cases h; exact lv_sipush hx hb hd rfl kk
  · cases h; exact lv_lconst hx hb hd rfl kk
  · cases h; exact lv_iadd hx hb hd kk
  · cases h; exact lv_isub hx hb hd kk
  · cases h; exact lv_imul hx hb hd kk
  · cases h; exact lv_iand hx hb hd kk
  · split at h
    · cases h
    · next hne => cases h; exact lv_idiv hx hb hd hne kk
  · cases h; exact lv_iushr hx hb hd rfl kk
  · cases h; exact lv_ladd hx hb hd kk
  · cases h; exact lv_land hx hb hd kk
  · cases h; exact lv_lor hx hb hd kk
  · split at h
    · cases h
    · next hne => cases h; exact lv_ldiv hx hb hd hne kk
  · cases h; exact lv_lshl hx hb hd rfl kk
  · cases h; exact lv_i2l hx hb hd rfl kk
  · cases h; exact lv_l2i hx hb hd rfl kk
  · cases h; exact W.lcmp hx hb hd kk
  · split at h
    · next hc => cases h; exact lv_dup hx hb hd (by rw [zx_v_cat]; exact hc) kk
    · cases h
  · split at h
    · next hc => cases h; exact lv_pop hx hb hd (by rw [zx_v_cat]; exact hc) kk
    · cases h
  · split at h
    · next hc => cases h; exact lv_pop2_2 hx hb hd (by rw [zx_v_cat]; exact hc) kk
    · cases h
  · split at h
    · next hc => cases h; exact lv_dup_x1 hx hb hd (by rw [zx_v_cat]; exact hc.1) (by rw [zx_v_cat]; exact hc.2) kk
    · cases h
  · cases h
theorem zx_gi_ok {ls : zx_L} {k n n' : Nat} {v : Value} (h : zx_gi ls k n = some (n', v)) : n' = n ∧ ∃ x, v = .int x ∧ zx_lk ls k = some (.int x) := by
  unfold zx_gi at h
  split at h
  · next x e => cases h; exact ⟨rfl, x, rfl, e⟩
  · cases h
theorem zx_gl_ok {ls : zx_L} {k n n' : Nat} {v : Value} (h : zx_gl ls k n = some (n', v)) : n' = n ∧ ∃ x, v = .long x ∧ zx_lk ls k = some (.long x) := by
  unfold zx_gl at h
  split at h
  · next x e => cases h; exact ⟨rfl, x, rfl, e⟩
  · cases h
theorem zx_gr_ok {ls : zx_L} {k n n' : Nat} {v : Value} (h : zx_gr ls k n = some (n', v)) : n' = n ∧ ∃ x, v = .ref x ∧ zx_lk ls k = some (.ref x) := by
  unfold zx_gr at h
  split at h
  · next x e => cases h; exact ⟨rfl, x, rfl, e⟩
  · cases h
set_option maxHeartbeats 4000000 in
theorem zx_l_W (hx : p.tables.exec = Jvm.exec) (hb : c.code = cc) {i : Instr} {k nL : Nat} {ls : zx_L} {v : Value} {st : List Value} (h : zx_l i ls = some (k, v)) (hd : decode cc pc = .ok (i, k)) (hl : lv_has lsA nL (zx_lm ad ls))
    (kk : W p l e R s m args below meth c H locs cells slots Q (F0 m (pc + k) lsA ((v :: st).map (zx_v ad)))) : W p l e R s m args below meth c H locs cells slots Q (F0 m pc lsA (st.map (zx_v ad))) := by
  unfold zx_l at h
  split at h
  · obtain ⟨rfl, x, rfl, e⟩ := zx_gi_ok h; exact lv_iload_n hx hb hd rfl (zx_lm_at hl e) kk
  · obtain ⟨rfl, x, rfl, e⟩ := zx_gi_ok h; exact lv_iload hx hb hd (zx_lm_at hl e) kk
  · obtain ⟨rfl, x, rfl, e⟩ := zx_gl_ok h; exact lv_lload_n hx hb hd rfl (zx_lm_at hl e) kk
  · obtain ⟨rfl, x, rfl, e⟩ := zx_gl_ok h; exact lv_lload hx hb hd (zx_lm_at hl e) kk
  · obtain ⟨rfl, x, rfl, e⟩ := zx_gr_ok h; exact lv_aload_n hx hb hd rfl (zx_lm_at hl e) kk
  · obtain ⟨rfl, x, rfl, e⟩ := zx_gr_ok h; exact lv_aload hx hb hd (zx_lm_at hl e) kk
  · cases h
set_option maxHeartbeats 4000000 in
theorem zx_t_W (hx : p.tables.exec = Jvm.exec) (hb : c.code = cc) {i : Instr} {k nL : Nat} {ls ls' : zx_L} {st st' : List Value} (h : zx_t i nL ls st = some (k, ls', st')) (hd : decode cc pc = .ok (i, k)) (hl : lv_has lsA nL (zx_lm ad ls))
    (kk : ∀ lsB : Array Slot, lv_has lsB nL (zx_lm ad ls') → W p l e R s m args below meth c H locs cells slots Q (F0 m (pc + k) lsB (st'.map (zx_v ad)))) : W p l e R s m args below meth c H locs cells slots Q (F0 m pc lsA (st.map (zx_v ad))) := by
  unfold zx_t at h
  split at h
  · split at h
    · next hn => cases h; exact lv_istore_n hx hb hd rfl hl hn (zx_lm_set1 ad ls _ (.int _)) kk
    · cases h
  · split at h
    · next hn => cases h; exact lv_istore hx hb hd hl hn (zx_lm_set1 ad ls _ (.int _)) kk
    · cases h
  · split at h
    · next hn => cases h; exact lv_lstore_n hx hb hd rfl hl hn (zx_lm_set2 ad ls _ (.long _)) kk
    · cases h
  · split at h
    · next hn => cases h; exact lv_lstore hx hb hd hl hn (zx_lm_set2 ad ls _ (.long _)) kk
    · cases h
  · split at h
    · next hn => cases h; exact lv_astore_n hx hb hd rfl hl hn (zx_lm_set1 ad ls _ (.ref _)) kk
    · cases h
  · split at h
    · next hn => cases h; exact lv_astore hx hb hd hl hn (zx_lm_set1 ad ls _ (.ref _)) kk
    · cases h
  · split at h
    · next x e =>
      split at h
      · next hn =>
        cases h
        obtain ⟨k9, hk9⟩ := zx_lm_ix (ad := ad) e
        exact lv_iinc hx hb hd hl hk9 rfl hn (zx_lm_set1 ad ls _ (.int _)) kk
      · cases h
    · cases h
  · cases h
theorem zx_br {pr : Prop} (b : Bool) (hb : b = true ↔ pr) {t f : Nat} {X : Nat → Prop} (kk : X (if b = true then t else f)) : (pr → X t) ∧ (¬ pr → X f) := by
  refine ⟨fun h => ?_, fun h => ?_⟩
  · rw [if_pos (hb.mpr h)] at kk; exact kk
  · rw [if_neg (fun z => h (hb.mp z))] at kk; exact kk
set_option maxHeartbeats 4000000 in
theorem zx_j_W (hx : p.tables.exec = Jvm.exec) (hb : c.code = cc) {i : Instr} {n pc' : Nat} {st st' : List Value} (h : zx_j i n pc st = some (pc', st')) (hd : decode cc pc = .ok (i, n))
    (kk : W p l e R s m args below meth c H locs cells slots Q (F0 m pc' lsA (st'.map (zx_v ad)))) : W p l e R s m args below meth c H locs cells slots Q (F0 m pc lsA (st.map (zx_v ad))) := by
  unfold zx_j at h
  split at h
  · split at h
    · next hn =>
      subst hn
      obtain ⟨t, ht, e9⟩ := Option.map_eq_some_iff.mp h
      cases e9
      exact lv_goto hx hb hd (zx_tg_ok ht) kk
    · cases h
  · next k off x r =>
    split at h
    · next hn =>
      subst hn
      split at h
      · next t ht =>
        cases h
        cases k
        · obtain ⟨k1, k2⟩ := zx_br (X := fun pc' => W p l e R s m args below meth c H locs cells slots Q (F0 m pc' lsA (st'.map (zx_v ad)))) _ decide_eq_true_iff kk
          exact lv_if_eq hx hb hd (zx_tg_ok ht) k1 k2
        · obtain ⟨k1, k2⟩ := zx_br (X := fun pc' => W p l e R s m args below meth c H locs cells slots Q (F0 m pc' lsA (st'.map (zx_v ad)))) _ decide_eq_true_iff kk
          exact lv_if_ne hx hb hd (zx_tg_ok ht) k1 (fun z => k2 (fun w => w z))
        · obtain ⟨k1, k2⟩ := zx_br (X := fun pc' => W p l e R s m args below meth c H locs cells slots Q (F0 m pc' lsA (st'.map (zx_v ad)))) _ decide_eq_true_iff kk
          exact lv_if_lt hx hb hd (zx_tg_ok ht) k1 k2
        · obtain ⟨k1, k2⟩ := zx_br (X := fun pc' => W p l e R s m args below meth c H locs cells slots Q (F0 m pc' lsA (st'.map (zx_v ad)))) _ decide_eq_true_iff kk
          exact lv_if_ge hx hb hd (zx_tg_ok ht) k1 k2
        · obtain ⟨k1, k2⟩ := zx_br (X := fun pc' => W p l e R s m args below meth c H locs cells slots Q (F0 m pc' lsA (st'.map (zx_v ad)))) _ decide_eq_true_iff kk
          exact lv_if_gt hx hb hd (zx_tg_ok ht) k1 k2
        · obtain ⟨k1, k2⟩ := zx_br (X := fun pc' => W p l e R s m args below meth c H locs cells slots Q (F0 m pc' lsA (st'.map (zx_v ad)))) _ decide_eq_true_iff kk
          exact lv_if_le hx hb hd (zx_tg_ok ht) k1 k2
      · cases h
    · cases h
  · next k off y x r =>
    split at h
    · next hn =>
      subst hn
      split at h
      · next t ht =>
        cases h
        cases k
        · obtain ⟨k1, k2⟩ := zx_br (X := fun pc' => W p l e R s m args below meth c H locs cells slots Q (F0 m pc' lsA (st'.map (zx_v ad)))) _ decide_eq_true_iff kk
          exact lv_icmp_eq hx hb hd (zx_tg_ok ht) k1 k2
        · obtain ⟨k1, k2⟩ := zx_br (X := fun pc' => W p l e R s m args below meth c H locs cells slots Q (F0 m pc' lsA (st'.map (zx_v ad)))) _ decide_eq_true_iff kk
          exact lv_icmp_ne hx hb hd (zx_tg_ok ht) k1 (fun z => k2 (fun w => w z))
        · obtain ⟨k1, k2⟩ := zx_br (X := fun pc' => W p l e R s m args below meth c H locs cells slots Q (F0 m pc' lsA (st'.map (zx_v ad)))) _ decide_eq_true_iff kk
          exact lv_icmp_lt hx hb hd (zx_tg_ok ht) k1 k2
        · obtain ⟨k1, k2⟩ := zx_br (X := fun pc' => W p l e R s m args below meth c H locs cells slots Q (F0 m pc' lsA (st'.map (zx_v ad)))) _ decide_eq_true_iff kk
          exact lv_icmp_ge hx hb hd (zx_tg_ok ht) k1 k2
        · obtain ⟨k1, k2⟩ := zx_br (X := fun pc' => W p l e R s m args below meth c H locs cells slots Q (F0 m pc' lsA (st'.map (zx_v ad)))) _ decide_eq_true_iff kk
          exact lv_icmp_gt hx hb hd (zx_tg_ok ht) k1 k2
        · obtain ⟨k1, k2⟩ := zx_br (X := fun pc' => W p l e R s m args below meth c H locs cells slots Q (F0 m pc' lsA (st'.map (zx_v ad)))) _ decide_eq_true_iff kk
          exact lv_icmp_le hx hb hd (zx_tg_ok ht) k1 k2
      · cases h
    · cases h
  · next dflt lo hi offs x r =>
    split at h
    · next ho =>
      obtain ⟨t, ht, e9⟩ := Option.map_eq_some_iff.mp h
      cases e9
      exact lv_tableOut hx hb hd ho (zx_tg_ok ht) kk
    · next ho =>
      split at h
      · next off hoff =>
        obtain ⟨t, ht, e9⟩ := Option.map_eq_some_iff.mp h
        cases e9
        exact lv_tableIn hx hb hd (fun z => ho (Or.inl z)) (fun z => ho (Or.inr z)) hoff (zx_tg_ok ht) kk
      · cases h
  · next dflt ps x r =>
    split at h
    · next hp =>
      obtain ⟨t, ht, e9⟩ := Option.map_eq_some_iff.mp h
      cases e9
      exact lv_lookup hx hb hd hp rfl (zx_tg_ok ht) kk
    · cases h
  · cases h
end ZXA
end
section
/-! ===== 04: what the tables must say; fields, arrays, statics ===== -/
def zx_mok (P : zx_P) (G : List Cond) (cl : List vw_C) (q : zx_M) : Prop :=
  plainName (zx_my q).cls = true ∧ ((zx_my q).cls ≠ "java/lang/invoke/MethodHandle" ∧ (zx_my q).cls ≠ "java/lang/invoke/VarHandle") ∧ (parseMethodDescriptor (zx_my q).desc).map (fun d => d.parameters.length) = some (zx_mp q) ∧ zx_po P (zx_mo q) = (zx_my q).cls ∧
  Cond.code (zx_my q) (zx_mb q) (zx_ml q) (zx_mr q) ∈ G ∧ Cond.initialized (zx_my q).cls ∈ G ∧
  (match zx_mc q with
    | none => Cond.static (zx_my q) ∈ G
    | some ci => Cond.instanceMethod (zx_my q) ∈ G ∧ Cond.selects (zx_my q).cls (zx_my q) (zx_my q) ∈ G ∧ ∃ (T : u_T) (N : Nat), cl[ci]? = some ((zx_my q).cls, T, N)) ∧
  ∀ z ∈ zx_mi q, decode (zx_mb q) z.1 = .ok z.2
def zx_fok (P : zx_P) (G : List Cond) (cl : List vw_C) (o idx ci k : Nat) : Prop :=
  ∃ (C : String) (T : u_T) (N : Nat) (ty0 : Nat → FieldType), cl[ci]? = some (C, T, N) ∧ k < N ∧ Cond.fieldLink (zx_po P o) idx (T k).1 (T k).2.1 (T k).2.2.1 ∈ G ∧ (∀ w ∈ u_ws C T N, w ∈ G) ∧ (∀ k, k < N → parseFieldDescriptor (T k).2.2.1 = some (ty0 k)) ∧ (∀ a, a < N → ∀ b, b < N → a ≠ b → (T a).2.1 ≠ (T b).2.1) ∧ zx_pt P ci k = (ty0 k, (T k).2.2.2)
def zx_ok (P : zx_P) (G : List Cond) (cl : List vw_C) : Prop :=
  (∀ w ∈ G, (w.onTables && w.keeps) = true ∨ ∃ ty, w = .arrayClass ty) ∧
  (∀ (j : Nat) (q : zx_M), (zx_pm P)[j]? = some q → zx_mok P G cl q) ∧
  (∀ (o idx ci k : Nat), zx_pf P o idx = some (ci, k) → zx_fok P G cl o idx ci k) ∧
  (∀ (o idx cj : Nat), zx_pc P o idx = some cj → ∃ q, (zx_pm P)[cj]? = some q ∧ Cond.methodLink (zx_po P o) idx (zx_my q) ∈ G) ∧
  (∀ (o idx : Nat) (v : Int64), zx_pl P o idx = some v → Cond.constantLong (zx_po P o) idx v ∈ G) ∧
  (∀ (o idx : Nat), zx_pn P o idx = true → Cond.methodLink (zx_po P o) idx Lib.Math.min.name ∈ G ∧ Cond.static Lib.Math.min.name ∈ G ∧ Cond.initialized "java/lang/Math" ∈ G ∧ Cond.code Lib.Math.min.name Lib.Math.min.code 2 (some .int) ∈ G)
/-- the static rows, outside of what is written -/
def zx_Z (P : zx_P) (G : List Cond) (ad : Nat → Nat) (A : Nat → Prop) (U : State) (H : Heap) : Prop :=
  (∀ (k n : Nat) (f : Nat → Int32), zx_pa P k = some (n, f) → va_T .int (ad k) n (fun j => .int (f j)) A U H) ∧
  (∀ (o idx k : Nat), zx_ps P o idx = some k → ∃ C nm d, va_Z C nm d (.ref (ad k)) A U H ∧ Cond.fieldLink (zx_po P o) idx C nm d ∈ G)
theorem zx_Z.moved {P : zx_P} {G : List Cond} {ad : Nat → Nat} {A : Nat → Prop} {u U : State} {H : Heap} (hvm : u.vm.Alike U.vm) (h : zx_Z P G ad A u H) : zx_Z P G ad A U H :=
  ⟨fun k n f e => va_T.moved hvm (h.1 k n f e), fun o idx k e => by obtain ⟨C, nm, d, h1, h2⟩ := h.2 o idx k e; exact ⟨C, nm, d, va_Z.moved hvm h1, h2⟩⟩
theorem zx_Z.kept {P : zx_P} {G : List Cond} {ad : Nat → Nat} {A : Nat → Prop} {U : State} {H H1 : Heap} (h : zx_Z P G ad A U H) (hq : ∀ a : Nat, a < H.size → ¬ A a → H1[a]? = H[a]?) : zx_Z P G ad A U H1 :=
  ⟨fun k n f e => va_T.kept (h.1 k n f e) hq, fun o idx k e => by obtain ⟨C, nm, d, h1, h2⟩ := h.2 o idx k e; exact ⟨C, nm, d, va_Z.kept h1 hq, h2⟩⟩
theorem zx_Z.narrow {P : zx_P} {G : List Cond} {ad : Nat → Nat} {A B : Nat → Prop} {U : State} {H : Heap} (h : zx_Z P G ad A U H) (hAB : ∀ q, B q → A q) : zx_Z P G ad B U H :=
  ⟨fun k n f e => va_T.narrow (h.1 k n f e) hAB, fun o idx k e => by obtain ⟨C, nm, d, h1, h2⟩ := h.2 o idx k e; exact ⟨C, nm, d, va_Z.narrow h1 hAB, h2⟩⟩
theorem zx_w_put (ad : Nat → Nat) (cA : Nat → ClassId) (h : zx_H) (a ci k : Nat) (fs : List Value) (v : Value) : (zx_w ad cA h).set a (ad a, .inr (ci, (fs.map (zx_v ad)).set k (zx_v ad v))) = zx_w ad cA (h.set a (.inr (ci, fs.set k v))) := by
  rw [← zx_w_set, zx_e, List.map_set]
theorem zx_w_arr (ad : Nat → Nat) (cA : Nat → ClassId) (h : zx_H) (a t : Nat) (x : vp_A) : (zx_w ad cA h).set a (ad a, .inl (cA t, x)) = zx_w ad cA (h.set a (.inl (t, x))) := by
  rw [← zx_w_set, zx_e]
section ZXB
variable {p : Program} {l : Launch} {e : Env} {R : Room} {s : State} {m : MethodId} {args : Array Value} {below : List Frame} {meth : Method} {c : Code} {H : Heap} {locs : List Loc} {cells slots : Nat} {Q : State → Prop}
variable {cc : ByteArray} {pc : Nat} {lsA : Array Slot} {ad : Nat → Nat} {cA : Nat → ClassId} {D : va_G} {cl : List vw_C} {A : Nat → Prop} {P : zx_P} {G : List Cond} {o : Nat}
theorem zx_gf_W (ok : zx_ok P G cl) (hx : p.tables.exec = Jvm.exec) (hb : c.code = cc) (hts : ∀ w ∈ G, w.before args s = true) (hown : s.vm.findClass (zx_po P o) = some m.cls) (hK : va_K D cl (zx_ty cA) s) {h0 : zx_H} (hP : va_P D cl (zx_w ad cA h0) H) {idx a : Nat} {v : Value} {rest : List Value} (h : zx_gf P o idx a h0 = some v) (hd : decode cc pc = .ok (.getfield idx, 3))
    (kk : W p l e R s m args below meth c H locs cells slots Q (F0 m (pc + 3) lsA (zx_v ad v :: rest))) : W p l e R s m args below meth c H locs cells slots Q (F0 m pc lsA (.ref (ad a) :: rest)) := by
  unfold zx_gf at h
  split at h
  · next ci k hf =>
    split at h
    · next cj fs ha =>
      split at h
      · next hc =>
        subst hc
        obtain ⟨C, T, N, ty0, h1, h2, h3, h4, h5, h6, h7⟩ := ok.2.2.1 _ _ _ _ hf
        exact va_get (D := D) (ci := cj) (v := zx_v ad v) (C := C) (T := T) (N := N) hx hb hts h4 hown hK hP a (zx_w_at ha) h1 k h2 (hts _ h3) (fun _ h9 => h9) (by rw [List.getElem?_map, h]; rfl) hd kk
      · cases h
    · cases h
  · cases h
theorem zx_pu_W (ok : zx_ok P G cl) (hx : p.tables.exec = Jvm.exec) (hb : c.code = cc) (hts : ∀ w ∈ G, w.before args s = true) (hown : s.vm.findClass (zx_po P o) = some m.cls) (hK : va_K D cl (zx_ty cA) s) {h0 h1 : zx_H} (hP : va_P D cl (zx_w ad cA h0) H) (hD : va_D A (zx_w ad cA h0)) (hS : va_S A s.heap H locs) {idx a : Nat} {v : Value} {rest : List Value} (hv : zx_v ad v = v) (h : zx_pu P o idx a v h0 = some h1) (hd : decode cc pc = .ok (.putfield idx, 3))
    (kk : ∀ (H1 : Heap) (locs1 : List Loc), va_P D cl (zx_w ad cA h1) H1 → va_D A (zx_w ad cA h1) → va_S A s.heap H1 locs1 → W p l e R s m args below meth c H1 locs1 cells slots Q (F0 m (pc + 3) lsA rest)) : W p l e R s m args below meth c H locs cells slots Q (F0 m pc lsA (v :: .ref (ad a) :: rest)) := by
  unfold zx_pu at h
  split at h
  · next ci k hf =>
    split at h
    · next cj fs ha =>
      split at h
      · next hc =>
        obtain ⟨hc, hk, hfin, hn, hfit⟩ := hc
        subst hc
        cases h
        obtain ⟨C, T, N, ty0, h1, h2, h3, h4, h5, h6, h7⟩ := ok.2.2.1 _ _ _ _ hf
        rw [h7] at hfin hn hfit
        refine va_put (D := D) (ci := cj) (v := v) (ty := ty0 k) (C := C) (T := T) (N := N) hx hb hts h4 ty0 h5 h6 hown hK hP hD hS a (zx_w_at ha) h1 k h2 (hts _ h3) (fun _ h9 => h9) hfin (h5 k h2) hn hfit (by rw [List.length_map]; exact hk) hd (fun H1 locs1 a1 a2 a3 => ?_)
        have e := zx_w_put ad cA h0 a cj k fs v
        rw [hv] at e
        rw [e] at a1 a2
        exact kk H1 locs1 a1 a2 a3
      · cases h
    · cases h
  · cases h
set_option maxHeartbeats 4000000 in
theorem zx_g_W (ok : zx_ok P G cl) (hx : p.tables.exec = Jvm.exec) (hb : c.code = cc) (hts : ∀ w ∈ G, w.before args s = true) (hown : s.vm.findClass (zx_po P o) = some m.cls) (hK : va_K D cl (zx_ty cA) s) (hZ : zx_Z P G ad A s s.heap) {h0 h1 : zx_H} (hP : va_P D cl (zx_w ad cA h0) H) (hD : va_D A (zx_w ad cA h0)) (hS : va_S A s.heap H locs) {i : Instr} {k : Nat} {st st' : List Value} (h : zx_g P o i st h0 = some (k, st', h1)) (hd : decode cc pc = .ok (i, k))
    (kk : ∀ (H1 : Heap) (locs1 : List Loc), va_P D cl (zx_w ad cA h1) H1 → va_D A (zx_w ad cA h1) → va_S A s.heap H1 locs1 → W p l e R s m args below meth c H1 locs1 cells slots Q (F0 m (pc + k) lsA (st'.map (zx_v ad)))) : W p l e R s m args below meth c H locs cells slots Q (F0 m pc lsA (st.map (zx_v ad))) := by
  unfold zx_g at h
  split at h
  · obtain ⟨v, hv, e9⟩ := Option.map_eq_some_iff.mp h
    cases e9
    exact zx_gf_W ok hx hb hts hown hK hP hv hd (kk H locs hP hD hS)
  · obtain ⟨h2, hv, e9⟩ := Option.map_eq_some_iff.mp h
    cases e9
    exact zx_pu_W ok hx hb hts hown hK hP hD hS rfl hv hd kk
  · obtain ⟨h2, hv, e9⟩ := Option.map_eq_some_iff.mp h
    cases e9
    exact zx_pu_W ok hx hb hts hown hK hP hD hS rfl hv hd kk
  · split at h
    · next ha =>
      split at h
      · cases h
      · next hin => cases h; exact va_iald hx hb hK hP _ 0 (zx_w_at ha) rfl hin hd (kk H locs hP hD hS)
    · split at h
      · next hpa =>
        split at h
        · cases h
        · next hin => cases h; exact va_ti hx hb (hZ.1 _ _ _ hpa) hS hin rfl hd (kk H locs hP hD hS)
      · cases h
    · cases h
  · split at h
    · next ha =>
      split at h
      · cases h
      · next hin => cases h; exact va_lald hx hb hK hP _ 1 (zx_w_at ha) rfl hin hd (kk H locs hP hD hS)
    · cases h
  · split at h
    · next ha =>
      split at h
      · cases h
      · next hin => cases h; exact va_zald hx hb hK hP _ 2 (zx_w_at ha) rfl hin hd (kk H locs hP hD hS)
    · cases h
  · split at h
    · next ha =>
      split at h
      · cases h
      · next hin => cases h; exact va_iast hx hb hK hP hD hS _ 0 (zx_w_at ha) rfl hin hd (fun H1 locs1 a1 a2 a3 => kk H1 locs1 (by rw [← zx_w_arr]; exact a1) (by rw [← zx_w_arr]; exact a2) a3)
    · cases h
  · split at h
    · next ha =>
      split at h
      · cases h
      · next hin => cases h; exact va_last hx hb hK hP hD hS _ 1 (zx_w_at ha) rfl hin hd (fun H1 locs1 a1 a2 a3 => kk H1 locs1 (by rw [← zx_w_arr]; exact a1) (by rw [← zx_w_arr]; exact a2) a3)
    · cases h
  · split at h
    · next ha =>
      split at h
      · cases h
      · next hin => cases h; exact va_zast hx hb hK hP hD hS _ 2 (zx_w_at ha) rfl hin hd (fun H1 locs1 a1 a2 a3 => kk H1 locs1 (by rw [← zx_w_arr]; exact a1) (by rw [← zx_w_arr]; exact a2) a3)
    · cases h
  · split at h
    · next t n x ha =>
      split at h
      · next ht =>
        cases h
        rcases (show t = 0 ∨ t = 1 ∨ t = 2 by omega) with rfl | rfl | rfl
        · exact va_alen hx hb hK hP _ 0 (zx_w_at ha) rfl rfl hd (kk H locs hP hD hS)
        · exact va_alen hx hb hK hP _ 1 (zx_w_at ha) rfl rfl hd (kk H locs hP hD hS)
        · exact va_alen hx hb hK hP _ 2 (zx_w_at ha) rfl rfl hd (kk H locs hP hD hS)
      · cases h
    · split at h
      · next hpa => cases h; exact va_tlen hx hb (hZ.1 _ _ _ hpa) hS rfl hd (kk H locs hP hD hS)
      · cases h
    · cases h
  · obtain ⟨k2, hv, e9⟩ := Option.map_eq_some_iff.mp h
    cases e9
    obtain ⟨C, nm, d, z1, z2⟩ := hZ.2 _ _ _ hv
    exact va_gets hx hb z1 hS hown (hts _ z2) (fun _ h9 => h9) hd (kk H locs hP hD hS)
  · obtain ⟨v, hv, e9⟩ := Option.map_eq_some_iff.mp h
    cases e9
    exact lv_ldc2 hx hb hown (hts _ (ok.2.2.2.2.1 _ _ _ hv)) hd (kk H locs hP hD hS)
  · cases h
end ZXB
end
section
/-! ===== 05: a run of the interpreter is a contract of the machine ===== -/
def zx_room (d : Nat) : Room := { frames := d, cells := 0, slots := 0, locals := 40 * d }
def zx_Q (D : va_G) (cl : List vw_C) (ad : Nat → Nat) (cA : Nat → ClassId) (A : Nat → Prop) (r : Option Value) (h' : zx_H) : Array Value → State → Outcome → State → Prop := fun _ st oc t =>
  oc = .returned (r.map (zx_v ad)) ∧ va_P D cl (zx_w ad cA h') t.heap ∧ va_D A (zx_w ad cA h') ∧ va_F A st t
def zx_pre (P : zx_P) (G : List Cond) (D : va_G) (cl : List vw_C) (ad : Nat → Nat) (cA : Nat → ClassId) (h : zx_H) (sz : Nat) : State → Prop := fun U =>
  U.heap.size = sz ∧ va_P D cl (zx_w ad cA h) U.heap ∧ va_K D cl (zx_ty cA) U ∧ va_D (fun _ => True) (zx_w ad cA h) ∧ zx_Z P G ad (va_A (zx_w ad cA h) sz) U U.heap
def zx_sim (P : zx_P) (G : List Cond) (cl : List vw_C) (n : Nat) : Prop :=
  ∀ (d : Nat) (q : zx_M) (pc : Nat) (ls : zx_L) (st : List Value) (h : zx_H) (r : Option Value) (h' : zx_H), zx_mok P G cl q → zx_x P n d q pc ls st h = some (r, h') →
  ∀ (p : Program) (l : Launch) (e : Env) (s : State) (m : MethodId) (args : Array Value) (below : List Frame) (meth : Method) (c : Code) (H : Heap) (locs : List Loc) (D : va_G) (ad : Nat → Nat) (cA : Nat → ClassId) (A : Nat → Prop) (lsA : Array Slot),
  p.tables.exec = Jvm.exec → c.code = zx_mb q → c.maxLocals = zx_ml q → meth.sig.returnType = zx_mr q → meth.locks = false → s.vm.findClass (zx_my q).cls = some m.cls → (∀ w ∈ G, w.before args s = true) → va_K D cl (zx_ty cA) s → zx_Z P G ad A s s.heap → (∀ q : Nat, s.heap.size ≤ q → A q) →
  va_P D cl (zx_w ad cA h) H → va_D A (zx_w ad cA h) → va_S A s.heap H locs → lv_has lsA (zx_ml q) (zx_lm ad ls) →
  W p l e (zx_room d) s m args below meth c H locs 0 0 (MQ below (zx_Q D cl ad cA A r h') args s 0 0 A) (F0 m pc lsA (st.map (zx_v ad)))
theorem zx_blind (P : zx_P) (G : List Cond) (D : va_G) (cl : List vw_C) (ad : Nat → Nat) (cA : Nat → ClassId) (h : zx_H) (sz : Nat) (av : List Value) : FrameBlind (va_Pc av (zx_pre P G D cl ad cA h sz)) := by
  intro a U g mk q
  obtain ⟨q0, q1, qP, qK, qD, qZ⟩ := q
  exact ⟨q0, q1, qP, va_K.moved (u := U) (U := U.calling g mk a) (Vm.Alike.refl U.vm) qK, qD, zx_Z.moved (u := U) (U := U.calling g mk a) (Vm.Alike.refl U.vm) qZ⟩
theorem zx_met_of {P : zx_P} {G : List Cond} {cl : List vw_C} {n : Nat} (hn : zx_sim P G cl n) {d : Nat} {q : zx_M} {as : List Value} {h : zx_H} {r : Option Value} {h' : zx_H} (hq : zx_mok P G cl q) (hl : (lg_sl as).length ≤ zx_ml q) (hx : zx_x P n d q 0 (lv_args 0 as) [] h = some (r, h')) (l : Launch) (D : va_G) (ad : Nat → Nat) (cA : Nat → ClassId) (sz : Nat) :
    Met l (zx_my q) (Cond.code (zx_my q) (zx_mb q) (zx_ml q) (zx_mr q) :: G) (zx_room d) (va_Pc (as.map (zx_v ad)) (zx_pre P G D cl ad cA h sz)) (zx_Q D cl ad cA (va_A (zx_w ad cA h) sz) r h') 0 0 (va_A (zx_w ad cA h) sz) := by
  refine Met.ofW (cc := zx_mb q) (maxL := zx_ml q) (ret := zx_mr q) hq.1 rfl ?_
  intro p e s m args below meth c s₁ B hml hv
  obtain ⟨rfl, hsz, hP, hK, hD, hZ⟩ := hv
  have hts := atoms_spec (ws := Cond.code (zx_my q) (zx_mb q) (zx_ml q) (zx_mr q) :: G) B.pre
  subst hsz
  rw [lg_entry_eq]
  have hl9 := lv_entry (as.map (zx_v ad)) (n := zx_ml q) (by rw [zx_sl_len]; exact hl)
  rw [zx_lm_args] at hl9
  exact hn d q 0 _ [] h r h' hq hx p l e s m _ below meth c s.heap [] D ad cA _ _ B.exec B.bytes hml B.returns B.notSynchronized (findClass_of_methodNamed B.named) (fun w hw => hts w (List.mem_cons_of_mem _ hw)) hK hZ (fun q h => Or.inr h) hP hD.self va_S.rf hl9
section ZXC
variable {p : Program} {l : Launch} {e : Env} {R : Room} {s : State} {m : MethodId} {args : Array Value} {below : List Frame} {meth : Method} {c : Code} {H : Heap} {locs : List Loc} {cells slots : Nat} {Q : State → Prop}
variable {cc : ByteArray} {pc : Nat} {lsA : Array Slot} {ad : Nat → Nat} {cA : Nat → ClassId} {D : va_G} {cl : List vw_C} {A A1 : Nat → Prop} {P : zx_P} {G : List Cond}
theorem zx_call {r : Option Value} {h' : zx_H} {a : Array Value} {st0 rest : List Value} (hr : va_Run p l e R s m args below meth c H locs cells slots 0 0 (F0 m pc lsA st0) (rest.map (zx_v ad)) (zx_Q D cl ad cA A1 r h' a) A1) (hS : va_S A s.heap H locs) (hA : ∀ q, A1 q → A q)
    (kk : ∀ (H1 : Heap) (locs1 : List Loc), va_P D cl (zx_w ad cA h') H1 → va_D A (zx_w ad cA h') → va_S A s.heap H1 locs1 → W p l e R s m args below meth c H1 locs1 cells slots Q (F0 m (pc + 3) lsA ((r.toList ++ rest).map (zx_v ad)))) : W p l e R s m args below meth c H locs cells slots Q (F0 m pc lsA st0) := by
  intro T hT X
  obtain ⟨v, st₀, t, T', L, h0, X', hL, e1, e2, ⟨hv, hp, hdd, hz, hk⟩, st⟩ := hr T hT X
  have hv' : v = r.map (zx_v ad) := by cases hv; rfl
  subst hv'
  rw [h0] at hz hk
  have e3 : (r.map (zx_v ad)).toList ++ rest.map (zx_v ad) = (r.toList ++ rest).map (zx_v ad) := by cases r <;> simp
  rw [e3] at st
  obtain ⟨t2, a1, b1⟩ := kk T'.heap (locs ++ L) (by rw [e1]; exact hp) (hdd.weaken (fun _ _ _ z => hA _ z))
    ⟨Nat.le_trans hS.1 (by rw [e1]; exact hz), fun q h1 h2 => by rw [e1, hk q (Nat.lt_of_lt_of_le h1 hS.1) (fun z => h2 (hA q z))]; exact hS.2.1 q h1 h2, fun q hq => by
      rcases List.mem_append.mp hq with h | h
      · exact hS.2.2 q h
      · exact hA _ (hL q h)⟩ T' rfl X'
  exact ⟨t2, st t2 a1, b1⟩
theorem zx_sub {h : zx_H} (hD : va_D A (zx_w ad cA h)) (hS : va_S A s.heap H locs) (hA : ∀ q : Nat, s.heap.size ≤ q → A q) : ∀ q, va_A (zx_w ad cA h) H.size q → A q := by
  intro q hq
  rcases hq with ⟨k, e9, hk⟩ | hq
  · exact hD.2 k _ hk
  · exact hA q (Nat.le_trans hS.1 hq)
theorem zx_preU {h : zx_H} (hK : va_K D cl (zx_ty cA) s) (hZ : zx_Z P G ad A s s.heap) (hA : ∀ q : Nat, s.heap.size ≤ q → A q) (hP : va_P D cl (zx_w ad cA h) H) (hD : va_D A (zx_w ad cA h)) (hS : va_S A s.heap H locs) (U : State) (hU : U.heap = H) (hW : s.WarmedH U.vm) : zx_pre P G D cl ad cA h H.size U := by
  refine ⟨by rw [hU], by rw [hU]; exact hP, va_K.moved hW.alike hK, hD.weaken (fun _ _ _ _ => trivial), ?_⟩
  rw [hU]
  exact ((hZ.kept (fun a h1 h2 => hS.2.1 a h1 h2)).narrow (zx_sub hD hS hA)).moved hW.alike
theorem zx_good (ok : zx_ok P G cl) {w : Cond} (hw : w ∈ G) : GoodIn G (w :: G) := by
  intro z hz
  rcases List.mem_cons.mp hz with rfl | hz
  · exact ⟨hw, ok.1 _ hw⟩
  · exact ⟨hz, ok.1 _ hz⟩
end ZXC
set_option maxHeartbeats 4000000 in
theorem zx_sim_all {P : zx_P} {G : List Cond} {cl : List vw_C} (ok : zx_ok P G cl) : ∀ n : Nat, zx_sim P G cl n := by
  intro n
  induction n with
  | zero => intro d q pc ls st h r h' hq hx; simp [zx_x] at hx
  | succ n ih =>
    intro d q pc ls st h r h' hq hx p l e s m args below meth c H locs D ad cA A lsA xe xb xm xr xl xo hts hK hZ hA hP hD hS hl
    rw [zx_x] at hx
    have hown : s.vm.findClass (zx_po P (zx_mo q)) = some m.cls := by rw [hq.2.2.2.1]; exact xo
    split at hx
    · cases hx
    · next i len hat =>
      have hd : decode (zx_mb q) pc = .ok (i, len) := hq.2.2.2.2.2.2.2 (pc, (i, len)) (zx_at_mem hat)
      split at hx
      · next k st' hs =>
        split at hx
        · next hk => subst hk; exact zx_s_W xe xb hs hd (ih d q _ ls st' h r h' hq hx p l e s m args below meth c H locs D ad cA A lsA xe xb xm xr xl xo hts hK hZ hA hP hD hS hl)
        · cases hx
      · split at hx
        · next k v hs =>
          split at hx
          · next hk => subst hk; exact zx_l_W xe xb hs hd hl (ih d q _ ls (v :: st) h r h' hq hx p l e s m args below meth c H locs D ad cA A lsA xe xb xm xr xl xo hts hK hZ hA hP hD hS hl)
          · cases hx
        · split at hx
          · next k ls' st' hs =>
            split at hx
            · next hk => subst hk; exact zx_t_W xe xb hs hd hl (fun lsB hlB => ih d q _ ls' st' h r h' hq hx p l e s m args below meth c H locs D ad cA A lsB xe xb xm xr xl xo hts hK hZ hA hP hD hS hlB)
            · cases hx
          · split at hx
            · next pc' st' hs => exact zx_j_W xe xb hs hd (ih d q pc' ls st' h r h' hq hx p l e s m args below meth c H locs D ad cA A lsA xe xb xm xr xl xo hts hK hZ hA hP hD hS hl)
            · split at hx
              · next k st' h1 hs =>
                split at hx
                · next hk => subst hk; exact zx_g_W ok xe xb hts hown hK hZ hP hD hS hs hd (fun H1 locs1 a1 a2 a3 => ih d q _ ls st' h1 r h' hq hx p l e s m args below meth c H1 locs1 D ad cA A lsA xe xb xm xr xl xo hts hK hZ hA a1 a2 a3 hl)
                · cases hx
              · split at hx
                · next r9 hr9 =>
                  cases hx
                  generalize hret : zx_mr q = ret9 at hr9
                  unfold zx_r at hr9
                  split at hr9
                  · next v ty =>
                    split at hr9
                    · next hk =>
                      obtain ⟨hk, hn⟩ := hk
                      subst hk
                      cases hr9
                      exact W.zret xe xb (xr.trans hret) hn (fun t ht hW => ⟨rfl, by rw [ht]; exact hP, hD, hS.F ht⟩) hS.2.2 hd xl
                    · cases hr9
                  · next v =>
                    split at hr9
                    · next hk =>
                      subst hk
                      cases hr9
                      exact W.lret xe xb (xr.trans hret) (fun t ht hW => ⟨rfl, by rw [ht]; exact hP, hD, hS.F ht⟩) hS.2.2 hd xl
                    · cases hr9
                  · skip
                    split at hr9
                    · next hk =>
                      subst hk
                      cases hr9
                      exact W.vret xe xb (xr.trans hret) (fun t ht hW => ⟨rfl, by rw [ht]; exact hP, hD, hS.F ht⟩) hS.2.2 hd xl
                    · cases hr9
                  · cases hr9
                · split at hx
                  · next st9 hn9 =>
                    split at hx
                    · cases hx
                    · next d' =>
                      unfold zx_n at hn9
                      split at hn9
                      · next idx y x r9 =>
                        split at hn9
                        · next hc9 =>
                          obtain ⟨c1, c2, c3⟩ := hc9
                          subst c2
                          cases hn9
                          obtain ⟨z1, z2, z3, z4⟩ := ok.2.2.2.2.2 _ _ c1
                          exact va_mmin xe xb (xm.trans hl.1.symm) hown (hts _ z1) (hts _ z2) (hts _ z3) (hts _ z4) (Nat.le_add_left 1 d') (by rw [zx_cat_sum]; show _ ≤ 40 * (d' + 1); omega) (Nat.le_refl _) (Nat.le_refl _) hd (ih (d' + 1) q (pc + 3) ls _ h r h' hq hx p l e s m args below meth c H locs D ad cA A lsA xe xb xm xr xl xo hts hK hZ hA hP hD hS hl)
                        · cases hn9
                      · cases hn9
                  · split at hx
                    · next cj as rest hk9 =>
                      split at hx
                      · cases hx
                      · next d' =>
                        split at hx
                        · cases hx
                        · next q' hq' =>
                          split at hx
                          · cases hx
                          · next r1 h1 hx1 =>
                            have hm' : zx_mok P G cl q' := ok.2.1 _ _ hq'
                            have kk : ∀ (H1 : Heap) (locs1 : List Loc), va_P D cl (zx_w ad cA h1) H1 → va_D A (zx_w ad cA h1) → va_S A s.heap H1 locs1 → W p l e (zx_room (d' + 1)) s m args below meth c H1 locs1 0 0 (MQ below (zx_Q D cl ad cA A r h') args s 0 0 A) (F0 m (pc + 3) lsA ((r1.toList ++ rest).map (zx_v ad))) := fun H1 locs1 a1 a2 a3 =>
                              ih (d' + 1) q (pc + 3) ls (r1.toList ++ rest) h1 r h' hq hx p l e s m args below meth c H1 locs1 D ad cA A lsA xe xb xm xr xl xo hts hK hZ hA a1 a2 a3 hl
                            obtain ⟨y1, y2, y3, y4, y5, y6, y7, y8⟩ := hm'
                            unfold zx_k at hk9
                            split at hk9
                            · next idx =>
                              split at hk9
                              · next cj' hpc =>
                                split at hk9
                                · next q9 hq9 =>
                                  split at hk9
                                  · next b rest' hdrop =>
                                    split at hk9
                                    · next ci fs hbc =>
                                      split at hk9
                                      · next hc9 =>
                                        obtain ⟨c1, c2, c3, c4, c5, c6⟩ := hc9
                                        cases hk9
                                        cases hq9.symm.trans hq'
                                        subst c1
                                        obtain ⟨q8, hq8, hlk⟩ := ok.2.2.2.1 _ _ _ hpc
                                        cases hq8.symm.trans hq'
                                        rw [c2] at y7
                                        obtain ⟨z1, z2, T9, N9, z3⟩ := y7
                                        have hst : st = st.take (zx_mp q') ++ .ref b :: rest := by rw [← hdrop, List.take_append_drop]
                                        exact zx_call (va_runV (As := ((st.take (zx_mp q')).reverse).map (zx_v ad)) (b := ad b) (C := (zx_my q').cls) (nL := zx_ml q) ⟨xe, xb, xm, hown, hts⟩ (zx_met_of ih (ok.2.1 _ _ hq') c6 hx1 l D ad cA H.size)
                                          ⟨callB_of (zx_mp q') hts (zx_good ok y5) rfl rfl rfl (hts _ y6) (hts _ hlk) ⟨y2.1, y2.2, y3⟩ ⟨Nat.le_refl _, by show 8 + (zx_ml q' + 11) + 40 * d' ≤ 40 * (d' + 1); omega⟩, hts _ z1, hts _ z2⟩
                                          ⟨zx_blind P G D cl ad cA h H.size _, va_recv hK hP z3 (zx_w_at hbc), fun U hU hW => ⟨rfl, zx_preU hK hZ hA hP hD hS U hU hW⟩⟩ rfl (by rw [List.length_map, List.length_reverse]; exact c3) hl.1
                                          (by show st.map (zx_v ad) = _; conv => lhs; rw [hst]
                                              rw [List.map_append, List.map_reverse, List.reverse_reverse]; rfl)
                                          (lv_room (by rw [zx_cat_sum]; exact c4)) hd ⟨Nat.le_refl _, Nat.le_refl _⟩) hS (zx_sub hD hS hA) kk
                                      · cases hk9
                                    · cases hk9
                                  · cases hk9
                                · cases hk9
                              · cases hk9
                            · next idx =>
                              split at hk9
                              · next cj' hpc =>
                                split at hk9
                                · next q9 hq9 =>
                                  split at hk9
                                  · next hc9 =>
                                    obtain ⟨c1, c2, c3, c4, c5, c6⟩ := hc9
                                    cases hk9
                                    cases hq9.symm.trans hq'
                                    subst c1
                                    obtain ⟨q8, hq8, hlk⟩ := ok.2.2.2.1 _ _ _ hpc
                                    cases hq8.symm.trans hq'
                                    rw [c2] at y7
                                    exact zx_call (va_runS (As := ((st.take (zx_mp q')).reverse).map (zx_v ad)) (nL := zx_ml q) ⟨xe, xb, xm, hown, hts⟩ (zx_met_of ih (ok.2.1 _ _ hq') c6 hx1 l D ad cA H.size)
                                      ⟨callB_of (zx_mp q') hts (zx_good ok y5) rfl rfl rfl (hts _ y6) (hts _ hlk) ⟨y2.1, y2.2, y3⟩ ⟨Nat.le_refl _, by show 8 + (zx_ml q' + 11) + 40 * d' ≤ 40 * (d' + 1); omega⟩, hts _ y7⟩
                                      ⟨zx_blind P G D cl ad cA h H.size _, fun U hU hW => ⟨rfl, zx_preU hK hZ hA hP hD hS U hU hW⟩⟩ rfl (by rw [List.length_map, List.length_reverse]; exact c3) hl.1
                                      (by show st.map (zx_v ad) = _
                                          rw [List.map_reverse, List.reverse_reverse, ← List.map_append, List.take_append_drop])
                                      (lv_room (by rw [zx_cat_sum]; exact c4)) hd ⟨Nat.le_refl _, Nat.le_refl _⟩) hS (zx_sub hD hS hA) kk
                                  · cases hk9
                                · cases hk9
                              · cases hk9
                            · cases hk9
                    · cases hx
end
section
/-! ===== 06: the program: classes, methods, links (by program out of the tables of the claim) ===== -/
def RX0 : String := "ClassFrames$Code"
def TX0 : u_T := fun k => match k with
  | 0 => ("ClassFrames$Code", "ops", "[I", true)
  | 1 => ("ClassFrames$Code", "firsts", "[I", true)
  | 2 => ("ClassFrames$Code", "seconds", "[I", true)
  | 3 => ("ClassFrames$Code", "places", "I", false)
  | 4 => ("ClassFrames$Code", "froms", "[I", true)
  | 5 => ("ClassFrames$Code", "tos", "[I", true)
  | 6 => ("ClassFrames$Code", "ats", "[I", true)
  | 7 => ("ClassFrames$Code", "kinds", "[I", true)
  | 8 => ("ClassFrames$Code", "handlers", "I", false)
  | 9 => ("ClassFrames$Code", "parameters", "[I", true)
  | _ => ("ClassFrames$Code", "filled", "I", false)
def tyX0 : Nat → FieldType := fun k => match k with
  | 0 => .array .int
  | 1 => .array .int
  | 2 => .array .int
  | 3 => .int
  | 4 => .array .int
  | 5 => .array .int
  | 6 => .array .int
  | 7 => .array .int
  | 8 => .int
  | 9 => .array .int
  | _ => .int
theorem nmX0 : ∀ a, a < 11 → ∀ b, b < 11 → a ≠ b → (TX0 a).2.1 ≠ (TX0 b).2.1 := by decide +kernel
theorem tyX0_ok : ∀ k, k < 11 → parseFieldDescriptor (TX0 k).2.2.1 = some (tyX0 k) := by decide +kernel
def RX1 : String := "ClassFrames$Effect"
def TX1 : u_T := fun k => match k with
  | _ => ("", "", "", false)
def tyX1 : Nat → FieldType := fun k => match k with
  | _ => .int
theorem nmX1 : ∀ a, a < 0 → ∀ b, b < 0 → a ≠ b → (TX1 a).2.1 ≠ (TX1 b).2.1 := by decide +kernel
theorem tyX1_ok : ∀ k, k < 0 → parseFieldDescriptor (TX1 k).2.2.1 = some (tyX1 k) := by decide +kernel
def RX2 : String := "ClassFrames$Frames"
def TX2 : u_T := fun k => match k with
  | 0 => ("ClassFrames$Frames", "states", "LClassFrames$Table;", true)
  | 1 => ("ClassFrames$Frames", "places", "[I", true)
  | 2 => ("ClassFrames$Frames", "locals", "[I", true)
  | _ => ("ClassFrames$Frames", "many", "I", false)
def tyX2 : Nat → FieldType := fun k => match k with
  | 0 => .object "ClassFrames$Table"
  | 1 => .array .int
  | 2 => .array .int
  | _ => .int
theorem nmX2 : ∀ a, a < 4 → ∀ b, b < 4 → a ≠ b → (TX2 a).2.1 ≠ (TX2 b).2.1 := by decide +kernel
theorem tyX2_ok : ∀ k, k < 4 → parseFieldDescriptor (TX2 k).2.2.1 = some (tyX2 k) := by decide +kernel
def RX3 : String := "ClassFrames$Judge"
def TX3 : u_T := fun k => match k with
  | 0 => ("ClassFrames$Judge", "code", "LClassFrames$Code;", true)
  | 1 => ("ClassFrames$Judge", "maker", "LClassFrames$Maker;", true)
  | 2 => ("ClassFrames$Judge", "frames", "LClassFrames$Frames;", true)
  | 3 => ("ClassFrames$Judge", "now", "LClassFrames$State;", true)
  | _ => ("ClassFrames$Judge", "there", "LClassFrames$State;", true)
def tyX3 : Nat → FieldType := fun k => match k with
  | 0 => .object "ClassFrames$Code"
  | 1 => .object "ClassFrames$Maker"
  | 2 => .object "ClassFrames$Frames"
  | 3 => .object "ClassFrames$State"
  | _ => .object "ClassFrames$State"
theorem nmX3 : ∀ a, a < 5 → ∀ b, b < 5 → a ≠ b → (TX3 a).2.1 ≠ (TX3 b).2.1 := by decide +kernel
theorem tyX3_ok : ∀ k, k < 5 → parseFieldDescriptor (TX3 k).2.2.1 = some (tyX3 k) := by decide +kernel
def RX4 : String := "ClassFrames$Kinds"
def TX4 : u_T := fun k => match k with
  | _ => ("", "", "", false)
def tyX4 : Nat → FieldType := fun k => match k with
  | _ => .int
theorem nmX4 : ∀ a, a < 0 → ∀ b, b < 0 → a ≠ b → (TX4 a).2.1 ≠ (TX4 b).2.1 := by decide +kernel
theorem tyX4_ok : ∀ k, k < 0 → parseFieldDescriptor (TX4 k).2.2.1 = some (tyX4 k) := by decide +kernel
def RX5 : String := "ClassFrames$Machine"
def TX5 : u_T := fun k => match k with
  | 0 => ("ClassFrames$Machine", "code", "LClassFrames$Code;", true)
  | 1 => ("ClassFrames$Machine", "arguments", "[J", true)
  | 2 => ("ClassFrames$Machine", "state", "LClassFrames$State;", true)
  | 3 => ("ClassFrames$Machine", "values", "[J", true)
  | 4 => ("ClassFrames$Machine", "taken", "[J", true)
  | 5 => ("ClassFrames$Machine", "takenKinds", "[I", true)
  | 6 => ("ClassFrames$Machine", "rows", "LClassFrames$Rows;", true)
  | 7 => ("ClassFrames$Machine", "ran", "Z", false)
  | 8 => ("ClassFrames$Machine", "ended", "Z", false)
  | 9 => ("ClassFrames$Machine", "place", "I", false)
  | 10 => ("ClassFrames$Machine", "steps", "I", false)
  | 11 => ("ClassFrames$Machine", "outcome", "I", false)
  | 12 => ("ClassFrames$Machine", "codeFault", "I", false)
  | 13 => ("ClassFrames$Machine", "notTakenCode", "J", false)
  | _ => ("ClassFrames$Machine", "refusals", "I", false)
def tyX5 : Nat → FieldType := fun k => match k with
  | 0 => .object "ClassFrames$Code"
  | 1 => .array .long
  | 2 => .object "ClassFrames$State"
  | 3 => .array .long
  | 4 => .array .long
  | 5 => .array .int
  | 6 => .object "ClassFrames$Rows"
  | 7 => .boolean
  | 8 => .boolean
  | 9 => .int
  | 10 => .int
  | 11 => .int
  | 12 => .int
  | 13 => .long
  | _ => .int
theorem nmX5 : ∀ a, a < 15 → ∀ b, b < 15 → a ≠ b → (TX5 a).2.1 ≠ (TX5 b).2.1 := by decide +kernel
theorem tyX5_ok : ∀ k, k < 15 → parseFieldDescriptor (TX5 k).2.2.1 = some (tyX5 k) := by decide +kernel
def RX6 : String := "ClassFrames$Maker"
def TX6 : u_T := fun k => match k with
  | 0 => ("ClassFrames$Maker", "code", "LClassFrames$Code;", true)
  | 1 => ("ClassFrames$Maker", "frames", "LClassFrames$Frames;", true)
  | 2 => ("ClassFrames$Maker", "states", "LClassFrames$Table;", true)
  | 3 => ("ClassFrames$Maker", "now", "LClassFrames$State;", true)
  | 4 => ("ClassFrames$Maker", "made", "Z", false)
  | 5 => ("ClassFrames$Maker", "changed", "Z", false)
  | 6 => ("ClassFrames$Maker", "rounds", "I", false)
  | _ => ("ClassFrames$Maker", "faultPlace", "I", false)
def tyX6 : Nat → FieldType := fun k => match k with
  | 0 => .object "ClassFrames$Code"
  | 1 => .object "ClassFrames$Frames"
  | 2 => .object "ClassFrames$Table"
  | 3 => .object "ClassFrames$State"
  | 4 => .boolean
  | 5 => .boolean
  | 6 => .int
  | _ => .int
theorem nmX6 : ∀ a, a < 8 → ∀ b, b < 8 → a ≠ b → (TX6 a).2.1 ≠ (TX6 b).2.1 := by decide +kernel
theorem tyX6_ok : ∀ k, k < 8 → parseFieldDescriptor (TX6 k).2.2.1 = some (tyX6 k) := by decide +kernel
def RX7 : String := "ClassFrames$Packer"
def TX7 : u_T := fun k => match k with
  | 0 => ("ClassFrames$Packer", "code", "LClassFrames$Code;", true)
  | 1 => ("ClassFrames$Packer", "frames", "LClassFrames$Frames;", true)
  | 2 => ("ClassFrames$Packer", "now", "LClassFrames$State;", true)
  | 3 => ("ClassFrames$Packer", "bytes", "[I", true)
  | 4 => ("ClassFrames$Packer", "length", "I", false)
  | 5 => ("ClassFrames$Packer", "ahead", "[I", true)
  | 6 => ("ClassFrames$Packer", "aheadMany", "I", false)
  | 7 => ("ClassFrames$Packer", "locals", "[I", true)
  | 8 => ("ClassFrames$Packer", "localsMany", "I", false)
  | 9 => ("ClassFrames$Packer", "stack", "[I", true)
  | _ => ("ClassFrames$Packer", "stackMany", "I", false)
def tyX7 : Nat → FieldType := fun k => match k with
  | 0 => .object "ClassFrames$Code"
  | 1 => .object "ClassFrames$Frames"
  | 2 => .object "ClassFrames$State"
  | 3 => .array .int
  | 4 => .int
  | 5 => .array .int
  | 6 => .int
  | 7 => .array .int
  | 8 => .int
  | 9 => .array .int
  | _ => .int
theorem nmX7 : ∀ a, a < 11 → ∀ b, b < 11 → a ≠ b → (TX7 a).2.1 ≠ (TX7 b).2.1 := by decide +kernel
theorem tyX7_ok : ∀ k, k < 11 → parseFieldDescriptor (TX7 k).2.2.1 = some (tyX7 k) := by decide +kernel
def RX8 : String := "ClassFrames$Rows"
def TX8 : u_T := fun k => match k with
  | 0 => ("ClassFrames$Rows", "lengths", "[I", true)
  | 1 => ("ClassFrames$Rows", "cells", "[I", true)
  | _ => ("ClassFrames$Rows", "many", "I", false)
def tyX8 : Nat → FieldType := fun k => match k with
  | 0 => .array .int
  | 1 => .array .int
  | _ => .int
theorem nmX8 : ∀ a, a < 3 → ∀ b, b < 3 → a ≠ b → (TX8 a).2.1 ≠ (TX8 b).2.1 := by decide +kernel
theorem tyX8_ok : ∀ k, k < 3 → parseFieldDescriptor (TX8 k).2.2.1 = some (tyX8 k) := by decide +kernel
def RX9 : String := "ClassFrames$State"
def TX9 : u_T := fun k => match k with
  | 0 => ("ClassFrames$State", "kinds", "[I", true)
  | _ => ("ClassFrames$State", "depth", "I", false)
def tyX9 : Nat → FieldType := fun k => match k with
  | 0 => .array .int
  | _ => .int
theorem nmX9 : ∀ a, a < 2 → ∀ b, b < 2 → a ≠ b → (TX9 a).2.1 ≠ (TX9 b).2.1 := by decide +kernel
theorem tyX9_ok : ∀ k, k < 2 → parseFieldDescriptor (TX9 k).2.2.1 = some (tyX9 k) := by decide +kernel
def RX10 : String := "ClassFrames$Table"
def TX10 : u_T := fun k => match k with
  | 0 => ("ClassFrames$Table", "kinds", "[I", true)
  | _ => ("ClassFrames$Table", "depths", "[I", true)
def tyX10 : Nat → FieldType := fun k => match k with
  | 0 => .array .int
  | _ => .array .int
theorem nmX10 : ∀ a, a < 2 → ∀ b, b < 2 → a ≠ b → (TX10 a).2.1 ≠ (TX10 b).2.1 := by decide +kernel
theorem tyX10_ok : ∀ k, k < 2 → parseFieldDescriptor (TX10 k).2.2.1 = some (tyX10 k) := by decide +kernel
def RX11 : String := "ClassFrames"
def TX11 : u_T := fun k => match k with
  | 0 => ("ClassFrames", "code", "LClassFrames$Code;", true)
  | 1 => ("ClassFrames", "frames", "LClassFrames$Frames;", true)
  | 2 => ("ClassFrames", "maker", "LClassFrames$Maker;", true)
  | 3 => ("ClassFrames", "judge", "LClassFrames$Judge;", true)
  | 4 => ("ClassFrames", "packer", "LClassFrames$Packer;", true)
  | 5 => ("ClassFrames", "machine", "LClassFrames$Machine;", true)
  | _ => ("ClassFrames", "latestFault", "I", false)
def tyX11 : Nat → FieldType := fun k => match k with
  | 0 => .object "ClassFrames$Code"
  | 1 => .object "ClassFrames$Frames"
  | 2 => .object "ClassFrames$Maker"
  | 3 => .object "ClassFrames$Judge"
  | 4 => .object "ClassFrames$Packer"
  | 5 => .object "ClassFrames$Machine"
  | _ => .int
theorem nmX11 : ∀ a, a < 7 → ∀ b, b < 7 → a ≠ b → (TX11 a).2.1 ≠ (TX11 b).2.1 := by decide +kernel
theorem tyX11_ok : ∀ k, k < 7 → parseFieldDescriptor (TX11 k).2.2.1 = some (tyX11 k) := by decide +kernel
def RX12 : String := "ClassFramesModel"
def TX12 : u_T := fun k => match k with
  | 0 => ("ClassFramesModel", "thrown", "I", false)
  | 1 => ("ClassFramesModel", "codes", "I", false)
  | 2 => ("ClassFramesModel", "op", "[I", true)
  | 3 => ("ClassFramesModel", "one", "[I", true)
  | 4 => ("ClassFramesModel", "two", "[I", true)
  | 5 => ("ClassFramesModel", "handlers", "I", false)
  | 6 => ("ClassFramesModel", "from", "[I", true)
  | 7 => ("ClassFramesModel", "to", "[I", true)
  | 8 => ("ClassFramesModel", "at", "[I", true)
  | 9 => ("ClassFramesModel", "takes", "[I", true)
  | 10 => ("ClassFramesModel", "parameters", "I", false)
  | 11 => ("ClassFramesModel", "parameter", "[I", true)
  | 12 => ("ClassFramesModel", "arguments", "[J", true)
  | 13 => ("ClassFramesModel", "isMade", "Z", false)
  | 14 => ("ClassFramesModel", "fault", "I", false)
  | 15 => ("ClassFramesModel", "rounds", "I", false)
  | 16 => ("ClassFramesModel", "isReached", "[Z", true)
  | 17 => ("ClassFramesModel", "kinds", "[I", true)
  | 18 => ("ClassFramesModel", "sizes", "[I", true)
  | 19 => ("ClassFramesModel", "frames", "I", false)
  | 20 => ("ClassFramesModel", "framePlace", "[I", true)
  | 21 => ("ClassFramesModel", "frameLocals", "[I", true)
  | 22 => ("ClassFramesModel", "frameStack", "[I", true)
  | 23 => ("ClassFramesModel", "frameKinds", "[I", true)
  | 24 => ("ClassFramesModel", "now", "[I", true)
  | 25 => ("ClassFramesModel", "size", "I", false)
  | 26 => ("ClassFramesModel", "wrong", "I", false)
  | 27 => ("ClassFramesModel", "changes", "Z", false)
  | 28 => ("ClassFramesModel", "arm", "[I", true)
  | 29 => ("ClassFramesModel", "both", "[I", true)
  | 30 => ("ClassFramesModel", "packed", "I", false)
  | 31 => ("ClassFramesModel", "out", "[I", true)
  | 32 => ("ClassFramesModel", "ahead", "[I", true)
  | 33 => ("ClassFramesModel", "mine", "[I", true)
  | 34 => ("ClassFramesModel", "aheadEntries", "[I", true)
  | 35 => ("ClassFramesModel", "mineEntries", "[I", true)
  | 36 => ("ClassFramesModel", "value", "[J", true)
  | 37 => ("ClassFramesModel", "was", "[I", true)
  | 38 => ("ClassFramesModel", "things", "I", false)
  | 39 => ("ClassFramesModel", "of", "[I", true)
  | 40 => ("ClassFramesModel", "cells", "[I", true)
  | 41 => ("ClassFramesModel", "refused", "I", false)
  | 42 => ("ClassFramesModel", "isOver", "Z", false)
  | 43 => ("ClassFramesModel", "answer", "I", false)
  | 44 => ("ClassFramesModel", "hasRun", "Z", false)
  | 45 => ("ClassFramesModel", "toldKind", "I", false)
  | 46 => ("ClassFramesModel", "toldNumber", "J", false)
  | 47 => ("ClassFramesModel", "toldPlace", "I", false)
  | 48 => ("ClassFramesModel", "toldSteps", "I", false)
  | 49 => ("ClassFramesModel", "toldCode", "I", false)
  | _ => ("ClassFramesModel", "next", "I", false)
def tyX12 : Nat → FieldType := fun k => match k with
  | 0 => .int
  | 1 => .int
  | 2 => .array .int
  | 3 => .array .int
  | 4 => .array .int
  | 5 => .int
  | 6 => .array .int
  | 7 => .array .int
  | 8 => .array .int
  | 9 => .array .int
  | 10 => .int
  | 11 => .array .int
  | 12 => .array .long
  | 13 => .boolean
  | 14 => .int
  | 15 => .int
  | 16 => .array .boolean
  | 17 => .array .int
  | 18 => .array .int
  | 19 => .int
  | 20 => .array .int
  | 21 => .array .int
  | 22 => .array .int
  | 23 => .array .int
  | 24 => .array .int
  | 25 => .int
  | 26 => .int
  | 27 => .boolean
  | 28 => .array .int
  | 29 => .array .int
  | 30 => .int
  | 31 => .array .int
  | 32 => .array .int
  | 33 => .array .int
  | 34 => .array .int
  | 35 => .array .int
  | 36 => .array .long
  | 37 => .array .int
  | 38 => .int
  | 39 => .array .int
  | 40 => .array .int
  | 41 => .int
  | 42 => .boolean
  | 43 => .int
  | 44 => .boolean
  | 45 => .int
  | 46 => .long
  | 47 => .int
  | 48 => .int
  | 49 => .int
  | _ => .int
theorem nmX12 : ∀ a, a < 51 → ∀ b, b < 51 → a ≠ b → (TX12 a).2.1 ≠ (TX12 b).2.1 := by decide +kernel
theorem tyX12_ok : ∀ k, k < 51 → parseFieldDescriptor (TX12 k).2.2.1 = some (tyX12 k) := by decide +kernel
def RJ9 : String := "java/lang/Math"
def TJ9 : u_T := fun k => match k with
  | _ => ("", "", "", false)
def tyJ9 : Nat → FieldType := fun k => match k with
  | _ => .int
theorem nmJ9 : ∀ a, a < 0 → ∀ b, b < 0 → a ≠ b → (TJ9 a).2.1 ≠ (TJ9 b).2.1 := by decide +kernel
theorem tyJ9_ok : ∀ k, k < 0 → parseFieldDescriptor (TJ9 k).2.2.1 = some (tyJ9 k) := by decide +kernel
def RJ7 : String := "java/util/Arrays"
def TJ7 : u_T := fun k => match k with
  | _ => ("", "", "", false)
def tyJ7 : Nat → FieldType := fun k => match k with
  | _ => .int
theorem nmJ7 : ∀ a, a < 0 → ∀ b, b < 0 → a ≠ b → (TJ7 a).2.1 ≠ (TJ7 b).2.1 := by decide +kernel
theorem tyJ7_ok : ∀ k, k < 0 → parseFieldDescriptor (TJ7 k).2.2.1 = some (tyJ7 k) := by decide +kernel
def RL : String := "ClassFramesLaw"
def RJ0 : String := "java/lang/String"
def TJ0 : u_T := fun k => match k with
  | 0 => ("java/lang/String", "value", "[B", true)
  | _ => ("java/lang/String", "coder", "B", true)
def tyJ0 : Nat → FieldType := fun k => match k with
  | 0 => .array .byte
  | _ => .byte
theorem nmJ0 : ∀ a, a < 2 → ∀ b, b < 2 → a ≠ b → (TJ0 a).2.1 ≠ (TJ0 b).2.1 := by decide +kernel
theorem tyJ0_ok : ∀ k, k < 2 → parseFieldDescriptor (TJ0 k).2.2.1 = some (tyJ0 k) := by decide +kernel
def RJx00060 : String := "java/lang/ArrayIndexOutOfBoundsException"
def TJx00060 : u_T := fun k => match k with
  | 0 => ("java/lang/Throwable", "backtrace", "Ljava/lang/Object;", false)
  | 1 => ("java/lang/Throwable", "detailMessage", "Ljava/lang/String;", false)
  | 2 => ("java/lang/Throwable", "cause", "Ljava/lang/Throwable;", false)
  | 3 => ("java/lang/Throwable", "stackTrace", "[Ljava/lang/StackTraceElement;", false)
  | 4 => ("java/lang/Throwable", "depth", "I", false)
  | _ => ("java/lang/Throwable", "suppressedExceptions", "Ljava/util/List;", false)
def tyJx00060 : Nat → FieldType := fun k => match k with
  | 0 => .object "java/lang/Object"
  | 1 => .object "java/lang/String"
  | 2 => .object "java/lang/Throwable"
  | 3 => .array (.object "java/lang/StackTraceElement")
  | 4 => .int
  | _ => .object "java/util/List"
theorem nmJx00060 : ∀ a, a < 6 → ∀ b, b < 6 → a ≠ b → (TJx00060 a).2.1 ≠ (TJx00060 b).2.1 := by decide +kernel
theorem tyJx00060_ok : ∀ k, k < 6 → parseFieldDescriptor (TJx00060 k).2.2.1 = some (tyJx00060 k) := by decide +kernel
abbrev zp_cl : List vw_C := [(RX0, TX0, 11), (RX2, TX2, 4), (RX3, TX3, 5), (RX5, TX5, 15), (RX6, TX6, 8), (RX7, TX7, 11), (RX8, TX8, 3), (RX9, TX9, 2), (RX10, TX10, 2), (RX11, TX11, 7), (RX12, TX12, 51), (RJ0, TJ0, 2), (RJx00060, TJx00060, 6)]
def zp_po : Nat → String := fun o => match o with
  | 0 => RX0
  | 1 => RX1
  | 2 => RX2
  | 3 => RX3
  | 4 => RX4
  | 5 => RX5
  | 6 => RX6
  | 7 => RX7
  | 8 => RX8
  | 9 => RX9
  | 10 => RX10
  | 11 => RX11
  | 12 => RX12
  | 13 => RJ9
  | 14 => RJ7
  | _ => RL
def zp_t0_0 : List (Nat × Instr × Nat) := [(0, .iload_n 1, 1), (1, .iconst 2, 1), (2, .if_icmp .ne 7, 3), (5, .iconst 2, 1), (6, .goto 4, 3), (9, .iconst 1, 1), (10, .istore_n 2, 1), (11, .aload_n 0, 1), (12, .getfield 36, 3), (15, .iload_n 2, 1), (16, .iadd, 1), (17, .bipush 8, 2), (19, .if_icmp .le 6, 3), (22, .bipush (-4), 2), (24, .ireturn, 1), (25, .aload_n 0, 1), (26, .getfield 36, 3), (29, .istore_n 3, 1), (30, .aload_n 0, 1), (31, .getfield 33, 3), (34, .iload_n 3, 1), (35, .iload_n 1, 1), (36, .iastore, 1), (37, .iload_n 2, 1), (38, .iconst 2, 1), (39, .if_icmp .ne 12, 3), (42, .aload_n 0, 1), (43, .getfield 33, 3), (46, .iload_n 3, 1), (47, .iconst 1, 1), (48, .iadd, 1), (49, .iconst 3, 1), (50, .iastore, 1), (51, .aload_n 0, 1), (52, .dup, 1), (53, .getfield 36, 3), (56, .iload_n 2, 1), (57, .iadd, 1), (58, .putfield 36, 3), (61, .iload_n 3, 1)]
def zp_t0_1 : List (Nat × Instr × Nat) := [(62, .ireturn, 1)]
/-- 0: ClassFrames$Code.addParameter (I)I -/
def zp_m0 : zx_M := (⟨RX0, "addParameter", "(I)I"⟩, prog_2_method_2_code, 4, (some .int), (some 0), 1, 0, zp_t0_0 ++ (zp_t0_1))
def zp_t1_0 : List (Nat × Instr × Nat) := [(0, .aload_n 0, 1), (1, .getfield 40, 3), (4, .bipush 60, 2), (6, .if_icmp .lt 6, 3), (9, .bipush (-4), 2), (11, .ireturn, 1), (12, .aload_n 0, 1), (13, .getfield 9, 3), (16, .aload_n 0, 1), (17, .getfield 40, 3), (20, .iload_n 1, 1), (21, .iastore, 1), (22, .aload_n 0, 1), (23, .getfield 15, 3), (26, .aload_n 0, 1), (27, .getfield 40, 3), (30, .iload_n 2, 1), (31, .iastore, 1), (32, .aload_n 0, 1), (33, .getfield 18, 3), (36, .aload_n 0, 1), (37, .getfield 40, 3), (40, .iload_n 3, 1), (41, .iastore, 1), (42, .aload_n 0, 1), (43, .dup, 1), (44, .getfield 40, 3), (47, .dup_x1, 1), (48, .iconst 1, 1), (49, .iadd, 1), (50, .putfield 40, 3), (53, .ireturn, 1)]
/-- 1: ClassFrames$Code.addInstruction (III)I -/
def zp_m1 : zx_M := (⟨RX0, "addInstruction", "(III)I"⟩, prog_2_method_3_code, 4, (some .int), (some 0), 3, 0, zp_t1_0)
def zp_t2_0 : List (Nat × Instr × Nat) := [(0, .aload_n 0, 1), (1, .getfield 43, 3), (4, .bipush 6, 2), (6, .if_icmp .lt 6, 3), (9, .bipush (-4), 2), (11, .ireturn, 1), (12, .aload_n 0, 1), (13, .getfield 21, 3), (16, .aload_n 0, 1), (17, .getfield 43, 3), (20, .iload_n 1, 1), (21, .iastore, 1), (22, .aload_n 0, 1), (23, .getfield 24, 3), (26, .aload_n 0, 1), (27, .getfield 43, 3), (30, .iload_n 2, 1), (31, .iastore, 1), (32, .aload_n 0, 1), (33, .getfield 27, 3), (36, .aload_n 0, 1), (37, .getfield 43, 3), (40, .iload_n 3, 1), (41, .iastore, 1), (42, .aload_n 0, 1), (43, .getfield 30, 3), (46, .aload_n 0, 1), (47, .getfield 43, 3), (50, .iload 4, 2), (52, .iastore, 1), (53, .aload_n 0, 1), (54, .dup, 1), (55, .getfield 43, 3), (58, .dup_x1, 1), (59, .iconst 1, 1), (60, .iadd, 1), (61, .putfield 43, 3), (64, .ireturn, 1)]
/-- 2: ClassFrames$Code.addHandler (IIII)I -/
def zp_m2 : zx_M := (⟨RX0, "addHandler", "(IIII)I"⟩, prog_2_method_4_code, 5, (some .int), (some 0), 4, 0, zp_t2_0)
def zp_t3_0 : List (Nat × Instr × Nat) := [(0, .aload_n 0, 1), (1, .iconst 0, 1), (2, .putfield 40, 3), (5, .aload_n 0, 1), (6, .iconst 0, 1), (7, .putfield 43, 3), (10, .aload_n 0, 1), (11, .iconst 0, 1), (12, .putfield 36, 3), (15, .return_, 1)]
/-- 3: ClassFrames$Code.forget ()V -/
def zp_m3 : zx_M := (⟨RX0, "forget", "()V"⟩, prog_2_method_5_code, 1, none, (some 0), 0, 0, zp_t3_0)
def zp_t4_0 : List (Nat × Instr × Nat) := [(0, .aload_n 0, 1), (1, .getfield 40, 3), (4, .ireturn, 1)]
/-- 4: ClassFrames$Code.places ()I -/
def zp_m4 : zx_M := (⟨RX0, "places", "()I"⟩, prog_2_method_6_code, 1, (some .int), (some 0), 0, 0, zp_t4_0)
def zp_t5_0 : List (Nat × Instr × Nat) := [(0, .aload_n 0, 1), (1, .getfield 43, 3), (4, .ireturn, 1)]
/-- 5: ClassFrames$Code.handlers ()I -/
def zp_m5 : zx_M := (⟨RX0, "handlers", "()I"⟩, prog_2_method_7_code, 1, (some .int), (some 0), 0, 0, zp_t5_0)
def zp_t6_0 : List (Nat × Instr × Nat) := [(0, .aload_n 0, 1), (1, .getfield 36, 3), (4, .ireturn, 1)]
/-- 6: ClassFrames$Code.filledLocals ()I -/
def zp_m6 : zx_M := (⟨RX0, "filledLocals", "()I"⟩, prog_2_method_8_code, 1, (some .int), (some 0), 0, 0, zp_t6_0)
def zp_t7_0 : List (Nat × Instr × Nat) := [(0, .iload_n 1, 1), (1, .ifCond .lt 15, 3), (4, .iload_n 1, 1), (5, .aload_n 0, 1), (6, .getfield 40, 3), (9, .if_icmp .ge 7, 3), (12, .iconst 1, 1), (13, .goto 4, 3), (16, .iconst 0, 1), (17, .ireturn, 1)]
/-- 7: ClassFrames$Code.hasPlace (I)Z -/
def zp_m7 : zx_M := (⟨RX0, "hasPlace", "(I)Z"⟩, prog_2_method_9_code, 2, (some .boolean), (some 0), 1, 0, zp_t7_0)
def zp_t8_0 : List (Nat × Instr × Nat) := [(0, .aload_n 0, 1), (1, .iload_n 1, 1), (2, .invokevirtual 46, 3), (5, .ifCond .eq 12, 3), (8, .aload_n 0, 1), (9, .getfield 9, 3), (12, .iload_n 1, 1), (13, .iaload, 1), (14, .goto 4, 3), (17, .iconst 0, 1), (18, .ireturn, 1)]
/-- 8: ClassFrames$Code.opAt (I)I -/
def zp_m8 : zx_M := (⟨RX0, "opAt", "(I)I"⟩, prog_2_method_10_code, 2, (some .int), (some 0), 1, 0, zp_t8_0)
def zp_t9_0 : List (Nat × Instr × Nat) := [(0, .aload_n 0, 1), (1, .iload_n 1, 1), (2, .invokevirtual 46, 3), (5, .ifCond .eq 12, 3), (8, .aload_n 0, 1), (9, .getfield 15, 3), (12, .iload_n 1, 1), (13, .iaload, 1), (14, .goto 4, 3), (17, .iconst 0, 1), (18, .ireturn, 1)]
/-- 9: ClassFrames$Code.firstAt (I)I -/
def zp_m9 : zx_M := (⟨RX0, "firstAt", "(I)I"⟩, prog_2_method_11_code, 2, (some .int), (some 0), 1, 0, zp_t9_0)
def zp_t10_0 : List (Nat × Instr × Nat) := [(0, .aload_n 0, 1), (1, .iload_n 1, 1), (2, .invokevirtual 46, 3), (5, .ifCond .eq 12, 3), (8, .aload_n 0, 1), (9, .getfield 18, 3), (12, .iload_n 1, 1), (13, .iaload, 1), (14, .goto 4, 3), (17, .iconst 0, 1), (18, .ireturn, 1)]
/-- 10: ClassFrames$Code.secondAt (I)I -/
def zp_m10 : zx_M := (⟨RX0, "secondAt", "(I)I"⟩, prog_2_method_12_code, 2, (some .int), (some 0), 1, 0, zp_t10_0)
def zp_t11_0 : List (Nat × Instr × Nat) := [(0, .aload_n 0, 1), (1, .iload_n 1, 1), (2, .invokevirtual 50, 3), (5, .istore_n 2, 1), (6, .iload_n 2, 1), (7, .bipush 22, 2), (9, .if_icmp .lt 9, 3), (12, .iload_n 2, 1), (13, .bipush 24, 2), (15, .if_icmp .le 7, 3), (18, .iconst 1, 1), (19, .goto 4, 3), (22, .iconst 0, 1), (23, .ireturn, 1)]
/-- 11: ClassFrames$Code.goesOn (I)Z -/
def zp_m11 : zx_M := (⟨RX0, "goesOn", "(I)Z"⟩, prog_2_method_13_code, 3, (some .boolean), (some 0), 1, 0, zp_t11_0)
def zp_t12_0 : List (Nat × Instr × Nat) := [(0, .aload_n 0, 1), (1, .iload_n 1, 1), (2, .invokevirtual 50, 3), (5, .istore_n 2, 1), (6, .iload_n 2, 1), (7, .bipush 24, 2), (9, .if_icmp .lt 9, 3), (12, .iload_n 2, 1), (13, .bipush 27, 2), (15, .if_icmp .le 5, 3), (18, .iconst 0, 1), (19, .ireturn, 1), (20, .iload_n 2, 1), (21, .bipush 27, 2), (23, .if_icmp .ne 7, 3), (26, .iconst 2, 1), (27, .goto 4, 3), (30, .iconst 1, 1), (31, .ireturn, 1)]
/-- 12: ClassFrames$Code.ways (I)I -/
def zp_m12 : zx_M := (⟨RX0, "ways", "(I)I"⟩, prog_2_method_14_code, 3, (some .int), (some 0), 1, 0, zp_t12_0)
def zp_t13_0 : List (Nat × Instr × Nat) := [(0, .iload_n 2, 1), (1, .ifCond .ne 11, 3), (4, .aload_n 0, 1), (5, .iload_n 1, 1), (6, .invokevirtual 54, 3), (9, .goto 8, 3), (12, .aload_n 0, 1), (13, .iload_n 1, 1), (14, .invokevirtual 57, 3), (17, .ireturn, 1)]
/-- 13: ClassFrames$Code.way (II)I -/
def zp_m13 : zx_M := (⟨RX0, "way", "(II)I"⟩, prog_2_method_15_code, 3, (some .int), (some 0), 2, 0, zp_t13_0)
def zp_t14_0 : List (Nat × Instr × Nat) := [(0, .iload_n 1, 1), (1, .ifCond .lt 15, 3), (4, .iload_n 1, 1), (5, .aload_n 0, 1), (6, .getfield 43, 3), (9, .if_icmp .ge 7, 3), (12, .iconst 1, 1), (13, .goto 4, 3), (16, .iconst 0, 1), (17, .ireturn, 1)]
/-- 14: ClassFrames$Code.hasHandler (I)Z -/
def zp_m14 : zx_M := (⟨RX0, "hasHandler", "(I)Z"⟩, prog_2_method_16_code, 2, (some .boolean), (some 0), 1, 0, zp_t14_0)
def zp_t15_0 : List (Nat × Instr × Nat) := [(0, .aload_n 0, 1), (1, .iload_n 1, 1), (2, .invokevirtual 60, 3), (5, .ifCond .eq 27, 3), (8, .aload_n 0, 1), (9, .getfield 21, 3), (12, .iload_n 1, 1), (13, .iaload, 1), (14, .iload_n 2, 1), (15, .if_icmp .gt 17, 3), (18, .iload_n 2, 1), (19, .aload_n 0, 1), (20, .getfield 24, 3), (23, .iload_n 1, 1), (24, .iaload, 1), (25, .if_icmp .ge 7, 3), (28, .iconst 1, 1), (29, .goto 4, 3), (32, .iconst 0, 1), (33, .ireturn, 1)]
/-- 15: ClassFrames$Code.handles (II)Z -/
def zp_m15 : zx_M := (⟨RX0, "handles", "(II)Z"⟩, prog_2_method_17_code, 3, (some .boolean), (some 0), 2, 0, zp_t15_0)
def zp_t16_0 : List (Nat × Instr × Nat) := [(0, .aload_n 0, 1), (1, .iload_n 1, 1), (2, .invokevirtual 60, 3), (5, .ifCond .eq 12, 3), (8, .aload_n 0, 1), (9, .getfield 27, 3), (12, .iload_n 1, 1), (13, .iaload, 1), (14, .goto 4, 3), (17, .iconst (-1), 1), (18, .ireturn, 1)]
/-- 16: ClassFrames$Code.handlerAt (I)I -/
def zp_m16 : zx_M := (⟨RX0, "handlerAt", "(I)I"⟩, prog_2_method_18_code, 2, (some .int), (some 0), 1, 0, zp_t16_0)
def zp_t17_0 : List (Nat × Instr × Nat) := [(0, .aload_n 0, 1), (1, .iload_n 1, 1), (2, .invokevirtual 60, 3), (5, .ifCond .eq 12, 3), (8, .aload_n 0, 1), (9, .getfield 30, 3), (12, .iload_n 1, 1), (13, .iaload, 1), (14, .goto 4, 3), (17, .iconst 0, 1), (18, .ireturn, 1)]
/-- 17: ClassFrames$Code.handlerKind (I)I -/
def zp_m17 : zx_M := (⟨RX0, "handlerKind", "(I)I"⟩, prog_2_method_19_code, 2, (some .int), (some 0), 1, 0, zp_t17_0)
def zp_t18_0 : List (Nat × Instr × Nat) := [(0, .iconst 0, 1), (1, .istore_n 3, 1), (2, .iload_n 3, 1), (3, .aload_n 0, 1), (4, .getfield 43, 3), (7, .if_icmp .ge 32, 3), (10, .aload_n 0, 1), (11, .iload_n 3, 1), (12, .iload_n 1, 1), (13, .invokevirtual 63, 3), (16, .ifCond .eq 17, 3), (19, .iload_n 2, 1), (20, .aload_n 0, 1), (21, .iload_n 3, 1), (22, .invokevirtual 67, 3), (25, .invokestatic 70, 3), (28, .ifCond .eq 5, 3), (31, .iload_n 3, 1), (32, .ireturn, 1), (33, .iinc 3 1, 3), (36, .goto (-34), 3), (39, .iconst (-1), 1), (40, .ireturn, 1)]
/-- 18: ClassFrames$Code.taker (II)I -/
def zp_m18 : zx_M := (⟨RX0, "taker", "(II)I"⟩, prog_2_method_20_code, 4, (some .int), (some 0), 2, 0, zp_t18_0)
def zp_t19_0 : List (Nat × Instr × Nat) := [(0, .iload_n 1, 1), (1, .ifCond .lt 20, 3), (4, .iload_n 1, 1), (5, .aload_n 0, 1), (6, .getfield 36, 3), (9, .if_icmp .ge 12, 3), (12, .aload_n 0, 1), (13, .getfield 33, 3), (16, .iload_n 1, 1), (17, .iaload, 1), (18, .goto 4, 3), (21, .iconst 0, 1), (22, .ireturn, 1)]
/-- 19: ClassFrames$Code.parameterKind (I)I -/
def zp_m19 : zx_M := (⟨RX0, "parameterKind", "(I)I"⟩, prog_2_method_21_code, 2, (some .int), (some 0), 1, 0, zp_t19_0)
def zp_t20_0 : List (Nat × Instr × Nat) := [(0, .iload_n 1, 1), (1, .lookupswitch 79 #[(8, 51), (9, 57), (10, 63), (11, 68), (28, 73)], 51), (52, .aload_n 0, 1), (53, .iload_n 2, 1), (54, .invokestatic 9, 3), (57, .ireturn, 1), (58, .aload_n 0, 1), (59, .iload_n 2, 1), (60, .invokestatic 15, 3), (63, .ireturn, 1), (64, .aload_n 0, 1), (65, .invokestatic 18, 3), (68, .ireturn, 1), (69, .aload_n 0, 1), (70, .invokestatic 22, 3), (73, .ireturn, 1), (74, .aload_n 0, 1), (75, .iload_n 2, 1), (76, .invokestatic 25, 3), (79, .ireturn, 1), (80, .aload_n 0, 1), (81, .iload_n 1, 1), (82, .iload_n 2, 1), (83, .invokestatic 28, 3), (86, .ireturn, 1)]
/-- 20: ClassFrames$Effect.apply (LClassFrames$State;II)I -/
def zp_m20 : zx_M := (⟨RX1, "apply", "(LClassFrames$State;II)I"⟩, prog_3_method_2_code, 3, (some .int), none, 3, 1, zp_t20_0)
def zp_t21_0 : List (Nat × Instr × Nat) := [(0, .iload_n 1, 1), (1, .ifCond .lt 19, 3), (4, .iload_n 1, 1), (5, .getstatic 32, 3), (8, .arraylength, 1), (9, .if_icmp .ge 11, 3), (12, .iload_n 1, 1), (13, .getstatic 36, 3), (16, .arraylength, 1), (17, .if_icmp .lt 5, 3), (20, .iconst 0, 1), (21, .ireturn, 1), (22, .getstatic 32, 3), (25, .iload_n 1, 1), (26, .iaload, 1), (27, .istore_n 3, 1), (28, .iconst 0, 1), (29, .istore 4, 2), (31, .iload 4, 2), (33, .iconst 4, 1), (34, .if_icmp .ge 79, 3), (37, .iload_n 3, 1), (38, .ifCond .eq 75, 3), (41, .aload_n 0, 1), (42, .iconst 0, 1), (43, .invokevirtual 39, 3), (46, .istore 5, 2), (48, .iload 5, 2), (50, .iconst (-1), 1), (51, .if_icmp .ne 5, 3), (54, .iconst 2, 1), (55, .ireturn, 1), (56, .iload_n 3, 1), (57, .bipush 15, 2), (59, .iand, 1), (60, .istore 6, 2), (62, .iload 6, 2), (64, .iconst 4, 1), (65, .if_icmp .ne 17, 3), (68, .iload 5, 2)]
def zp_t21_1 : List (Nat × Instr × Nat) := [(70, .iconst 4, 1), (71, .if_icmp .lt 7, 3), (74, .iconst 1, 1), (75, .goto 14, 3), (78, .iconst 0, 1), (79, .goto 10, 3), (82, .iload 5, 2), (84, .iload 6, 2), (86, .invokestatic 45, 3), (89, .istore 7, 2), (91, .iload 7, 2), (93, .ifCond .ne 5, 3), (96, .iconst 1, 1), (97, .ireturn, 1), (98, .aload_n 0, 1), (99, .iconst 1, 1), (100, .invokevirtual 51, 3), (103, .iload_n 3, 1), (104, .iconst 4, 1), (105, .iushr, 1), (106, .istore_n 3, 1), (107, .iinc 4 1, 3), (110, .goto (-79), 3), (113, .iload_n 1, 1), (114, .bipush 21, 2), (116, .if_icmp .ne 7, 3), (119, .iload_n 2, 1), (120, .goto 8, 3), (123, .getstatic 36, 3), (126, .iload_n 1, 1), (127, .iaload, 1), (128, .istore 4, 2), (130, .iload 4, 2), (132, .ifCond .ne 7, 3), (135, .iconst 0, 1), (136, .goto 9, 3), (139, .aload_n 0, 1), (140, .iload 4, 2), (142, .invokevirtual 55, 3), (145, .ireturn, 1)]
/-- 21: ClassFrames$Effect.exchange (LClassFrames$State;II)I -/
def zp_m21 : zx_M := (⟨RX1, "exchange", "(LClassFrames$State;II)I"⟩, prog_3_method_3_code, 8, (some .int), none, 3, 1, zp_t21_0 ++ (zp_t21_1))
def zp_t22_0 : List (Nat × Instr × Nat) := [(0, .iload_n 1, 1), (1, .ifCond .lt 9, 3), (4, .iload_n 1, 1), (5, .bipush 8, 2), (7, .if_icmp .lt 5, 3), (10, .iconst 4, 1), (11, .ireturn, 1), (12, .aload_n 0, 1), (13, .iload_n 1, 1), (14, .invokevirtual 58, 3), (17, .istore_n 2, 1), (18, .iload_n 2, 1), (19, .ifCond .eq 8, 3), (22, .iload_n 2, 1), (23, .iconst 3, 1), (24, .if_icmp .ne 7, 3), (27, .iconst 1, 1), (28, .goto 8, 3), (31, .aload_n 0, 1), (32, .iload_n 2, 1), (33, .invokevirtual 55, 3), (36, .ireturn, 1)]
/-- 22: ClassFrames$Effect.load (LClassFrames$State;I)I -/
def zp_m22 : zx_M := (⟨RX1, "load", "(LClassFrames$State;I)I"⟩, prog_3_method_4_code, 3, (some .int), none, 2, 1, zp_t22_0)
def zp_t23_0 : List (Nat × Instr × Nat) := [(0, .aload_n 0, 1), (1, .iconst 0, 1), (2, .invokevirtual 39, 3), (5, .istore_n 2, 1), (6, .iload_n 2, 1), (7, .iconst (-1), 1), (8, .if_icmp .ne 5, 3), (11, .iconst 2, 1), (12, .ireturn, 1), (13, .iload_n 2, 1), (14, .ifCond .ne 5, 3), (17, .iconst 1, 1), (18, .ireturn, 1), (19, .aload_n 0, 1), (20, .iload_n 2, 1), (21, .iconst 3, 1), (22, .if_icmp .ne 7, 3), (25, .iconst 2, 1), (26, .goto 4, 3), (29, .iconst 1, 1), (30, .invokevirtual 51, 3), (33, .aload_n 0, 1), (34, .iload_n 1, 1), (35, .iload_n 2, 1), (36, .iconst 3, 1), (37, .if_icmp .ne 7, 3), (40, .iconst 2, 1), (41, .goto 4, 3), (44, .iload_n 2, 1), (45, .invokevirtual 61, 3), (48, .ireturn, 1)]
/-- 23: ClassFrames$Effect.store (LClassFrames$State;I)I -/
def zp_m23 : zx_M := (⟨RX1, "store", "(LClassFrames$State;I)I"⟩, prog_3_method_5_code, 3, (some .int), none, 2, 1, zp_t23_0)
def zp_t24_0 : List (Nat × Instr × Nat) := [(0, .aload_n 0, 1), (1, .iconst 0, 1), (2, .invokevirtual 39, 3), (5, .istore_n 1, 1), (6, .iload_n 1, 1), (7, .iconst (-1), 1), (8, .if_icmp .ne 5, 3), (11, .iconst 2, 1), (12, .ireturn, 1), (13, .iload_n 1, 1), (14, .iconst 3, 1), (15, .if_icmp .ne 5, 3), (18, .iconst 1, 1), (19, .ireturn, 1), (20, .aload_n 0, 1), (21, .iconst 1, 1), (22, .invokevirtual 51, 3), (25, .iconst 0, 1), (26, .ireturn, 1)]
/-- 24: ClassFrames$Effect.pop (LClassFrames$State;)I -/
def zp_m24 : zx_M := (⟨RX1, "pop", "(LClassFrames$State;)I"⟩, prog_3_method_6_code, 2, (some .int), none, 1, 1, zp_t24_0)
def zp_t25_0 : List (Nat × Instr × Nat) := [(0, .aload_n 0, 1), (1, .iconst 1, 1), (2, .invokevirtual 39, 3), (5, .istore_n 1, 1), (6, .iload_n 1, 1), (7, .iconst (-1), 1), (8, .if_icmp .ne 5, 3), (11, .iconst 2, 1), (12, .ireturn, 1), (13, .iload_n 1, 1), (14, .iconst 3, 1), (15, .if_icmp .ne 5, 3), (18, .iconst 1, 1), (19, .ireturn, 1), (20, .aload_n 0, 1), (21, .iconst 2, 1), (22, .invokevirtual 51, 3), (25, .iconst 0, 1), (26, .ireturn, 1)]
/-- 25: ClassFrames$Effect.popTwo (LClassFrames$State;)I -/
def zp_m25 : zx_M := (⟨RX1, "popTwo", "(LClassFrames$State;)I"⟩, prog_3_method_7_code, 2, (some .int), none, 1, 1, zp_t25_0)
def zp_t26_0 : List (Nat × Instr × Nat) := [(0, .iload_n 1, 1), (1, .ifCond .lt 9, 3), (4, .iload_n 1, 1), (5, .bipush 8, 2), (7, .if_icmp .lt 5, 3), (10, .iconst 4, 1), (11, .ireturn, 1), (12, .aload_n 0, 1), (13, .iload_n 1, 1), (14, .invokevirtual 58, 3), (17, .iconst 1, 1), (18, .if_icmp .ne 7, 3), (21, .iconst 0, 1), (22, .goto 4, 3), (25, .iconst 1, 1), (26, .ireturn, 1)]
/-- 26: ClassFrames$Effect.increase (LClassFrames$State;I)I -/
def zp_m26 : zx_M := (⟨RX1, "increase", "(LClassFrames$State;I)I"⟩, prog_3_method_8_code, 2, (some .int), none, 2, 1, zp_t26_0)
def zp_t27_0 : List (Nat × Instr × Nat) := [(0, .aload_n 0, 1), (1, .iconst 0, 1), (2, .putfield 25, 3), (5, .return_, 1)]
/-- 27: ClassFrames$Frames.forget ()V -/
def zp_m27 : zx_M := (⟨RX2, "forget", "()V"⟩, prog_4_method_2_code, 1, none, (some 1), 0, 2, zp_t27_0)
def zp_t28_0 : List (Nat × Instr × Nat) := [(0, .aload_n 0, 1), (1, .getfield 25, 3), (4, .bipush 60, 2), (6, .if_icmp .lt 4, 3), (9, .return_, 1), (10, .aload_n 0, 1), (11, .getfield 18, 3), (14, .aload_n 0, 1), (15, .getfield 25, 3), (18, .iload_n 1, 1), (19, .iastore, 1), (20, .aload_n 0, 1), (21, .getfield 22, 3), (24, .aload_n 0, 1), (25, .getfield 25, 3), (28, .aload_n 2, 1), (29, .invokestatic 29, 3), (32, .iastore, 1), (33, .aload_n 0, 1), (34, .getfield 12, 3), (37, .aload_n 0, 1), (38, .getfield 25, 3), (41, .aload_n 2, 1), (42, .invokevirtual 33, 3), (45, .aload_n 0, 1), (46, .dup, 1), (47, .getfield 25, 3), (50, .iconst 1, 1), (51, .iadd, 1), (52, .putfield 25, 3), (55, .return_, 1)]
/-- 28: ClassFrames$Frames.add (ILClassFrames$State;)V -/
def zp_m28 : zx_M := (⟨RX2, "add", "(ILClassFrames$State;)V"⟩, prog_4_method_3_code, 3, none, (some 1), 2, 2, zp_t28_0)
def zp_t29_0 : List (Nat × Instr × Nat) := [(0, .bipush 8, 2), (2, .istore_n 1, 1), (3, .iload_n 1, 1), (4, .ifCond .le 19, 3), (7, .aload_n 0, 1), (8, .iload_n 1, 1), (9, .iconst 1, 1), (10, .isub, 1), (11, .invokevirtual 37, 3), (14, .ifCond .ne 9, 3), (17, .iinc 1 (-1), 3), (20, .goto (-17), 3), (23, .iload_n 1, 1), (24, .ireturn, 1)]
/-- 29: ClassFrames$Frames.usedLocals (LClassFrames$State;)I -/
def zp_m29 : zx_M := (⟨RX2, "usedLocals", "(LClassFrames$State;)I"⟩, prog_4_method_4_code, 2, (some .int), none, 1, 2, zp_t29_0)
def zp_t30_0 : List (Nat × Instr × Nat) := [(0, .aload_n 0, 1), (1, .getfield 25, 3), (4, .ireturn, 1)]
/-- 30: ClassFrames$Frames.howMany ()I -/
def zp_m30 : zx_M := (⟨RX2, "howMany", "()I"⟩, prog_4_method_5_code, 1, (some .int), (some 1), 0, 2, zp_t30_0)
def zp_t31_0 : List (Nat × Instr × Nat) := [(0, .iload_n 1, 1), (1, .ifCond .lt 15, 3), (4, .iload_n 1, 1), (5, .aload_n 0, 1), (6, .getfield 25, 3), (9, .if_icmp .ge 7, 3), (12, .iconst 1, 1), (13, .goto 4, 3), (16, .iconst 0, 1), (17, .ireturn, 1)]
/-- 31: ClassFrames$Frames.has (I)Z -/
def zp_m31 : zx_M := (⟨RX2, "has", "(I)Z"⟩, prog_4_method_6_code, 2, (some .boolean), (some 1), 1, 2, zp_t31_0)
def zp_t32_0 : List (Nat × Instr × Nat) := [(0, .aload_n 0, 1), (1, .iload_n 1, 1), (2, .invokevirtual 43, 3), (5, .ifCond .eq 12, 3), (8, .aload_n 0, 1), (9, .getfield 18, 3), (12, .iload_n 1, 1), (13, .iaload, 1), (14, .goto 4, 3), (17, .iconst (-1), 1), (18, .ireturn, 1)]
/-- 32: ClassFrames$Frames.placeOf (I)I -/
def zp_m32 : zx_M := (⟨RX2, "placeOf", "(I)I"⟩, prog_4_method_7_code, 2, (some .int), (some 1), 1, 2, zp_t32_0)
def zp_t33_0 : List (Nat × Instr × Nat) := [(0, .aload_n 0, 1), (1, .iload_n 1, 1), (2, .invokevirtual 43, 3), (5, .ifCond .eq 12, 3), (8, .aload_n 0, 1), (9, .getfield 22, 3), (12, .iload_n 1, 1), (13, .iaload, 1), (14, .goto 4, 3), (17, .iconst 0, 1), (18, .ireturn, 1)]
/-- 33: ClassFrames$Frames.localsOf (I)I -/
def zp_m33 : zx_M := (⟨RX2, "localsOf", "(I)I"⟩, prog_4_method_8_code, 2, (some .int), (some 1), 1, 2, zp_t33_0)
def zp_t34_0 : List (Nat × Instr × Nat) := [(0, .aload_n 0, 1), (1, .iload_n 1, 1), (2, .invokevirtual 43, 3), (5, .ifCond .eq 14, 3), (8, .aload_n 0, 1), (9, .getfield 12, 3), (12, .iload_n 1, 1), (13, .invokevirtual 47, 3), (16, .goto 4, 3), (19, .iconst 0, 1), (20, .ireturn, 1)]
/-- 34: ClassFrames$Frames.stackOf (I)I -/
def zp_m34 : zx_M := (⟨RX2, "stackOf", "(I)I"⟩, prog_4_method_9_code, 2, (some .int), (some 1), 1, 2, zp_t34_0)
def zp_t35_0 : List (Nat × Instr × Nat) := [(0, .iconst 0, 1), (1, .istore_n 2, 1), (2, .iload_n 2, 1), (3, .aload_n 0, 1), (4, .getfield 25, 3), (7, .if_icmp .ge 21, 3), (10, .aload_n 0, 1), (11, .getfield 18, 3), (14, .iload_n 2, 1), (15, .iaload, 1), (16, .iload_n 1, 1), (17, .if_icmp .ne 5, 3), (20, .iload_n 2, 1), (21, .ireturn, 1), (22, .iinc 2 1, 3), (25, .goto (-23), 3), (28, .iconst (-1), 1), (29, .ireturn, 1)]
/-- 35: ClassFrames$Frames.frameAt (I)I -/
def zp_m35 : zx_M := (⟨RX2, "frameAt", "(I)I"⟩, prog_4_method_10_code, 3, (some .int), (some 1), 1, 2, zp_t35_0)
def zp_t36_0 : List (Nat × Instr × Nat) := [(0, .aload_n 0, 1), (1, .getfield 12, 3), (4, .iload_n 1, 1), (5, .aload_n 2, 1), (6, .invokevirtual 50, 3), (9, .return_, 1)]
/-- 36: ClassFrames$Frames.read (ILClassFrames$State;)V -/
def zp_m36 : zx_M := (⟨RX2, "read", "(ILClassFrames$State;)V"⟩, prog_4_method_11_code, 3, none, (some 1), 2, 2, zp_t36_0)
def zp_t37_0 : List (Nat × Instr × Nat) := [(0, .aload_n 0, 1), (1, .iload_n 1, 1), (2, .invokevirtual 43, 3), (5, .ifCond .ne 5, 3), (8, .iconst (-1), 1), (9, .ireturn, 1), (10, .iload_n 2, 1), (11, .tableswitch 43 0 2 #[25, 31, 37], 25), (36, .aload_n 0, 1), (37, .iload_n 1, 1), (38, .invokevirtual 53, 3), (41, .ireturn, 1), (42, .aload_n 0, 1), (43, .iload_n 1, 1), (44, .invokevirtual 56, 3), (47, .ireturn, 1), (48, .aload_n 0, 1), (49, .iload_n 1, 1), (50, .invokevirtual 59, 3), (53, .ireturn, 1), (54, .aload_n 0, 1), (55, .iload_n 1, 1), (56, .iload_n 2, 1), (57, .iconst 3, 1), (58, .isub, 1), (59, .invokevirtual 62, 3), (62, .ireturn, 1)]
/-- 37: ClassFrames$Frames.tell (II)I -/
def zp_m37 : zx_M := (⟨RX2, "tell", "(II)I"⟩, prog_4_method_12_code, 3, (some .int), (some 1), 2, 2, zp_t37_0)
def zp_t38_0 : List (Nat × Instr × Nat) := [(0, .aload_n 0, 1), (1, .iload_n 1, 1), (2, .iload_n 2, 1), (3, .invokevirtual 66, 3), (6, .ifCond .eq 20, 3), (9, .aload_n 0, 1), (10, .getfield 12, 3), (13, .iload_n 1, 1), (14, .aload_n 0, 1), (15, .iload_n 1, 1), (16, .iload_n 2, 1), (17, .invokevirtual 70, 3), (20, .invokevirtual 73, 3), (23, .goto 4, 3), (26, .iconst (-1), 1), (27, .ireturn, 1)]
/-- 38: ClassFrames$Frames.entry (II)I -/
def zp_m38 : zx_M := (⟨RX2, "entry", "(II)I"⟩, prog_4_method_13_code, 3, (some .int), (some 1), 2, 2, zp_t38_0)
def zp_t39_0 : List (Nat × Instr × Nat) := [(0, .aload_n 0, 1), (1, .iload_n 1, 1), (2, .iload_n 2, 1), (3, .invokevirtual 62, 3), (6, .istore 4, 2), (8, .iload 4, 2), (10, .iconst (-1), 1), (11, .if_icmp .eq 18, 3), (14, .aload_n 0, 1), (15, .getfield 12, 3), (18, .iload_n 1, 1), (19, .aload_n 0, 1), (20, .iload_n 1, 1), (21, .iload_n 2, 1), (22, .invokevirtual 70, 3), (25, .iload_n 3, 1), (26, .invokevirtual 75, 3), (29, .iload 4, 2), (31, .ireturn, 1)]
/-- 39: ClassFrames$Frames.change (III)I -/
def zp_m39 : zx_M := (⟨RX2, "change", "(III)I"⟩, prog_4_method_14_code, 5, (some .int), (some 1), 3, 2, zp_t39_0)
def zp_t40_0 : List (Nat × Instr × Nat) := [(0, .aload_n 0, 1), (1, .iload_n 1, 1), (2, .invokevirtual 43, 3), (5, .ifCond .eq 26, 3), (8, .iload_n 2, 1), (9, .ifCond .lt 22, 3), (12, .iload_n 2, 1), (13, .aload_n 0, 1), (14, .iload_n 1, 1), (15, .invokevirtual 56, 3), (18, .aload_n 0, 1), (19, .iload_n 1, 1), (20, .invokevirtual 59, 3), (23, .iadd, 1), (24, .if_icmp .ge 7, 3), (27, .iconst 1, 1), (28, .goto 4, 3), (31, .iconst 0, 1), (32, .ireturn, 1)]
/-- 40: ClassFrames$Frames.hasEntry (II)Z -/
def zp_m40 : zx_M := (⟨RX2, "hasEntry", "(II)Z"⟩, prog_4_method_15_code, 3, (some .boolean), (some 1), 2, 2, zp_t40_0)
def zp_t41_0 : List (Nat × Instr × Nat) := [(0, .iload_n 2, 1), (1, .aload_n 0, 1), (2, .iload_n 1, 1), (3, .invokevirtual 56, 3), (6, .if_icmp .ge 7, 3), (9, .iload_n 2, 1), (10, .goto 13, 3), (13, .bipush 8, 2), (15, .iload_n 2, 1), (16, .iadd, 1), (17, .aload_n 0, 1), (18, .iload_n 1, 1), (19, .invokevirtual 56, 3), (22, .isub, 1), (23, .ireturn, 1)]
/-- 41: ClassFrames$Frames.column (II)I -/
def zp_m41 : zx_M := (⟨RX2, "column", "(II)I"⟩, prog_4_method_16_code, 3, (some .int), (some 1), 2, 2, zp_t41_0)
def zp_t42_0 : List (Nat × Instr × Nat) := [(0, .aload_n 0, 1), (1, .invokevirtual 33, 3), (4, .istore_n 1, 1), (5, .iload_n 1, 1), (6, .iconst (-1), 1), (7, .if_icmp .eq 5, 3), (10, .iload_n 1, 1), (11, .ireturn, 1), (12, .aload_n 0, 1), (13, .getfield 12, 3), (16, .aload_n 0, 1), (17, .getfield 21, 3), (20, .invokevirtual 37, 3), (23, .iconst 1, 1), (24, .istore_n 2, 1), (25, .iconst 0, 1), (26, .istore_n 3, 1), (27, .iload_n 3, 1), (28, .aload_n 0, 1), (29, .getfield 21, 3), (32, .invokevirtual 41, 3), (35, .if_icmp .ge 73, 3), (38, .aload_n 0, 1), (39, .getfield 25, 3), (42, .iload_n 3, 1), (43, .invokevirtual 46, 3), (46, .istore 4, 2), (48, .iload 4, 2), (50, .ifCond .ne 30, 3), (53, .aload_n 0, 1), (54, .iload_n 3, 1), (55, .iload_n 2, 1), (56, .invokevirtual 52, 3), (59, .ifCond .eq 19, 3), (62, .aload_n 0, 1), (63, .iload_n 3, 1), (64, .invokevirtual 56, 3), (67, .ifCond .eq 11, 3), (70, .aload_n 0, 1), (71, .iload_n 3, 1)]
def zp_t42_1 : List (Nat × Instr × Nat) := [(72, .invokevirtual 59, 3), (75, .ifCond .ne 5, 3), (78, .iload_n 3, 1), (79, .ireturn, 1), (80, .iload 4, 2), (82, .ifCond .ne 18, 3), (85, .aload_n 0, 1), (86, .getfield 21, 3), (89, .iload_n 3, 1), (90, .invokevirtual 62, 3), (93, .ifCond .eq 7, 3), (96, .iconst 1, 1), (97, .goto 4, 3), (100, .iconst 0, 1), (101, .istore_n 2, 1), (102, .iinc 3 1, 3), (105, .goto (-78), 3), (108, .iconst (-1), 1), (109, .ireturn, 1)]
/-- 42: ClassFrames$Judge.firstRefused ()I -/
def zp_m42 : zx_M := (⟨RX3, "firstRefused", "()I"⟩, prog_5_method_2_code, 5, (some .int), (some 2), 0, 3, zp_t42_0 ++ (zp_t42_1))
def zp_t43_0 : List (Nat × Instr × Nat) := [(0, .iconst 0, 1), (1, .istore_n 1, 1), (2, .iload_n 1, 1), (3, .aload_n 0, 1), (4, .getfield 29, 3), (7, .invokevirtual 65, 3), (10, .if_icmp .ge 40, 3), (13, .aload_n 0, 1), (14, .getfield 29, 3), (17, .iload_n 1, 1), (18, .aload_n 0, 1), (19, .getfield 18, 3), (22, .invokevirtual 70, 3), (25, .aload_n 0, 1), (26, .getfield 18, 3), (29, .invokevirtual 74, 3), (32, .ifCond .eq 12, 3), (35, .aload_n 0, 1), (36, .getfield 29, 3), (39, .iload_n 1, 1), (40, .invokevirtual 78, 3), (43, .ireturn, 1), (44, .iinc 1 1, 3), (47, .goto (-45), 3), (50, .iconst (-1), 1), (51, .ireturn, 1)]
/-- 43: ClassFrames$Judge.firstTorn ()I -/
def zp_m43 : zx_M := (⟨RX3, "firstTorn", "()I"⟩, prog_5_method_3_code, 2, (some .int), (some 2), 0, 3, zp_t43_0)
def zp_t44_0 : List (Nat × Instr × Nat) := [(0, .aload_n 0, 1), (1, .iload_n 1, 1), (2, .aload_n 0, 1), (3, .getfield 18, 3), (6, .invokevirtual 82, 3), (9, .ifCond .ne 5, 3), (12, .iload_n 2, 1), (13, .ireturn, 1), (14, .iload_n 2, 1), (15, .ifCond .eq 17, 3), (18, .aload_n 0, 1), (19, .getfield 12, 3), (22, .aload_n 0, 1), (23, .getfield 18, 3), (26, .invokevirtual 86, 3), (29, .ifCond .eq 19, 3), (32, .aload_n 0, 1), (33, .iload_n 1, 1), (34, .aload_n 0, 1), (35, .getfield 12, 3), (38, .invokevirtual 82, 3), (41, .ifCond .eq 7, 3), (44, .iconst 1, 1), (45, .goto 4, 3), (48, .iconst 0, 1), (49, .ireturn, 1)]
/-- 44: ClassFrames$Judge.enters (IZ)Z -/
def zp_m44 : zx_M := (⟨RX3, "enters", "(IZ)Z"⟩, prog_5_method_4_code, 3, (some .boolean), (some 2), 2, 3, zp_t44_0)
def zp_t45_0 : List (Nat × Instr × Nat) := [(0, .aload_n 0, 1), (1, .getfield 29, 3), (4, .iload_n 1, 1), (5, .invokevirtual 90, 3), (8, .istore_n 3, 1), (9, .iload_n 3, 1), (10, .iconst (-1), 1), (11, .if_icmp .ne 5, 3), (14, .iconst 0, 1), (15, .ireturn, 1), (16, .aload_n 0, 1), (17, .getfield 29, 3), (20, .iload_n 3, 1), (21, .aload_n 2, 1), (22, .invokevirtual 70, 3), (25, .iconst 1, 1), (26, .ireturn, 1)]
/-- 45: ClassFrames$Judge.readFrame (ILClassFrames$State;)Z -/
def zp_m45 : zx_M := (⟨RX3, "readFrame", "(ILClassFrames$State;)Z"⟩, prog_5_method_5_code, 4, (some .boolean), (some 2), 2, 3, zp_t45_0)
def zp_t46_0 : List (Nat × Instr × Nat) := [(0, .iconst 0, 1), (1, .istore_n 2, 1), (2, .iload_n 2, 1), (3, .aload_n 0, 1), (4, .getfield 21, 3), (7, .invokevirtual 93, 3), (10, .if_icmp .ge 57, 3), (13, .aload_n 0, 1), (14, .getfield 21, 3), (17, .iload_n 2, 1), (18, .iload_n 1, 1), (19, .invokevirtual 96, 3), (22, .ifCond .eq 39, 3), (25, .aload_n 0, 1), (26, .aload_n 0, 1), (27, .getfield 21, 3), (30, .iload_n 2, 1), (31, .invokevirtual 100, 3), (34, .aload_n 0, 1), (35, .getfield 18, 3), (38, .invokevirtual 82, 3), (41, .ifCond .eq 18, 3), (44, .aload_n 0, 1), (45, .aload_n 0, 1), (46, .getfield 21, 3), (49, .iload_n 2, 1), (50, .invokevirtual 103, 3), (53, .invokevirtual 106, 3), (56, .ifCond .ne 5, 3), (59, .iconst 0, 1), (60, .ireturn, 1), (61, .iinc 2 1, 3), (64, .goto (-62), 3), (67, .iconst 1, 1), (68, .ireturn, 1)]
/-- 46: ClassFrames$Judge.handlersHold (I)Z -/
def zp_m46 : zx_M := (⟨RX3, "handlersHold", "(I)Z"⟩, prog_5_method_6_code, 3, (some .boolean), (some 2), 1, 3, zp_t46_0)
def zp_t47_0 : List (Nat × Instr × Nat) := [(0, .aload_n 0, 1), (1, .getfield 12, 3), (4, .aload_n 0, 1), (5, .getfield 18, 3), (8, .invokevirtual 109, 3), (11, .ifCond .eq 33, 3), (14, .aload_n 0, 1), (15, .getfield 18, 3), (18, .invokevirtual 112, 3), (21, .iconst 1, 1), (22, .if_icmp .ne 22, 3), (25, .iload_n 1, 1), (26, .aload_n 0, 1), (27, .getfield 18, 3), (30, .iconst 0, 1), (31, .invokevirtual 115, 3), (34, .invokestatic 118, 3), (37, .ifCond .eq 7, 3), (40, .iconst 1, 1), (41, .goto 4, 3), (44, .iconst 0, 1), (45, .ireturn, 1)]
/-- 47: ClassFrames$Judge.isTaken (I)Z -/
def zp_m47 : zx_M := (⟨RX3, "isTaken", "(I)Z"⟩, prog_5_method_7_code, 2, (some .boolean), (some 2), 1, 3, zp_t47_0)
def zp_t48_0 : List (Nat × Instr × Nat) := [(0, .aload_n 0, 1), (1, .getfield 12, 3), (4, .aload_n 0, 1), (5, .getfield 21, 3), (8, .iload_n 1, 1), (9, .invokevirtual 123, 3), (12, .aload_n 0, 1), (13, .getfield 21, 3), (16, .iload_n 1, 1), (17, .invokevirtual 126, 3), (20, .invokestatic 129, 3), (23, .ifCond .eq 5, 3), (26, .iconst 0, 1), (27, .ireturn, 1), (28, .iconst 0, 1), (29, .istore_n 2, 1), (30, .iload_n 2, 1), (31, .aload_n 0, 1), (32, .getfield 21, 3), (35, .iload_n 1, 1), (36, .invokevirtual 135, 3), (39, .if_icmp .ge 45, 3), (42, .aload_n 0, 1), (43, .aload_n 0, 1), (44, .getfield 21, 3), (47, .iload_n 1, 1), (48, .iload_n 2, 1), (49, .invokevirtual 138, 3), (52, .aload_n 0, 1), (53, .getfield 18, 3), (56, .invokevirtual 82, 3), (59, .ifCond .eq 17, 3), (62, .aload_n 0, 1), (63, .getfield 12, 3), (66, .aload_n 0, 1), (67, .getfield 18, 3), (70, .invokevirtual 86, 3), (73, .ifCond .ne 5, 3), (76, .iconst 0, 1), (77, .ireturn, 1)]
def zp_t48_1 : List (Nat × Instr × Nat) := [(78, .iinc 2 1, 3), (81, .goto (-51), 3), (84, .iconst 1, 1), (85, .ireturn, 1)]
/-- 48: ClassFrames$Judge.leaves (I)Z -/
def zp_m48 : zx_M := (⟨RX3, "leaves", "(I)Z"⟩, prog_5_method_8_code, 3, (some .boolean), (some 2), 1, 3, zp_t48_0 ++ (zp_t48_1))
def zp_t49_0 : List (Nat × Instr × Nat) := [(0, .iload_n 0, 1), (1, .iload_n 1, 1), (2, .if_icmp .eq 7, 3), (5, .iload_n 1, 1), (6, .ifCond .ne 5, 3), (9, .iconst 1, 1), (10, .ireturn, 1), (11, .iload_n 0, 1), (12, .tableswitch 75 4 8 #[36, 75, 47, 47, 58], 36), (48, .iload_n 1, 1), (49, .iconst 5, 1), (50, .if_icmp .lt 7, 3), (53, .iconst 1, 1), (54, .goto 4, 3), (57, .iconst 0, 1), (58, .ireturn, 1), (59, .iload_n 1, 1), (60, .iconst 5, 1), (61, .if_icmp .ne 7, 3), (64, .iconst 1, 1), (65, .goto 4, 3), (68, .iconst 0, 1), (69, .ireturn, 1), (70, .iload_n 1, 1), (71, .bipush 7, 2), (73, .if_icmp .eq 8, 3), (76, .iload_n 1, 1), (77, .iconst 5, 1), (78, .if_icmp .ne 7, 3), (81, .iconst 1, 1), (82, .goto 4, 3), (85, .iconst 0, 1), (86, .ireturn, 1), (87, .iconst 0, 1), (88, .ireturn, 1)]
/-- 49: ClassFrames$Kinds.goesAs (II)Z -/
def zp_m49 : zx_M := (⟨RX4, "goesAs", "(II)Z"⟩, prog_6_method_2_code, 2, (some .boolean), none, 2, 4, zp_t49_0)
def zp_t50_0 : List (Nat × Instr × Nat) := [(0, .iload_n 0, 1), (1, .iload_n 1, 1), (2, .invokestatic 9, 3), (5, .ifCond .eq 5, 3), (8, .iload_n 1, 1), (9, .ireturn, 1), (10, .iload_n 1, 1), (11, .iload_n 0, 1), (12, .invokestatic 9, 3), (15, .ifCond .eq 5, 3), (18, .iload_n 0, 1), (19, .ireturn, 1), (20, .iload_n 0, 1), (21, .iconst 5, 1), (22, .if_icmp .lt 12, 3), (25, .iload_n 1, 1), (26, .iconst 5, 1), (27, .if_icmp .lt 7, 3), (30, .iconst 5, 1), (31, .goto 4, 3), (34, .iconst 0, 1), (35, .ireturn, 1)]
/-- 50: ClassFrames$Kinds.joined (II)I -/
def zp_m50 : zx_M := (⟨RX4, "joined", "(II)I"⟩, prog_6_method_3_code, 2, (some .int), none, 2, 4, zp_t50_0)
def zp_t51_0 : List (Nat × Instr × Nat) := [(0, .iload_n 1, 1), (1, .ifCond .lt 9, 3), (4, .iload_n 1, 1), (5, .bipush 8, 2), (7, .if_icmp .lt 7, 3), (10, .ldc2_w 43, 3), (13, .lreturn, 1), (14, .aload_n 0, 1), (15, .getfield 9, 3), (18, .iload_n 1, 1), (19, .laload, 1), (20, .lstore 4, 2), (22, .aload_n 0, 1), (23, .getfield 9, 3), (26, .iload_n 1, 1), (27, .lload_n 2, 1), (28, .lastore, 1), (29, .lload 4, 2), (31, .lreturn, 1)]
/-- 51: ClassFrames$Machine.changeArgument (IJ)J -/
def zp_m51 : zx_M := (⟨RX5, "changeArgument", "(IJ)J"⟩, prog_7_method_2_code, 6, (some .long), (some 3), 2, 5, zp_t51_0)
def zp_t52_0 : List (Nat × Instr × Nat) := [(0, .aload_n 0, 1), (1, .getfield 45, 3), (4, .sipush 1000, 3), (7, .if_icmp .lt 7, 3), (10, .iconst 1, 1), (11, .goto 4, 3), (14, .iconst 0, 1), (15, .ireturn, 1)]
/-- 52: ClassFrames$Machine.isFull ()Z -/
def zp_m52 : zx_M := (⟨RX5, "isFull", "()Z"⟩, prog_7_method_3_code, 1, (some .boolean), (some 3), 0, 5, zp_t52_0)
def zp_t53_0 : List (Nat × Instr × Nat) := [(0, .aload_n 0, 1), (1, .getfield 49, 3), (4, .ireturn, 1)]
/-- 53: ClassFrames$Machine.outcome ()I -/
def zp_m53 : zx_M := (⟨RX5, "outcome", "()I"⟩, prog_7_method_4_code, 1, (some .int), (some 3), 0, 5, zp_t53_0)
def zp_t54_0 : List (Nat × Instr × Nat) := [(0, .aload_n 0, 1), (1, .getfield 52, 3), (4, .ireturn, 1)]
/-- 54: ClassFrames$Machine.codeFault ()I -/
def zp_m54 : zx_M := (⟨RX5, "codeFault", "()I"⟩, prog_7_method_5_code, 1, (some .int), (some 3), 0, 5, zp_t54_0)
def zp_t55_0 : List (Nat × Instr × Nat) := [(0, .aload_n 0, 1), (1, .getfield 55, 3), (4, .ireturn, 1)]
/-- 55: ClassFrames$Machine.endPlace ()I -/
def zp_m55 : zx_M := (⟨RX5, "endPlace", "()I"⟩, prog_7_method_6_code, 1, (some .int), (some 3), 0, 5, zp_t55_0)
def zp_t56_0 : List (Nat × Instr × Nat) := [(0, .aload_n 0, 1), (1, .invokevirtual 58, 3), (4, .aload_n 0, 1), (5, .getfield 61, 3), (8, .ifCond .ne 28, 3), (11, .aload_n 0, 1), (12, .getfield 65, 3), (15, .iload_n 1, 1), (16, .if_icmp .ge 20, 3), (19, .aload_n 0, 1), (20, .dup, 1), (21, .getfield 65, 3), (24, .iconst 1, 1), (25, .iadd, 1), (26, .putfield 65, 3), (29, .aload_n 0, 1), (30, .invokevirtual 68, 3), (33, .goto (-29), 3), (36, .return_, 1)]
/-- 56: ClassFrames$Machine.go (I)V -/
def zp_m56 : zx_M := (⟨RX5, "go", "(I)V"⟩, prog_7_method_7_code, 2, none, (some 3), 1, 5, zp_t56_0)
def zp_t57_0 : List (Nat × Instr × Nat) := [(0, .aload_n 0, 1), (1, .iconst 1, 1), (2, .putfield 71, 3), (5, .aload_n 0, 1), (6, .iconst 0, 1), (7, .putfield 61, 3), (10, .aload_n 0, 1), (11, .iconst 0, 1), (12, .putfield 55, 3), (15, .aload_n 0, 1), (16, .iconst 0, 1), (17, .putfield 65, 3), (20, .aload_n 0, 1), (21, .iconst 2, 1), (22, .putfield 49, 3), (25, .aload_n 0, 1), (26, .iconst 0, 1), (27, .putfield 52, 3), (30, .aload_n 0, 1), (31, .lconst 0, 1), (32, .putfield 74, 3), (35, .aload_n 0, 1), (36, .getfield 35, 3), (39, .invokevirtual 78, 3), (42, .aload_n 0, 1), (43, .getfield 18, 3), (46, .aload_n 0, 1), (47, .getfield 39, 3), (50, .invokevirtual 81, 3), (53, .iconst 0, 1), (54, .istore_n 1, 1), (55, .iload_n 1, 1), (56, .bipush 8, 2), (58, .if_icmp .ge 14, 3), (61, .aload_n 0, 1), (62, .iload_n 1, 1), (63, .invokevirtual 84, 3), (66, .iinc 1 1, 3), (69, .goto (-14), 3), (72, .aload_n 0, 1)]
def zp_t57_1 : List (Nat × Instr × Nat) := [(73, .getfield 39, 3), (76, .invokevirtual 88, 3), (79, .ifCond .ne 14, 3), (82, .aload_n 0, 1), (83, .iconst (-1), 1), (84, .putfield 55, 3), (87, .aload_n 0, 1), (88, .bipush 6, 2), (90, .invokevirtual 94, 3), (93, .return_, 1)]
/-- 57: ClassFrames$Machine.begin ()V -/
def zp_m57 : zx_M := (⟨RX5, "begin", "()V"⟩, prog_7_method_8_code, 2, none, (some 3), 0, 5, zp_t57_0 ++ (zp_t57_1))
def zp_t58_0 : List (Nat × Instr × Nat) := [(0, .aload_n 0, 1), (1, .getfield 9, 3), (4, .iload_n 1, 1), (5, .laload, 1), (6, .lstore_n 2, 1), (7, .aload_n 0, 1), (8, .getfield 18, 3), (11, .iload_n 1, 1), (12, .invokevirtual 97, 3), (15, .istore 4, 2), (17, .iload 4, 2), (19, .tableswitch 48 1 3 #[25, 36, 45], 25), (44, .aload_n 0, 1), (45, .iload_n 1, 1), (46, .lload_n 2, 1), (47, .l2i, 1), (48, .i2l, 1), (49, .invokevirtual 101, 3), (52, .goto 77, 3), (55, .aload_n 0, 1), (56, .iload_n 1, 1), (57, .lload_n 2, 1), (58, .invokevirtual 101, 3), (61, .goto 68, 3), (64, .goto 65, 3), (67, .aload_n 0, 1), (68, .iload_n 1, 1), (69, .iload 4, 2), (71, .bipush 6, 2), (73, .if_icmp .ne 26, 3), (76, .lload_n 2, 1), (77, .lconst 0, 1), (78, .lcmp, 1), (79, .ifCond .lt 20, 3), (82, .aload_n 0, 1), (83, .getfield 35, 3), (86, .lload_n 2, 1), (87, .ldc2_w 105, 3), (90, .land, 1), (91, .l2i, 1)]
def zp_t58_1 : List (Nat × Instr × Nat) := [(92, .invokevirtual 107, 3), (95, .i2l, 1), (96, .goto 4, 3), (99, .lconst 0, 1), (100, .invokevirtual 101, 3), (103, .aload_n 0, 1), (104, .getfield 18, 3), (107, .iload_n 1, 1), (108, .iload 4, 2), (110, .iconst 5, 1), (111, .if_icmp .lt 13, 3), (114, .lload_n 2, 1), (115, .lconst 0, 1), (116, .lcmp, 1), (117, .ifCond .ge 7, 3), (120, .iconst 4, 1), (121, .goto 5, 3), (124, .iload 4, 2), (126, .invokevirtual 110, 3), (129, .return_, 1)]
/-- 58: ClassFrames$Machine.beginLocal (I)V -/
def zp_m58 : zx_M := (⟨RX5, "beginLocal", "(I)V"⟩, prog_7_method_9_code, 5, none, (some 3), 1, 5, zp_t58_0 ++ (zp_t58_1))
def zp_t59_0 : List (Nat × Instr × Nat) := [(0, .aload_n 0, 1), (1, .iload_n 1, 1), (2, .putfield 52, 3), (5, .aload_n 0, 1), (6, .iconst 1, 1), (7, .putfield 61, 3), (10, .return_, 1)]
/-- 59: ClassFrames$Machine.refuse (I)V -/
def zp_m59 : zx_M := (⟨RX5, "refuse", "(I)V"⟩, prog_7_method_10_code, 2, none, (some 3), 1, 5, zp_t59_0)
def zp_t60_0 : List (Nat × Instr × Nat) := [(0, .aload_n 0, 1), (1, .iload_n 1, 1), (2, .putfield 49, 3), (5, .aload_n 0, 1), (6, .iconst 1, 1), (7, .putfield 61, 3), (10, .return_, 1)]
/-- 60: ClassFrames$Machine.finish (I)V -/
def zp_m60 : zx_M := (⟨RX5, "finish", "(I)V"⟩, prog_7_method_11_code, 2, none, (some 3), 1, 5, zp_t60_0)
def zp_t61_0 : List (Nat × Instr × Nat) := [(0, .aload_n 0, 1), (1, .getfield 39, 3), (4, .aload_n 0, 1), (5, .getfield 55, 3), (8, .invokevirtual 114, 3), (11, .istore_n 1, 1), (12, .aload_n 0, 1), (13, .getfield 39, 3), (16, .aload_n 0, 1), (17, .getfield 55, 3), (20, .invokevirtual 117, 3), (23, .istore_n 2, 1), (24, .aload_n 0, 1), (25, .invokevirtual 120, 3), (28, .aload_n 0, 1), (29, .getfield 18, 3), (32, .iload_n 1, 1), (33, .iload_n 2, 1), (34, .invokestatic 123, 3), (37, .istore_n 3, 1), (38, .iload_n 3, 1), (39, .ifCond .eq 9, 3), (42, .aload_n 0, 1), (43, .iload_n 3, 1), (44, .invokevirtual 94, 3), (47, .return_, 1), (48, .aload_n 0, 1), (49, .iload_n 1, 1), (50, .iload_n 2, 1), (51, .invokevirtual 129, 3), (54, .istore 4, 2), (56, .iload 4, 2), (58, .ifCond .eq 25, 3), (61, .aload_n 0, 1), (62, .dup, 1), (63, .getfield 45, 3), (66, .iconst 1, 1), (67, .iadd, 1), (68, .putfield 45, 3), (71, .aload_n 0, 1)]
def zp_t61_1 : List (Nat × Instr × Nat) := [(72, .bipush 7, 2), (74, .iload 4, 2), (76, .i2l, 1), (77, .invokevirtual 133, 3), (80, .goto 54, 3), (83, .iload_n 1, 1), (84, .bipush 22, 2), (86, .if_icmp .ne 22, 3), (89, .aload_n 0, 1), (90, .aload_n 0, 1), (91, .getfield 28, 3), (94, .iconst 0, 1), (95, .iaload, 1), (96, .aload_n 0, 1), (97, .getfield 25, 3), (100, .iconst 0, 1), (101, .laload, 1), (102, .invokevirtual 133, 3), (105, .goto 29, 3), (108, .iload_n 1, 1), (109, .bipush 23, 2), (111, .if_icmp .ne 11, 3), (114, .aload_n 0, 1), (115, .iconst 0, 1), (116, .invokevirtual 136, 3), (119, .goto 15, 3), (122, .aload_n 0, 1), (123, .iload_n 1, 1), (124, .iload_n 2, 1), (125, .invokevirtual 139, 3), (128, .aload_n 0, 1), (129, .iload_n 1, 1), (130, .iload_n 2, 1), (131, .invokevirtual 142, 3), (134, .return_, 1)]
/-- 61: ClassFrames$Machine.step ()V -/
def zp_m61 : zx_M := (⟨RX5, "step", "()V"⟩, prog_7_method_12_code, 5, none, (some 3), 0, 5, zp_t61_0 ++ (zp_t61_1))
def zp_t62_0 : List (Nat × Instr × Nat) := [(0, .iconst 0, 1), (1, .istore_n 1, 1), (2, .iload_n 1, 1), (3, .iconst 3, 1), (4, .if_icmp .ge 47, 3), (7, .aload_n 0, 1), (8, .getfield 28, 3), (11, .iload_n 1, 1), (12, .aload_n 0, 1), (13, .getfield 18, 3), (16, .iload_n 1, 1), (17, .invokevirtual 145, 3), (20, .iastore, 1), (21, .aload_n 0, 1), (22, .getfield 25, 3), (25, .iload_n 1, 1), (26, .aload_n 0, 1), (27, .bipush 8, 2), (29, .aload_n 0, 1), (30, .getfield 18, 3), (33, .invokevirtual 148, 3), (36, .iadd, 1), (37, .iconst 1, 1), (38, .isub, 1), (39, .iload_n 1, 1), (40, .isub, 1), (41, .invokevirtual 151, 3), (44, .lastore, 1), (45, .iinc 1 1, 3), (48, .goto (-46), 3), (51, .return_, 1)]
/-- 62: ClassFrames$Machine.look ()V -/
def zp_m62 : zx_M := (⟨RX5, "look", "()V"⟩, prog_7_method_13_code, 2, none, (some 3), 0, 5, zp_t62_0)
def zp_t63_0 : List (Nat × Instr × Nat) := [(0, .iload_n 1, 1), (1, .ifCond .lt 18, 3), (4, .iload_n 1, 1), (5, .iconst 3, 1), (6, .if_icmp .ge 13, 3), (9, .aload_n 0, 1), (10, .getfield 25, 3), (13, .iload_n 1, 1), (14, .laload, 1), (15, .l2i, 1), (16, .goto 4, 3), (19, .iconst 0, 1), (20, .ireturn, 1)]
/-- 63: ClassFrames$Machine.takenInt (I)I -/
def zp_m63 : zx_M := (⟨RX5, "takenInt", "(I)I"⟩, prog_7_method_14_code, 2, (some .int), (some 3), 1, 5, zp_t63_0)
def zp_t64_0 : List (Nat × Instr × Nat) := [(0, .iload_n 1, 1), (1, .tableswitch 237 7 22 #[79, 237, 237, 237, 237, 237, 108, 237, 237, 237, 122, 162, 202, 202, 218, 202], 79), (80, .aload_n 0, 1), (81, .iconst 0, 1), (82, .invokevirtual 155, 3), (85, .ifCond .ge 7, 3), (88, .iconst 3, 1), (89, .goto 19, 3), (92, .aload_n 0, 1), (93, .iconst 0, 1), (94, .invokevirtual 155, 3), (97, .bipush 20, 2), (99, .if_icmp .le 8, 3), (102, .bipush 6, 2), (104, .goto 4, 3), (107, .iconst 0, 1), (108, .ireturn, 1), (109, .aload_n 0, 1), (110, .iconst 0, 1), (111, .invokevirtual 155, 3), (114, .ifCond .ne 7, 3), (117, .iconst 5, 1), (118, .goto 4, 3), (121, .iconst 0, 1), (122, .ireturn, 1), (123, .aload_n 0, 1), (124, .getfield 28, 3), (127, .iconst 1, 1), (128, .iaload, 1), (129, .iconst 4, 1), (130, .if_icmp .ne 7, 3), (133, .iconst 1, 1), (134, .goto 28, 3), (137, .aload_n 0, 1), (138, .getfield 35, 3), (141, .aload_n 0, 1), (142, .iconst 1, 1), (143, .invokevirtual 155, 3), (146, .aload_n 0, 1), (147, .iconst 0, 1)]
def zp_t64_1 : List (Nat × Instr × Nat) := [(148, .invokevirtual 155, 3), (151, .invokevirtual 158, 3), (154, .ifCond .eq 7, 3), (157, .iconst 0, 1), (158, .goto 4, 3), (161, .iconst 2, 1), (162, .ireturn, 1), (163, .aload_n 0, 1), (164, .getfield 28, 3), (167, .iconst 2, 1), (168, .iaload, 1), (169, .iconst 4, 1), (170, .if_icmp .ne 7, 3), (173, .iconst 1, 1), (174, .goto 28, 3), (177, .aload_n 0, 1), (178, .getfield 35, 3), (181, .aload_n 0, 1), (182, .iconst 2, 1), (183, .invokevirtual 155, 3), (186, .aload_n 0, 1), (187, .iconst 1, 1), (188, .invokevirtual 155, 3), (191, .invokevirtual 158, 3), (194, .ifCond .eq 7, 3), (197, .iconst 0, 1), (198, .goto 4, 3), (201, .iconst 2, 1), (202, .ireturn, 1), (203, .aload_n 0, 1), (204, .getfield 28, 3), (207, .iconst 0, 1), (208, .iaload, 1), (209, .iconst 4, 1), (210, .if_icmp .ne 7, 3), (213, .iconst 1, 1), (214, .goto 4, 3), (217, .iconst 0, 1), (218, .ireturn, 1), (219, .aload_n 0, 1)]
def zp_t64_2 : List (Nat × Instr × Nat) := [(220, .getfield 28, 3), (223, .iconst 0, 1), (224, .iaload, 1), (225, .iload_n 2, 1), (226, .invokestatic 162, 3), (229, .ifCond .eq 7, 3), (232, .iconst 0, 1), (233, .goto 4, 3), (236, .iconst 4, 1), (237, .ireturn, 1), (238, .iconst 0, 1), (239, .ireturn, 1)]
/-- 64: ClassFrames$Machine.refusalOf (II)I -/
def zp_m64 : zx_M := (⟨RX5, "refusalOf", "(II)I"⟩, prog_7_method_15_code, 3, (some .int), (some 3), 2, 5, zp_t64_0 ++ (zp_t64_1 ++ (zp_t64_2)))
def zp_t65_0 : List (Nat × Instr × Nat) := [(0, .aload_n 0, 1), (1, .getfield 39, 3), (4, .aload_n 0, 1), (5, .getfield 55, 3), (8, .iload_n 1, 1), (9, .invokevirtual 167, 3), (12, .istore 4, 2), (14, .iload 4, 2), (16, .iconst (-1), 1), (17, .if_icmp .ne 14, 3), (20, .aload_n 0, 1), (21, .lload_n 2, 1), (22, .putfield 74, 3), (25, .aload_n 0, 1), (26, .iconst 1, 1), (27, .invokevirtual 136, 3), (30, .return_, 1), (31, .aload_n 0, 1), (32, .getfield 18, 3), (35, .iload_n 1, 1), (36, .invokevirtual 170, 3), (39, .aload_n 0, 1), (40, .bipush 8, 2), (42, .lload_n 2, 1), (43, .invokevirtual 101, 3), (46, .aload_n 0, 1), (47, .aload_n 0, 1), (48, .getfield 39, 3), (51, .iload 4, 2), (53, .invokevirtual 173, 3), (56, .invokevirtual 176, 3), (59, .return_, 1)]
/-- 65: ClassFrames$Machine.raise (IJ)V -/
def zp_m65 : zx_M := (⟨RX5, "raise", "(IJ)V"⟩, prog_7_method_16_code, 5, none, (some 3), 2, 5, zp_t65_0)
def zp_t66_0 : List (Nat × Instr × Nat) := [(0, .iload_n 1, 1), (1, .tableswitch 245 1 28 #[127, 127, 136, 136, 136, 127, 144, 164, 176, 245, 245, 245, 245, 245, 245, 245, 245, 245, 245, 245, 190, 245, 245, 245, 245, 245, 245, 218], 127), (128, .aload_n 0, 1), (129, .iload_n 2, 1), (130, .i2l, 1), (131, .invokevirtual 179, 3), (134, .goto 117, 3), (137, .aload_n 0, 1), (138, .lconst 0, 1), (139, .invokevirtual 179, 3), (142, .goto 109, 3), (145, .aload_n 0, 1), (146, .aload_n 0, 1), (147, .getfield 35, 3), (150, .aload_n 0, 1), (151, .iconst 0, 1), (152, .invokevirtual 155, 3), (155, .invokevirtual 107, 3), (158, .i2l, 1), (159, .invokevirtual 179, 3), (162, .goto 89, 3), (165, .aload_n 0, 1), (166, .aload_n 0, 1), (167, .iload_n 2, 1), (168, .invokevirtual 151, 3), (171, .invokevirtual 179, 3), (174, .goto 77, 3), (177, .aload_n 0, 1), (178, .iload_n 2, 1), (179, .aload_n 0, 1), (180, .getfield 25, 3), (183, .iconst 0, 1), (184, .laload, 1), (185, .invokevirtual 101, 3), (188, .goto 63, 3), (191, .aload_n 0, 1), (192, .getfield 18, 3), (195, .bipush 8, 2), (197, .aload_n 0, 1), (198, .getfield 18, 3)]
def zp_t66_1 : List (Nat × Instr × Nat) := [(201, .invokevirtual 148, 3), (204, .iadd, 1), (205, .iconst 1, 1), (206, .isub, 1), (207, .aload_n 0, 1), (208, .getfield 28, 3), (211, .iconst 0, 1), (212, .iaload, 1), (213, .invokevirtual 110, 3), (216, .goto 35, 3), (219, .aload_n 0, 1), (220, .iload_n 2, 1), (221, .aload_n 0, 1), (222, .iload_n 2, 1), (223, .invokevirtual 151, 3), (226, .l2i, 1), (227, .aload_n 0, 1), (228, .getfield 39, 3), (231, .aload_n 0, 1), (232, .getfield 55, 3), (235, .invokevirtual 183, 3), (238, .iadd, 1), (239, .i2l, 1), (240, .invokevirtual 101, 3), (243, .goto 8, 3), (246, .aload_n 0, 1), (247, .iload_n 1, 1), (248, .invokevirtual 186, 3), (251, .return_, 1)]
/-- 66: ClassFrames$Machine.work (II)V -/
def zp_m66 : zx_M := (⟨RX5, "work", "(II)V"⟩, prog_7_method_17_code, 3, none, (some 3), 2, 5, zp_t66_0 ++ (zp_t66_1))
def zp_t67_0 : List (Nat × Instr × Nat) := [(0, .iload_n 1, 1), (1, .tableswitch 217 12 20 #[51, 70, 101, 121, 134, 147, 172, 197, 134], 51), (52, .aload_n 0, 1), (53, .aload_n 0, 1), (54, .iconst 1, 1), (55, .invokevirtual 155, 3), (58, .aload_n 0, 1), (59, .iconst 0, 1), (60, .invokevirtual 155, 3), (63, .iadd, 1), (64, .i2l, 1), (65, .invokevirtual 179, 3), (68, .goto 150, 3), (71, .aload_n 0, 1), (72, .aload_n 0, 1), (73, .iconst 0, 1), (74, .invokevirtual 155, 3), (77, .ifCond .ne 7, 3), (80, .lconst 0, 1), (81, .goto 15, 3), (84, .aload_n 0, 1), (85, .iconst 1, 1), (86, .invokevirtual 155, 3), (89, .aload_n 0, 1), (90, .iconst 0, 1), (91, .invokevirtual 155, 3), (94, .idiv, 1), (95, .i2l, 1), (96, .invokevirtual 179, 3), (99, .goto 119, 3), (102, .aload_n 0, 1), (103, .aload_n 0, 1), (104, .getfield 25, 3), (107, .iconst 2, 1), (108, .laload, 1), (109, .aload_n 0, 1), (110, .getfield 25, 3), (113, .iconst 0, 1), (114, .laload, 1), (115, .ladd, 1)]
def zp_t67_1 : List (Nat × Instr × Nat) := [(116, .invokevirtual 179, 3), (119, .goto 99, 3), (122, .aload_n 0, 1), (123, .aload_n 0, 1), (124, .iconst 0, 1), (125, .invokevirtual 155, 3), (128, .i2l, 1), (129, .invokevirtual 179, 3), (132, .goto 86, 3), (135, .aload_n 0, 1), (136, .aload_n 0, 1), (137, .getfield 25, 3), (140, .iconst 0, 1), (141, .laload, 1), (142, .invokevirtual 179, 3), (145, .goto 73, 3), (148, .aload_n 0, 1), (149, .aload_n 0, 1), (150, .getfield 35, 3), (153, .aload_n 0, 1), (154, .iconst 1, 1), (155, .invokevirtual 155, 3), (158, .aload_n 0, 1), (159, .iconst 0, 1), (160, .invokevirtual 155, 3), (163, .invokevirtual 189, 3), (166, .i2l, 1), (167, .invokevirtual 179, 3), (170, .goto 48, 3), (173, .aload_n 0, 1), (174, .getfield 35, 3), (177, .aload_n 0, 1), (178, .iconst 2, 1), (179, .invokevirtual 155, 3), (182, .aload_n 0, 1), (183, .iconst 1, 1), (184, .invokevirtual 155, 3), (187, .aload_n 0, 1), (188, .iconst 0, 1), (189, .invokevirtual 155, 3)]
def zp_t67_2 : List (Nat × Instr × Nat) := [(192, .invokevirtual 192, 3), (195, .goto 23, 3), (198, .aload_n 0, 1), (199, .aload_n 0, 1), (200, .getfield 35, 3), (203, .aload_n 0, 1), (204, .iconst 0, 1), (205, .invokevirtual 155, 3), (208, .invokevirtual 196, 3), (211, .i2l, 1), (212, .invokevirtual 179, 3), (215, .goto 3, 3), (218, .return_, 1)]
/-- 67: ClassFrames$Machine.reckon (I)V -/
def zp_m67 : zx_M := (⟨RX5, "reckon", "(I)V"⟩, prog_7_method_18_code, 2, none, (some 3), 1, 5, zp_t67_0 ++ (zp_t67_1 ++ (zp_t67_2)))
def zp_t68_0 : List (Nat × Instr × Nat) := [(0, .aload_n 0, 1), (1, .bipush 8, 2), (3, .aload_n 0, 1), (4, .getfield 18, 3), (7, .invokevirtual 148, 3), (10, .iadd, 1), (11, .iconst 1, 1), (12, .isub, 1), (13, .lload_n 1, 1), (14, .invokevirtual 101, 3), (17, .return_, 1)]
/-- 68: ClassFrames$Machine.leave (J)V -/
def zp_m68 : zx_M := (⟨RX5, "leave", "(J)V"⟩, prog_7_method_19_code, 3, none, (some 3), 1, 5, zp_t68_0)
def zp_t69_0 : List (Nat × Instr × Nat) := [(0, .iload_n 1, 1), (1, .bipush 25, 2), (3, .if_icmp .ne 15, 3), (6, .aload_n 0, 1), (7, .iconst 0, 1), (8, .invokevirtual 155, 3), (11, .ifCond .ne 7, 3), (14, .iconst 1, 1), (15, .goto 4, 3), (18, .iconst 0, 1), (19, .istore_n 3, 1), (20, .iload_n 1, 1), (21, .bipush 26, 2), (23, .if_icmp .ne 17, 3), (26, .aload_n 0, 1), (27, .getfield 28, 3), (30, .iconst 0, 1), (31, .iaload, 1), (32, .iconst 4, 1), (33, .if_icmp .ne 7, 3), (36, .iconst 1, 1), (37, .goto 4, 3), (40, .iconst 0, 1), (41, .istore 4, 2), (43, .iload_n 1, 1), (44, .bipush 24, 2), (46, .if_icmp .eq 26, 3), (49, .iload_n 3, 1), (50, .ifCond .ne 22, 3), (53, .iload 4, 2), (55, .ifCond .ne 17, 3), (58, .iload_n 1, 1), (59, .bipush 27, 2), (61, .if_icmp .ne 19, 3), (64, .aload_n 0, 1), (65, .iconst 0, 1), (66, .invokevirtual 155, 3), (69, .ifCond .ne 11, 3), (72, .aload_n 0, 1), (73, .iload_n 2, 1)]
def zp_t69_1 : List (Nat × Instr × Nat) := [(74, .invokevirtual 176, 3), (77, .goto 71, 3), (80, .iload_n 1, 1), (81, .bipush 27, 2), (83, .if_icmp .ne 30, 3), (86, .aload_n 0, 1), (87, .iconst 0, 1), (88, .invokevirtual 155, 3), (91, .iconst 1, 1), (92, .if_icmp .ne 21, 3), (95, .aload_n 0, 1), (96, .aload_n 0, 1), (97, .getfield 39, 3), (100, .aload_n 0, 1), (101, .getfield 55, 3), (104, .invokevirtual 183, 3), (107, .invokevirtual 176, 3), (110, .goto 38, 3), (113, .aload_n 0, 1), (114, .getfield 39, 3), (117, .aload_n 0, 1), (118, .getfield 55, 3), (121, .iconst 1, 1), (122, .iadd, 1), (123, .invokevirtual 199, 3), (126, .ifCond .eq 16, 3), (129, .aload_n 0, 1), (130, .dup, 1), (131, .getfield 55, 3), (134, .iconst 1, 1), (135, .iadd, 1), (136, .putfield 55, 3), (139, .goto 9, 3), (142, .aload_n 0, 1), (143, .bipush 6, 2), (145, .invokevirtual 94, 3), (148, .return_, 1)]
/-- 69: ClassFrames$Machine.goFrom (II)V -/
def zp_m69 : zx_M := (⟨RX5, "goFrom", "(II)V"⟩, prog_7_method_20_code, 5, none, (some 3), 2, 5, zp_t69_0 ++ (zp_t69_1))
def zp_t70_0 : List (Nat × Instr × Nat) := [(0, .aload_n 0, 1), (1, .getfield 39, 3), (4, .iload_n 1, 1), (5, .invokevirtual 199, 3), (8, .ifCond .eq 11, 3), (11, .aload_n 0, 1), (12, .iload_n 1, 1), (13, .putfield 55, 3), (16, .goto 9, 3), (19, .aload_n 0, 1), (20, .bipush 7, 2), (22, .invokevirtual 94, 3), (25, .return_, 1)]
/-- 70: ClassFrames$Machine.goTo (I)V -/
def zp_m70 : zx_M := (⟨RX5, "goTo", "(I)V"⟩, prog_7_method_21_code, 2, none, (some 3), 1, 5, zp_t70_0)
def zp_t71_0 : List (Nat × Instr × Nat) := [(0, .iload_n 1, 1), (1, .ifCond .lt 18, 3), (4, .iload_n 1, 1), (5, .bipush 14, 2), (7, .if_icmp .ge 12, 3), (10, .aload_n 0, 1), (11, .getfield 22, 3), (14, .iload_n 1, 1), (15, .laload, 1), (16, .goto 4, 3), (19, .lconst 0, 1), (20, .lreturn, 1)]
/-- 71: ClassFrames$Machine.value (I)J -/
def zp_m71 : zx_M := (⟨RX5, "value", "(I)J"⟩, prog_7_method_22_code, 2, (some .long), (some 3), 1, 5, zp_t71_0)
def zp_t72_0 : List (Nat × Instr × Nat) := [(0, .iload_n 1, 1), (1, .ifCond .lt 16, 3), (4, .iload_n 1, 1), (5, .bipush 14, 2), (7, .if_icmp .ge 10, 3), (10, .aload_n 0, 1), (11, .getfield 22, 3), (14, .iload_n 1, 1), (15, .lload_n 2, 1), (16, .lastore, 1), (17, .return_, 1)]
/-- 72: ClassFrames$Machine.setValue (IJ)V -/
def zp_m72 : zx_M := (⟨RX5, "setValue", "(IJ)V"⟩, prog_7_method_23_code, 4, none, (some 3), 2, 5, zp_t72_0)
def zp_t73_0 : List (Nat × Instr × Nat) := [(0, .aload_n 0, 1), (1, .getfield 71, 3), (4, .ifCond .ne 5, 3), (7, .lconst 0, 1), (8, .lreturn, 1), (9, .iload_n 1, 1), (10, .tableswitch 62 0 4 #[34, 40, 45, 51, 57], 34), (44, .aload_n 0, 1), (45, .invokevirtual 203, 3), (48, .i2l, 1), (49, .lreturn, 1), (50, .aload_n 0, 1), (51, .invokevirtual 206, 3), (54, .lreturn, 1), (55, .aload_n 0, 1), (56, .getfield 55, 3), (59, .i2l, 1), (60, .lreturn, 1), (61, .aload_n 0, 1), (62, .getfield 65, 3), (65, .i2l, 1), (66, .lreturn, 1), (67, .aload_n 0, 1), (68, .getfield 74, 3), (71, .lreturn, 1), (72, .lconst 0, 1), (73, .lreturn, 1)]
/-- 73: ClassFrames$Machine.tell (I)J -/
def zp_m73 : zx_M := (⟨RX5, "tell", "(I)J"⟩, prog_7_method_24_code, 2, (some .long), (some 3), 1, 5, zp_t73_0)
def zp_t74_0 : List (Nat × Instr × Nat) := [(0, .aload_n 0, 1), (1, .getfield 49, 3), (4, .ifCond .ne 14, 3), (7, .aload_n 0, 1), (8, .getfield 52, 3), (11, .ifCond .ne 7, 3), (14, .iconst 1, 1), (15, .goto 4, 3), (18, .iconst 0, 1), (19, .ireturn, 1)]
/-- 74: ClassFrames$Machine.hasReturned ()Z -/
def zp_m74 : zx_M := (⟨RX5, "hasReturned", "()Z"⟩, prog_7_method_25_code, 1, (some .boolean), (some 3), 0, 5, zp_t74_0)
def zp_t75_0 : List (Nat × Instr × Nat) := [(0, .aload_n 0, 1), (1, .invokevirtual 210, 3), (4, .ifCond .eq 14, 3), (7, .aload_n 0, 1), (8, .getfield 18, 3), (11, .iconst 0, 1), (12, .invokevirtual 145, 3), (15, .goto 4, 3), (18, .iconst (-1), 1), (19, .istore_n 1, 1), (20, .iload_n 1, 1), (21, .iconst 3, 1), (22, .if_icmp .ne 7, 3), (25, .iconst 2, 1), (26, .goto 4, 3), (29, .iload_n 1, 1), (30, .ireturn, 1)]
/-- 75: ClassFrames$Machine.topmostKind ()I -/
def zp_m75 : zx_M := (⟨RX5, "topmostKind", "()I"⟩, prog_7_method_26_code, 2, (some .int), (some 3), 0, 5, zp_t75_0)
def zp_t76_0 : List (Nat × Instr × Nat) := [(0, .aload_n 0, 1), (1, .bipush 8, 2), (3, .aload_n 0, 1), (4, .getfield 18, 3), (7, .invokevirtual 148, 3), (10, .iadd, 1), (11, .iconst 1, 1), (12, .isub, 1), (13, .invokevirtual 151, 3), (16, .lstore_n 1, 1), (17, .aload_n 0, 1), (18, .invokevirtual 203, 3), (21, .tableswitch 60 1 8 #[47, 47, 60, 60, 60, 49, 47, 47], 47), (68, .lload_n 1, 1), (69, .lreturn, 1), (70, .aload_n 0, 1), (71, .getfield 35, 3), (74, .lload_n 1, 1), (75, .l2i, 1), (76, .invokevirtual 196, 3), (79, .i2l, 1), (80, .lreturn, 1), (81, .lconst 0, 1), (82, .lreturn, 1)]
/-- 76: ClassFrames$Machine.topmostNumber ()J -/
def zp_m76 : zx_M := (⟨RX5, "topmostNumber", "()J"⟩, prog_7_method_27_code, 3, (some .long), (some 3), 0, 5, zp_t76_0)
def zp_t77_0 : List (Nat × Instr × Nat) := [(0, .aload_n 0, 1), (1, .getfield 33, 3), (4, .ireturn, 1)]
/-- 77: ClassFrames$Maker.isMade ()Z -/
def zp_m77 : zx_M := (⟨RX6, "isMade", "()Z"⟩, prog_8_method_2_code, 1, (some .boolean), (some 4), 0, 6, zp_t77_0)
def zp_t78_0 : List (Nat × Instr × Nat) := [(0, .aload_n 0, 1), (1, .iconst 0, 1), (2, .putfield 33, 3), (5, .return_, 1)]
/-- 78: ClassFrames$Maker.undo ()V -/
def zp_m78 : zx_M := (⟨RX6, "undo", "()V"⟩, prog_8_method_3_code, 1, none, (some 4), 0, 6, zp_t78_0)
def zp_t79_0 : List (Nat × Instr × Nat) := [(0, .aload_n 0, 1), (1, .getfield 37, 3), (4, .ireturn, 1)]
/-- 79: ClassFrames$Maker.rounds ()I -/
def zp_m79 : zx_M := (⟨RX6, "rounds", "()I"⟩, prog_8_method_4_code, 1, (some .int), (some 4), 0, 6, zp_t79_0)
def zp_t80_0 : List (Nat × Instr × Nat) := [(0, .aload_n 0, 1), (1, .getfield 41, 3), (4, .ireturn, 1)]
/-- 80: ClassFrames$Maker.faultPlace ()I -/
def zp_m80 : zx_M := (⟨RX6, "faultPlace", "()I"⟩, prog_8_method_5_code, 1, (some .int), (some 4), 0, 6, zp_t80_0)
def zp_t81_0 : List (Nat × Instr × Nat) := [(0, .aload_n 0, 1), (1, .getfield 12, 3), (4, .iload_n 1, 1), (5, .invokevirtual 44, 3), (8, .ireturn, 1)]
/-- 81: ClassFrames$Maker.depthAt (I)I -/
def zp_m81 : zx_M := (⟨RX6, "depthAt", "(I)I"⟩, prog_8_method_6_code, 2, (some .int), (some 4), 1, 6, zp_t81_0)
def zp_t82_0 : List (Nat × Instr × Nat) := [(0, .aload_n 0, 1), (1, .iload_n 1, 1), (2, .invokevirtual 48, 3), (5, .ifCond .eq 7, 3), (8, .iconst (-1), 1), (9, .goto 12, 3), (12, .aload_n 0, 1), (13, .getfield 12, 3), (16, .iload_n 1, 1), (17, .iload_n 2, 1), (18, .invokevirtual 52, 3), (21, .ireturn, 1)]
/-- 82: ClassFrames$Maker.kindAt (II)I -/
def zp_m82 : zx_M := (⟨RX6, "kindAt", "(II)I"⟩, prog_8_method_7_code, 3, (some .int), (some 4), 2, 6, zp_t82_0)
def zp_t83_0 : List (Nat × Instr × Nat) := [(0, .aload_n 0, 1), (1, .getfield 12, 3), (4, .iload_n 1, 1), (5, .invokevirtual 44, 3), (8, .iconst (-1), 1), (9, .if_icmp .ne 7, 3), (12, .iconst 1, 1), (13, .goto 4, 3), (16, .iconst 0, 1), (17, .ireturn, 1)]
/-- 83: ClassFrames$Maker.isDead (I)Z -/
def zp_m83 : zx_M := (⟨RX6, "isDead", "(I)Z"⟩, prog_8_method_8_code, 2, (some .boolean), (some 4), 1, 6, zp_t83_0)
def zp_t84_0 : List (Nat × Instr × Nat) := [(0, .iconst 0, 1), (1, .istore_n 1, 1), (2, .iconst 0, 1), (3, .istore_n 2, 1), (4, .iload_n 2, 1), (5, .aload_n 0, 1), (6, .getfield 25, 3), (9, .invokevirtual 56, 3), (12, .if_icmp .ge 20, 3), (15, .aload_n 0, 1), (16, .iload_n 2, 1), (17, .invokevirtual 48, 3), (20, .ifCond .eq 6, 3), (23, .iinc 1 1, 3), (26, .iinc 2 1, 3), (29, .goto (-25), 3), (32, .iload_n 1, 1), (33, .ireturn, 1)]
/-- 84: ClassFrames$Maker.deadPlaces ()I -/
def zp_m84 : zx_M := (⟨RX6, "deadPlaces", "()I"⟩, prog_8_method_9_code, 3, (some .int), (some 4), 0, 6, zp_t84_0)
def zp_t85_0 : List (Nat × Instr × Nat) := [(0, .aload_n 0, 1), (1, .invokevirtual 62, 3), (4, .aload_n 0, 1), (5, .getfield 25, 3), (8, .invokevirtual 56, 3), (11, .ifCond .ne 11, 3), (14, .aload_n 0, 1), (15, .iconst (-1), 1), (16, .putfield 41, 3), (19, .bipush 6, 2), (21, .ireturn, 1), (22, .iconst 0, 1), (23, .istore_n 1, 1), (24, .iload_n 1, 1), (25, .ifCond .ne 43, 3), (28, .aload_n 0, 1), (29, .getfield 65, 3), (32, .ifCond .eq 36, 3), (35, .aload_n 0, 1), (36, .getfield 37, 3), (39, .sipush 3421, 3), (42, .if_icmp .ge 26, 3), (45, .aload_n 0, 1), (46, .iconst 0, 1), (47, .putfield 65, 3), (50, .aload_n 0, 1), (51, .dup, 1), (52, .getfield 37, 3), (55, .iconst 1, 1), (56, .iadd, 1), (57, .putfield 37, 3), (60, .aload_n 0, 1), (61, .invokevirtual 68, 3), (64, .istore_n 1, 1), (65, .goto (-41), 3), (68, .iload_n 1, 1), (69, .ifCond .ne 12, 3), (72, .aload_n 0, 1), (73, .invokevirtual 71, 3), (76, .aload_n 0, 1)]
def zp_t85_1 : List (Nat × Instr × Nat) := [(77, .iconst 1, 1), (78, .putfield 33, 3), (81, .iload_n 1, 1), (82, .ireturn, 1)]
/-- 85: ClassFrames$Maker.workOut ()I -/
def zp_m85 : zx_M := (⟨RX6, "workOut", "()I"⟩, prog_8_method_10_code, 2, (some .int), (some 4), 0, 6, zp_t85_0 ++ (zp_t85_1))
def zp_t86_0 : List (Nat × Instr × Nat) := [(0, .aload_n 0, 1), (1, .iconst 0, 1), (2, .putfield 33, 3), (5, .aload_n 0, 1), (6, .iconst 1, 1), (7, .putfield 65, 3), (10, .aload_n 0, 1), (11, .iconst 0, 1), (12, .putfield 37, 3), (15, .aload_n 0, 1), (16, .getfield 29, 3), (19, .invokevirtual 74, 3), (22, .aload_n 0, 1), (23, .getfield 12, 3), (26, .invokevirtual 79, 3), (29, .aload_n 0, 1), (30, .getfield 21, 3), (33, .aload_n 0, 1), (34, .getfield 25, 3), (37, .invokevirtual 80, 3), (40, .aload_n 0, 1), (41, .getfield 12, 3), (44, .iconst 0, 1), (45, .aload_n 0, 1), (46, .getfield 21, 3), (49, .invokevirtual 83, 3), (52, .return_, 1)]
/-- 86: ClassFrames$Maker.begin ()V -/
def zp_m86 : zx_M := (⟨RX6, "begin", "()V"⟩, prog_8_method_11_code, 1, none, (some 4), 0, 6, zp_t86_0)
def zp_t87_0 : List (Nat × Instr × Nat) := [(0, .iconst 0, 1), (1, .istore_n 1, 1), (2, .iload_n 1, 1), (3, .aload_n 0, 1), (4, .getfield 25, 3), (7, .invokevirtual 56, 3), (10, .if_icmp .ge 57, 3), (13, .aload_n 0, 1), (14, .iload_n 1, 1), (15, .invokevirtual 48, 3), (18, .ifCond .eq 6, 3), (21, .goto 40, 3), (24, .aload_n 0, 1), (25, .iload_n 1, 1), (26, .invokevirtual 87, 3), (29, .istore_n 2, 1), (30, .iload_n 2, 1), (31, .ifCond .ne 9, 3), (34, .aload_n 0, 1), (35, .iload_n 1, 1), (36, .invokevirtual 90, 3), (39, .istore_n 2, 1), (40, .iload_n 2, 1), (41, .ifCond .ne 9, 3), (44, .aload_n 0, 1), (45, .iload_n 1, 1), (46, .invokevirtual 93, 3), (49, .istore_n 2, 1), (50, .iload_n 2, 1), (51, .ifCond .eq 10, 3), (54, .aload_n 0, 1), (55, .iload_n 1, 1), (56, .putfield 41, 3), (59, .iload_n 2, 1), (60, .ireturn, 1), (61, .iinc 1 1, 3), (64, .goto (-62), 3), (67, .iconst 0, 1), (68, .ireturn, 1)]
/-- 87: ClassFrames$Maker.goRound ()I -/
def zp_m87 : zx_M := (⟨RX6, "goRound", "()I"⟩, prog_8_method_12_code, 3, (some .int), (some 4), 0, 6, zp_t87_0)
def zp_t88_0 : List (Nat × Instr × Nat) := [(0, .aload_n 0, 1), (1, .getfield 12, 3), (4, .iload_n 1, 1), (5, .aload_n 0, 1), (6, .getfield 21, 3), (9, .invokevirtual 96, 3), (12, .aload_n 0, 1), (13, .getfield 21, 3), (16, .aload_n 0, 1), (17, .getfield 25, 3), (20, .iload_n 1, 1), (21, .invokevirtual 99, 3), (24, .aload_n 0, 1), (25, .getfield 25, 3), (28, .iload_n 1, 1), (29, .invokevirtual 102, 3), (32, .invokestatic 105, 3), (35, .ireturn, 1)]
/-- 88: ClassFrames$Maker.workOp (I)I -/
def zp_m88 : zx_M := (⟨RX6, "workOp", "(I)I"⟩, prog_8_method_13_code, 2, (some .int), (some 4), 1, 6, zp_t88_0)
def zp_t89_0 : List (Nat × Instr × Nat) := [(0, .iconst 0, 1), (1, .istore_n 2, 1), (2, .iload_n 2, 1), (3, .aload_n 0, 1), (4, .getfield 25, 3), (7, .invokevirtual 111, 3), (10, .if_icmp .ge 67, 3), (13, .aload_n 0, 1), (14, .getfield 25, 3), (17, .iload_n 2, 1), (18, .iload_n 1, 1), (19, .invokevirtual 114, 3), (22, .ifCond .eq 49, 3), (25, .aload_n 0, 1), (26, .getfield 12, 3), (29, .iload_n 1, 1), (30, .aload_n 0, 1), (31, .getfield 21, 3), (34, .invokevirtual 96, 3), (37, .aload_n 0, 1), (38, .getfield 21, 3), (41, .aload_n 0, 1), (42, .getfield 25, 3), (45, .iload_n 2, 1), (46, .invokevirtual 118, 3), (49, .invokevirtual 121, 3), (52, .aload_n 0, 1), (53, .aload_n 0, 1), (54, .getfield 25, 3), (57, .iload_n 2, 1), (58, .invokevirtual 125, 3), (61, .invokevirtual 128, 3), (64, .istore_n 3, 1), (65, .iload_n 3, 1), (66, .ifCond .eq 5, 3), (69, .iload_n 3, 1), (70, .ireturn, 1), (71, .iinc 2 1, 3), (74, .goto (-72), 3), (77, .iconst 0, 1)]
def zp_t89_1 : List (Nat × Instr × Nat) := [(78, .ireturn, 1)]
/-- 89: ClassFrames$Maker.workHandlers (I)I -/
def zp_m89 : zx_M := (⟨RX6, "workHandlers", "(I)I"⟩, prog_8_method_14_code, 4, (some .int), (some 4), 1, 6, zp_t89_0 ++ (zp_t89_1))
def zp_t90_0 : List (Nat × Instr × Nat) := [(0, .iconst 0, 1), (1, .istore_n 2, 1), (2, .iload_n 2, 1), (3, .aload_n 0, 1), (4, .getfield 25, 3), (7, .iload_n 1, 1), (8, .invokevirtual 131, 3), (11, .if_icmp .ge 29, 3), (14, .aload_n 0, 1), (15, .aload_n 0, 1), (16, .getfield 25, 3), (19, .iload_n 1, 1), (20, .iload_n 2, 1), (21, .invokevirtual 134, 3), (24, .invokevirtual 128, 3), (27, .istore_n 3, 1), (28, .iload_n 3, 1), (29, .ifCond .eq 5, 3), (32, .iload_n 3, 1), (33, .ireturn, 1), (34, .iinc 2 1, 3), (37, .goto (-35), 3), (40, .aload_n 0, 1), (41, .getfield 25, 3), (44, .iload_n 1, 1), (45, .invokevirtual 137, 3), (48, .ifCond .ne 5, 3), (51, .iconst 0, 1), (52, .ireturn, 1), (53, .aload_n 0, 1), (54, .getfield 25, 3), (57, .iload_n 1, 1), (58, .iconst 1, 1), (59, .iadd, 1), (60, .invokevirtual 140, 3), (63, .ifCond .eq 13, 3), (66, .aload_n 0, 1), (67, .iload_n 1, 1), (68, .iconst 1, 1), (69, .iadd, 1)]
def zp_t90_1 : List (Nat × Instr × Nat) := [(70, .invokevirtual 128, 3), (73, .goto 5, 3), (76, .bipush 6, 2), (78, .ireturn, 1)]
/-- 90: ClassFrames$Maker.workWays (I)I -/
def zp_m90 : zx_M := (⟨RX6, "workWays", "(I)I"⟩, prog_8_method_15_code, 4, (some .int), (some 4), 1, 6, zp_t90_0 ++ (zp_t90_1))
def zp_t91_0 : List (Nat × Instr × Nat) := [(0, .aload_n 0, 1), (1, .getfield 25, 3), (4, .iload_n 1, 1), (5, .invokevirtual 140, 3), (8, .ifCond .ne 6, 3), (11, .bipush 7, 2), (13, .ireturn, 1), (14, .aload_n 0, 1), (15, .iload_n 1, 1), (16, .invokevirtual 48, 3), (19, .ifCond .eq 22, 3), (22, .aload_n 0, 1), (23, .getfield 12, 3), (26, .iload_n 1, 1), (27, .aload_n 0, 1), (28, .getfield 21, 3), (31, .invokevirtual 83, 3), (34, .aload_n 0, 1), (35, .iconst 1, 1), (36, .putfield 65, 3), (39, .iconst 0, 1), (40, .ireturn, 1), (41, .aload_n 0, 1), (42, .getfield 12, 3), (45, .iload_n 1, 1), (46, .invokevirtual 44, 3), (49, .aload_n 0, 1), (50, .getfield 21, 3), (53, .invokevirtual 143, 3), (56, .if_icmp .eq 5, 3), (59, .iconst 5, 1), (60, .ireturn, 1), (61, .iconst 0, 1), (62, .istore_n 2, 1), (63, .iload_n 2, 1), (64, .bipush 8, 2), (66, .aload_n 0, 1), (67, .getfield 21, 3), (70, .invokevirtual 143, 3), (73, .iadd, 1)]
def zp_t91_1 : List (Nat × Instr × Nat) := [(74, .if_icmp .ge 55, 3), (77, .aload_n 0, 1), (78, .getfield 12, 3), (81, .iload_n 1, 1), (82, .iload_n 2, 1), (83, .invokevirtual 52, 3), (86, .istore_n 3, 1), (87, .iload_n 3, 1), (88, .aload_n 0, 1), (89, .getfield 21, 3), (92, .iload_n 2, 1), (93, .invokevirtual 146, 3), (96, .invokestatic 148, 3), (99, .istore 4, 2), (101, .iload 4, 2), (103, .iload_n 3, 1), (104, .if_icmp .eq 19, 3), (107, .aload_n 0, 1), (108, .getfield 12, 3), (111, .iload_n 1, 1), (112, .iload_n 2, 1), (113, .iload 4, 2), (115, .invokevirtual 153, 3), (118, .aload_n 0, 1), (119, .iconst 1, 1), (120, .putfield 65, 3), (123, .iinc 2 1, 3), (126, .goto (-63), 3), (129, .iconst 0, 1), (130, .ireturn, 1)]
/-- 91: ClassFrames$Maker.joinAt (I)I -/
def zp_m91 : zx_M := (⟨RX6, "joinAt", "(I)I"⟩, prog_8_method_16_code, 5, (some .int), (some 4), 1, 6, zp_t91_0 ++ (zp_t91_1))
def zp_t92_0 : List (Nat × Instr × Nat) := [(0, .iconst 0, 1), (1, .istore_n 1, 1), (2, .iload_n 1, 1), (3, .aload_n 0, 1), (4, .getfield 25, 3), (7, .invokevirtual 56, 3), (10, .if_icmp .ge 65, 3), (13, .aload_n 0, 1), (14, .iload_n 1, 1), (15, .invokevirtual 48, 3), (18, .ifCond .ne 51, 3), (21, .aload_n 0, 1), (22, .iload_n 1, 1), (23, .invokevirtual 157, 3), (26, .ifCond .ne 19, 3), (29, .aload_n 0, 1), (30, .iload_n 1, 1), (31, .invokevirtual 160, 3), (34, .ifCond .ne 11, 3), (37, .aload_n 0, 1), (38, .iload_n 1, 1), (39, .invokevirtual 163, 3), (42, .ifCond .eq 27, 3), (45, .aload_n 0, 1), (46, .getfield 12, 3), (49, .iload_n 1, 1), (50, .aload_n 0, 1), (51, .getfield 21, 3), (54, .invokevirtual 96, 3), (57, .aload_n 0, 1), (58, .getfield 29, 3), (61, .iload_n 1, 1), (62, .aload_n 0, 1), (63, .getfield 21, 3), (66, .invokevirtual 166, 3), (69, .iinc 1 1, 3), (72, .goto (-70), 3), (75, .return_, 1)]
/-- 92: ClassFrames$Maker.gatherFrames ()V -/
def zp_m92 : zx_M := (⟨RX6, "gatherFrames", "()V"⟩, prog_8_method_17_code, 2, none, (some 4), 0, 6, zp_t92_0)
def zp_t93_0 : List (Nat × Instr × Nat) := [(0, .iconst 0, 1), (1, .istore_n 2, 1), (2, .iload_n 2, 1), (3, .aload_n 0, 1), (4, .getfield 25, 3), (7, .invokevirtual 111, 3), (10, .if_icmp .ge 23, 3), (13, .aload_n 0, 1), (14, .getfield 25, 3), (17, .iload_n 2, 1), (18, .invokevirtual 125, 3), (21, .iload_n 1, 1), (22, .if_icmp .ne 5, 3), (25, .iconst 1, 1), (26, .ireturn, 1), (27, .iinc 2 1, 3), (30, .goto (-28), 3), (33, .iconst 0, 1), (34, .ireturn, 1)]
/-- 93: ClassFrames$Maker.isHandlers (I)Z -/
def zp_m93 : zx_M := (⟨RX6, "isHandlers", "(I)Z"⟩, prog_8_method_18_code, 3, (some .boolean), (some 4), 1, 6, zp_t93_0)
def zp_t94_0 : List (Nat × Instr × Nat) := [(0, .iconst 0, 1), (1, .istore_n 2, 1), (2, .iload_n 2, 1), (3, .aload_n 0, 1), (4, .getfield 25, 3), (7, .invokevirtual 56, 3), (10, .if_icmp .ge 52, 3), (13, .iconst 0, 1), (14, .istore_n 3, 1), (15, .iload_n 3, 1), (16, .aload_n 0, 1), (17, .getfield 25, 3), (20, .iload_n 2, 1), (21, .invokevirtual 131, 3), (24, .if_icmp .ge 32, 3), (27, .aload_n 0, 1), (28, .iload_n 2, 1), (29, .invokevirtual 48, 3), (32, .ifCond .ne 18, 3), (35, .aload_n 0, 1), (36, .getfield 25, 3), (39, .iload_n 2, 1), (40, .iload_n 3, 1), (41, .invokevirtual 134, 3), (44, .iload_n 1, 1), (45, .if_icmp .ne 5, 3), (48, .iconst 1, 1), (49, .ireturn, 1), (50, .iinc 3 1, 3), (53, .goto (-38), 3), (56, .iinc 2 1, 3), (59, .goto (-57), 3), (62, .iconst 0, 1), (63, .ireturn, 1)]
/-- 94: ClassFrames$Maker.isGoneTo (I)Z -/
def zp_m94 : zx_M := (⟨RX6, "isGoneTo", "(I)Z"⟩, prog_8_method_19_code, 4, (some .boolean), (some 4), 1, 6, zp_t94_0)
def zp_t95_0 : List (Nat × Instr × Nat) := [(0, .iload_n 1, 1), (1, .ifCond .le 30, 3), (4, .aload_n 0, 1), (5, .iload_n 1, 1), (6, .iconst 1, 1), (7, .isub, 1), (8, .invokevirtual 48, 3), (11, .ifCond .ne 16, 3), (14, .aload_n 0, 1), (15, .getfield 25, 3), (18, .iload_n 1, 1), (19, .iconst 1, 1), (20, .isub, 1), (21, .invokevirtual 137, 3), (24, .ifCond .ne 7, 3), (27, .iconst 1, 1), (28, .goto 4, 3), (31, .iconst 0, 1), (32, .ireturn, 1)]
/-- 95: ClassFrames$Maker.isBehindGap (I)Z -/
def zp_m95 : zx_M := (⟨RX6, "isBehindGap", "(I)Z"⟩, prog_8_method_20_code, 2, (some .boolean), (some 4), 1, 6, zp_t95_0)
def zp_t96_0 : List (Nat × Instr × Nat) := [(0, .aload_n 0, 1), (1, .getfield 39, 3), (4, .ireturn, 1)]
/-- 96: ClassFrames$Packer.howMany ()I -/
def zp_m96 : zx_M := (⟨RX7, "howMany", "()I"⟩, prog_9_method_2_code, 1, (some .int), (some 5), 0, 7, zp_t96_0)
def zp_t97_0 : List (Nat × Instr × Nat) := [(0, .iload_n 1, 1), (1, .ifCond .lt 27, 3), (4, .iload_n 1, 1), (5, .aload_n 0, 1), (6, .getfield 39, 3), (9, .if_icmp .ge 19, 3), (12, .iload_n 1, 1), (13, .sipush 2940, 3), (16, .if_icmp .ge 12, 3), (19, .aload_n 0, 1), (20, .getfield 18, 3), (23, .iload_n 1, 1), (24, .iaload, 1), (25, .goto 4, 3), (28, .iconst 0, 1), (29, .ireturn, 1)]
/-- 97: ClassFrames$Packer.byteAt (I)I -/
def zp_m97 : zx_M := (⟨RX7, "byteAt", "(I)I"⟩, prog_9_method_3_code, 2, (some .int), (some 5), 1, 7, zp_t97_0)
def zp_t98_0 : List (Nat × Instr × Nat) := [(0, .aload_n 0, 1), (1, .iconst 0, 1), (2, .putfield 39, 3), (5, .aload_n 0, 1), (6, .invokevirtual 43, 3), (9, .iconst 0, 1), (10, .istore_n 1, 1), (11, .iconst 0, 1), (12, .istore_n 2, 1), (13, .iload_n 2, 1), (14, .aload_n 0, 1), (15, .getfield 35, 3), (18, .invokevirtual 46, 3), (21, .if_icmp .ge 43, 3), (24, .aload_n 0, 1), (25, .iload_n 2, 1), (26, .invokevirtual 52, 3), (29, .aload_n 0, 1), (30, .aload_n 0, 1), (31, .getfield 35, 3), (34, .iload_n 2, 1), (35, .invokevirtual 56, 3), (38, .iload_n 1, 1), (39, .isub, 1), (40, .invokevirtual 60, 3), (43, .aload_n 0, 1), (44, .getfield 35, 3), (47, .iload_n 2, 1), (48, .invokevirtual 56, 3), (51, .iconst 1, 1), (52, .iadd, 1), (53, .istore_n 1, 1), (54, .aload_n 0, 1), (55, .invokevirtual 63, 3), (58, .iinc 2 1, 3), (61, .goto (-48), 3), (64, .aload_n 0, 1), (65, .getfield 39, 3), (68, .ireturn, 1)]
/-- 98: ClassFrames$Packer.pack ()I -/
def zp_m98 : zx_M := (⟨RX7, "pack", "()I"⟩, prog_9_method_4_code, 3, (some .int), (some 5), 0, 7, zp_t98_0)
def zp_t99_0 : List (Nat × Instr × Nat) := [(0, .aload_n 0, 1), (1, .iconst 0, 1), (2, .putfield 66, 3), (5, .iconst 0, 1), (6, .istore_n 1, 1), (7, .iload_n 1, 1), (8, .aload_n 0, 1), (9, .getfield 31, 3), (12, .invokevirtual 69, 3), (15, .if_icmp .ge 54, 3), (18, .aload_n 0, 1), (19, .getfield 66, 3), (22, .bipush 8, 2), (24, .if_icmp .ge 45, 3), (27, .aload_n 0, 1), (28, .getfield 31, 3), (31, .iload_n 1, 1), (32, .invokevirtual 74, 3), (35, .iconst 3, 1), (36, .if_icmp .eq 27, 3), (39, .aload_n 0, 1), (40, .getfield 22, 3), (43, .aload_n 0, 1), (44, .dup, 1), (45, .getfield 66, 3), (48, .dup_x1, 1), (49, .iconst 1, 1), (50, .iadd, 1), (51, .putfield 66, 3), (54, .aload_n 0, 1), (55, .getfield 31, 3), (58, .iload_n 1, 1), (59, .invokevirtual 74, 3), (62, .iastore, 1), (63, .iinc 1 1, 3), (66, .goto (-59), 3), (69, .return_, 1)]
/-- 99: ClassFrames$Packer.gatherParameters ()V -/
def zp_m99 : zx_M := (⟨RX7, "gatherParameters", "()V"⟩, prog_9_method_5_code, 2, none, (some 5), 0, 7, zp_t99_0)
def zp_t100_0 : List (Nat × Instr × Nat) := [(0, .aload_n 0, 1), (1, .getfield 35, 3), (4, .iload_n 1, 1), (5, .aload_n 0, 1), (6, .getfield 12, 3), (9, .invokevirtual 77, 3), (12, .aload_n 0, 1), (13, .aload_n 0, 1), (14, .iconst 0, 1), (15, .aload_n 0, 1), (16, .getfield 35, 3), (19, .iload_n 1, 1), (20, .invokevirtual 81, 3), (23, .aload_n 0, 1), (24, .getfield 25, 3), (27, .invokevirtual 84, 3), (30, .putfield 88, 3), (33, .aload_n 0, 1), (34, .aload_n 0, 1), (35, .bipush 8, 2), (37, .aload_n 0, 1), (38, .getfield 12, 3), (41, .invokevirtual 91, 3), (44, .aload_n 0, 1), (45, .getfield 28, 3), (48, .invokevirtual 84, 3), (51, .putfield 94, 3), (54, .return_, 1)]
/-- 100: ClassFrames$Packer.gatherFrame (I)V -/
def zp_m100 : zx_M := (⟨RX7, "gatherFrame", "(I)V"⟩, prog_9_method_6_code, 2, none, (some 5), 1, 7, zp_t100_0)
def zp_t101_0 : List (Nat × Instr × Nat) := [(0, .iconst 0, 1), (1, .istore 4, 2), (3, .iload_n 1, 1), (4, .istore 5, 2), (6, .iload 5, 2), (8, .iload_n 1, 1), (9, .iload_n 2, 1), (10, .iadd, 1), (11, .if_icmp .ge 78, 3), (14, .iload 5, 2), (16, .iload_n 1, 1), (17, .if_icmp .le 35, 3), (20, .aload_n 0, 1), (21, .getfield 12, 3), (24, .iload 5, 2), (26, .invokevirtual 97, 3), (29, .iconst 3, 1), (30, .if_icmp .ne 22, 3), (33, .aload_n 0, 1), (34, .getfield 12, 3), (37, .iload 5, 2), (39, .iconst 1, 1), (40, .isub, 1), (41, .invokevirtual 97, 3), (44, .iconst 2, 1), (45, .if_icmp .ne 7, 3), (48, .iconst 1, 1), (49, .goto 4, 3), (52, .iconst 0, 1), (53, .istore 6, 2), (55, .iload 6, 2), (57, .ifCond .ne 26, 3), (60, .iload 4, 2), (62, .aload_n 3, 1), (63, .arraylength, 1), (64, .if_icmp .ge 19, 3), (67, .aload_n 3, 1), (68, .iload 4, 2), (70, .iinc 4 1, 3), (73, .aload_n 0, 1)]
def zp_t101_1 : List (Nat × Instr × Nat) := [(74, .getfield 12, 3), (77, .iload 5, 2), (79, .invokevirtual 97, 3), (82, .iastore, 1), (83, .iinc 5 1, 3), (86, .goto (-80), 3), (89, .iload 4, 2), (91, .ireturn, 1)]
/-- 101: ClassFrames$Packer.gather (II[I)I -/
def zp_m101 : zx_M := (⟨RX7, "gather", "(II[I)I"⟩, prog_9_method_7_code, 7, (some .int), (some 5), 3, 7, zp_t101_0 ++ (zp_t101_1))
def zp_t102_0 : List (Nat × Instr × Nat) := [(0, .aload_n 0, 1), (1, .aload_n 0, 1), (2, .getfield 88, 3), (5, .putfield 66, 3), (8, .iconst 0, 1), (9, .istore_n 1, 1), (10, .iload_n 1, 1), (11, .bipush 8, 2), (13, .if_icmp .ge 21, 3), (16, .aload_n 0, 1), (17, .getfield 22, 3), (20, .iload_n 1, 1), (21, .aload_n 0, 1), (22, .getfield 25, 3), (25, .iload_n 1, 1), (26, .iaload, 1), (27, .iastore, 1), (28, .iinc 1 1, 3), (31, .goto (-21), 3), (34, .return_, 1)]
/-- 102: ClassFrames$Packer.keepAhead ()V -/
def zp_m102 : zx_M := (⟨RX7, "keepAhead", "()V"⟩, prog_9_method_8_code, 2, none, (some 5), 0, 7, zp_t102_0)
def zp_t103_0 : List (Nat × Instr × Nat) := [(0, .aload_n 0, 1), (1, .getfield 88, 3), (4, .aload_n 0, 1), (5, .getfield 66, 3), (8, .isub, 1), (9, .istore_n 2, 1), (10, .aload_n 0, 1), (11, .invokevirtual 100, 3), (14, .istore_n 3, 1), (15, .iload_n 3, 1), (16, .ifCond .eq 22, 3), (19, .iload_n 2, 1), (20, .ifCond .ne 18, 3), (23, .aload_n 0, 1), (24, .getfield 94, 3), (27, .ifCond .ne 11, 3), (30, .aload_n 0, 1), (31, .iload_n 1, 1), (32, .invokevirtual 104, 3), (35, .goto 105, 3), (38, .iload_n 3, 1), (39, .ifCond .eq 36, 3), (42, .iload_n 2, 1), (43, .ifCond .ne 32, 3), (46, .aload_n 0, 1), (47, .getfield 94, 3), (50, .iconst 1, 1), (51, .if_icmp .ne 24, 3), (54, .aload_n 0, 1), (55, .bipush 64, 2), (57, .iload_n 1, 1), (58, .iadd, 1), (59, .invokevirtual 104, 3), (62, .aload_n 0, 1), (63, .aload_n 0, 1), (64, .getfield 28, 3), (67, .iconst 0, 1), (68, .iconst 1, 1), (69, .invokevirtual 107, 3), (72, .goto 68, 3)]
def zp_t103_1 : List (Nat × Instr × Nat) := [(75, .iload_n 3, 1), (76, .ifCond .eq 59, 3), (79, .aload_n 0, 1), (80, .getfield 94, 3), (83, .ifCond .ne 52, 3), (86, .iload_n 2, 1), (87, .bipush (-3), 2), (89, .if_icmp .lt 46, 3), (92, .iload_n 2, 1), (93, .iconst 3, 1), (94, .if_icmp .gt 41, 3), (97, .aload_n 0, 1), (98, .sipush 251, 3), (101, .iload_n 2, 1), (102, .iadd, 1), (103, .invokevirtual 104, 3), (106, .aload_n 0, 1), (107, .iconst 0, 1), (108, .invokevirtual 104, 3), (111, .aload_n 0, 1), (112, .iload_n 1, 1), (113, .invokevirtual 104, 3), (116, .aload_n 0, 1), (117, .aload_n 0, 1), (118, .getfield 25, 3), (121, .aload_n 0, 1), (122, .getfield 66, 3), (125, .aload_n 0, 1), (126, .getfield 88, 3), (129, .invokevirtual 107, 3), (132, .goto 8, 3), (135, .aload_n 0, 1), (136, .iload_n 1, 1), (137, .invokevirtual 111, 3), (140, .return_, 1)]
/-- 103: ClassFrames$Packer.packFrame (I)V -/
def zp_m103 : zx_M := (⟨RX7, "packFrame", "(I)V"⟩, prog_9_method_9_code, 4, none, (some 5), 1, 7, zp_t103_0 ++ (zp_t103_1))
def zp_t104_0 : List (Nat × Instr × Nat) := [(0, .iconst 0, 1), (1, .istore_n 1, 1), (2, .iload_n 1, 1), (3, .bipush 8, 2), (5, .if_icmp .ge 42, 3), (8, .iload_n 1, 1), (9, .aload_n 0, 1), (10, .getfield 66, 3), (13, .if_icmp .ge 34, 3), (16, .iload_n 1, 1), (17, .aload_n 0, 1), (18, .getfield 88, 3), (21, .if_icmp .ge 26, 3), (24, .aload_n 0, 1), (25, .getfield 22, 3), (28, .iload_n 1, 1), (29, .iaload, 1), (30, .aload_n 0, 1), (31, .getfield 25, 3), (34, .iload_n 1, 1), (35, .iaload, 1), (36, .if_icmp .eq 5, 3), (39, .iconst 0, 1), (40, .ireturn, 1), (41, .iinc 1 1, 3), (44, .goto (-42), 3), (47, .iconst 1, 1), (48, .ireturn, 1)]
/-- 104: ClassFrames$Packer.startsAlike ()Z -/
def zp_m104 : zx_M := (⟨RX7, "startsAlike", "()Z"⟩, prog_9_method_10_code, 2, (some .boolean), (some 5), 0, 7, zp_t104_0)
def zp_t105_0 : List (Nat × Instr × Nat) := [(0, .aload_n 0, 1), (1, .sipush 255, 3), (4, .invokevirtual 104, 3), (7, .aload_n 0, 1), (8, .iconst 0, 1), (9, .invokevirtual 104, 3), (12, .aload_n 0, 1), (13, .iload_n 1, 1), (14, .invokevirtual 104, 3), (17, .aload_n 0, 1), (18, .iconst 0, 1), (19, .invokevirtual 104, 3), (22, .aload_n 0, 1), (23, .aload_n 0, 1), (24, .getfield 88, 3), (27, .invokevirtual 104, 3), (30, .aload_n 0, 1), (31, .aload_n 0, 1), (32, .getfield 25, 3), (35, .iconst 0, 1), (36, .aload_n 0, 1), (37, .getfield 88, 3), (40, .invokevirtual 107, 3), (43, .aload_n 0, 1), (44, .iconst 0, 1), (45, .invokevirtual 104, 3), (48, .aload_n 0, 1), (49, .aload_n 0, 1), (50, .getfield 94, 3), (53, .invokevirtual 104, 3), (56, .aload_n 0, 1), (57, .aload_n 0, 1), (58, .getfield 28, 3), (61, .iconst 0, 1), (62, .aload_n 0, 1), (63, .getfield 94, 3), (66, .invokevirtual 107, 3), (69, .return_, 1)]
/-- 105: ClassFrames$Packer.packWhole (I)V -/
def zp_m105 : zx_M := (⟨RX7, "packWhole", "(I)V"⟩, prog_9_method_11_code, 2, none, (some 5), 1, 7, zp_t105_0)
def zp_t106_0 : List (Nat × Instr × Nat) := [(0, .iload_n 2, 1), (1, .istore 4, 2), (3, .iload 4, 2), (5, .ifCond .lt 30, 3), (8, .iload 4, 2), (10, .iload_n 3, 1), (11, .if_icmp .ge 24, 3), (14, .iload 4, 2), (16, .aload_n 1, 1), (17, .arraylength, 1), (18, .if_icmp .ge 17, 3), (21, .aload_n 0, 1), (22, .aload_n 1, 1), (23, .iload 4, 2), (25, .iaload, 1), (26, .invokevirtual 114, 3), (29, .iinc 4 1, 3), (32, .goto (-29), 3), (35, .return_, 1)]
/-- 106: ClassFrames$Packer.writeEntries ([III)V -/
def zp_m106 : zx_M := (⟨RX7, "writeEntries", "([III)V"⟩, prog_9_method_12_code, 5, none, (some 5), 3, 7, zp_t106_0)
def zp_t107_0 : List (Nat × Instr × Nat) := [(0, .iload_n 1, 1), (1, .tableswitch 67 0 4 #[35, 43, 51, 67, 59], 35), (36, .aload_n 0, 1), (37, .iconst 0, 1), (38, .invokevirtual 104, 3), (41, .goto 43, 3), (44, .aload_n 0, 1), (45, .iconst 1, 1), (46, .invokevirtual 104, 3), (49, .goto 35, 3), (52, .aload_n 0, 1), (53, .iconst 4, 1), (54, .invokevirtual 104, 3), (57, .goto 27, 3), (60, .aload_n 0, 1), (61, .iconst 5, 1), (62, .invokevirtual 104, 3), (65, .goto 19, 3), (68, .aload_n 0, 1), (69, .bipush 7, 2), (71, .invokevirtual 104, 3), (74, .aload_n 0, 1), (75, .iconst 0, 1), (76, .invokevirtual 104, 3), (79, .aload_n 0, 1), (80, .iload_n 1, 1), (81, .invokevirtual 104, 3), (84, .return_, 1)]
/-- 107: ClassFrames$Packer.writeEntry (I)V -/
def zp_m107 : zx_M := (⟨RX7, "writeEntry", "(I)V"⟩, prog_9_method_13_code, 2, none, (some 5), 1, 7, zp_t107_0)
def zp_t108_0 : List (Nat × Instr × Nat) := [(0, .aload_n 0, 1), (1, .getfield 39, 3), (4, .sipush 2940, 3), (7, .if_icmp .ge 20, 3), (10, .aload_n 0, 1), (11, .getfield 18, 3), (14, .aload_n 0, 1), (15, .dup, 1), (16, .getfield 39, 3), (19, .dup_x1, 1), (20, .iconst 1, 1), (21, .iadd, 1), (22, .putfield 39, 3), (25, .iload_n 1, 1), (26, .iastore, 1), (27, .return_, 1)]
/-- 108: ClassFrames$Packer.write (I)V -/
def zp_m108 : zx_M := (⟨RX7, "write", "(I)V"⟩, prog_9_method_14_code, 2, none, (some 5), 1, 7, zp_t108_0)
def zp_t109_0 : List (Nat × Instr × Nat) := [(0, .aload_n 0, 1), (1, .iconst 0, 1), (2, .putfield 18, 3), (5, .return_, 1)]
/-- 109: ClassFrames$Rows.forget ()V -/
def zp_m109 : zx_M := (⟨RX8, "forget", "()V"⟩, prog_10_method_2_code, 1, none, (some 6), 0, 8, zp_t109_0)
def zp_t110_0 : List (Nat × Instr × Nat) := [(0, .aload_n 0, 1), (1, .getfield 18, 3), (4, .sipush 158, 3), (7, .if_icmp .ge 13, 3), (10, .iload_n 1, 1), (11, .ifCond .lt 9, 3), (14, .iload_n 1, 1), (15, .bipush 20, 2), (17, .if_icmp .le 5, 3), (20, .iconst (-1), 1), (21, .ireturn, 1), (22, .aload_n 0, 1), (23, .getfield 11, 3), (26, .aload_n 0, 1), (27, .getfield 18, 3), (30, .iload_n 1, 1), (31, .iastore, 1), (32, .iconst 0, 1), (33, .istore_n 2, 1), (34, .iload_n 2, 1), (35, .iload_n 1, 1), (36, .if_icmp .ge 24, 3), (39, .aload_n 0, 1), (40, .getfield 15, 3), (43, .aload_n 0, 1), (44, .getfield 18, 3), (47, .bipush 20, 2), (49, .imul, 1), (50, .iload_n 2, 1), (51, .iadd, 1), (52, .iconst 0, 1), (53, .iastore, 1), (54, .iinc 2 1, 3), (57, .goto (-23), 3), (60, .aload_n 0, 1), (61, .dup, 1), (62, .getfield 18, 3), (65, .dup_x1, 1), (66, .iconst 1, 1), (67, .iadd, 1)]
def zp_t110_1 : List (Nat × Instr × Nat) := [(68, .putfield 18, 3), (71, .ireturn, 1)]
/-- 110: ClassFrames$Rows.add (I)I -/
def zp_m110 : zx_M := (⟨RX8, "add", "(I)I"⟩, prog_10_method_3_code, 3, (some .int), (some 6), 1, 8, zp_t110_0 ++ (zp_t110_1))
def zp_t111_0 : List (Nat × Instr × Nat) := [(0, .iload_n 1, 1), (1, .ifCond .lt 20, 3), (4, .iload_n 1, 1), (5, .aload_n 0, 1), (6, .getfield 18, 3), (9, .if_icmp .ge 12, 3), (12, .aload_n 0, 1), (13, .getfield 11, 3), (16, .iload_n 1, 1), (17, .iaload, 1), (18, .goto 4, 3), (21, .iconst 0, 1), (22, .ireturn, 1)]
/-- 111: ClassFrames$Rows.lengthOf (I)I -/
def zp_m111 : zx_M := (⟨RX8, "lengthOf", "(I)I"⟩, prog_10_method_4_code, 2, (some .int), (some 6), 1, 8, zp_t111_0)
def zp_t112_0 : List (Nat × Instr × Nat) := [(0, .iload_n 1, 1), (1, .ifCond .lt 29, 3), (4, .iload_n 1, 1), (5, .aload_n 0, 1), (6, .getfield 18, 3), (9, .if_icmp .ge 21, 3), (12, .iload_n 2, 1), (13, .ifCond .lt 17, 3), (16, .iload_n 2, 1), (17, .aload_n 0, 1), (18, .getfield 11, 3), (21, .iload_n 1, 1), (22, .iaload, 1), (23, .if_icmp .ge 7, 3), (26, .iconst 1, 1), (27, .goto 4, 3), (30, .iconst 0, 1), (31, .ireturn, 1)]
/-- 112: ClassFrames$Rows.hasCell (II)Z -/
def zp_m112 : zx_M := (⟨RX8, "hasCell", "(II)Z"⟩, prog_10_method_5_code, 3, (some .boolean), (some 6), 2, 8, zp_t112_0)
def zp_t113_0 : List (Nat × Instr × Nat) := [(0, .aload_n 0, 1), (1, .iload_n 1, 1), (2, .iload_n 2, 1), (3, .invokevirtual 22, 3), (6, .ifCond .eq 17, 3), (9, .aload_n 0, 1), (10, .getfield 15, 3), (13, .iload_n 1, 1), (14, .bipush 20, 2), (16, .imul, 1), (17, .iload_n 2, 1), (18, .iadd, 1), (19, .iaload, 1), (20, .goto 4, 3), (23, .iconst 0, 1), (24, .ireturn, 1)]
/-- 113: ClassFrames$Rows.cell (II)I -/
def zp_m113 : zx_M := (⟨RX8, "cell", "(II)I"⟩, prog_10_method_6_code, 3, (some .int), (some 6), 2, 8, zp_t113_0)
def zp_t114_0 : List (Nat × Instr × Nat) := [(0, .aload_n 0, 1), (1, .iload_n 1, 1), (2, .iload_n 2, 1), (3, .invokevirtual 22, 3), (6, .ifCond .eq 15, 3), (9, .aload_n 0, 1), (10, .getfield 15, 3), (13, .iload_n 1, 1), (14, .bipush 20, 2), (16, .imul, 1), (17, .iload_n 2, 1), (18, .iadd, 1), (19, .iload_n 3, 1), (20, .iastore, 1), (21, .return_, 1)]
/-- 114: ClassFrames$Rows.setCell (III)V -/
def zp_m114 : zx_M := (⟨RX8, "setCell", "(III)V"⟩, prog_10_method_7_code, 4, none, (some 6), 3, 8, zp_t114_0)
def zp_t115_0 : List (Nat × Instr × Nat) := [(0, .iconst 0, 1), (1, .istore_n 2, 1), (2, .iload_n 2, 1), (3, .bipush 8, 2), (5, .if_icmp .ge 20, 3), (8, .aload_n 0, 1), (9, .getfield 9, 3), (12, .iload_n 2, 1), (13, .aload_n 1, 1), (14, .iload_n 2, 1), (15, .invokevirtual 15, 3), (18, .iastore, 1), (19, .iinc 2 1, 3), (22, .goto (-20), 3), (25, .aload_n 0, 1), (26, .iconst 0, 1), (27, .putfield 21, 3), (30, .return_, 1)]
/-- 115: ClassFrames$State.begin (LClassFrames$Code;)V -/
def zp_m115 : zx_M := (⟨RX9, "begin", "(LClassFrames$Code;)V"⟩, prog_11_method_2_code, 3, none, (some 7), 1, 9, zp_t115_0)
def zp_t116_0 : List (Nat × Instr × Nat) := [(0, .aload_n 0, 1), (1, .getfield 21, 3), (4, .ireturn, 1)]
/-- 116: ClassFrames$State.depth ()I -/
def zp_m116 : zx_M := (⟨RX9, "depth", "()I"⟩, prog_11_method_3_code, 1, (some .int), (some 7), 0, 9, zp_t116_0)
def zp_t117_0 : List (Nat × Instr × Nat) := [(0, .aload_n 0, 1), (1, .iload_n 1, 1), (2, .ifCond .ge 7, 3), (5, .iconst 0, 1), (6, .goto 9, 3), (9, .iload_n 1, 1), (10, .bipush 6, 2), (12, .invokestatic 25, 3), (15, .putfield 21, 3), (18, .return_, 1)]
/-- 117: ClassFrames$State.setDepth (I)V -/
def zp_m117 : zx_M := (⟨RX9, "setDepth", "(I)V"⟩, prog_11_method_4_code, 2, none, (some 7), 1, 9, zp_t117_0)
def zp_t118_0 : List (Nat × Instr × Nat) := [(0, .iload_n 1, 1), (1, .ifCond .lt 18, 3), (4, .iload_n 1, 1), (5, .bipush 14, 2), (7, .if_icmp .ge 12, 3), (10, .aload_n 0, 1), (11, .getfield 9, 3), (14, .iload_n 1, 1), (15, .iaload, 1), (16, .goto 4, 3), (19, .iconst 0, 1), (20, .ireturn, 1)]
/-- 118: ClassFrames$State.kindOf (I)I -/
def zp_m118 : zx_M := (⟨RX9, "kindOf", "(I)I"⟩, prog_11_method_5_code, 2, (some .int), (some 7), 1, 9, zp_t118_0)
def zp_t119_0 : List (Nat × Instr × Nat) := [(0, .iload_n 1, 1), (1, .ifCond .lt 16, 3), (4, .iload_n 1, 1), (5, .bipush 14, 2), (7, .if_icmp .ge 10, 3), (10, .aload_n 0, 1), (11, .getfield 9, 3), (14, .iload_n 1, 1), (15, .iload_n 2, 1), (16, .iastore, 1), (17, .return_, 1)]
/-- 119: ClassFrames$State.setKind (II)V -/
def zp_m119 : zx_M := (⟨RX9, "setKind", "(II)V"⟩, prog_11_method_6_code, 3, none, (some 7), 2, 9, zp_t119_0)
def zp_t120_0 : List (Nat × Instr × Nat) := [(0, .iload_n 1, 1), (1, .ifCond .lt 30, 3), (4, .iload_n 1, 1), (5, .aload_n 0, 1), (6, .getfield 21, 3), (9, .if_icmp .ge 22, 3), (12, .aload_n 0, 1), (13, .getfield 9, 3), (16, .bipush 8, 2), (18, .aload_n 0, 1), (19, .getfield 21, 3), (22, .iadd, 1), (23, .iconst 1, 1), (24, .isub, 1), (25, .iload_n 1, 1), (26, .isub, 1), (27, .iaload, 1), (28, .goto 4, 3), (31, .iconst (-1), 1), (32, .ireturn, 1)]
/-- 120: ClassFrames$State.kindDown (I)I -/
def zp_m120 : zx_M := (⟨RX9, "kindDown", "(I)I"⟩, prog_11_method_7_code, 2, (some .int), (some 7), 1, 9, zp_t120_0)
def zp_t121_0 : List (Nat × Instr × Nat) := [(0, .aload_n 0, 1), (1, .getfield 9, 3), (4, .bipush 8, 2), (6, .iload_n 1, 1), (7, .iastore, 1), (8, .aload_n 0, 1), (9, .iconst 1, 1), (10, .putfield 21, 3), (13, .return_, 1)]
/-- 121: ClassFrames$State.leaveAlone (I)V -/
def zp_m121 : zx_M := (⟨RX9, "leaveAlone", "(I)V"⟩, prog_11_method_8_code, 2, none, (some 7), 1, 9, zp_t121_0)
def zp_t122_0 : List (Nat × Instr × Nat) := [(0, .aload_n 0, 1), (1, .iload_n 1, 1), (2, .aload_n 0, 1), (3, .getfield 21, 3), (6, .if_icmp .ge 12, 3), (9, .aload_n 0, 1), (10, .getfield 21, 3), (13, .iload_n 1, 1), (14, .isub, 1), (15, .goto 4, 3), (18, .iconst 0, 1), (19, .putfield 21, 3), (22, .return_, 1)]
/-- 122: ClassFrames$State.drop (I)V -/
def zp_m122 : zx_M := (⟨RX9, "drop", "(I)V"⟩, prog_11_method_9_code, 2, none, (some 7), 1, 9, zp_t122_0)
def zp_t123_0 : List (Nat × Instr × Nat) := [(0, .iload_n 1, 1), (1, .iconst 2, 1), (2, .if_icmp .ne 7, 3), (5, .iconst 2, 1), (6, .goto 4, 3), (9, .iconst 1, 1), (10, .istore_n 2, 1), (11, .aload_n 0, 1), (12, .getfield 21, 3), (15, .iload_n 2, 1), (16, .iadd, 1), (17, .bipush 6, 2), (19, .if_icmp .le 5, 3), (22, .iconst 3, 1), (23, .ireturn, 1), (24, .aload_n 0, 1), (25, .bipush 8, 2), (27, .aload_n 0, 1), (28, .getfield 21, 3), (31, .iadd, 1), (32, .iload_n 1, 1), (33, .invokevirtual 31, 3), (36, .iload_n 2, 1), (37, .iconst 2, 1), (38, .if_icmp .ne 17, 3), (41, .aload_n 0, 1), (42, .bipush 8, 2), (44, .aload_n 0, 1), (45, .getfield 21, 3), (48, .iadd, 1), (49, .iconst 1, 1), (50, .iadd, 1), (51, .iconst 3, 1), (52, .invokevirtual 31, 3), (55, .aload_n 0, 1), (56, .dup, 1), (57, .getfield 21, 3), (60, .iload_n 2, 1), (61, .iadd, 1), (62, .putfield 21, 3)]
def zp_t123_1 : List (Nat × Instr × Nat) := [(65, .iconst 0, 1), (66, .ireturn, 1)]
/-- 123: ClassFrames$State.push (I)I -/
def zp_m123 : zx_M := (⟨RX9, "push", "(I)I"⟩, prog_11_method_10_code, 3, (some .int), (some 7), 1, 9, zp_t123_0 ++ (zp_t123_1))
def zp_t124_0 : List (Nat × Instr × Nat) := [(0, .iload_n 2, 1), (1, .iconst 2, 1), (2, .if_icmp .ne 7, 3), (5, .iconst 2, 1), (6, .goto 4, 3), (9, .iconst 1, 1), (10, .istore_n 3, 1), (11, .iload_n 1, 1), (12, .ifCond .lt 11, 3), (15, .iload_n 1, 1), (16, .bipush 8, 2), (18, .iload_n 3, 1), (19, .isub, 1), (20, .if_icmp .le 5, 3), (23, .iconst 4, 1), (24, .ireturn, 1), (25, .iload_n 1, 1), (26, .ifCond .le 24, 3), (29, .aload_n 0, 1), (30, .getfield 9, 3), (33, .iload_n 1, 1), (34, .iconst 1, 1), (35, .isub, 1), (36, .iaload, 1), (37, .iconst 2, 1), (38, .if_icmp .ne 12, 3), (41, .aload_n 0, 1), (42, .getfield 9, 3), (45, .iload_n 1, 1), (46, .iconst 1, 1), (47, .isub, 1), (48, .iconst 0, 1), (49, .iastore, 1), (50, .aload_n 0, 1), (51, .getfield 9, 3), (54, .iload_n 1, 1), (55, .iload_n 2, 1), (56, .iastore, 1), (57, .iload_n 3, 1), (58, .iconst 2, 1)]
def zp_t124_1 : List (Nat × Instr × Nat) := [(59, .if_icmp .ne 12, 3), (62, .aload_n 0, 1), (63, .getfield 9, 3), (66, .iload_n 1, 1), (67, .iconst 1, 1), (68, .iadd, 1), (69, .iconst 3, 1), (70, .iastore, 1), (71, .iload_n 1, 1), (72, .iload_n 3, 1), (73, .iadd, 1), (74, .istore 4, 2), (76, .iload 4, 2), (78, .bipush 8, 2), (80, .if_icmp .ge 22, 3), (83, .aload_n 0, 1), (84, .getfield 9, 3), (87, .iload 4, 2), (89, .iaload, 1), (90, .iconst 3, 1), (91, .if_icmp .ne 11, 3), (94, .aload_n 0, 1), (95, .getfield 9, 3), (98, .iload 4, 2), (100, .iconst 0, 1), (101, .iastore, 1), (102, .iconst 0, 1), (103, .ireturn, 1)]
/-- 124: ClassFrames$State.store (II)I -/
def zp_m124 : zx_M := (⟨RX9, "store", "(II)I"⟩, prog_11_method_11_code, 5, (some .int), (some 7), 2, 9, zp_t124_0 ++ (zp_t124_1))
def zp_t125_0 : List (Nat × Instr × Nat) := [(0, .iconst 0, 1), (1, .istore_n 1, 1), (2, .iload_n 1, 1), (3, .bipush 8, 2), (5, .if_icmp .ge 22, 3), (8, .aload_n 0, 1), (9, .iload_n 1, 1), (10, .iconst 0, 1), (11, .bipush 8, 2), (13, .invokevirtual 35, 3), (16, .ifCond .eq 5, 3), (19, .iconst 1, 1), (20, .ireturn, 1), (21, .iinc 1 1, 3), (24, .goto (-22), 3), (27, .bipush 8, 2), (29, .istore_n 1, 1), (30, .iload_n 1, 1), (31, .bipush 8, 2), (33, .aload_n 0, 1), (34, .getfield 21, 3), (37, .iadd, 1), (38, .if_icmp .ge 28, 3), (41, .aload_n 0, 1), (42, .iload_n 1, 1), (43, .bipush 8, 2), (45, .bipush 8, 2), (47, .aload_n 0, 1), (48, .getfield 21, 3), (51, .iadd, 1), (52, .invokevirtual 35, 3), (55, .ifCond .eq 5, 3), (58, .iconst 1, 1), (59, .ireturn, 1), (60, .iinc 1 1, 3), (63, .goto (-33), 3), (66, .iconst 0, 1), (67, .ireturn, 1)]
/-- 125: ClassFrames$State.hasLone ()Z -/
def zp_m125 : zx_M := (⟨RX9, "hasLone", "()Z"⟩, prog_11_method_12_code, 2, (some .boolean), (some 7), 0, 9, zp_t125_0)
def zp_t126_0 : List (Nat × Instr × Nat) := [(0, .aload_n 0, 1), (1, .iload_n 1, 1), (2, .invokevirtual 39, 3), (5, .iconst 2, 1), (6, .if_icmp .ne 27, 3), (9, .iload_n 1, 1), (10, .iconst 1, 1), (11, .iadd, 1), (12, .iload_n 3, 1), (13, .if_icmp .ge 14, 3), (16, .aload_n 0, 1), (17, .iload_n 1, 1), (18, .iconst 1, 1), (19, .iadd, 1), (20, .invokevirtual 39, 3), (23, .iconst 3, 1), (24, .if_icmp .eq 7, 3), (27, .iconst 1, 1), (28, .goto 4, 3), (31, .iconst 0, 1), (32, .ireturn, 1), (33, .aload_n 0, 1), (34, .iload_n 1, 1), (35, .invokevirtual 39, 3), (38, .iconst 3, 1), (39, .if_icmp .ne 25, 3), (42, .iload_n 1, 1), (43, .iconst 1, 1), (44, .isub, 1), (45, .iload_n 2, 1), (46, .if_icmp .lt 14, 3), (49, .aload_n 0, 1), (50, .iload_n 1, 1), (51, .iconst 1, 1), (52, .isub, 1), (53, .invokevirtual 39, 3), (56, .iconst 2, 1), (57, .if_icmp .eq 7, 3), (60, .iconst 1, 1), (61, .goto 4, 3)]
def zp_t126_1 : List (Nat × Instr × Nat) := [(64, .iconst 0, 1), (65, .ireturn, 1)]
/-- 126: ClassFrames$State.isLone (III)Z -/
def zp_m126 : zx_M := (⟨RX9, "isLone", "(III)Z"⟩, prog_11_method_13_code, 4, (some .boolean), (some 7), 3, 9, zp_t126_0 ++ (zp_t126_1))
def zp_t127_0 : List (Nat × Instr × Nat) := [(0, .iconst 0, 1), (1, .istore_n 2, 1), (2, .iload_n 2, 1), (3, .bipush 8, 2), (5, .if_icmp .ge 27, 3), (8, .aload_n 0, 1), (9, .iload_n 2, 1), (10, .invokevirtual 39, 3), (13, .aload_n 1, 1), (14, .iload_n 2, 1), (15, .invokevirtual 39, 3), (18, .invokestatic 42, 3), (21, .ifCond .ne 5, 3), (24, .iconst 0, 1), (25, .ireturn, 1), (26, .iinc 2 1, 3), (29, .goto (-27), 3), (32, .iconst 1, 1), (33, .ireturn, 1)]
/-- 127: ClassFrames$State.localsGoAs (LClassFrames$State;)Z -/
def zp_m127 : zx_M := (⟨RX9, "localsGoAs", "(LClassFrames$State;)Z"⟩, prog_11_method_14_code, 3, (some .boolean), (some 7), 1, 9, zp_t127_0)
def zp_t128_0 : List (Nat × Instr × Nat) := [(0, .aload_n 0, 1), (1, .getfield 21, 3), (4, .aload_n 1, 1), (5, .getfield 21, 3), (8, .if_icmp .ne 11, 3), (11, .aload_n 0, 1), (12, .aload_n 1, 1), (13, .invokevirtual 48, 3), (16, .ifCond .ne 5, 3), (19, .iconst 0, 1), (20, .ireturn, 1), (21, .bipush 8, 2), (23, .istore_n 2, 1), (24, .iload_n 2, 1), (25, .bipush 8, 2), (27, .aload_n 0, 1), (28, .getfield 21, 3), (31, .iadd, 1), (32, .if_icmp .ge 27, 3), (35, .aload_n 0, 1), (36, .iload_n 2, 1), (37, .invokevirtual 39, 3), (40, .aload_n 1, 1), (41, .iload_n 2, 1), (42, .invokevirtual 39, 3), (45, .invokestatic 42, 3), (48, .ifCond .ne 5, 3), (51, .iconst 0, 1), (52, .ireturn, 1), (53, .iinc 2 1, 3), (56, .goto (-32), 3), (59, .iconst 1, 1), (60, .ireturn, 1)]
/-- 128: ClassFrames$State.allGoesAs (LClassFrames$State;)Z -/
def zp_m128 : zx_M := (⟨RX9, "allGoesAs", "(LClassFrames$State;)Z"⟩, prog_11_method_15_code, 3, (some .boolean), (some 7), 1, 9, zp_t128_0)
def zp_t129_0 : List (Nat × Instr × Nat) := [(0, .aload_n 0, 1), (1, .getfield 15, 3), (4, .iconst (-1), 1), (5, .invokestatic 18, 3), (8, .return_, 1)]
/-- 129: ClassFrames$Table.forget ()V -/
def zp_m129 : zx_M := (⟨RX10, "forget", "()V"⟩, prog_12_method_2_code, 1, none, (some 8), 0, 10, zp_t129_0)
def zp_t130_0 : List (Nat × Instr × Nat) := [(0, .iload_n 1, 1), (1, .ifCond .lt 18, 3), (4, .iload_n 1, 1), (5, .bipush 60, 2), (7, .if_icmp .ge 12, 3), (10, .aload_n 0, 1), (11, .getfield 15, 3), (14, .iload_n 1, 1), (15, .iaload, 1), (16, .goto 4, 3), (19, .iconst (-1), 1), (20, .ireturn, 1)]
/-- 130: ClassFrames$Table.depthOf (I)I -/
def zp_m130 : zx_M := (⟨RX10, "depthOf", "(I)I"⟩, prog_12_method_3_code, 2, (some .int), (some 8), 1, 10, zp_t130_0)
def zp_t131_0 : List (Nat × Instr × Nat) := [(0, .aload_n 0, 1), (1, .iload_n 1, 1), (2, .iload_n 2, 1), (3, .invokevirtual 24, 3), (6, .ifCond .eq 17, 3), (9, .aload_n 0, 1), (10, .getfield 9, 3), (13, .iload_n 1, 1), (14, .bipush 14, 2), (16, .imul, 1), (17, .iload_n 2, 1), (18, .iadd, 1), (19, .iaload, 1), (20, .goto 4, 3), (23, .iconst 0, 1), (24, .ireturn, 1)]
/-- 131: ClassFrames$Table.kindOf (II)I -/
def zp_m131 : zx_M := (⟨RX10, "kindOf", "(II)I"⟩, prog_12_method_4_code, 3, (some .int), (some 8), 2, 10, zp_t131_0)
def zp_t132_0 : List (Nat × Instr × Nat) := [(0, .aload_n 0, 1), (1, .iload_n 1, 1), (2, .iload_n 2, 1), (3, .invokevirtual 24, 3), (6, .ifCond .eq 15, 3), (9, .aload_n 0, 1), (10, .getfield 9, 3), (13, .iload_n 1, 1), (14, .bipush 14, 2), (16, .imul, 1), (17, .iload_n 2, 1), (18, .iadd, 1), (19, .iload_n 3, 1), (20, .iastore, 1), (21, .return_, 1)]
/-- 132: ClassFrames$Table.setKind (III)V -/
def zp_m132 : zx_M := (⟨RX10, "setKind", "(III)V"⟩, prog_12_method_5_code, 4, none, (some 8), 3, 10, zp_t132_0)
def zp_t133_0 : List (Nat × Instr × Nat) := [(0, .iload_n 1, 1), (1, .ifCond .lt 23, 3), (4, .iload_n 1, 1), (5, .bipush 60, 2), (7, .if_icmp .ge 17, 3), (10, .iload_n 2, 1), (11, .ifCond .lt 13, 3), (14, .iload_n 2, 1), (15, .bipush 14, 2), (17, .if_icmp .ge 7, 3), (20, .iconst 1, 1), (21, .goto 4, 3), (24, .iconst 0, 1), (25, .ireturn, 1)]
/-- 133: ClassFrames$Table.isCell (II)Z -/
def zp_m133 : zx_M := (⟨RX10, "isCell", "(II)Z"⟩, prog_12_method_6_code, 3, (some .boolean), (some 8), 2, 10, zp_t133_0)
def zp_t134_0 : List (Nat × Instr × Nat) := [(0, .iload_n 1, 1), (1, .ifCond .lt 9, 3), (4, .iload_n 1, 1), (5, .bipush 60, 2), (7, .if_icmp .lt 4, 3), (10, .return_, 1), (11, .aload_n 0, 1), (12, .getfield 15, 3), (15, .iload_n 1, 1), (16, .aload_n 2, 1), (17, .invokevirtual 28, 3), (20, .iastore, 1), (21, .iconst 0, 1), (22, .istore_n 3, 1), (23, .iload_n 3, 1), (24, .bipush 14, 2), (26, .if_icmp .ge 25, 3), (29, .aload_n 0, 1), (30, .getfield 9, 3), (33, .iload_n 1, 1), (34, .bipush 14, 2), (36, .imul, 1), (37, .iload_n 3, 1), (38, .iadd, 1), (39, .aload_n 2, 1), (40, .iload_n 3, 1), (41, .invokevirtual 34, 3), (44, .iastore, 1), (45, .iinc 3 1, 3), (48, .goto (-25), 3), (51, .return_, 1)]
/-- 134: ClassFrames$Table.write (ILClassFrames$State;)V -/
def zp_m134 : zx_M := (⟨RX10, "write", "(ILClassFrames$State;)V"⟩, prog_12_method_7_code, 4, none, (some 8), 2, 10, zp_t134_0)
def zp_t135_0 : List (Nat × Instr × Nat) := [(0, .iload_n 1, 1), (1, .ifCond .lt 9, 3), (4, .iload_n 1, 1), (5, .bipush 60, 2), (7, .if_icmp .lt 4, 3), (10, .return_, 1), (11, .aload_n 2, 1), (12, .aload_n 0, 1), (13, .getfield 15, 3), (16, .iload_n 1, 1), (17, .iaload, 1), (18, .invokevirtual 38, 3), (21, .iconst 0, 1), (22, .istore_n 3, 1), (23, .iload_n 3, 1), (24, .bipush 14, 2), (26, .if_icmp .ge 25, 3), (29, .aload_n 2, 1), (30, .iload_n 3, 1), (31, .aload_n 0, 1), (32, .getfield 9, 3), (35, .iload_n 1, 1), (36, .bipush 14, 2), (38, .imul, 1), (39, .iload_n 3, 1), (40, .iadd, 1), (41, .iaload, 1), (42, .invokevirtual 42, 3), (45, .iinc 3 1, 3), (48, .goto (-25), 3), (51, .return_, 1)]
/-- 135: ClassFrames$Table.read (ILClassFrames$State;)V -/
def zp_m135 : zx_M := (⟨RX10, "read", "(ILClassFrames$State;)V"⟩, prog_12_method_8_code, 4, none, (some 8), 2, 10, zp_t135_0)
def zp_t136_0 : List (Nat × Instr × Nat) := [(0, .iload_n 1, 1), (1, .iconst 1, 1), (2, .if_icmp .eq 22, 3), (5, .iload_n 1, 1), (6, .iconst 2, 1), (7, .if_icmp .eq 17, 3), (10, .iload_n 1, 1), (11, .iconst 5, 1), (12, .if_icmp .lt 9, 3), (15, .iload_n 1, 1), (16, .bipush 8, 2), (18, .if_icmp .le 6, 3), (21, .bipush (-2), 2), (23, .ireturn, 1), (24, .aload_n 0, 1), (25, .getfield 12, 3), (28, .iload_n 1, 1), (29, .invokevirtual 57, 3), (32, .istore_n 2, 1), (33, .iload_n 2, 1), (34, .bipush (-4), 2), (36, .if_icmp .eq 10, 3), (39, .aload_n 0, 1), (40, .getfield 28, 3), (43, .invokevirtual 61, 3), (46, .iload_n 2, 1), (47, .ireturn, 1)]
/-- 136: ClassFrames.parameter (I)I -/
def zp_m136 : zx_M := (⟨RX11, "parameter", "(I)I"⟩, prog_1_method_2_code, 3, (some .int), (some 9), 1, 11, zp_t136_0)
def zp_t137_0 : List (Nat × Instr × Nat) := [(0, .iload_n 1, 1), (1, .ifCond .lt 26, 3), (4, .iload_n 1, 1), (5, .bipush 28, 2), (7, .if_icmp .gt 20, 3), (10, .iload_n 1, 1), (11, .bipush 21, 2), (13, .if_icmp .ne 17, 3), (16, .iload_n 2, 1), (17, .iconst 5, 1), (18, .if_icmp .lt 9, 3), (21, .iload_n 2, 1), (22, .bipush 8, 2), (24, .if_icmp .le 6, 3), (27, .bipush (-2), 2), (29, .ireturn, 1), (30, .aload_n 0, 1), (31, .getfield 12, 3), (34, .iload_n 1, 1), (35, .iload_n 2, 1), (36, .iload_n 3, 1), (37, .invokevirtual 64, 3), (40, .istore 4, 2), (42, .iload 4, 2), (44, .bipush (-4), 2), (46, .if_icmp .eq 10, 3), (49, .aload_n 0, 1), (50, .getfield 28, 3), (53, .invokevirtual 61, 3), (56, .iload 4, 2), (58, .ireturn, 1)]
/-- 137: ClassFrames.operation (III)I -/
def zp_m137 : zx_M := (⟨RX11, "operation", "(III)I"⟩, prog_1_method_3_code, 5, (some .int), (some 9), 3, 11, zp_t137_0)
def zp_t138_0 : List (Nat × Instr × Nat) := [(0, .iload_n 1, 1), (1, .invokestatic 68, 3), (4, .ifCond .eq 31, 3), (7, .iload_n 2, 1), (8, .invokestatic 68, 3), (11, .ifCond .eq 24, 3), (14, .iload_n 3, 1), (15, .invokestatic 68, 3), (18, .ifCond .eq 17, 3), (21, .iload 4, 2), (23, .bipush 7, 2), (25, .if_icmp .eq 13, 3), (28, .iload 4, 2), (30, .bipush 8, 2), (32, .if_icmp .eq 6, 3), (35, .bipush (-2), 2), (37, .ireturn, 1), (38, .aload_n 0, 1), (39, .getfield 12, 3), (42, .iload_n 1, 1), (43, .iload_n 2, 1), (44, .iload_n 3, 1), (45, .iload 4, 2), (47, .invokevirtual 72, 3), (50, .istore 5, 2), (52, .iload 5, 2), (54, .bipush (-4), 2), (56, .if_icmp .eq 10, 3), (59, .aload_n 0, 1), (60, .getfield 28, 3), (63, .invokevirtual 61, 3), (66, .iload 5, 2), (68, .ireturn, 1)]
/-- 138: ClassFrames.handler (IIII)I -/
def zp_m138 : zx_M := (⟨RX11, "handler", "(IIII)I"⟩, prog_1_method_4_code, 6, (some .int), (some 9), 4, 11, zp_t138_0)
def zp_t139_0 : List (Nat × Instr × Nat) := [(0, .aload_n 0, 1), (1, .aload_n 0, 1), (2, .getfield 28, 3), (5, .invokevirtual 76, 3), (8, .putfield 80, 3), (11, .aload_n 0, 1), (12, .getfield 80, 3), (15, .ifCond .ne 13, 3), (18, .aload_n 0, 1), (19, .getfield 19, 3), (22, .invokevirtual 84, 3), (25, .goto 13, 3), (28, .aload_n 0, 1), (29, .getfield 28, 3), (32, .invokevirtual 87, 3), (35, .invokestatic 90, 3), (38, .ireturn, 1)]
/-- 139: ClassFrames.make ()I -/
def zp_m139 : zx_M := (⟨RX11, "make", "()I"⟩, prog_1_method_5_code, 1, (some .int), (some 9), 0, 11, zp_t139_0)
def zp_t140_0 : List (Nat × Instr × Nat) := [(0, .aload_n 0, 1), (1, .getfield 80, 3), (4, .ireturn, 1)]
/-- 140: ClassFrames.fault ()I -/
def zp_m140 : zx_M := (⟨RX11, "fault", "()I"⟩, prog_1_method_6_code, 1, (some .int), (some 9), 0, 11, zp_t140_0)
def zp_t141_0 : List (Nat × Instr × Nat) := [(0, .aload_n 0, 1), (1, .getfield 12, 3), (4, .iload_n 1, 1), (5, .invokevirtual 93, 3), (8, .ifCond .ne 6, 3), (11, .bipush (-2), 2), (13, .ireturn, 1), (14, .aload_n 0, 1), (15, .getfield 28, 3), (18, .invokevirtual 96, 3), (21, .ifCond .ne 6, 3), (24, .bipush (-3), 2), (26, .ireturn, 1), (27, .iload_n 2, 1), (28, .ifCond .lt 30, 3), (31, .iload_n 2, 1), (32, .bipush 8, 2), (34, .aload_n 0, 1), (35, .getfield 28, 3), (38, .iload_n 1, 1), (39, .invokevirtual 100, 3), (42, .iadd, 1), (43, .if_icmp .ge 15, 3), (46, .aload_n 0, 1), (47, .getfield 28, 3), (50, .iload_n 1, 1), (51, .iload_n 2, 1), (52, .invokevirtual 103, 3), (55, .goto 4, 3), (58, .iconst (-1), 1), (59, .ireturn, 1)]
/-- 141: ClassFrames.kind (II)I -/
def zp_m141 : zx_M := (⟨RX11, "kind", "(II)I"⟩, prog_1_method_7_code, 3, (some .int), (some 9), 2, 11, zp_t141_0)
def zp_t142_0 : List (Nat × Instr × Nat) := [(0, .aload_n 0, 1), (1, .getfield 12, 3), (4, .iload_n 1, 1), (5, .invokevirtual 93, 3), (8, .ifCond .ne 6, 3), (11, .bipush (-2), 2), (13, .ireturn, 1), (14, .aload_n 0, 1), (15, .getfield 28, 3), (18, .invokevirtual 96, 3), (21, .ifCond .eq 14, 3), (24, .aload_n 0, 1), (25, .getfield 28, 3), (28, .iload_n 1, 1), (29, .invokevirtual 100, 3), (32, .goto 5, 3), (35, .bipush (-3), 2), (37, .ireturn, 1)]
/-- 142: ClassFrames.size (I)I -/
def zp_m142 : zx_M := (⟨RX11, "size", "(I)I"⟩, prog_1_method_8_code, 2, (some .int), (some 9), 1, 11, zp_t142_0)
def zp_t143_0 : List (Nat × Instr × Nat) := [(0, .iload_n 1, 1), (1, .ifCond .lt 7, 3), (4, .iload_n 2, 1), (5, .ifCond .ge 6, 3), (8, .bipush (-2), 2), (10, .ireturn, 1), (11, .aload_n 0, 1), (12, .getfield 28, 3), (15, .invokevirtual 96, 3), (18, .ifCond .ne 6, 3), (21, .bipush (-3), 2), (23, .ireturn, 1), (24, .aload_n 0, 1), (25, .getfield 19, 3), (28, .iload_n 1, 1), (29, .iload_n 2, 1), (30, .invokevirtual 107, 3), (33, .ireturn, 1)]
/-- 143: ClassFrames.frame (II)I -/
def zp_m143 : zx_M := (⟨RX11, "frame", "(II)I"⟩, prog_1_method_9_code, 3, (some .int), (some 9), 2, 11, zp_t143_0)
def zp_t144_0 : List (Nat × Instr × Nat) := [(0, .iload_n 1, 1), (1, .ifCond .lt 17, 3), (4, .iload_n 2, 1), (5, .ifCond .lt 13, 3), (8, .iload_n 3, 1), (9, .ifCond .lt 9, 3), (12, .iload_n 3, 1), (13, .bipush 8, 2), (15, .if_icmp .le 6, 3), (18, .bipush (-2), 2), (20, .ireturn, 1), (21, .aload_n 0, 1), (22, .getfield 28, 3), (25, .invokevirtual 96, 3), (28, .ifCond .ne 6, 3), (31, .bipush (-3), 2), (33, .ireturn, 1), (34, .aload_n 0, 1), (35, .getfield 19, 3), (38, .iload_n 1, 1), (39, .iload_n 2, 1), (40, .iload_n 3, 1), (41, .invokevirtual 110, 3), (44, .ireturn, 1)]
/-- 144: ClassFrames.plant (III)I -/
def zp_m144 : zx_M := (⟨RX11, "plant", "(III)I"⟩, prog_1_method_10_code, 4, (some .int), (some 9), 3, 11, zp_t144_0)
def zp_t145_0 : List (Nat × Instr × Nat) := [(0, .aload_n 0, 1), (1, .getfield 28, 3), (4, .invokevirtual 96, 3), (7, .ifCond .ne 6, 3), (10, .bipush (-3), 2), (12, .ireturn, 1), (13, .aload_n 0, 1), (14, .getfield 37, 3), (17, .invokevirtual 113, 3), (20, .istore_n 1, 1), (21, .iload_n 1, 1), (22, .iconst (-1), 1), (23, .if_icmp .ne 7, 3), (26, .iconst 1, 1), (27, .goto 7, 3), (30, .iload_n 1, 1), (31, .invokestatic 90, 3), (34, .ireturn, 1)]
/-- 145: ClassFrames.judge ()I -/
def zp_m145 : zx_M := (⟨RX11, "judge", "()I"⟩, prog_1_method_11_code, 2, (some .int), (some 9), 0, 11, zp_t145_0)
def zp_t146_0 : List (Nat × Instr × Nat) := [(0, .aload_n 0, 1), (1, .getfield 28, 3), (4, .invokevirtual 96, 3), (7, .ifCond .eq 13, 3), (10, .aload_n 0, 1), (11, .getfield 44, 3), (14, .invokevirtual 116, 3), (17, .goto 5, 3), (20, .bipush (-3), 2), (22, .ireturn, 1)]
/-- 146: ClassFrames.packed ()I -/
def zp_m146 : zx_M := (⟨RX11, "packed", "()I"⟩, prog_1_method_12_code, 1, (some .int), (some 9), 0, 11, zp_t146_0)
def zp_t147_0 : List (Nat × Instr × Nat) := [(0, .iload_n 1, 1), (1, .ifCond .lt 14, 3), (4, .iload_n 1, 1), (5, .aload_n 0, 1), (6, .getfield 44, 3), (9, .invokevirtual 119, 3), (12, .if_icmp .lt 13, 3), (15, .new 120, 3), (18, .dup, 1), (19, .ldc 122, 2), (21, .invokespecial 124, 3), (24, .athrow, 1), (25, .aload_n 0, 1), (26, .getfield 44, 3), (29, .iload_n 1, 1), (30, .invokevirtual 127, 3), (33, .ireturn, 1)]
/-- 147: ClassFrames.out (I)I -/
def zp_m147 : zx_M := (⟨RX11, "out", "(I)I"⟩, prog_1_method_13_code, 2, (some .int), (some 9), 1, 11, zp_t147_0)
def zp_t148_0 : List (Nat × Instr × Nat) := [(0, .aload_n 0, 1), (1, .getfield 53, 3), (4, .iload_n 1, 1), (5, .lload_n 2, 1), (6, .invokevirtual 130, 3), (9, .lreturn, 1)]
/-- 148: ClassFrames.argument (IJ)J -/
def zp_m148 : zx_M := (⟨RX11, "argument", "(IJ)J"⟩, prog_1_method_14_code, 4, (some .long), (some 9), 2, 11, zp_t148_0)
def zp_t149_0 : List (Nat × Instr × Nat) := [(0, .iload_n 1, 1), (1, .ifCond .lt 10, 3), (4, .iload_n 1, 1), (5, .sipush 300, 3), (8, .if_icmp .le 6, 3), (11, .bipush (-2), 2), (13, .ireturn, 1), (14, .aload_n 0, 1), (15, .getfield 53, 3), (18, .invokevirtual 134, 3), (21, .ifCond .eq 6, 3), (24, .bipush (-4), 2), (26, .ireturn, 1), (27, .aload_n 0, 1), (28, .getfield 53, 3), (31, .iload_n 1, 1), (32, .invokevirtual 137, 3), (35, .aload_n 0, 1), (36, .aload_n 0, 1), (37, .getfield 53, 3), (40, .invokevirtual 141, 3), (43, .putfield 80, 3), (46, .aload_n 0, 1), (47, .getfield 80, 3), (50, .ifCond .ne 13, 3), (53, .aload_n 0, 1), (54, .getfield 53, 3), (57, .invokevirtual 144, 3), (60, .goto 13, 3), (63, .aload_n 0, 1), (64, .getfield 53, 3), (67, .invokevirtual 147, 3), (70, .invokestatic 90, 3), (73, .ireturn, 1)]
/-- 149: ClassFrames.run (I)I -/
def zp_m149 : zx_M := (⟨RX11, "run", "(I)I"⟩, prog_1_method_15_code, 2, (some .int), (some 9), 1, 11, zp_t149_0)
def zp_t150_0 : List (Nat × Instr × Nat) := [(0, .aload_n 0, 1), (1, .getfield 53, 3), (4, .iload_n 1, 1), (5, .invokevirtual 150, 3), (8, .lreturn, 1)]
/-- 150: ClassFrames.told (I)J -/
def zp_m150 : zx_M := (⟨RX11, "told", "(I)J"⟩, prog_1_method_16_code, 2, (some .long), (some 9), 1, 11, zp_t150_0)
def zp_t151_0 : List (Nat × Instr × Nat) := [(0, .iload_n 1, 1), (1, .tableswitch 115 0 5 #[39, 47, 55, 63, 85, 107], 39), (40, .aload_n 0, 1), (41, .getfield 12, 3), (44, .invokevirtual 153, 3), (47, .ireturn, 1), (48, .aload_n 0, 1), (49, .getfield 12, 3), (52, .invokevirtual 156, 3), (55, .ireturn, 1), (56, .aload_n 0, 1), (57, .getfield 12, 3), (60, .invokevirtual 159, 3), (63, .ireturn, 1), (64, .aload_n 0, 1), (65, .getfield 28, 3), (68, .invokevirtual 96, 3), (71, .ifCond .eq 13, 3), (74, .aload_n 0, 1), (75, .getfield 19, 3), (78, .invokevirtual 84, 3), (81, .goto 4, 3), (84, .iconst 0, 1), (85, .ireturn, 1), (86, .aload_n 0, 1), (87, .getfield 28, 3), (90, .invokevirtual 96, 3), (93, .ifCond .eq 13, 3), (96, .aload_n 0, 1), (97, .getfield 28, 3), (100, .invokevirtual 162, 3), (103, .goto 4, 3), (106, .iconst 0, 1), (107, .ireturn, 1), (108, .aload_n 0, 1), (109, .getfield 28, 3), (112, .invokevirtual 165, 3), (115, .ireturn, 1), (116, .bipush (-2), 2), (118, .ireturn, 1)]
/-- 151: ClassFrames.count (I)I -/
def zp_m151 : zx_M := (⟨RX11, "count", "(I)I"⟩, prog_1_method_17_code, 2, (some .int), (some 9), 1, 11, zp_t151_0)
def zp_t152_0 : List (Nat × Instr × Nat) := [(0, .aload_n 0, 1), (1, .getfield 12, 3), (4, .invokevirtual 153, 3), (7, .istore_n 1, 1), (8, .aload_n 0, 1), (9, .getfield 12, 3), (12, .invokevirtual 168, 3), (15, .aload_n 0, 1), (16, .getfield 28, 3), (19, .invokevirtual 61, 3), (22, .iload_n 1, 1), (23, .ireturn, 1)]
/-- 152: ClassFrames.clear ()I -/
def zp_m152 : zx_M := (⟨RX11, "clear", "()I"⟩, prog_1_method_18_code, 2, (some .int), (some 9), 0, 11, zp_t152_0)
def zp_t153_0 : List (Nat × Instr × Nat) := [(0, .iload_n 0, 1), (1, .ifCond .lt 13, 3), (4, .iload_n 0, 1), (5, .bipush 60, 2), (7, .if_icmp .gt 7, 3), (10, .iconst 1, 1), (11, .goto 4, 3), (14, .iconst 0, 1), (15, .ireturn, 1)]
/-- 153: ClassFrames.isBound (I)Z -/
def zp_m153 : zx_M := (⟨RX11, "isBound", "(I)Z"⟩, prog_1_method_19_code, 1, (some .boolean), none, 1, 11, zp_t153_0)
def zp_t154_0 : List (Nat × Instr × Nat) := [(0, .bipush (-10), 2), (2, .iload_n 0, 1), (3, .isub, 1), (4, .ireturn, 1)]
/-- 154: ClassFrames.refusedAt (I)I -/
def zp_m154 : zx_M := (⟨RX11, "refusedAt", "(I)I"⟩, prog_1_method_20_code, 1, (some .int), none, 1, 11, zp_t154_0)
def zp_t155_0 : List (Nat × Instr × Nat) := [(0, .iload_n 0, 1), (1, .iload_n 1, 1), (2, .if_icmp .lt 12, 3), (5, .iload_n 0, 1), (6, .iload_n 2, 1), (7, .if_icmp .gt 7, 3), (10, .iconst 1, 1), (11, .goto 4, 3), (14, .iconst 0, 1), (15, .ireturn, 1)]
/-- 155: ClassFramesModel.in (III)Z -/
def zp_m155 : zx_M := (⟨RX12, "in", "(III)Z"⟩, prog_14_method_3_code, 3, (some .boolean), none, 3, 12, zp_t155_0)
def zp_t156_0 : List (Nat × Instr × Nat) := [(0, .iload_n 0, 1), (1, .iload_n 1, 1), (2, .if_icmp .eq 51, 3), (5, .iload_n 1, 1), (6, .ifCond .eq 47, 3), (9, .iload_n 0, 1), (10, .iconst 4, 1), (11, .if_icmp .ne 8, 3), (14, .iload_n 1, 1), (15, .iconst 5, 1), (16, .if_icmp .ge 37, 3), (19, .iload_n 0, 1), (20, .bipush 6, 2), (22, .if_icmp .eq 9, 3), (25, .iload_n 0, 1), (26, .bipush 7, 2), (28, .if_icmp .ne 8, 3), (31, .iload_n 1, 1), (32, .iconst 5, 1), (33, .if_icmp .eq 20, 3), (36, .iload_n 0, 1), (37, .bipush 8, 2), (39, .if_icmp .ne 18, 3), (42, .iload_n 1, 1), (43, .bipush 7, 2), (45, .if_icmp .eq 8, 3), (48, .iload_n 1, 1), (49, .iconst 5, 1), (50, .if_icmp .ne 7, 3), (53, .iconst 1, 1), (54, .goto 4, 3), (57, .iconst 0, 1), (58, .ireturn, 1)]
/-- 156: ClassFramesModel.goesAs (II)Z -/
def zp_m156 : zx_M := (⟨RX12, "goesAs", "(II)Z"⟩, prog_14_method_4_code, 2, (some .boolean), none, 2, 12, zp_t156_0)
def zp_t157_0 : List (Nat × Instr × Nat) := [(0, .iload_n 0, 1), (1, .iload_n 1, 1), (2, .invokestatic 103, 3), (5, .ifCond .eq 5, 3), (8, .iload_n 1, 1), (9, .ireturn, 1), (10, .iload_n 1, 1), (11, .iload_n 0, 1), (12, .invokestatic 103, 3), (15, .ifCond .eq 5, 3), (18, .iload_n 0, 1), (19, .ireturn, 1), (20, .iload_n 0, 1), (21, .iconst 5, 1), (22, .if_icmp .lt 12, 3), (25, .iload_n 1, 1), (26, .iconst 5, 1), (27, .if_icmp .lt 7, 3), (30, .iconst 5, 1), (31, .goto 4, 3), (34, .iconst 0, 1), (35, .ireturn, 1)]
/-- 157: ClassFramesModel.joined (II)I -/
def zp_m157 : zx_M := (⟨RX12, "joined", "(II)I"⟩, prog_14_method_5_code, 2, (some .int), none, 2, 12, zp_t157_0)
def zp_t158_0 : List (Nat × Instr × Nat) := [(0, .iload_n 1, 1), (1, .istore_n 3, 1), (2, .iload_n 3, 1), (3, .iload_n 1, 1), (4, .iload_n 2, 1), (5, .iadd, 1), (6, .if_icmp .ge 64, 3), (9, .aload_n 0, 1), (10, .iload_n 3, 1), (11, .iaload, 1), (12, .iconst 2, 1), (13, .if_icmp .ne 27, 3), (16, .iload_n 3, 1), (17, .iconst 1, 1), (18, .iadd, 1), (19, .iload_n 1, 1), (20, .iload_n 2, 1), (21, .iadd, 1), (22, .if_icmp .ge 18, 3), (25, .aload_n 0, 1), (26, .iload_n 3, 1), (27, .iconst 1, 1), (28, .iadd, 1), (29, .iaload, 1), (30, .iconst 3, 1), (31, .if_icmp .ne 9, 3), (34, .iinc 3 2, 3), (37, .goto (-35), 3), (40, .aload_n 0, 1), (41, .iload_n 3, 1), (42, .aload_n 0, 1), (43, .iload_n 3, 1), (44, .iaload, 1), (45, .iconst 2, 1), (46, .if_icmp .eq 10, 3), (49, .aload_n 0, 1), (50, .iload_n 3, 1), (51, .iaload, 1), (52, .iconst 3, 1), (53, .if_icmp .ne 7, 3)]
def zp_t158_1 : List (Nat × Instr × Nat) := [(56, .iconst 0, 1), (57, .goto 6, 3), (60, .aload_n 0, 1), (61, .iload_n 3, 1), (62, .iaload, 1), (63, .iastore, 1), (64, .iinc 3 1, 3), (67, .goto (-65), 3), (70, .return_, 1)]
/-- 158: ClassFramesModel.whole ([III)V -/
def zp_m158 : zx_M := (⟨RX12, "whole", "([III)V"⟩, prog_14_method_6_code, 4, none, none, 3, 12, zp_t158_0 ++ (zp_t158_1))
def zp_t159_0 : List (Nat × Instr × Nat) := [(0, .aload_n 0, 1), (1, .aload_n 0, 1), (2, .getfield 107, 3), (5, .ifCond .ne 7, 3), (8, .iload_n 1, 1), (9, .goto 7, 3), (12, .aload_n 0, 1), (13, .getfield 107, 3), (16, .putfield 107, 3), (19, .return_, 1)]
/-- 159: ClassFramesModel.fails (I)V -/
def zp_m159 : zx_M := (⟨RX12, "fails", "(I)V"⟩, prog_14_method_7_code, 2, none, (some 10), 1, 12, zp_t159_0)
def zp_t160_0 : List (Nat × Instr × Nat) := [(0, .aload_n 0, 1), (1, .getfield 60, 3), (4, .bipush 8, 2), (6, .aload_n 0, 1), (7, .getfield 110, 3), (10, .iadd, 1), (11, .iconst 1, 1), (12, .isub, 1), (13, .iaload, 1), (14, .ireturn, 1)]
/-- 160: ClassFramesModel.top ()I -/
def zp_m160 : zx_M := (⟨RX12, "top", "()I"⟩, prog_14_method_8_code, 1, (some .int), (some 10), 0, 12, zp_t160_0)
def zp_t161_0 : List (Nat × Instr × Nat) := [(0, .iload_n 1, 1), (1, .tableswitch 89 1 6 #[39, 50, 89, 89, 61, 72], 39), (40, .iload_n 0, 1), (41, .iconst 1, 1), (42, .if_icmp .ne 7, 3), (45, .iconst 1, 1), (46, .goto 4, 3), (49, .iconst 0, 1), (50, .ireturn, 1), (51, .iload_n 0, 1), (52, .iconst 3, 1), (53, .if_icmp .ne 7, 3), (56, .iconst 1, 1), (57, .goto 4, 3), (60, .iconst 0, 1), (61, .ireturn, 1), (62, .iload_n 0, 1), (63, .iconst 4, 1), (64, .if_icmp .lt 7, 3), (67, .iconst 1, 1), (68, .goto 4, 3), (71, .iconst 0, 1), (72, .ireturn, 1), (73, .iload_n 0, 1), (74, .bipush 6, 2), (76, .if_icmp .eq 8, 3), (79, .iload_n 0, 1), (80, .iconst 4, 1), (81, .if_icmp .ne 7, 3), (84, .iconst 1, 1), (85, .goto 4, 3), (88, .iconst 0, 1), (89, .ireturn, 1), (90, .iload_n 0, 1), (91, .bipush 7, 2), (93, .if_icmp .eq 14, 3), (96, .iload_n 0, 1), (97, .bipush 8, 2), (99, .if_icmp .eq 8, 3), (102, .iload_n 0, 1)]
def zp_t161_1 : List (Nat × Instr × Nat) := [(103, .iconst 4, 1), (104, .if_icmp .ne 7, 3), (107, .iconst 1, 1), (108, .goto 4, 3), (111, .iconst 0, 1), (112, .ireturn, 1)]
/-- 161: ClassFramesModel.fits (II)Z -/
def zp_m161 : zx_M := (⟨RX12, "fits", "(II)Z"⟩, prog_14_method_9_code, 2, (some .boolean), none, 2, 12, zp_t161_0 ++ (zp_t161_1))
def zp_t162_0 : List (Nat × Instr × Nat) := [(0, .aload_n 0, 1), (1, .getfield 107, 3), (4, .ifCond .eq 4, 3), (7, .return_, 1), (8, .aload_n 0, 1), (9, .getfield 110, 3), (12, .ifCond .ne 11, 3), (15, .aload_n 0, 1), (16, .iconst 2, 1), (17, .invokevirtual 113, 3), (20, .goto 41, 3), (23, .aload_n 0, 1), (24, .invokevirtual 117, 3), (27, .iload_n 1, 1), (28, .invokestatic 121, 3), (31, .ifCond .ne 11, 3), (34, .aload_n 0, 1), (35, .iconst 1, 1), (36, .invokevirtual 113, 3), (39, .goto 22, 3), (42, .aload_n 0, 1), (43, .dup, 1), (44, .getfield 110, 3), (47, .iload_n 1, 1), (48, .iconst 2, 1), (49, .if_icmp .ne 7, 3), (52, .iconst 2, 1), (53, .goto 4, 3), (56, .iconst 1, 1), (57, .isub, 1), (58, .putfield 110, 3), (61, .return_, 1)]
/-- 162: ClassFramesModel.need (I)V -/
def zp_m162 : zx_M := (⟨RX12, "need", "(I)V"⟩, prog_14_method_10_code, 2, none, (some 10), 1, 12, zp_t162_0)
def zp_t163_0 : List (Nat × Instr × Nat) := [(0, .aload_n 0, 1), (1, .getfield 107, 3), (4, .ifCond .eq 4, 3), (7, .return_, 1), (8, .iload_n 1, 1), (9, .iconst 2, 1), (10, .if_icmp .ne 7, 3), (13, .iconst 2, 1), (14, .goto 4, 3), (17, .iconst 1, 1), (18, .istore_n 2, 1), (19, .aload_n 0, 1), (20, .getfield 110, 3), (23, .iload_n 2, 1), (24, .iadd, 1), (25, .bipush 6, 2), (27, .if_icmp .le 9, 3), (30, .aload_n 0, 1), (31, .iconst 3, 1), (32, .invokevirtual 113, 3), (35, .return_, 1), (36, .aload_n 0, 1), (37, .getfield 60, 3), (40, .bipush 8, 2), (42, .aload_n 0, 1), (43, .getfield 110, 3), (46, .iadd, 1), (47, .iload_n 1, 1), (48, .iastore, 1), (49, .iload_n 1, 1), (50, .iconst 2, 1), (51, .if_icmp .ne 18, 3), (54, .aload_n 0, 1), (55, .getfield 60, 3), (58, .bipush 8, 2), (60, .aload_n 0, 1), (61, .getfield 110, 3), (64, .iadd, 1), (65, .iconst 1, 1), (66, .iadd, 1)]
def zp_t163_1 : List (Nat × Instr × Nat) := [(67, .iconst 3, 1), (68, .iastore, 1), (69, .aload_n 0, 1), (70, .dup, 1), (71, .getfield 110, 3), (74, .iload_n 2, 1), (75, .iadd, 1), (76, .putfield 110, 3), (79, .return_, 1)]
/-- 163: ClassFramesModel.push (I)V -/
def zp_m163 : zx_M := (⟨RX12, "push", "(I)V"⟩, prog_14_method_11_code, 3, none, (some 10), 1, 12, zp_t163_0 ++ (zp_t163_1))
def zp_t164_0 : List (Nat × Instr × Nat) := [(0, .aload_n 0, 1), (1, .getfield 110, 3), (4, .ifCond .ne 11, 3), (7, .aload_n 0, 1), (8, .iconst 2, 1), (9, .invokevirtual 113, 3), (12, .goto 55, 3), (15, .aload_n 0, 1), (16, .invokevirtual 117, 3), (19, .iconst 3, 1), (20, .if_icmp .ne 28, 3), (23, .iload_n 1, 1), (24, .ifCond .eq 16, 3), (27, .aload_n 0, 1), (28, .dup, 1), (29, .getfield 110, 3), (32, .iconst 2, 1), (33, .isub, 1), (34, .putfield 110, 3), (37, .goto 30, 3), (40, .aload_n 0, 1), (41, .iconst 1, 1), (42, .invokevirtual 113, 3), (45, .goto 22, 3), (48, .aload_n 0, 1), (49, .dup, 1), (50, .getfield 110, 3), (53, .iconst 1, 1), (54, .isub, 1), (55, .putfield 110, 3), (58, .iload_n 1, 1), (59, .ifCond .eq 8, 3), (62, .aload_n 0, 1), (63, .iconst 0, 1), (64, .invokevirtual 124, 3), (67, .return_, 1)]
/-- 164: ClassFramesModel.pop (Z)V -/
def zp_m164 : zx_M := (⟨RX12, "pop", "(Z)V"⟩, prog_14_method_12_code, 2, none, (some 10), 1, 12, zp_t164_0)
def zp_t165_0 : List (Nat × Instr × Nat) := [(0, .iload_n 1, 1), (1, .iconst 0, 1), (2, .bipush 7, 2), (4, .invokestatic 128, 3), (7, .ifCond .ne 11, 3), (10, .aload_n 0, 1), (11, .iconst 4, 1), (12, .invokevirtual 113, 3), (15, .goto 40, 3), (18, .aload_n 0, 1), (19, .getfield 60, 3), (22, .iload_n 1, 1), (23, .iaload, 1), (24, .ifCond .eq 13, 3), (27, .aload_n 0, 1), (28, .getfield 60, 3), (31, .iload_n 1, 1), (32, .iaload, 1), (33, .iconst 3, 1), (34, .if_icmp .ne 11, 3), (37, .aload_n 0, 1), (38, .iconst 1, 1), (39, .invokevirtual 113, 3), (42, .goto 13, 3), (45, .aload_n 0, 1), (46, .aload_n 0, 1), (47, .getfield 60, 3), (50, .iload_n 1, 1), (51, .iaload, 1), (52, .invokevirtual 132, 3), (55, .return_, 1)]
/-- 165: ClassFramesModel.load (I)V -/
def zp_m165 : zx_M := (⟨RX12, "load", "(I)V"⟩, prog_14_method_13_code, 2, none, (some 10), 1, 12, zp_t165_0)
def zp_t166_0 : List (Nat × Instr × Nat) := [(0, .aload_n 0, 1), (1, .getfield 110, 3), (4, .ifCond .ne 9, 3), (7, .aload_n 0, 1), (8, .iconst 2, 1), (9, .invokevirtual 113, 3), (12, .return_, 1), (13, .aload_n 0, 1), (14, .invokevirtual 117, 3), (17, .istore_n 2, 1), (18, .iload_n 2, 1), (19, .ifCond .ne 9, 3), (22, .aload_n 0, 1), (23, .iconst 1, 1), (24, .invokevirtual 113, 3), (27, .return_, 1), (28, .aload_n 0, 1), (29, .dup, 1), (30, .getfield 110, 3), (33, .iload_n 2, 1), (34, .iconst 3, 1), (35, .if_icmp .ne 7, 3), (38, .iconst 2, 1), (39, .goto 4, 3), (42, .iconst 1, 1), (43, .isub, 1), (44, .putfield 110, 3), (47, .iload_n 1, 1), (48, .iconst 0, 1), (49, .iload_n 2, 1), (50, .iconst 3, 1), (51, .if_icmp .ne 8, 3), (54, .bipush 6, 2), (56, .goto 5, 3), (59, .bipush 7, 2), (61, .invokestatic 128, 3), (64, .ifCond .ne 9, 3), (67, .aload_n 0, 1), (68, .iconst 4, 1), (69, .invokevirtual 113, 3)]
def zp_t166_1 : List (Nat × Instr × Nat) := [(72, .return_, 1), (73, .aload_n 0, 1), (74, .getfield 60, 3), (77, .iload_n 1, 1), (78, .iload_n 2, 1), (79, .iconst 3, 1), (80, .if_icmp .ne 7, 3), (83, .iconst 2, 1), (84, .goto 4, 3), (87, .iload_n 2, 1), (88, .iastore, 1), (89, .iload_n 2, 1), (90, .iconst 3, 1), (91, .if_icmp .ne 12, 3), (94, .aload_n 0, 1), (95, .getfield 60, 3), (98, .iload_n 1, 1), (99, .iconst 1, 1), (100, .iadd, 1), (101, .iconst 3, 1), (102, .iastore, 1), (103, .aload_n 0, 1), (104, .getfield 60, 3), (107, .iconst 0, 1), (108, .bipush 8, 2), (110, .invokestatic 135, 3), (113, .return_, 1)]
/-- 166: ClassFramesModel.store (I)V -/
def zp_m166 : zx_M := (⟨RX12, "store", "(I)V"⟩, prog_14_method_14_code, 3, none, (some 10), 1, 12, zp_t166_0 ++ (zp_t166_1))
def zp_t167_0 : List (Nat × Instr × Nat) := [(0, .aload_n 0, 1), (1, .iconst 0, 1), (2, .putfield 107, 3), (5, .aload_n 0, 1), (6, .getfield 13, 3), (9, .iload_n 1, 1), (10, .iaload, 1), (11, .istore_n 2, 1), (12, .aload_n 0, 1), (13, .getfield 7, 3), (16, .iload_n 1, 1), (17, .iaload, 1), (18, .tableswitch 424 1 28 #[126, 134, 142, 150, 158, 167, 176, 190, 198, 206, 214, 222, 222, 240, 258, 271, 284, 303, 322, 336, 350, 363, 424, 424, 372, 380, 372, 388], 126), (144, .aload_n 0, 1), (145, .iconst 1, 1), (146, .invokevirtual 132, 3), (149, .goto 293, 3), (152, .aload_n 0, 1), (153, .iconst 2, 1), (154, .invokevirtual 132, 3), (157, .goto 285, 3), (160, .aload_n 0, 1), (161, .iconst 4, 1), (162, .invokevirtual 132, 3), (165, .goto 277, 3), (168, .aload_n 0, 1), (169, .iconst 5, 1), (170, .invokevirtual 132, 3), (173, .goto 269, 3), (176, .aload_n 0, 1), (177, .bipush 7, 2), (179, .invokevirtual 132, 3), (182, .goto 260, 3), (185, .aload_n 0, 1), (186, .bipush 8, 2), (188, .invokevirtual 132, 3), (191, .goto 251, 3), (194, .aload_n 0, 1), (195, .iconst 1, 1), (196, .invokevirtual 139, 3)]
def zp_t167_1 : List (Nat × Instr × Nat) := [(199, .aload_n 0, 1), (200, .bipush 6, 2), (202, .invokevirtual 132, 3), (205, .goto 237, 3), (208, .aload_n 0, 1), (209, .iload_n 2, 1), (210, .invokevirtual 142, 3), (213, .goto 229, 3), (216, .aload_n 0, 1), (217, .iload_n 2, 1), (218, .invokevirtual 145, 3), (221, .goto 221, 3), (224, .aload_n 0, 1), (225, .iconst 0, 1), (226, .invokevirtual 124, 3), (229, .goto 213, 3), (232, .aload_n 0, 1), (233, .iconst 1, 1), (234, .invokevirtual 124, 3), (237, .goto 205, 3), (240, .aload_n 0, 1), (241, .iconst 1, 1), (242, .invokevirtual 139, 3), (245, .aload_n 0, 1), (246, .iconst 1, 1), (247, .invokevirtual 139, 3), (250, .aload_n 0, 1), (251, .iconst 1, 1), (252, .invokevirtual 132, 3), (255, .goto 187, 3), (258, .aload_n 0, 1), (259, .iconst 2, 1), (260, .invokevirtual 139, 3), (263, .aload_n 0, 1), (264, .iconst 2, 1), (265, .invokevirtual 139, 3), (268, .aload_n 0, 1), (269, .iconst 2, 1), (270, .invokevirtual 132, 3), (273, .goto 169, 3)]
def zp_t167_2 : List (Nat × Instr × Nat) := [(276, .aload_n 0, 1), (277, .iconst 2, 1), (278, .invokevirtual 139, 3), (281, .aload_n 0, 1), (282, .iconst 1, 1), (283, .invokevirtual 132, 3), (286, .goto 156, 3), (289, .aload_n 0, 1), (290, .iconst 1, 1), (291, .invokevirtual 139, 3), (294, .aload_n 0, 1), (295, .iconst 2, 1), (296, .invokevirtual 132, 3), (299, .goto 143, 3), (302, .aload_n 0, 1), (303, .iconst 1, 1), (304, .invokevirtual 139, 3), (307, .aload_n 0, 1), (308, .bipush 6, 2), (310, .invokevirtual 139, 3), (313, .aload_n 0, 1), (314, .iconst 1, 1), (315, .invokevirtual 132, 3), (318, .goto 124, 3), (321, .aload_n 0, 1), (322, .iconst 1, 1), (323, .invokevirtual 139, 3), (326, .aload_n 0, 1), (327, .iconst 1, 1), (328, .invokevirtual 139, 3), (331, .aload_n 0, 1), (332, .bipush 6, 2), (334, .invokevirtual 139, 3), (337, .goto 105, 3), (340, .aload_n 0, 1), (341, .bipush 6, 2), (343, .invokevirtual 139, 3), (346, .aload_n 0, 1), (347, .iconst 1, 1), (348, .invokevirtual 132, 3)]
def zp_t167_3 : List (Nat × Instr × Nat) := [(351, .goto 91, 3), (354, .aload_n 0, 1), (355, .bipush 7, 2), (357, .invokevirtual 139, 3), (360, .aload_n 0, 1), (361, .iconst 1, 1), (362, .invokevirtual 132, 3), (365, .goto 77, 3), (368, .aload_n 0, 1), (369, .iconst 5, 1), (370, .invokevirtual 139, 3), (373, .aload_n 0, 1), (374, .iload_n 2, 1), (375, .invokevirtual 132, 3), (378, .goto 64, 3), (381, .aload_n 0, 1), (382, .bipush 7, 2), (384, .invokevirtual 139, 3), (387, .goto 55, 3), (390, .aload_n 0, 1), (391, .iconst 1, 1), (392, .invokevirtual 139, 3), (395, .goto 47, 3), (398, .aload_n 0, 1), (399, .iconst 5, 1), (400, .invokevirtual 139, 3), (403, .goto 39, 3), (406, .iload_n 2, 1), (407, .iconst 0, 1), (408, .bipush 7, 2), (410, .invokestatic 128, 3), (413, .ifCond .ne 11, 3), (416, .aload_n 0, 1), (417, .iconst 4, 1), (418, .invokevirtual 113, 3), (421, .goto 21, 3), (424, .aload_n 0, 1), (425, .getfield 60, 3), (428, .iload_n 2, 1), (429, .iaload, 1)]
def zp_t167_4 : List (Nat × Instr × Nat) := [(430, .iconst 1, 1), (431, .if_icmp .eq 11, 3), (434, .aload_n 0, 1), (435, .iconst 1, 1), (436, .invokevirtual 113, 3), (439, .goto 3, 3), (442, .aload_n 0, 1), (443, .getfield 107, 3), (446, .ireturn, 1)]
/-- 167: ClassFramesModel.does (I)I -/
def zp_m167 : zx_M := (⟨RX12, "does", "(I)I"⟩, prog_14_method_15_code, 3, (some .int), (some 10), 1, 12, zp_t167_0 ++ (zp_t167_1 ++ (zp_t167_2 ++ (zp_t167_3 ++ (zp_t167_4)))))
def zp_t168_0 : List (Nat × Instr × Nat) := [(0, .aload_n 0, 1), (1, .getfield 7, 3), (4, .iload_n 1, 1), (5, .iaload, 1), (6, .bipush 22, 2), (8, .if_icmp .lt 14, 3), (11, .aload_n 0, 1), (12, .getfield 7, 3), (15, .iload_n 1, 1), (16, .iaload, 1), (17, .bipush 24, 2), (19, .if_icmp .le 7, 3), (22, .iconst 1, 1), (23, .goto 4, 3), (26, .iconst 0, 1), (27, .ireturn, 1)]
/-- 168: ClassFramesModel.goesOn (I)Z -/
def zp_m168 : zx_M := (⟨RX12, "goesOn", "(I)Z"⟩, prog_14_method_16_code, 2, (some .boolean), (some 10), 1, 12, zp_t168_0)
def zp_t169_0 : List (Nat × Instr × Nat) := [(0, .aload_n 0, 1), (1, .getfield 7, 3), (4, .iload_n 1, 1), (5, .iaload, 1), (6, .bipush 24, 2), (8, .if_icmp .lt 38, 3), (11, .aload_n 0, 1), (12, .getfield 7, 3), (15, .iload_n 1, 1), (16, .iaload, 1), (17, .bipush 27, 2), (19, .if_icmp .gt 27, 3), (22, .iload_n 2, 1), (23, .ifCond .eq 19, 3), (26, .iload_n 2, 1), (27, .iconst 1, 1), (28, .if_icmp .ne 18, 3), (31, .aload_n 0, 1), (32, .getfield 7, 3), (35, .iload_n 1, 1), (36, .iaload, 1), (37, .bipush 27, 2), (39, .if_icmp .ne 7, 3), (42, .iconst 1, 1), (43, .goto 4, 3), (46, .iconst 0, 1), (47, .istore_n 3, 1), (48, .iload_n 3, 1), (49, .ifCond .ne 7, 3), (52, .iconst (-1), 1), (53, .goto 22, 3), (56, .iload_n 2, 1), (57, .ifCond .ne 12, 3), (60, .aload_n 0, 1), (61, .getfield 13, 3), (64, .iload_n 1, 1), (65, .iaload, 1), (66, .goto 9, 3), (69, .aload_n 0, 1), (70, .getfield 16, 3)]
def zp_t169_1 : List (Nat × Instr × Nat) := [(73, .iload_n 1, 1), (74, .iaload, 1), (75, .ireturn, 1)]
/-- 169: ClassFramesModel.jump (II)I -/
def zp_m169 : zx_M := (⟨RX12, "jump", "(II)I"⟩, prog_14_method_17_code, 4, (some .int), (some 10), 2, 12, zp_t169_0 ++ (zp_t169_1))
def zp_t170_0 : List (Nat × Instr × Nat) := [(0, .aload_n 0, 1), (1, .getfield 7, 3), (4, .iload_n 1, 1), (5, .iaload, 1), (6, .bipush 27, 2), (8, .if_icmp .ne 7, 3), (11, .iconst 2, 1), (12, .goto 30, 3), (15, .aload_n 0, 1), (16, .getfield 7, 3), (19, .iload_n 1, 1), (20, .iaload, 1), (21, .bipush 24, 2), (23, .if_icmp .lt 18, 3), (26, .aload_n 0, 1), (27, .getfield 7, 3), (30, .iload_n 1, 1), (31, .iaload, 1), (32, .bipush 26, 2), (34, .if_icmp .gt 7, 3), (37, .iconst 1, 1), (38, .goto 4, 3), (41, .iconst 0, 1), (42, .ireturn, 1)]
/-- 170: ClassFramesModel.jumps (I)I -/
def zp_m170 : zx_M := (⟨RX12, "jumps", "(I)I"⟩, prog_14_method_18_code, 2, (some .int), (some 10), 1, 12, zp_t170_0)
def zp_t171_0 : List (Nat × Instr × Nat) := [(0, .iload_n 2, 1), (1, .aload_n 0, 1), (2, .getfield 19, 3), (5, .iload_n 1, 1), (6, .iaload, 1), (7, .aload_n 0, 1), (8, .getfield 22, 3), (11, .iload_n 1, 1), (12, .iaload, 1), (13, .iconst 1, 1), (14, .isub, 1), (15, .invokestatic 128, 3), (18, .ireturn, 1)]
/-- 171: ClassFramesModel.has (II)Z -/
def zp_m171 : zx_M := (⟨RX12, "has", "(II)Z"⟩, prog_14_method_19_code, 3, (some .boolean), (some 10), 2, 12, zp_t171_0)
def zp_t172_0 : List (Nat × Instr × Nat) := [(0, .iconst 0, 1), (1, .istore_n 2, 1), (2, .iload_n 2, 1), (3, .bipush 14, 2), (5, .if_icmp .ge 30, 3), (8, .aload_n 1, 1), (9, .iload_n 2, 1), (10, .iload_n 2, 1), (11, .aload_n 0, 1), (12, .getfield 148, 3), (15, .if_icmp .ge 12, 3), (18, .aload_n 0, 1), (19, .getfield 31, 3), (22, .iload_n 2, 1), (23, .iaload, 1), (24, .goto 4, 3), (27, .iconst 0, 1), (28, .iastore, 1), (29, .iinc 2 1, 3), (32, .goto (-30), 3), (35, .return_, 1)]
/-- 172: ClassFramesModel.begin ([I)V -/
def zp_m172 : zx_M := (⟨RX12, "begin", "([I)V"⟩, prog_14_method_20_code, 3, none, (some 10), 1, 12, zp_t172_0)
def zp_t173_0 : List (Nat × Instr × Nat) := [(0, .iconst 0, 1), (1, .istore_n 2, 1), (2, .iload_n 2, 1), (3, .bipush 14, 2), (5, .if_icmp .ge 26, 3), (8, .aload_n 0, 1), (9, .getfield 60, 3), (12, .iload_n 2, 1), (13, .aload_n 0, 1), (14, .getfield 42, 3), (17, .bipush 14, 2), (19, .iload_n 1, 1), (20, .imul, 1), (21, .iload_n 2, 1), (22, .iadd, 1), (23, .iaload, 1), (24, .iastore, 1), (25, .iinc 2 1, 3), (28, .goto (-26), 3), (31, .aload_n 0, 1), (32, .aload_n 0, 1), (33, .getfield 45, 3), (36, .iload_n 1, 1), (37, .iaload, 1), (38, .putfield 110, 3), (41, .return_, 1)]
/-- 173: ClassFramesModel.lay (I)V -/
def zp_m173 : zx_M := (⟨RX12, "lay", "(I)V"⟩, prog_14_method_21_code, 3, none, (some 10), 1, 12, zp_t173_0)
def zp_t174_0 : List (Nat × Instr × Nat) := [(0, .iload_n 1, 1), (1, .iconst 0, 1), (2, .aload_n 0, 1), (3, .getfield 151, 3), (6, .iconst 1, 1), (7, .isub, 1), (8, .invokestatic 128, 3), (11, .ifCond .ne 6, 3), (14, .bipush 7, 2), (16, .ireturn, 1), (17, .bipush 14, 2), (19, .iload_n 1, 1), (20, .imul, 1), (21, .istore 4, 2), (23, .aload_n 0, 1), (24, .getfield 38, 3), (27, .iload_n 1, 1), (28, .baload, 1), (29, .ifCond .ne 56, 3), (32, .aload_n 0, 1), (33, .getfield 38, 3), (36, .iload_n 1, 1), (37, .iconst 1, 1), (38, .bastore, 1), (39, .aload_n 0, 1), (40, .iconst 1, 1), (41, .putfield 154, 3), (44, .aload_n 0, 1), (45, .getfield 45, 3), (48, .iload_n 1, 1), (49, .iload_n 3, 1), (50, .iastore, 1), (51, .iconst 0, 1), (52, .istore 5, 2), (54, .iload 5, 2), (56, .bipush 8, 2), (58, .iload_n 3, 1), (59, .iadd, 1), (60, .if_icmp .ge 23, 3), (63, .aload_n 0, 1)]
def zp_t174_1 : List (Nat × Instr × Nat) := [(64, .getfield 42, 3), (67, .iload 4, 2), (69, .iload 5, 2), (71, .iadd, 1), (72, .aload_n 2, 1), (73, .iload 5, 2), (75, .iaload, 1), (76, .iastore, 1), (77, .iinc 5 1, 3), (80, .goto (-26), 3), (83, .iconst 0, 1), (84, .ireturn, 1), (85, .aload_n 0, 1), (86, .getfield 45, 3), (89, .iload_n 1, 1), (90, .iaload, 1), (91, .iload_n 3, 1), (92, .if_icmp .eq 5, 3), (95, .iconst 5, 1), (96, .ireturn, 1), (97, .iconst 0, 1), (98, .istore 5, 2), (100, .iload 5, 2), (102, .bipush 8, 2), (104, .iload_n 3, 1), (105, .iadd, 1), (106, .if_icmp .ge 33, 3), (109, .aload_n 0, 1), (110, .getfield 66, 3), (113, .iload 5, 2), (115, .aload_n 0, 1), (116, .getfield 42, 3), (119, .iload 4, 2), (121, .iload 5, 2), (123, .iadd, 1), (124, .iaload, 1), (125, .aload_n 2, 1), (126, .iload 5, 2), (128, .iaload, 1), (129, .invokestatic 158, 3)]
def zp_t174_2 : List (Nat × Instr × Nat) := [(132, .iastore, 1), (133, .iinc 5 1, 3), (136, .goto (-36), 3), (139, .aload_n 0, 1), (140, .getfield 66, 3), (143, .iconst 0, 1), (144, .bipush 8, 2), (146, .invokestatic 135, 3), (149, .aload_n 0, 1), (150, .getfield 66, 3), (153, .bipush 8, 2), (155, .iload_n 3, 1), (156, .invokestatic 135, 3), (159, .iconst 0, 1), (160, .istore 5, 2), (162, .iload 5, 2), (164, .bipush 8, 2), (166, .iload_n 3, 1), (167, .iadd, 1), (168, .if_icmp .ge 62, 3), (171, .aload_n 0, 1), (172, .aload_n 0, 1), (173, .getfield 154, 3), (176, .ifCond .ne 23, 3), (179, .aload_n 0, 1), (180, .getfield 42, 3), (183, .iload 4, 2), (185, .iload 5, 2), (187, .iadd, 1), (188, .iaload, 1), (189, .aload_n 0, 1), (190, .getfield 66, 3), (193, .iload 5, 2), (195, .iaload, 1), (196, .if_icmp .eq 7, 3), (199, .iconst 1, 1), (200, .goto 4, 3), (203, .iconst 0, 1), (204, .putfield 154, 3), (207, .aload_n 0, 1)]
def zp_t174_3 : List (Nat × Instr × Nat) := [(208, .getfield 42, 3), (211, .iload 4, 2), (213, .iload 5, 2), (215, .iadd, 1), (216, .aload_n 0, 1), (217, .getfield 66, 3), (220, .iload 5, 2), (222, .iaload, 1), (223, .iastore, 1), (224, .iinc 5 1, 3), (227, .goto (-65), 3), (230, .iconst 0, 1), (231, .ireturn, 1)]
/-- 174: ClassFramesModel.join (I[II)I -/
def zp_m174 : zx_M := (⟨RX12, "join", "(I[II)I"⟩, prog_14_method_22_code, 6, (some .int), (some 10), 3, 12, zp_t174_0 ++ (zp_t174_1 ++ (zp_t174_2 ++ (zp_t174_3))))
def zp_t175_0 : List (Nat × Instr × Nat) := [(0, .aload_n 0, 1), (1, .iload_n 1, 1), (2, .invokevirtual 162, 3), (5, .iconst 0, 1), (6, .istore_n 2, 1), (7, .iload_n 2, 1), (8, .aload_n 0, 1), (9, .getfield 165, 3), (12, .if_icmp .ge 79, 3), (15, .aload_n 0, 1), (16, .iload_n 2, 1), (17, .iload_n 1, 1), (18, .invokevirtual 168, 3), (21, .ifCond .eq 64, 3), (24, .iconst 0, 1), (25, .istore_n 3, 1), (26, .iload_n 3, 1), (27, .bipush 8, 2), (29, .if_icmp .ge 21, 3), (32, .aload_n 0, 1), (33, .getfield 63, 3), (36, .iload_n 3, 1), (37, .aload_n 0, 1), (38, .getfield 60, 3), (41, .iload_n 3, 1), (42, .iaload, 1), (43, .iastore, 1), (44, .iinc 3 1, 3), (47, .goto (-21), 3), (50, .aload_n 0, 1), (51, .getfield 63, 3), (54, .bipush 8, 2), (56, .aload_n 0, 1), (57, .getfield 28, 3), (60, .iload_n 2, 1), (61, .iaload, 1), (62, .iastore, 1), (63, .aload_n 0, 1), (64, .aload_n 0, 1), (65, .getfield 25, 3)]
def zp_t175_1 : List (Nat × Instr × Nat) := [(68, .iload_n 2, 1), (69, .iaload, 1), (70, .aload_n 0, 1), (71, .getfield 63, 3), (74, .iconst 1, 1), (75, .invokevirtual 171, 3), (78, .istore_n 3, 1), (79, .iload_n 3, 1), (80, .ifCond .eq 5, 3), (83, .iload_n 3, 1), (84, .ireturn, 1), (85, .iinc 2 1, 3), (88, .goto (-81), 3), (91, .aload_n 0, 1), (92, .iload_n 1, 1), (93, .invokevirtual 162, 3), (96, .aload_n 0, 1), (97, .iload_n 1, 1), (98, .invokevirtual 175, 3), (101, .istore_n 2, 1), (102, .iconst 0, 1), (103, .istore_n 3, 1), (104, .iload_n 3, 1), (105, .aload_n 0, 1), (106, .iload_n 1, 1), (107, .invokevirtual 179, 3), (110, .if_icmp .ge 32, 3), (113, .iload_n 2, 1), (114, .ifCond .ne 28, 3), (117, .aload_n 0, 1), (118, .aload_n 0, 1), (119, .iload_n 1, 1), (120, .iload_n 3, 1), (121, .invokevirtual 182, 3), (124, .aload_n 0, 1), (125, .getfield 60, 3), (128, .aload_n 0, 1), (129, .getfield 110, 3), (132, .invokevirtual 171, 3), (135, .istore_n 2, 1)]
def zp_t175_2 : List (Nat × Instr × Nat) := [(136, .iinc 3 1, 3), (139, .goto (-35), 3), (142, .iload_n 2, 1), (143, .ifCond .ne 11, 3), (146, .aload_n 0, 1), (147, .iload_n 1, 1), (148, .invokevirtual 185, 3), (151, .ifCond .ne 5, 3), (154, .iload_n 2, 1), (155, .ireturn, 1), (156, .iload_n 1, 1), (157, .iconst 1, 1), (158, .iadd, 1), (159, .aload_n 0, 1), (160, .getfield 151, 3), (163, .if_icmp .ne 8, 3), (166, .bipush 6, 2), (168, .goto 18, 3), (171, .aload_n 0, 1), (172, .iload_n 1, 1), (173, .iconst 1, 1), (174, .iadd, 1), (175, .aload_n 0, 1), (176, .getfield 60, 3), (179, .aload_n 0, 1), (180, .getfield 110, 3), (183, .invokevirtual 171, 3), (186, .ireturn, 1)]
/-- 175: ClassFramesModel.work (I)I -/
def zp_m175 : zx_M := (⟨RX12, "work", "(I)I"⟩, prog_14_method_23_code, 4, (some .int), (some 10), 1, 12, zp_t175_0 ++ (zp_t175_1 ++ (zp_t175_2)))
def zp_t176_0 : List (Nat × Instr × Nat) := [(0, .aload_n 0, 1), (1, .iconst 0, 1), (2, .putfield 100, 3), (5, .aload_n 0, 1), (6, .iconst 0, 1), (7, .putfield 189, 3), (10, .aload_n 0, 1), (11, .iconst 0, 1), (12, .putfield 192, 3), (15, .aload_n 0, 1), (16, .iconst 0, 1), (17, .putfield 195, 3), (20, .aload_n 0, 1), (21, .iconst 0, 1), (22, .putfield 198, 3), (25, .aload_n 0, 1), (26, .getfield 151, 3), (29, .ifCond .ne 12, 3), (32, .aload_n 0, 1), (33, .bipush 6, 2), (35, .putfield 192, 3), (38, .bipush (-9), 2), (40, .ireturn, 1), (41, .iconst 0, 1), (42, .istore_n 1, 1), (43, .iload_n 1, 1), (44, .bipush 60, 2), (46, .if_icmp .ge 16, 3), (49, .aload_n 0, 1), (50, .getfield 38, 3), (53, .iload_n 1, 1), (54, .iconst 0, 1), (55, .bastore, 1), (56, .iinc 1 1, 3), (59, .goto (-16), 3), (62, .aload_n 0, 1), (63, .aload_n 0, 1), (64, .getfield 60, 3), (67, .invokevirtual 201, 3), (70, .aload_n 0, 1)]
def zp_t176_1 : List (Nat × Instr × Nat) := [(71, .iconst 1, 1), (72, .putfield 154, 3), (75, .aload_n 0, 1), (76, .iconst 0, 1), (77, .aload_n 0, 1), (78, .getfield 60, 3), (81, .iconst 0, 1), (82, .invokevirtual 171, 3), (85, .istore_n 1, 1), (86, .aload_n 0, 1), (87, .getfield 154, 3), (90, .ifCond .eq 67, 3), (93, .aload_n 0, 1), (94, .iconst 0, 1), (95, .putfield 154, 3), (98, .aload_n 0, 1), (99, .dup, 1), (100, .getfield 195, 3), (103, .iconst 1, 1), (104, .iadd, 1), (105, .putfield 195, 3), (108, .iconst 0, 1), (109, .istore_n 2, 1), (110, .iload_n 2, 1), (111, .aload_n 0, 1), (112, .getfield 151, 3), (115, .if_icmp .ge 39, 3), (118, .aload_n 0, 1), (119, .getfield 38, 3), (122, .iload_n 2, 1), (123, .baload, 1), (124, .ifCond .eq 24, 3), (127, .aload_n 0, 1), (128, .aload_n 0, 1), (129, .iload_n 2, 1), (130, .invokevirtual 205, 3), (133, .putfield 192, 3), (136, .aload_n 0, 1), (137, .getfield 192, 3), (140, .ifCond .eq 8, 3)]
def zp_t176_2 : List (Nat × Instr × Nat) := [(143, .bipush (-10), 2), (145, .iload_n 2, 1), (146, .isub, 1), (147, .ireturn, 1), (148, .iinc 2 1, 3), (151, .goto (-41), 3), (154, .goto (-68), 3), (157, .aload_n 0, 1), (158, .iconst 1, 1), (159, .putfield 189, 3), (162, .iconst 0, 1), (163, .istore_n 2, 1), (164, .iload_n 2, 1), (165, .aload_n 0, 1), (166, .getfield 151, 3), (169, .if_icmp .ge 31, 3), (172, .aload_n 0, 1), (173, .getfield 38, 3), (176, .iload_n 2, 1), (177, .baload, 1), (178, .ifCond .eq 16, 3), (181, .aload_n 0, 1), (182, .iload_n 2, 1), (183, .invokevirtual 208, 3), (186, .ifCond .eq 8, 3), (189, .aload_n 0, 1), (190, .iload_n 2, 1), (191, .invokevirtual 211, 3), (194, .iinc 2 1, 3), (197, .goto (-33), 3), (200, .aload_n 0, 1), (201, .getfield 198, 3), (204, .ireturn, 1)]
/-- 176: ClassFramesModel.make ()I -/
def zp_m176 : zx_M := (⟨RX12, "make", "()I"⟩, prog_14_method_24_code, 3, (some .int), (some 10), 0, 12, zp_t176_0 ++ (zp_t176_1 ++ (zp_t176_2)))
def zp_t177_0 : List (Nat × Instr × Nat) := [(0, .iconst 0, 1), (1, .istore_n 2, 1), (2, .iload_n 2, 1), (3, .aload_n 0, 1), (4, .getfield 165, 3), (7, .if_icmp .ge 21, 3), (10, .aload_n 0, 1), (11, .getfield 25, 3), (14, .iload_n 2, 1), (15, .iaload, 1), (16, .iload_n 1, 1), (17, .if_icmp .ne 5, 3), (20, .iconst 1, 1), (21, .ireturn, 1), (22, .iinc 2 1, 3), (25, .goto (-23), 3), (28, .iconst 0, 1), (29, .istore_n 2, 1), (30, .iload_n 2, 1), (31, .aload_n 0, 1), (32, .getfield 151, 3), (35, .if_icmp .ge 47, 3), (38, .iconst 0, 1), (39, .istore_n 3, 1), (40, .iload_n 3, 1), (41, .aload_n 0, 1), (42, .iload_n 2, 1), (43, .invokevirtual 179, 3), (46, .if_icmp .ge 30, 3), (49, .aload_n 0, 1), (50, .getfield 38, 3), (53, .iload_n 2, 1), (54, .baload, 1), (55, .ifCond .eq 21, 3), (58, .aload_n 0, 1), (59, .iload_n 2, 1), (60, .iload_n 3, 1), (61, .invokevirtual 182, 3), (64, .iload_n 1, 1), (65, .if_icmp .ne 5, 3)]
def zp_t177_1 : List (Nat × Instr × Nat) := [(68, .iconst 1, 1), (69, .ireturn, 1), (70, .iinc 3 1, 3), (73, .goto (-33), 3), (76, .iinc 2 1, 3), (79, .goto (-49), 3), (82, .iload_n 1, 1), (83, .ifCond .le 28, 3), (86, .aload_n 0, 1), (87, .getfield 38, 3), (90, .iload_n 1, 1), (91, .iconst 1, 1), (92, .isub, 1), (93, .baload, 1), (94, .ifCond .eq 13, 3), (97, .aload_n 0, 1), (98, .iload_n 1, 1), (99, .iconst 1, 1), (100, .isub, 1), (101, .invokevirtual 185, 3), (104, .ifCond .ne 7, 3), (107, .iconst 1, 1), (108, .goto 4, 3), (111, .iconst 0, 1), (112, .ireturn, 1)]
/-- 177: ClassFramesModel.isFrame (I)Z -/
def zp_m177 : zx_M := (⟨RX12, "isFrame", "(I)Z"⟩, prog_14_method_25_code, 4, (some .boolean), (some 10), 1, 12, zp_t177_0 ++ (zp_t177_1))
def zp_t178_0 : List (Nat × Instr × Nat) := [(0, .aload_n 0, 1), (1, .iload_n 1, 1), (2, .invokevirtual 162, 3), (5, .bipush 8, 2), (7, .istore_n 2, 1), (8, .iload_n 2, 1), (9, .ifCond .le 20, 3), (12, .aload_n 0, 1), (13, .getfield 60, 3), (16, .iload_n 2, 1), (17, .iconst 1, 1), (18, .isub, 1), (19, .iaload, 1), (20, .ifCond .ne 9, 3), (23, .iinc 2 (-1), 3), (26, .goto (-18), 3), (29, .aload_n 0, 1), (30, .getfield 48, 3), (33, .aload_n 0, 1), (34, .getfield 198, 3), (37, .iload_n 1, 1), (38, .iastore, 1), (39, .aload_n 0, 1), (40, .getfield 51, 3), (43, .aload_n 0, 1), (44, .getfield 198, 3), (47, .iload_n 2, 1), (48, .iastore, 1), (49, .aload_n 0, 1), (50, .getfield 54, 3), (53, .aload_n 0, 1), (54, .getfield 198, 3), (57, .aload_n 0, 1), (58, .getfield 110, 3), (61, .iastore, 1), (62, .iconst 0, 1), (63, .istore_n 3, 1), (64, .iload_n 3, 1), (65, .iload_n 2, 1), (66, .if_icmp .ge 29, 3)]
def zp_t178_1 : List (Nat × Instr × Nat) := [(69, .aload_n 0, 1), (70, .getfield 57, 3), (73, .bipush 14, 2), (75, .aload_n 0, 1), (76, .getfield 198, 3), (79, .imul, 1), (80, .iload_n 3, 1), (81, .iadd, 1), (82, .aload_n 0, 1), (83, .getfield 60, 3), (86, .iload_n 3, 1), (87, .iaload, 1), (88, .iastore, 1), (89, .iinc 3 1, 3), (92, .goto (-28), 3), (95, .iconst 0, 1), (96, .istore_n 3, 1), (97, .iload_n 3, 1), (98, .aload_n 0, 1), (99, .getfield 110, 3), (102, .if_icmp .ge 34, 3), (105, .aload_n 0, 1), (106, .getfield 57, 3), (109, .bipush 14, 2), (111, .aload_n 0, 1), (112, .getfield 198, 3), (115, .imul, 1), (116, .iload_n 2, 1), (117, .iadd, 1), (118, .iload_n 3, 1), (119, .iadd, 1), (120, .aload_n 0, 1), (121, .getfield 60, 3), (124, .bipush 8, 2), (126, .iload_n 3, 1), (127, .iadd, 1), (128, .iaload, 1), (129, .iastore, 1), (130, .iinc 3 1, 3), (133, .goto (-36), 3)]
def zp_t178_2 : List (Nat × Instr × Nat) := [(136, .aload_n 0, 1), (137, .dup, 1), (138, .getfield 198, 3), (141, .iconst 1, 1), (142, .iadd, 1), (143, .putfield 198, 3), (146, .return_, 1)]
/-- 178: ClassFramesModel.keep (I)V -/
def zp_m178 : zx_M := (⟨RX12, "keep", "(I)V"⟩, prog_14_method_26_code, 4, none, (some 10), 1, 12, zp_t178_0 ++ (zp_t178_1 ++ (zp_t178_2)))
def zp_t179_0 : List (Nat × Instr × Nat) := [(0, .iconst 0, 1), (1, .istore_n 2, 1), (2, .iload_n 2, 1), (3, .aload_n 0, 1), (4, .getfield 198, 3), (7, .if_icmp .ge 21, 3), (10, .aload_n 0, 1), (11, .getfield 48, 3), (14, .iload_n 2, 1), (15, .iaload, 1), (16, .iload_n 1, 1), (17, .if_icmp .ne 5, 3), (20, .iload_n 2, 1), (21, .ireturn, 1), (22, .iinc 2 1, 3), (25, .goto (-23), 3), (28, .iconst (-1), 1), (29, .ireturn, 1)]
/-- 179: ClassFramesModel.frameAt (I)I -/
def zp_m179 : zx_M := (⟨RX12, "frameAt", "(I)I"⟩, prog_14_method_27_code, 3, (some .int), (some 10), 1, 12, zp_t179_0)
def zp_t180_0 : List (Nat × Instr × Nat) := [(0, .iload_n 1, 1), (1, .istore_n 3, 1), (2, .iload_n 3, 1), (3, .iload_n 1, 1), (4, .iload_n 2, 1), (5, .iadd, 1), (6, .if_icmp .ge 57, 3), (9, .aload_n 0, 1), (10, .iload_n 3, 1), (11, .iaload, 1), (12, .iconst 2, 1), (13, .if_icmp .ne 21, 3), (16, .iload_n 3, 1), (17, .iconst 1, 1), (18, .iadd, 1), (19, .iload_n 1, 1), (20, .iload_n 2, 1), (21, .iadd, 1), (22, .if_icmp .eq 33, 3), (25, .aload_n 0, 1), (26, .iload_n 3, 1), (27, .iconst 1, 1), (28, .iadd, 1), (29, .iaload, 1), (30, .iconst 3, 1), (31, .if_icmp .ne 24, 3), (34, .aload_n 0, 1), (35, .iload_n 3, 1), (36, .iaload, 1), (37, .iconst 3, 1), (38, .if_icmp .ne 19, 3), (41, .iload_n 3, 1), (42, .iload_n 1, 1), (43, .if_icmp .eq 12, 3), (46, .aload_n 0, 1), (47, .iload_n 3, 1), (48, .iconst 1, 1), (49, .isub, 1), (50, .iaload, 1), (51, .iconst 2, 1)]
def zp_t180_1 : List (Nat × Instr × Nat) := [(52, .if_icmp .eq 5, 3), (55, .iconst 0, 1), (56, .ireturn, 1), (57, .iinc 3 1, 3), (60, .goto (-58), 3), (63, .iconst 1, 1), (64, .ireturn, 1)]
/-- 180: ClassFramesModel.areWhole ([III)Z -/
def zp_m180 : zx_M := (⟨RX12, "areWhole", "([III)Z"⟩, prog_14_method_28_code, 4, (some .boolean), none, 3, 12, zp_t180_0 ++ (zp_t180_1))
def zp_t181_0 : List (Nat × Instr × Nat) := [(0, .iload_n 2, 1), (1, .aload_n 0, 1), (2, .getfield 51, 3), (5, .iload_n 1, 1), (6, .iaload, 1), (7, .if_icmp .ge 17, 3), (10, .aload_n 0, 1), (11, .getfield 57, 3), (14, .bipush 14, 2), (16, .iload_n 1, 1), (17, .imul, 1), (18, .iload_n 2, 1), (19, .iadd, 1), (20, .iaload, 1), (21, .goto 4, 3), (24, .iconst 0, 1), (25, .ireturn, 1)]
/-- 181: ClassFramesModel.frameLocal (II)I -/
def zp_m181 : zx_M := (⟨RX12, "frameLocal", "(II)I"⟩, prog_14_method_29_code, 3, (some .int), (some 10), 2, 12, zp_t181_0)
def zp_t182_0 : List (Nat × Instr × Nat) := [(0, .iconst 0, 1), (1, .istore_n 2, 1), (2, .iload_n 2, 1), (3, .bipush 8, 2), (5, .if_icmp .ge 29, 3), (8, .aload_n 0, 1), (9, .getfield 60, 3), (12, .iload_n 2, 1), (13, .iaload, 1), (14, .aload_n 0, 1), (15, .iload_n 1, 1), (16, .iload_n 2, 1), (17, .invokevirtual 214, 3), (20, .invokestatic 103, 3), (23, .ifCond .ne 5, 3), (26, .iconst 0, 1), (27, .ireturn, 1), (28, .iinc 2 1, 3), (31, .goto (-29), 3), (34, .iconst 1, 1), (35, .ireturn, 1)]
/-- 182: ClassFramesModel.localsGo (I)Z -/
def zp_m182 : zx_M := (⟨RX12, "localsGo", "(I)Z"⟩, prog_14_method_30_code, 3, (some .boolean), (some 10), 1, 12, zp_t182_0)
def zp_t183_0 : List (Nat × Instr × Nat) := [(0, .aload_n 0, 1), (1, .getfield 54, 3), (4, .iload_n 1, 1), (5, .iaload, 1), (6, .aload_n 0, 1), (7, .getfield 110, 3), (10, .if_icmp .ne 11, 3), (13, .aload_n 0, 1), (14, .iload_n 1, 1), (15, .invokevirtual 217, 3), (18, .ifCond .ne 5, 3), (21, .iconst 0, 1), (22, .ireturn, 1), (23, .iconst 0, 1), (24, .istore_n 2, 1), (25, .iload_n 2, 1), (26, .aload_n 0, 1), (27, .getfield 110, 3), (30, .if_icmp .ge 44, 3), (33, .aload_n 0, 1), (34, .getfield 60, 3), (37, .bipush 8, 2), (39, .iload_n 2, 1), (40, .iadd, 1), (41, .iaload, 1), (42, .aload_n 0, 1), (43, .getfield 57, 3), (46, .bipush 14, 2), (48, .iload_n 1, 1), (49, .imul, 1), (50, .aload_n 0, 1), (51, .getfield 51, 3), (54, .iload_n 1, 1), (55, .iaload, 1), (56, .iadd, 1), (57, .iload_n 2, 1), (58, .iadd, 1), (59, .iaload, 1), (60, .invokestatic 103, 3), (63, .ifCond .ne 5, 3)]
def zp_t183_1 : List (Nat × Instr × Nat) := [(66, .iconst 0, 1), (67, .ireturn, 1), (68, .iinc 2 1, 3), (71, .goto (-46), 3), (74, .iconst 1, 1), (75, .ireturn, 1)]
/-- 183: ClassFramesModel.goes (I)Z -/
def zp_m183 : zx_M := (⟨RX12, "goes", "(I)Z"⟩, prog_14_method_31_code, 3, (some .boolean), (some 10), 1, 12, zp_t183_0 ++ (zp_t183_1))
def zp_t184_0 : List (Nat × Instr × Nat) := [(0, .iconst 0, 1), (1, .istore_n 2, 1), (2, .iload_n 2, 1), (3, .bipush 8, 2), (5, .if_icmp .ge 21, 3), (8, .aload_n 0, 1), (9, .getfield 60, 3), (12, .iload_n 2, 1), (13, .aload_n 0, 1), (14, .iload_n 1, 1), (15, .iload_n 2, 1), (16, .invokevirtual 214, 3), (19, .iastore, 1), (20, .iinc 2 1, 3), (23, .goto (-21), 3), (26, .aload_n 0, 1), (27, .aload_n 0, 1), (28, .getfield 54, 3), (31, .iload_n 1, 1), (32, .iaload, 1), (33, .putfield 110, 3), (36, .iconst 0, 1), (37, .istore_n 2, 1), (38, .iload_n 2, 1), (39, .aload_n 0, 1), (40, .getfield 110, 3), (43, .if_icmp .ge 36, 3), (46, .aload_n 0, 1), (47, .getfield 60, 3), (50, .bipush 8, 2), (52, .iload_n 2, 1), (53, .iadd, 1), (54, .aload_n 0, 1), (55, .getfield 57, 3), (58, .bipush 14, 2), (60, .iload_n 1, 1), (61, .imul, 1), (62, .aload_n 0, 1), (63, .getfield 51, 3), (66, .iload_n 1, 1)]
def zp_t184_1 : List (Nat × Instr × Nat) := [(67, .iaload, 1), (68, .iadd, 1), (69, .iload_n 2, 1), (70, .iadd, 1), (71, .iaload, 1), (72, .iastore, 1), (73, .iinc 2 1, 3), (76, .goto (-38), 3), (79, .return_, 1)]
/-- 184: ClassFramesModel.take (I)V -/
def zp_m184 : zx_M := (⟨RX12, "take", "(I)V"⟩, prog_14_method_32_code, 3, none, (some 10), 1, 12, zp_t184_0 ++ (zp_t184_1))
def zp_t185_0 : List (Nat × Instr × Nat) := [(0, .iconst 0, 1), (1, .istore_n 2, 1), (2, .iload_n 2, 1), (3, .aload_n 0, 1), (4, .getfield 165, 3), (7, .if_icmp .ge 77, 3), (10, .aload_n 0, 1), (11, .iload_n 2, 1), (12, .iload_n 1, 1), (13, .invokevirtual 168, 3), (16, .ifCond .eq 62, 3), (19, .aload_n 0, 1), (20, .aload_n 0, 1), (21, .getfield 25, 3), (24, .iload_n 2, 1), (25, .iaload, 1), (26, .invokevirtual 220, 3), (29, .istore_n 3, 1), (30, .aload_n 0, 1), (31, .iload_n 3, 1), (32, .invokevirtual 217, 3), (35, .ifCond .eq 41, 3), (38, .aload_n 0, 1), (39, .getfield 54, 3), (42, .iload_n 3, 1), (43, .iaload, 1), (44, .iconst 1, 1), (45, .if_icmp .ne 31, 3), (48, .aload_n 0, 1), (49, .getfield 28, 3), (52, .iload_n 2, 1), (53, .iaload, 1), (54, .aload_n 0, 1), (55, .getfield 57, 3), (58, .bipush 14, 2), (60, .iload_n 3, 1), (61, .imul, 1), (62, .aload_n 0, 1), (63, .getfield 51, 3), (66, .iload_n 3, 1)]
def zp_t185_1 : List (Nat × Instr × Nat) := [(67, .iaload, 1), (68, .iadd, 1), (69, .iaload, 1), (70, .invokestatic 103, 3), (73, .ifCond .ne 5, 3), (76, .iconst 0, 1), (77, .ireturn, 1), (78, .iinc 2 1, 3), (81, .goto (-79), 3), (84, .aload_n 0, 1), (85, .iload_n 1, 1), (86, .invokevirtual 175, 3), (89, .ifCond .eq 5, 3), (92, .iconst 0, 1), (93, .ireturn, 1), (94, .iconst 0, 1), (95, .istore_n 2, 1), (96, .iload_n 2, 1), (97, .aload_n 0, 1), (98, .iload_n 1, 1), (99, .invokevirtual 179, 3), (102, .if_icmp .ge 28, 3), (105, .aload_n 0, 1), (106, .aload_n 0, 1), (107, .aload_n 0, 1), (108, .iload_n 1, 1), (109, .iload_n 2, 1), (110, .invokevirtual 182, 3), (113, .invokevirtual 220, 3), (116, .invokevirtual 223, 3), (119, .ifCond .ne 5, 3), (122, .iconst 0, 1), (123, .ireturn, 1), (124, .iinc 2 1, 3), (127, .goto (-31), 3), (130, .iconst 1, 1), (131, .ireturn, 1)]
/-- 185: ClassFramesModel.isRight (I)Z -/
def zp_m185 : zx_M := (⟨RX12, "isRight", "(I)Z"⟩, prog_14_method_33_code, 4, (some .boolean), (some 10), 1, 12, zp_t185_0 ++ (zp_t185_1))
def zp_t186_0 : List (Nat × Instr × Nat) := [(0, .aload_n 0, 1), (1, .iconst 0, 1), (2, .putfield 100, 3), (5, .aload_n 0, 1), (6, .getfield 189, 3), (9, .ifCond .ne 6, 3), (12, .bipush (-3), 2), (14, .ireturn, 1), (15, .iconst 0, 1), (16, .istore_n 1, 1), (17, .iload_n 1, 1), (18, .aload_n 0, 1), (19, .getfield 198, 3), (22, .if_icmp .ge 66, 3), (25, .aload_n 0, 1), (26, .getfield 57, 3), (29, .bipush 14, 2), (31, .iload_n 1, 1), (32, .imul, 1), (33, .aload_n 0, 1), (34, .getfield 51, 3), (37, .iload_n 1, 1), (38, .iaload, 1), (39, .invokestatic 226, 3), (42, .ifCond .eq 30, 3), (45, .aload_n 0, 1), (46, .getfield 57, 3), (49, .bipush 14, 2), (51, .iload_n 1, 1), (52, .imul, 1), (53, .aload_n 0, 1), (54, .getfield 51, 3), (57, .iload_n 1, 1), (58, .iaload, 1), (59, .iadd, 1), (60, .aload_n 0, 1), (61, .getfield 54, 3), (64, .iload_n 1, 1), (65, .iaload, 1), (66, .invokestatic 226, 3)]
def zp_t186_1 : List (Nat × Instr × Nat) := [(69, .ifCond .ne 13, 3), (72, .bipush (-10), 2), (74, .aload_n 0, 1), (75, .getfield 48, 3), (78, .iload_n 1, 1), (79, .iaload, 1), (80, .isub, 1), (81, .ireturn, 1), (82, .iinc 1 1, 3), (85, .goto (-68), 3), (88, .aload_n 0, 1), (89, .aload_n 0, 1), (90, .getfield 60, 3), (93, .invokevirtual 201, 3), (96, .aload_n 0, 1), (97, .iconst 0, 1), (98, .putfield 110, 3), (101, .iconst 1, 1), (102, .istore_n 1, 1), (103, .iconst 0, 1), (104, .istore_n 2, 1), (105, .iload_n 2, 1), (106, .aload_n 0, 1), (107, .getfield 151, 3), (110, .if_icmp .ge 92, 3), (113, .aload_n 0, 1), (114, .getfield 38, 3), (117, .iload_n 2, 1), (118, .baload, 1), (119, .ifCond .eq 54, 3), (122, .aload_n 0, 1), (123, .iload_n 2, 1), (124, .invokevirtual 220, 3), (127, .istore_n 3, 1), (128, .iload_n 3, 1), (129, .iconst (-1), 1), (130, .if_icmp .eq 20, 3), (133, .iload_n 1, 1), (134, .ifCond .eq 16, 3), (137, .aload_n 0, 1)]
def zp_t186_2 : List (Nat × Instr × Nat) := [(138, .iload_n 3, 1), (139, .invokevirtual 223, 3), (142, .ifCond .ne 8, 3), (145, .bipush (-10), 2), (147, .iload_n 2, 1), (148, .isub, 1), (149, .ireturn, 1), (150, .iload_n 3, 1), (151, .iconst (-1), 1), (152, .if_icmp .eq 8, 3), (155, .aload_n 0, 1), (156, .iload_n 3, 1), (157, .invokevirtual 230, 3), (160, .aload_n 0, 1), (161, .iload_n 2, 1), (162, .invokevirtual 233, 3), (165, .ifCond .ne 8, 3), (168, .bipush (-10), 2), (170, .iload_n 2, 1), (171, .isub, 1), (172, .ireturn, 1), (173, .aload_n 0, 1), (174, .getfield 38, 3), (177, .iload_n 2, 1), (178, .baload, 1), (179, .ifCond .eq 15, 3), (182, .aload_n 0, 1), (183, .iload_n 2, 1), (184, .invokevirtual 185, 3), (187, .ifCond .eq 7, 3), (190, .iconst 1, 1), (191, .goto 4, 3), (194, .iconst 0, 1), (195, .istore_n 1, 1), (196, .iinc 2 1, 3), (199, .goto (-94), 3), (202, .iconst 1, 1), (203, .ireturn, 1)]
/-- 186: ClassFramesModel.judge ()I -/
def zp_m186 : zx_M := (⟨RX12, "judge", "()I"⟩, prog_14_method_34_code, 4, (some .int), (some 10), 0, 12, zp_t186_0 ++ (zp_t186_1 ++ (zp_t186_2)))
def zp_t187_0 : List (Nat × Instr × Nat) := [(0, .aload_n 0, 1), (1, .getfield 69, 3), (4, .aload_n 0, 1), (5, .getfield 236, 3), (8, .iload_n 1, 1), (9, .iastore, 1), (10, .aload_n 0, 1), (11, .dup, 1), (12, .getfield 236, 3), (15, .iconst 1, 1), (16, .iadd, 1), (17, .putfield 236, 3), (20, .return_, 1)]
/-- 187: ClassFramesModel.put (I)V -/
def zp_m187 : zx_M := (⟨RX12, "put", "(I)V"⟩, prog_14_method_35_code, 2, none, (some 10), 1, 12, zp_t187_0)
def zp_t188_0 : List (Nat × Instr × Nat) := [(0, .aload_n 0, 1), (1, .iload_n 1, 1), (2, .iaload, 1), (3, .iconst 2, 1), (4, .if_icmp .ne 23, 3), (7, .iload_n 1, 1), (8, .iconst 1, 1), (9, .iadd, 1), (10, .iload_n 2, 1), (11, .if_icmp .ge 16, 3), (14, .aload_n 0, 1), (15, .iload_n 1, 1), (16, .iconst 1, 1), (17, .iadd, 1), (18, .iaload, 1), (19, .iconst 3, 1), (20, .if_icmp .ne 7, 3), (23, .iconst 2, 1), (24, .goto 4, 3), (27, .iconst 1, 1), (28, .ireturn, 1)]
/-- 188: ClassFramesModel.wide ([III)I -/
def zp_m188 : zx_M := (⟨RX12, "wide", "([III)I"⟩, prog_14_method_36_code, 3, (some .int), none, 3, 12, zp_t188_0)
def zp_t189_0 : List (Nat × Instr × Nat) := [(0, .iconst 0, 1), (1, .istore_n 3, 1), (2, .iload_n 1, 1), (3, .istore 4, 2), (5, .iload 4, 2), (7, .iload_n 2, 1), (8, .if_icmp .ge 21, 3), (11, .iinc 3 1, 3), (14, .iload 4, 2), (16, .aload_n 0, 1), (17, .iload 4, 2), (19, .iload_n 2, 1), (20, .invokestatic 239, 3), (23, .iadd, 1), (24, .istore 4, 2), (26, .goto (-21), 3), (29, .iload_n 3, 1), (30, .ireturn, 1)]
/-- 189: ClassFramesModel.entries ([III)I -/
def zp_m189 : zx_M := (⟨RX12, "entries", "([III)I"⟩, prog_14_method_37_code, 5, (some .int), none, 3, 12, zp_t189_0)
def zp_t190_0 : List (Nat × Instr × Nat) := [(0, .iload_n 2, 1), (1, .istore 4, 2), (3, .iload 4, 2), (5, .iload_n 3, 1), (6, .if_icmp .ge 84, 3), (9, .aload_n 1, 1), (10, .iload 4, 2), (12, .iaload, 1), (13, .istore 5, 2), (15, .aload_n 0, 1), (16, .iload 5, 2), (18, .iconst 1, 1), (19, .if_icmp .gt 8, 3), (22, .iload 5, 2), (24, .goto 25, 3), (27, .iload 5, 2), (29, .iconst 2, 1), (30, .if_icmp .ne 7, 3), (33, .iconst 4, 1), (34, .goto 15, 3), (37, .iload 5, 2), (39, .iconst 4, 1), (40, .if_icmp .ne 7, 3), (43, .iconst 5, 1), (44, .goto 5, 3), (47, .bipush 7, 2), (49, .invokevirtual 243, 3), (52, .iload 5, 2), (54, .iconst 3, 1), (55, .if_icmp .eq 9, 3), (58, .iload 5, 2), (60, .iconst 4, 1), (61, .if_icmp .le 14, 3), (64, .aload_n 0, 1), (65, .iconst 0, 1), (66, .invokevirtual 243, 3), (69, .aload_n 0, 1), (70, .iload 5, 2), (72, .invokevirtual 243, 3), (75, .iload 4, 2)]
def zp_t190_1 : List (Nat × Instr × Nat) := [(77, .aload_n 1, 1), (78, .iload 4, 2), (80, .iload_n 3, 1), (81, .invokestatic 239, 3), (84, .iadd, 1), (85, .istore 4, 2), (87, .goto (-84), 3), (90, .return_, 1)]
/-- 190: ClassFramesModel.putEntries ([III)V -/
def zp_m190 : zx_M := (⟨RX12, "putEntries", "([III)V"⟩, prog_14_method_38_code, 6, none, (some 10), 3, 12, zp_t190_0 ++ (zp_t190_1))
def zp_t191_0 : List (Nat × Instr × Nat) := [(0, .iconst 0, 1), (1, .istore_n 3, 1), (2, .iconst 0, 1), (3, .istore 4, 2), (5, .iload 4, 2), (7, .iload_n 1, 1), (8, .if_icmp .ge 28, 3), (11, .aload_n 2, 1), (12, .iload_n 3, 1), (13, .aload_n 0, 1), (14, .iload 4, 2), (16, .iaload, 1), (17, .iastore, 1), (18, .iinc 3 1, 3), (21, .iload 4, 2), (23, .aload_n 0, 1), (24, .iload 4, 2), (26, .iload_n 1, 1), (27, .invokestatic 239, 3), (30, .iadd, 1), (31, .istore 4, 2), (33, .goto (-28), 3), (36, .iload_n 3, 1), (37, .ireturn, 1)]
/-- 191: ClassFramesModel.list ([II[I)I -/
def zp_m191 : zx_M := (⟨RX12, "list", "([II[I)I"⟩, prog_14_method_39_code, 5, (some .int), none, 3, 12, zp_t191_0)
def zp_t192_0 : List (Nat × Instr × Nat) := [(0, .iconst 0, 1), (1, .istore_n 2, 1), (2, .iload_n 2, 1), (3, .iload_n 1, 1), (4, .if_icmp .ge 26, 3), (7, .aload_n 0, 1), (8, .getfield 78, 3), (11, .iload_n 2, 1), (12, .iaload, 1), (13, .aload_n 0, 1), (14, .getfield 81, 3), (17, .iload_n 2, 1), (18, .iaload, 1), (19, .if_icmp .eq 5, 3), (22, .iconst 0, 1), (23, .ireturn, 1), (24, .iinc 2 1, 3), (27, .goto (-25), 3), (30, .iconst 1, 1), (31, .ireturn, 1)]
/-- 192: ClassFramesModel.alike (I)Z -/
def zp_m192 : zx_M := (⟨RX12, "alike", "(I)Z"⟩, prog_14_method_40_code, 3, (some .boolean), (some 10), 1, 12, zp_t192_0)
def zp_t193_0 : List (Nat × Instr × Nat) := [(0, .iload_n 1, 1), (1, .ifCond .ne 10, 3), (4, .aload_n 0, 1), (5, .getfield 148, 3), (8, .goto 11, 3), (11, .aload_n 0, 1), (12, .getfield 51, 3), (15, .iload_n 1, 1), (16, .iconst 1, 1), (17, .isub, 1), (18, .iaload, 1), (19, .istore_n 2, 1), (20, .aload_n 0, 1), (21, .getfield 51, 3), (24, .iload_n 1, 1), (25, .iaload, 1), (26, .istore_n 3, 1), (27, .iconst 0, 1), (28, .istore 4, 2), (30, .iload 4, 2), (32, .bipush 14, 2), (34, .if_icmp .ge 90, 3), (37, .aload_n 0, 1), (38, .getfield 72, 3), (41, .iload 4, 2), (43, .iload 4, 2), (45, .iload_n 2, 1), (46, .if_icmp .lt 7, 3), (49, .iconst 0, 1), (50, .goto 31, 3), (53, .iload_n 1, 1), (54, .ifCond .ne 13, 3), (57, .aload_n 0, 1), (58, .getfield 31, 3), (61, .iload 4, 2), (63, .iaload, 1), (64, .goto 17, 3), (67, .aload_n 0, 1), (68, .getfield 57, 3), (71, .bipush 14, 2)]
def zp_t193_1 : List (Nat × Instr × Nat) := [(73, .iload_n 1, 1), (74, .iconst 1, 1), (75, .isub, 1), (76, .imul, 1), (77, .iload 4, 2), (79, .iadd, 1), (80, .iaload, 1), (81, .iastore, 1), (82, .aload_n 0, 1), (83, .getfield 75, 3), (86, .iload 4, 2), (88, .iload 4, 2), (90, .iload_n 3, 1), (91, .aload_n 0, 1), (92, .getfield 54, 3), (95, .iload_n 1, 1), (96, .iaload, 1), (97, .iadd, 1), (98, .if_icmp .ge 18, 3), (101, .aload_n 0, 1), (102, .getfield 57, 3), (105, .bipush 14, 2), (107, .iload_n 1, 1), (108, .imul, 1), (109, .iload 4, 2), (111, .iadd, 1), (112, .iaload, 1), (113, .goto 4, 3), (116, .iconst 0, 1), (117, .iastore, 1), (118, .iinc 4 1, 3), (121, .goto (-91), 3), (124, .iload_n 1, 1), (125, .ifCond .ne 12, 3), (128, .aload_n 0, 1), (129, .getfield 48, 3), (132, .iload_n 1, 1), (133, .iaload, 1), (134, .goto 20, 3), (137, .aload_n 0, 1)]
def zp_t193_2 : List (Nat × Instr × Nat) := [(138, .getfield 48, 3), (141, .iload_n 1, 1), (142, .iaload, 1), (143, .aload_n 0, 1), (144, .getfield 48, 3), (147, .iload_n 1, 1), (148, .iconst 1, 1), (149, .isub, 1), (150, .iaload, 1), (151, .isub, 1), (152, .iconst 1, 1), (153, .isub, 1), (154, .istore 4, 2), (156, .iload_n 3, 1), (157, .aload_n 0, 1), (158, .getfield 54, 3), (161, .iload_n 1, 1), (162, .iaload, 1), (163, .iadd, 1), (164, .istore 5, 2), (166, .aload_n 0, 1), (167, .getfield 75, 3), (170, .iload_n 3, 1), (171, .iload 5, 2), (173, .invokestatic 246, 3), (176, .istore 6, 2), (178, .aload_n 0, 1), (179, .getfield 72, 3), (182, .iload_n 2, 1), (183, .aload_n 0, 1), (184, .getfield 78, 3), (187, .invokestatic 249, 3), (190, .istore 7, 2), (192, .aload_n 0, 1), (193, .getfield 75, 3), (196, .iload_n 3, 1), (197, .aload_n 0, 1), (198, .getfield 81, 3), (201, .invokestatic 249, 3), (204, .istore 8, 2)]
def zp_t193_3 : List (Nat × Instr × Nat) := [(206, .aload_n 0, 1), (207, .iload 7, 2), (209, .iload 8, 2), (211, .if_icmp .ge 8, 3), (214, .iload 7, 2), (216, .goto 5, 3), (219, .iload 8, 2), (221, .invokevirtual 253, 3), (224, .istore 9, 2), (226, .iload 9, 2), (228, .ifCond .eq 24, 3), (231, .iload 7, 2), (233, .iload 8, 2), (235, .if_icmp .ne 17, 3), (238, .iload 6, 2), (240, .ifCond .ne 12, 3), (243, .aload_n 0, 1), (244, .iload 4, 2), (246, .invokevirtual 243, 3), (249, .goto 250, 3), (252, .iload 9, 2), (254, .ifCond .eq 39, 3), (257, .iload 7, 2), (259, .iload 8, 2), (261, .if_icmp .ne 32, 3), (264, .iload 6, 2), (266, .iconst 1, 1), (267, .if_icmp .ne 26, 3), (270, .aload_n 0, 1), (271, .bipush 64, 2), (273, .iload 4, 2), (275, .iadd, 1), (276, .invokevirtual 243, 3), (279, .aload_n 0, 1), (280, .aload_n 0, 1), (281, .getfield 75, 3), (284, .iload_n 3, 1), (285, .iload 5, 2), (287, .invokevirtual 256, 3), (290, .goto 209, 3)]
def zp_t193_4 : List (Nat × Instr × Nat) := [(293, .iload 9, 2), (295, .ifCond .eq 48, 3), (298, .iload 6, 2), (300, .ifCond .ne 43, 3), (303, .iload 7, 2), (305, .iload 8, 2), (307, .isub, 1), (308, .iconst 1, 1), (309, .iconst 3, 1), (310, .invokestatic 128, 3), (313, .ifCond .eq 30, 3), (316, .aload_n 0, 1), (317, .sipush 251, 3), (320, .iload 7, 2), (322, .iload 8, 2), (324, .isub, 1), (325, .isub, 1), (326, .invokevirtual 243, 3), (329, .aload_n 0, 1), (330, .iconst 0, 1), (331, .invokevirtual 243, 3), (334, .aload_n 0, 1), (335, .iload 4, 2), (337, .invokevirtual 243, 3), (340, .goto 159, 3), (343, .iload 9, 2), (345, .ifCond .eq 93, 3), (348, .iload 6, 2), (350, .ifCond .ne 88, 3), (353, .iload 8, 2), (355, .iload 7, 2), (357, .isub, 1), (358, .iconst 1, 1), (359, .iconst 3, 1), (360, .invokestatic 128, 3), (363, .ifCond .eq 75, 3), (366, .aload_n 0, 1), (367, .sipush 251, 3), (370, .iload 8, 2), (372, .iadd, 1)]
def zp_t193_5 : List (Nat × Instr × Nat) := [(373, .iload 7, 2), (375, .isub, 1), (376, .invokevirtual 243, 3), (379, .aload_n 0, 1), (380, .iconst 0, 1), (381, .invokevirtual 243, 3), (384, .aload_n 0, 1), (385, .iload 4, 2), (387, .invokevirtual 243, 3), (390, .iconst 0, 1), (391, .istore 10, 2), (393, .iconst 0, 1), (394, .istore 11, 2), (396, .iload 11, 2), (398, .iload 7, 2), (400, .if_icmp .ge 24, 3), (403, .iload 10, 2), (405, .aload_n 0, 1), (406, .getfield 75, 3), (409, .iload 10, 2), (411, .iload_n 3, 1), (412, .invokestatic 239, 3), (415, .iadd, 1), (416, .istore 10, 2), (418, .iinc 11 1, 3), (421, .goto (-25), 3), (424, .aload_n 0, 1), (425, .aload_n 0, 1), (426, .getfield 75, 3), (429, .iload 10, 2), (431, .iload_n 3, 1), (432, .invokevirtual 256, 3), (435, .goto 64, 3), (438, .aload_n 0, 1), (439, .sipush 255, 3), (442, .invokevirtual 243, 3), (445, .aload_n 0, 1), (446, .iconst 0, 1), (447, .invokevirtual 243, 3), (450, .aload_n 0, 1)]
def zp_t193_6 : List (Nat × Instr × Nat) := [(451, .iload 4, 2), (453, .invokevirtual 243, 3), (456, .aload_n 0, 1), (457, .iconst 0, 1), (458, .invokevirtual 243, 3), (461, .aload_n 0, 1), (462, .iload 8, 2), (464, .invokevirtual 243, 3), (467, .aload_n 0, 1), (468, .aload_n 0, 1), (469, .getfield 75, 3), (472, .iconst 0, 1), (473, .iload_n 3, 1), (474, .invokevirtual 256, 3), (477, .aload_n 0, 1), (478, .iconst 0, 1), (479, .invokevirtual 243, 3), (482, .aload_n 0, 1), (483, .iload 6, 2), (485, .invokevirtual 243, 3), (488, .aload_n 0, 1), (489, .aload_n 0, 1), (490, .getfield 75, 3), (493, .iload_n 3, 1), (494, .iload 5, 2), (496, .invokevirtual 256, 3), (499, .return_, 1)]
/-- 193: ClassFramesModel.pack (I)V -/
def zp_m193 : zx_M := (⟨RX12, "pack", "(I)V"⟩, prog_14_method_41_code, 12, none, (some 10), 1, 12, zp_t193_0 ++ (zp_t193_1 ++ (zp_t193_2 ++ (zp_t193_3 ++ (zp_t193_4 ++ (zp_t193_5 ++ (zp_t193_6)))))))
def zp_t194_0 : List (Nat × Instr × Nat) := [(0, .aload_n 0, 1), (1, .iconst 0, 1), (2, .putfield 100, 3), (5, .aload_n 0, 1), (6, .getfield 189, 3), (9, .ifCond .ne 6, 3), (12, .bipush (-3), 2), (14, .ireturn, 1), (15, .aload_n 0, 1), (16, .iconst 0, 1), (17, .putfield 236, 3), (20, .iconst 0, 1), (21, .istore_n 1, 1), (22, .iload_n 1, 1), (23, .aload_n 0, 1), (24, .getfield 198, 3), (27, .if_icmp .ge 14, 3), (30, .aload_n 0, 1), (31, .iload_n 1, 1), (32, .invokevirtual 259, 3), (35, .iinc 1 1, 3), (38, .goto (-16), 3), (41, .aload_n 0, 1), (42, .getfield 236, 3), (45, .ireturn, 1)]
/-- 194: ClassFramesModel.packed ()I -/
def zp_m194 : zx_M := (⟨RX12, "packed", "()I"⟩, prog_14_method_42_code, 2, (some .int), (some 10), 0, 12, zp_t194_0)
def zp_t195_0 : List (Nat × Instr × Nat) := [(0, .aload_n 0, 1), (1, .iload_n 1, 1), (2, .ifCond .lt 15, 3), (5, .iload_n 1, 1), (6, .aload_n 0, 1), (7, .getfield 236, 3), (10, .if_icmp .ge 7, 3), (13, .iconst 0, 1), (14, .goto 4, 3), (17, .iconst 1, 1), (18, .putfield 100, 3), (21, .aload_n 0, 1), (22, .getfield 100, 3), (25, .ifCond .le 7, 3), (28, .iconst 0, 1), (29, .goto 9, 3), (32, .aload_n 0, 1), (33, .getfield 69, 3), (36, .iload_n 1, 1), (37, .iaload, 1), (38, .ireturn, 1)]
/-- 195: ClassFramesModel.out (I)I -/
def zp_m195 : zx_M := (⟨RX12, "out", "(I)I"⟩, prog_14_method_43_code, 2, (some .int), (some 10), 1, 12, zp_t195_0)
def zp_t196_0 : List (Nat × Instr × Nat) := [(0, .aload_n 0, 1), (1, .iconst 0, 1), (2, .putfield 100, 3), (5, .iload_n 1, 1), (6, .iconst 1, 1), (7, .if_icmp .eq 21, 3), (10, .iload_n 1, 1), (11, .iconst 2, 1), (12, .if_icmp .eq 16, 3), (15, .iload_n 1, 1), (16, .iconst 5, 1), (17, .bipush 8, 2), (19, .invokestatic 128, 3), (22, .ifCond .ne 6, 3), (25, .bipush (-2), 2), (27, .ireturn, 1), (28, .iload_n 1, 1), (29, .iconst 2, 1), (30, .if_icmp .ne 7, 3), (33, .iconst 2, 1), (34, .goto 4, 3), (37, .iconst 1, 1), (38, .istore_n 2, 1), (39, .aload_n 0, 1), (40, .getfield 148, 3), (43, .iload_n 2, 1), (44, .iadd, 1), (45, .bipush 8, 2), (47, .if_icmp .le 6, 3), (50, .bipush (-4), 2), (52, .ireturn, 1), (53, .aload_n 0, 1), (54, .getfield 31, 3), (57, .aload_n 0, 1), (58, .getfield 148, 3), (61, .iload_n 1, 1), (62, .iastore, 1), (63, .iload_n 1, 1), (64, .iconst 2, 1), (65, .if_icmp .ne 15, 3)]
def zp_t196_1 : List (Nat × Instr × Nat) := [(68, .aload_n 0, 1), (69, .getfield 31, 3), (72, .aload_n 0, 1), (73, .getfield 148, 3), (76, .iconst 1, 1), (77, .iadd, 1), (78, .iconst 3, 1), (79, .iastore, 1), (80, .aload_n 0, 1), (81, .dup, 1), (82, .getfield 148, 3), (85, .iload_n 2, 1), (86, .iadd, 1), (87, .putfield 148, 3), (90, .aload_n 0, 1), (91, .iconst 0, 1), (92, .putfield 189, 3), (95, .aload_n 0, 1), (96, .getfield 148, 3), (99, .iload_n 2, 1), (100, .isub, 1), (101, .ireturn, 1)]
/-- 196: ClassFramesModel.parameter (I)I -/
def zp_m196 : zx_M := (⟨RX12, "parameter", "(I)I"⟩, prog_14_method_44_code, 3, (some .int), (some 10), 1, 12, zp_t196_0 ++ (zp_t196_1))
def zp_t197_0 : List (Nat × Instr × Nat) := [(0, .aload_n 0, 1), (1, .iconst 0, 1), (2, .putfield 100, 3), (5, .iload_n 1, 1), (6, .iconst 0, 1), (7, .bipush 28, 2), (9, .invokestatic 128, 3), (12, .ifCond .eq 19, 3), (15, .iload_n 1, 1), (16, .bipush 21, 2), (18, .if_icmp .ne 16, 3), (21, .iload_n 2, 1), (22, .iconst 5, 1), (23, .bipush 8, 2), (25, .invokestatic 128, 3), (28, .ifCond .ne 6, 3), (31, .bipush (-2), 2), (33, .ireturn, 1), (34, .aload_n 0, 1), (35, .getfield 151, 3), (38, .bipush 60, 2), (40, .if_icmp .ne 6, 3), (43, .bipush (-4), 2), (45, .ireturn, 1), (46, .aload_n 0, 1), (47, .getfield 7, 3), (50, .aload_n 0, 1), (51, .getfield 151, 3), (54, .iload_n 1, 1), (55, .iastore, 1), (56, .aload_n 0, 1), (57, .getfield 13, 3), (60, .aload_n 0, 1), (61, .getfield 151, 3), (64, .iload_n 2, 1), (65, .iastore, 1), (66, .aload_n 0, 1), (67, .getfield 16, 3), (70, .aload_n 0, 1), (71, .getfield 151, 3)]
def zp_t197_1 : List (Nat × Instr × Nat) := [(74, .iload_n 3, 1), (75, .iastore, 1), (76, .aload_n 0, 1), (77, .dup, 1), (78, .getfield 151, 3), (81, .iconst 1, 1), (82, .iadd, 1), (83, .putfield 151, 3), (86, .aload_n 0, 1), (87, .iconst 0, 1), (88, .putfield 189, 3), (91, .aload_n 0, 1), (92, .getfield 151, 3), (95, .iconst 1, 1), (96, .isub, 1), (97, .ireturn, 1)]
/-- 197: ClassFramesModel.operation (III)I -/
def zp_m197 : zx_M := (⟨RX12, "operation", "(III)I"⟩, prog_14_method_45_code, 4, (some .int), (some 10), 3, 12, zp_t197_0 ++ (zp_t197_1))
def zp_t198_0 : List (Nat × Instr × Nat) := [(0, .aload_n 0, 1), (1, .iconst 0, 1), (2, .putfield 100, 3), (5, .iload_n 1, 1), (6, .iconst 0, 1), (7, .bipush 60, 2), (9, .invokestatic 128, 3), (12, .ifCond .eq 35, 3), (15, .iload_n 2, 1), (16, .iconst 0, 1), (17, .bipush 60, 2), (19, .invokestatic 128, 3), (22, .ifCond .eq 25, 3), (25, .iload_n 3, 1), (26, .iconst 0, 1), (27, .bipush 60, 2), (29, .invokestatic 128, 3), (32, .ifCond .eq 15, 3), (35, .iload 4, 2), (37, .bipush 7, 2), (39, .bipush 8, 2), (41, .invokestatic 128, 3), (44, .ifCond .ne 6, 3), (47, .bipush (-2), 2), (49, .ireturn, 1), (50, .aload_n 0, 1), (51, .getfield 165, 3), (54, .bipush 6, 2), (56, .if_icmp .ne 6, 3), (59, .bipush (-4), 2), (61, .ireturn, 1), (62, .aload_n 0, 1), (63, .getfield 19, 3), (66, .aload_n 0, 1), (67, .getfield 165, 3), (70, .iload_n 1, 1), (71, .iastore, 1), (72, .aload_n 0, 1), (73, .getfield 22, 3), (76, .aload_n 0, 1)]
def zp_t198_1 : List (Nat × Instr × Nat) := [(77, .getfield 165, 3), (80, .iload_n 2, 1), (81, .iastore, 1), (82, .aload_n 0, 1), (83, .getfield 25, 3), (86, .aload_n 0, 1), (87, .getfield 165, 3), (90, .iload_n 3, 1), (91, .iastore, 1), (92, .aload_n 0, 1), (93, .getfield 28, 3), (96, .aload_n 0, 1), (97, .getfield 165, 3), (100, .iload 4, 2), (102, .iastore, 1), (103, .aload_n 0, 1), (104, .dup, 1), (105, .getfield 165, 3), (108, .iconst 1, 1), (109, .iadd, 1), (110, .putfield 165, 3), (113, .aload_n 0, 1), (114, .iconst 0, 1), (115, .putfield 189, 3), (118, .aload_n 0, 1), (119, .getfield 165, 3), (122, .iconst 1, 1), (123, .isub, 1), (124, .ireturn, 1)]
/-- 198: ClassFramesModel.handler (IIII)I -/
def zp_m198 : zx_M := (⟨RX12, "handler", "(IIII)I"⟩, prog_14_method_46_code, 5, (some .int), (some 10), 4, 12, zp_t198_0 ++ (zp_t198_1))
def zp_t199_0 : List (Nat × Instr × Nat) := [(0, .aload_n 0, 1), (1, .iconst 0, 1), (2, .putfield 100, 3), (5, .aload_n 0, 1), (6, .getfield 192, 3), (9, .ireturn, 1)]
/-- 199: ClassFramesModel.fault ()I -/
def zp_m199 : zx_M := (⟨RX12, "fault", "()I"⟩, prog_14_method_47_code, 1, (some .int), (some 10), 0, 12, zp_t199_0)
def zp_t200_0 : List (Nat × Instr × Nat) := [(0, .aload_n 0, 1), (1, .iconst 0, 1), (2, .putfield 100, 3), (5, .iload_n 1, 1), (6, .iconst 0, 1), (7, .aload_n 0, 1), (8, .getfield 151, 3), (11, .iconst 1, 1), (12, .isub, 1), (13, .invokestatic 128, 3), (16, .ifCond .ne 6, 3), (19, .bipush (-2), 2), (21, .ireturn, 1), (22, .aload_n 0, 1), (23, .getfield 189, 3), (26, .ifCond .ne 6, 3), (29, .bipush (-3), 2), (31, .ireturn, 1), (32, .aload_n 0, 1), (33, .getfield 38, 3), (36, .iload_n 1, 1), (37, .baload, 1), (38, .ifCond .eq 22, 3), (41, .iload_n 2, 1), (42, .iconst 0, 1), (43, .bipush 8, 2), (45, .aload_n 0, 1), (46, .getfield 45, 3), (49, .iload_n 1, 1), (50, .iaload, 1), (51, .iadd, 1), (52, .iconst 1, 1), (53, .isub, 1), (54, .invokestatic 128, 3), (57, .ifCond .ne 7, 3), (60, .iconst (-1), 1), (61, .goto 14, 3), (64, .aload_n 0, 1), (65, .getfield 42, 3), (68, .bipush 14, 2)]
def zp_t200_1 : List (Nat × Instr × Nat) := [(70, .iload_n 1, 1), (71, .imul, 1), (72, .iload_n 2, 1), (73, .iadd, 1), (74, .iaload, 1), (75, .ireturn, 1)]
/-- 200: ClassFramesModel.kind (II)I -/
def zp_m200 : zx_M := (⟨RX12, "kind", "(II)I"⟩, prog_14_method_48_code, 3, (some .int), (some 10), 2, 12, zp_t200_0 ++ (zp_t200_1))
def zp_t201_0 : List (Nat × Instr × Nat) := [(0, .aload_n 0, 1), (1, .iconst 0, 1), (2, .putfield 100, 3), (5, .iload_n 1, 1), (6, .iconst 0, 1), (7, .aload_n 0, 1), (8, .getfield 151, 3), (11, .iconst 1, 1), (12, .isub, 1), (13, .invokestatic 128, 3), (16, .ifCond .ne 6, 3), (19, .bipush (-2), 2), (21, .ireturn, 1), (22, .aload_n 0, 1), (23, .getfield 189, 3), (26, .ifCond .ne 8, 3), (29, .bipush (-3), 2), (31, .goto 22, 3), (34, .aload_n 0, 1), (35, .getfield 38, 3), (38, .iload_n 1, 1), (39, .baload, 1), (40, .ifCond .eq 12, 3), (43, .aload_n 0, 1), (44, .getfield 45, 3), (47, .iload_n 1, 1), (48, .iaload, 1), (49, .goto 4, 3), (52, .iconst (-1), 1), (53, .ireturn, 1)]
/-- 201: ClassFramesModel.size (I)I -/
def zp_m201 : zx_M := (⟨RX12, "size", "(I)I"⟩, prog_14_method_49_code, 2, (some .int), (some 10), 1, 12, zp_t201_0)
def zp_t202_0 : List (Nat × Instr × Nat) := [(0, .aload_n 0, 1), (1, .iconst 0, 1), (2, .putfield 100, 3), (5, .iload_n 2, 1), (6, .ifCond .ge 6, 3), (9, .bipush (-2), 2), (11, .ireturn, 1), (12, .aload_n 0, 1), (13, .getfield 189, 3), (16, .ifCond .ne 6, 3), (19, .bipush (-3), 2), (21, .ireturn, 1), (22, .iload_n 1, 1), (23, .iconst 0, 1), (24, .aload_n 0, 1), (25, .getfield 198, 3), (28, .iconst 1, 1), (29, .isub, 1), (30, .invokestatic 128, 3), (33, .ifCond .ne 6, 3), (36, .bipush (-2), 2), (38, .ireturn, 1), (39, .aload_n 0, 1), (40, .getfield 51, 3), (43, .iload_n 1, 1), (44, .iaload, 1), (45, .aload_n 0, 1), (46, .getfield 54, 3), (49, .iload_n 1, 1), (50, .iaload, 1), (51, .iadd, 1), (52, .istore_n 3, 1), (53, .iload_n 2, 1), (54, .ifCond .ne 12, 3), (57, .aload_n 0, 1), (58, .getfield 48, 3), (61, .iload_n 1, 1), (62, .iaload, 1), (63, .goto 55, 3), (66, .iload_n 2, 1)]
def zp_t202_1 : List (Nat × Instr × Nat) := [(67, .iconst 1, 1), (68, .if_icmp .ne 12, 3), (71, .aload_n 0, 1), (72, .getfield 51, 3), (75, .iload_n 1, 1), (76, .iaload, 1), (77, .goto 41, 3), (80, .iload_n 2, 1), (81, .iconst 2, 1), (82, .if_icmp .ne 12, 3), (85, .aload_n 0, 1), (86, .getfield 54, 3), (89, .iload_n 1, 1), (90, .iaload, 1), (91, .goto 27, 3), (94, .iload_n 2, 1), (95, .iconst 3, 1), (96, .isub, 1), (97, .iload_n 3, 1), (98, .if_icmp .ge 19, 3), (101, .aload_n 0, 1), (102, .getfield 57, 3), (105, .bipush 14, 2), (107, .iload_n 1, 1), (108, .imul, 1), (109, .iload_n 2, 1), (110, .iadd, 1), (111, .iconst 3, 1), (112, .isub, 1), (113, .iaload, 1), (114, .goto 4, 3), (117, .iconst (-1), 1), (118, .ireturn, 1)]
/-- 202: ClassFramesModel.frame (II)I -/
def zp_m202 : zx_M := (⟨RX12, "frame", "(II)I"⟩, prog_14_method_50_code, 4, (some .int), (some 10), 2, 12, zp_t202_0 ++ (zp_t202_1))
def zp_t203_0 : List (Nat × Instr × Nat) := [(0, .aload_n 0, 1), (1, .iconst 0, 1), (2, .putfield 100, 3), (5, .iload_n 3, 1), (6, .iconst 0, 1), (7, .bipush 8, 2), (9, .invokestatic 128, 3), (12, .ifCond .ne 6, 3), (15, .bipush (-2), 2), (17, .ireturn, 1), (18, .aload_n 0, 1), (19, .getfield 189, 3), (22, .ifCond .ne 6, 3), (25, .bipush (-3), 2), (27, .ireturn, 1), (28, .iload_n 1, 1), (29, .iconst 0, 1), (30, .aload_n 0, 1), (31, .getfield 198, 3), (34, .iconst 1, 1), (35, .isub, 1), (36, .invokestatic 128, 3), (39, .ifCond .eq 26, 3), (42, .iload_n 2, 1), (43, .iconst 0, 1), (44, .aload_n 0, 1), (45, .getfield 51, 3), (48, .iload_n 1, 1), (49, .iaload, 1), (50, .aload_n 0, 1), (51, .getfield 54, 3), (54, .iload_n 1, 1), (55, .iaload, 1), (56, .iadd, 1), (57, .iconst 1, 1), (58, .isub, 1), (59, .invokestatic 128, 3), (62, .ifCond .ne 6, 3), (65, .bipush (-2), 2), (67, .ireturn, 1)]
def zp_t203_1 : List (Nat × Instr × Nat) := [(68, .aload_n 0, 1), (69, .getfield 57, 3), (72, .bipush 14, 2), (74, .iload_n 1, 1), (75, .imul, 1), (76, .iload_n 2, 1), (77, .iadd, 1), (78, .iaload, 1), (79, .istore 4, 2), (81, .aload_n 0, 1), (82, .getfield 57, 3), (85, .bipush 14, 2), (87, .iload_n 1, 1), (88, .imul, 1), (89, .iload_n 2, 1), (90, .iadd, 1), (91, .iload_n 3, 1), (92, .iastore, 1), (93, .iload 4, 2), (95, .ireturn, 1)]
/-- 203: ClassFramesModel.plant (III)I -/
def zp_m203 : zx_M := (⟨RX12, "plant", "(III)I"⟩, prog_14_method_51_code, 5, (some .int), (some 10), 3, 12, zp_t203_0 ++ (zp_t203_1))
def zp_t204_0 : List (Nat × Instr × Nat) := [(0, .aload_n 0, 1), (1, .iconst 0, 1), (2, .putfield 100, 3), (5, .iload_n 1, 1), (6, .iconst 0, 1), (7, .bipush 7, 2), (9, .invokestatic 128, 3), (12, .ifCond .ne 7, 3), (15, .ldc2_w 262, 3), (18, .lreturn, 1), (19, .aload_n 0, 1), (20, .getfield 34, 3), (23, .iload_n 1, 1), (24, .laload, 1), (25, .lstore 4, 2), (27, .aload_n 0, 1), (28, .getfield 34, 3), (31, .iload_n 1, 1), (32, .lload_n 2, 1), (33, .lastore, 1), (34, .lload 4, 2), (36, .lreturn, 1)]
/-- 204: ClassFramesModel.argument (IJ)J -/
def zp_m204 : zx_M := (⟨RX12, "argument", "(IJ)J"⟩, prog_14_method_52_code, 6, (some .long), (some 10), 2, 12, zp_t204_0)
def zp_t205_0 : List (Nat × Instr × Nat) := [(0, .aload_n 0, 1), (1, .getfield 90, 3), (4, .aload_n 0, 1), (5, .getfield 264, 3), (8, .iload_n 1, 1), (9, .iastore, 1), (10, .iconst 0, 1), (11, .istore_n 2, 1), (12, .iload_n 2, 1), (13, .bipush 20, 2), (15, .if_icmp .ge 24, 3), (18, .aload_n 0, 1), (19, .getfield 93, 3), (22, .bipush 20, 2), (24, .aload_n 0, 1), (25, .getfield 264, 3), (28, .imul, 1), (29, .iload_n 2, 1), (30, .iadd, 1), (31, .iconst 0, 1), (32, .iastore, 1), (33, .iinc 2 1, 3), (36, .goto (-24), 3), (39, .aload_n 0, 1), (40, .dup, 1), (41, .getfield 264, 3), (44, .iconst 1, 1), (45, .iadd, 1), (46, .putfield 264, 3), (49, .aload_n 0, 1), (50, .getfield 264, 3), (53, .iconst 1, 1), (54, .isub, 1), (55, .ireturn, 1)]
/-- 205: ClassFramesModel.thing (I)I -/
def zp_m205 : zx_M := (⟨RX12, "thing", "(I)I"⟩, prog_14_method_53_code, 3, (some .int), (some 10), 1, 12, zp_t205_0)
def zp_t206_0 : List (Nat × Instr × Nat) := [(0, .aload_n 0, 1), (1, .aload_n 0, 1), (2, .getfield 60, 3), (5, .invokevirtual 201, 3), (8, .aload_n 0, 1), (9, .iconst 0, 1), (10, .putfield 110, 3), (13, .aload_n 0, 1), (14, .iconst 0, 1), (15, .putfield 264, 3), (18, .iconst 0, 1), (19, .istore_n 1, 1), (20, .iload_n 1, 1), (21, .aload_n 0, 1), (22, .getfield 148, 3), (25, .if_icmp .ge 113, 3), (28, .aload_n 0, 1), (29, .getfield 34, 3), (32, .iload_n 1, 1), (33, .laload, 1), (34, .lstore_n 2, 1), (35, .aload_n 0, 1), (36, .getfield 84, 3), (39, .iload_n 1, 1), (40, .aload_n 0, 1), (41, .getfield 60, 3), (44, .iload_n 1, 1), (45, .iaload, 1), (46, .iconst 1, 1), (47, .if_icmp .ne 9, 3), (50, .lload_n 2, 1), (51, .l2i, 1), (52, .i2l, 1), (53, .goto 4, 3), (56, .lload_n 2, 1), (57, .lastore, 1), (58, .aload_n 0, 1), (59, .getfield 60, 3), (62, .iload_n 1, 1), (63, .iaload, 1)]
def zp_t206_1 : List (Nat × Instr × Nat) := [(64, .iconst 5, 1), (65, .if_icmp .lt 67, 3), (68, .aload_n 0, 1), (69, .getfield 60, 3), (72, .iload_n 1, 1), (73, .iaload, 1), (74, .istore 4, 2), (76, .aload_n 0, 1), (77, .getfield 60, 3), (80, .iload_n 1, 1), (81, .lload_n 2, 1), (82, .lconst 0, 1), (83, .lcmp, 1), (84, .ifCond .ge 7, 3), (87, .iconst 4, 1), (88, .goto 5, 3), (91, .iload 4, 2), (93, .iastore, 1), (94, .aload_n 0, 1), (95, .getfield 84, 3), (98, .iload_n 1, 1), (99, .lload_n 2, 1), (100, .lconst 0, 1), (101, .lcmp, 1), (102, .ifCond .ge 7, 3), (105, .lconst 0, 1), (106, .goto 25, 3), (109, .aload_n 0, 1), (110, .iload 4, 2), (112, .bipush 6, 2), (114, .if_icmp .ne 12, 3), (117, .lload_n 2, 1), (118, .ldc2_w 267, 3), (121, .land, 1), (122, .l2i, 1), (123, .goto 4, 3), (126, .iconst 0, 1), (127, .invokevirtual 269, 3), (130, .i2l, 1), (131, .lastore, 1)]
def zp_t206_2 : List (Nat × Instr × Nat) := [(132, .iinc 1 1, 3), (135, .goto (-115), 3), (138, .return_, 1)]
/-- 206: ClassFramesModel.fill ()V -/
def zp_m206 : zx_M := (⟨RX12, "fill", "()V"⟩, prog_14_method_54_code, 5, none, (some 10), 0, 12, zp_t206_0 ++ (zp_t206_1 ++ (zp_t206_2)))
def zp_t207_0 : List (Nat × Instr × Nat) := [(0, .aload_n 0, 1), (1, .iconst 1, 1), (2, .putfield 272, 3), (5, .aload_n 0, 1), (6, .iload_n 1, 1), (7, .putfield 275, 3), (10, .return_, 1)]
/-- 207: ClassFramesModel.over (I)V -/
def zp_m207 : zx_M := (⟨RX12, "over", "(I)V"⟩, prog_14_method_55_code, 2, none, (some 10), 1, 12, zp_t207_0)
def zp_t208_0 : List (Nat × Instr × Nat) := [(0, .aload_n 0, 1), (1, .iload_n 1, 1), (2, .putfield 192, 3), (5, .aload_n 0, 1), (6, .bipush (-10), 2), (8, .iload_n 2, 1), (9, .isub, 1), (10, .invokevirtual 278, 3), (13, .return_, 1)]
/-- 208: ClassFramesModel.bad (II)V -/
def zp_m208 : zx_M := (⟨RX12, "bad", "(II)V"⟩, prog_14_method_56_code, 3, none, (some 10), 2, 12, zp_t208_0)
def zp_t209_0 : List (Nat × Instr × Nat) := [(0, .iload_n 1, 1), (1, .iconst 0, 1), (2, .aload_n 0, 1), (3, .getfield 151, 3), (6, .iconst 1, 1), (7, .isub, 1), (8, .invokestatic 128, 3), (11, .ifCond .eq 11, 3), (14, .aload_n 0, 1), (15, .iload_n 1, 1), (16, .putfield 281, 3), (19, .goto 10, 3), (22, .aload_n 0, 1), (23, .bipush 7, 2), (25, .iload_n 2, 1), (26, .invokevirtual 284, 3), (29, .return_, 1)]
/-- 209: ClassFramesModel.go (II)V -/
def zp_m209 : zx_M := (⟨RX12, "go", "(II)V"⟩, prog_14_method_57_code, 3, none, (some 10), 2, 12, zp_t209_0)
def zp_t210_0 : List (Nat × Instr × Nat) := [(0, .iconst 0, 1), (1, .istore 4, 2), (3, .iload 4, 2), (5, .aload_n 0, 1), (6, .getfield 165, 3), (9, .if_icmp .ge 68, 3), (12, .aload_n 0, 1), (13, .iload 4, 2), (15, .iload_n 1, 1), (16, .invokevirtual 168, 3), (19, .ifCond .eq 52, 3), (22, .iload_n 2, 1), (23, .aload_n 0, 1), (24, .getfield 28, 3), (27, .iload 4, 2), (29, .iaload, 1), (30, .invokestatic 103, 3), (33, .ifCond .eq 38, 3), (36, .aload_n 0, 1), (37, .iconst 1, 1), (38, .putfield 110, 3), (41, .aload_n 0, 1), (42, .getfield 60, 3), (45, .bipush 8, 2), (47, .iload_n 2, 1), (48, .iastore, 1), (49, .aload_n 0, 1), (50, .getfield 84, 3), (53, .bipush 8, 2), (55, .iload_n 3, 1), (56, .i2l, 1), (57, .lastore, 1), (58, .aload_n 0, 1), (59, .aload_n 0, 1), (60, .getfield 25, 3), (63, .iload 4, 2), (65, .iaload, 1), (66, .iload_n 1, 1), (67, .invokevirtual 288, 3), (70, .return_, 1)]
def zp_t210_1 : List (Nat × Instr × Nat) := [(71, .iinc 4 1, 3), (74, .goto (-71), 3), (77, .aload_n 0, 1), (78, .aload_n 0, 1), (79, .getfield 90, 3), (82, .iload_n 3, 1), (83, .iaload, 1), (84, .putfield 291, 3), (87, .aload_n 0, 1), (88, .iconst 1, 1), (89, .invokevirtual 278, 3), (92, .return_, 1)]
/-- 210: ClassFramesModel.raise (III)V -/
def zp_m210 : zx_M := (⟨RX12, "raise", "(III)V"⟩, prog_14_method_58_code, 5, none, (some 10), 3, 12, zp_t210_0 ++ (zp_t210_1))
def zp_t211_0 : List (Nat × Instr × Nat) := [(0, .aload_n 0, 1), (1, .dup, 1), (2, .getfield 294, 3), (5, .iconst 1, 1), (6, .iadd, 1), (7, .putfield 294, 3), (10, .aload_n 0, 1), (11, .iload_n 1, 1), (12, .bipush 7, 2), (14, .aload_n 0, 1), (15, .iload_n 2, 1), (16, .invokevirtual 269, 3), (19, .invokevirtual 297, 3), (22, .return_, 1)]
/-- 211: ClassFramesModel.refuse (II)V -/
def zp_m211 : zx_M := (⟨RX12, "refuse", "(II)V"⟩, prog_14_method_59_code, 3, none, (some 10), 2, 12, zp_t211_0)
def zp_t212_0 : List (Nat × Instr × Nat) := [(0, .aload_n 0, 1), (1, .getfield 7, 3), (4, .iload_n 1, 1), (5, .iaload, 1), (6, .istore_n 3, 1), (7, .iload_n 3, 1), (8, .bipush 17, 2), (10, .if_icmp .ne 9, 3), (13, .iload_n 2, 1), (14, .iconst 1, 1), (15, .isub, 1), (16, .goto 16, 3), (19, .iload_n 3, 1), (20, .bipush 18, 2), (22, .if_icmp .ne 9, 3), (25, .iload_n 2, 1), (26, .iconst 2, 1), (27, .isub, 1), (28, .goto 4, 3), (31, .iload_n 2, 1), (32, .istore 4, 2), (34, .aload_n 0, 1), (35, .getfield 87, 3), (38, .iload 4, 2), (40, .iaload, 1), (41, .iconst 4, 1), (42, .if_icmp .ne 10, 3), (45, .aload_n 0, 1), (46, .iload_n 1, 1), (47, .iconst 1, 1), (48, .invokevirtual 301, 3), (51, .return_, 1), (52, .aload_n 0, 1), (53, .getfield 84, 3), (56, .iload 4, 2), (58, .laload, 1), (59, .l2i, 1), (60, .istore 5, 2), (62, .iload_n 3, 1), (63, .bipush 19, 2)]
def zp_t212_1 : List (Nat × Instr × Nat) := [(65, .if_icmp .ne 18, 3), (68, .aload_n 0, 1), (69, .getfield 84, 3), (72, .iload_n 2, 1), (73, .aload_n 0, 1), (74, .getfield 90, 3), (77, .iload 5, 2), (79, .iaload, 1), (80, .i2l, 1), (81, .lastore, 1), (82, .return_, 1), (83, .aload_n 0, 1), (84, .getfield 84, 3), (87, .iload 4, 2), (89, .iconst 1, 1), (90, .iadd, 1), (91, .laload, 1), (92, .lstore 6, 2), (94, .lload 6, 2), (96, .lconst 0, 1), (97, .lcmp, 1), (98, .ifCond .lt 17, 3), (101, .lload 6, 2), (103, .aload_n 0, 1), (104, .getfield 90, 3), (107, .iload 5, 2), (109, .iaload, 1), (110, .i2l, 1), (111, .lcmp, 1), (112, .ifCond .lt 12, 3), (115, .aload_n 0, 1), (116, .iload_n 1, 1), (117, .iconst 2, 1), (118, .invokevirtual 301, 3), (121, .goto 55, 3), (124, .iload_n 3, 1), (125, .bipush 17, 2), (127, .if_icmp .ne 28, 3), (130, .aload_n 0, 1), (131, .getfield 84, 3)]
def zp_t212_2 : List (Nat × Instr × Nat) := [(134, .iload 4, 2), (136, .aload_n 0, 1), (137, .getfield 93, 3), (140, .bipush 20, 2), (142, .iload 5, 2), (144, .imul, 1), (145, .lload 6, 2), (147, .l2i, 1), (148, .iadd, 1), (149, .iaload, 1), (150, .i2l, 1), (151, .lastore, 1), (152, .goto 24, 3), (155, .aload_n 0, 1), (156, .getfield 93, 3), (159, .bipush 20, 2), (161, .iload 5, 2), (163, .imul, 1), (164, .lload 6, 2), (166, .l2i, 1), (167, .iadd, 1), (168, .aload_n 0, 1), (169, .getfield 84, 3), (172, .iload_n 2, 1), (173, .laload, 1), (174, .l2i, 1), (175, .iastore, 1), (176, .return_, 1)]
/-- 212: ClassFramesModel.row (II)V -/
def zp_m212 : zx_M := (⟨RX12, "row", "(II)V"⟩, prog_14_method_60_code, 8, none, (some 10), 2, 12, zp_t212_0 ++ (zp_t212_1 ++ (zp_t212_2)))
def zp_t213_0 : List (Nat × Instr × Nat) := [(0, .aload_n 0, 1), (1, .getfield 7, 3), (4, .iload_n 1, 1), (5, .iaload, 1), (6, .tableswitch 155 12 15 #[30, 58, 106, 134], 30), (36, .aload_n 0, 1), (37, .getfield 84, 3), (40, .iload_n 2, 1), (41, .iconst 1, 1), (42, .isub, 1), (43, .aload_n 0, 1), (44, .getfield 84, 3), (47, .iload_n 2, 1), (48, .iconst 1, 1), (49, .isub, 1), (50, .laload, 1), (51, .aload_n 0, 1), (52, .getfield 84, 3), (55, .iload_n 2, 1), (56, .laload, 1), (57, .ladd, 1), (58, .l2i, 1), (59, .i2l, 1), (60, .lastore, 1), (61, .goto 100, 3), (64, .aload_n 0, 1), (65, .getfield 84, 3), (68, .iload_n 2, 1), (69, .laload, 1), (70, .lconst 0, 1), (71, .lcmp, 1), (72, .ifCond .ne 12, 3), (75, .aload_n 0, 1), (76, .iload_n 1, 1), (77, .iconst 5, 1), (78, .invokevirtual 301, 3), (81, .goto 80, 3), (84, .aload_n 0, 1), (85, .getfield 84, 3), (88, .iload_n 2, 1)]
def zp_t213_1 : List (Nat × Instr × Nat) := [(89, .iconst 1, 1), (90, .isub, 1), (91, .aload_n 0, 1), (92, .getfield 84, 3), (95, .iload_n 2, 1), (96, .iconst 1, 1), (97, .isub, 1), (98, .laload, 1), (99, .aload_n 0, 1), (100, .getfield 84, 3), (103, .iload_n 2, 1), (104, .laload, 1), (105, .ldiv, 1), (106, .l2i, 1), (107, .i2l, 1), (108, .lastore, 1), (109, .goto 52, 3), (112, .aload_n 0, 1), (113, .getfield 84, 3), (116, .iload_n 2, 1), (117, .iconst 3, 1), (118, .isub, 1), (119, .aload_n 0, 1), (120, .getfield 84, 3), (123, .iload_n 2, 1), (124, .iconst 3, 1), (125, .isub, 1), (126, .laload, 1), (127, .aload_n 0, 1), (128, .getfield 84, 3), (131, .iload_n 2, 1), (132, .iconst 1, 1), (133, .isub, 1), (134, .laload, 1), (135, .ladd, 1), (136, .lastore, 1), (137, .goto 24, 3), (140, .aload_n 0, 1), (141, .getfield 84, 3), (144, .iload_n 2, 1)]
def zp_t213_2 : List (Nat × Instr × Nat) := [(145, .iconst 1, 1), (146, .isub, 1), (147, .aload_n 0, 1), (148, .getfield 84, 3), (151, .iload_n 2, 1), (152, .iconst 1, 1), (153, .isub, 1), (154, .laload, 1), (155, .l2i, 1), (156, .i2l, 1), (157, .lastore, 1), (158, .goto 3, 3), (161, .return_, 1)]
/-- 213: ClassFramesModel.numbers (II)V -/
def zp_m213 : zx_M := (⟨RX12, "numbers", "(II)V"⟩, prog_14_method_61_code, 3, none, (some 10), 2, 12, zp_t213_0 ++ (zp_t213_1 ++ (zp_t213_2)))
def zp_t214_0 : List (Nat × Instr × Nat) := [(0, .aload_n 0, 1), (1, .getfield 7, 3), (4, .iload_n 1, 1), (5, .iaload, 1), (6, .tableswitch 107 1 6 #[38, 38, 56, 68, 68, 85], 38), (44, .aload_n 0, 1), (45, .getfield 84, 3), (48, .iload_n 2, 1), (49, .iconst 1, 1), (50, .iadd, 1), (51, .aload_n 0, 1), (52, .getfield 13, 3), (55, .iload_n 1, 1), (56, .iaload, 1), (57, .i2l, 1), (58, .lastore, 1), (59, .goto 115, 3), (62, .aload_n 0, 1), (63, .getfield 84, 3), (66, .iload_n 2, 1), (67, .iconst 1, 1), (68, .iadd, 1), (69, .lconst 0, 1), (70, .lastore, 1), (71, .goto 103, 3), (74, .aload_n 0, 1), (75, .getfield 84, 3), (78, .iload_n 2, 1), (79, .iconst 1, 1), (80, .iadd, 1), (81, .aload_n 0, 1), (82, .iconst 0, 1), (83, .invokevirtual 269, 3), (86, .i2l, 1), (87, .lastore, 1), (88, .goto 86, 3), (91, .aload_n 0, 1), (92, .getfield 84, 3), (95, .iload_n 2, 1), (96, .iconst 1, 1)]
def zp_t214_1 : List (Nat × Instr × Nat) := [(97, .iadd, 1), (98, .aload_n 0, 1), (99, .aload_n 0, 1), (100, .getfield 13, 3), (103, .iload_n 1, 1), (104, .iaload, 1), (105, .invokevirtual 269, 3), (108, .i2l, 1), (109, .lastore, 1), (110, .goto 64, 3), (113, .aload_n 0, 1), (114, .getfield 84, 3), (117, .iload_n 2, 1), (118, .laload, 1), (119, .lconst 0, 1), (120, .lcmp, 1), (121, .ifCond .ge 12, 3), (124, .aload_n 0, 1), (125, .iload_n 1, 1), (126, .iconst 3, 1), (127, .invokevirtual 301, 3), (130, .goto 44, 3), (133, .aload_n 0, 1), (134, .getfield 84, 3), (137, .iload_n 2, 1), (138, .laload, 1), (139, .ldc2_w 304, 3), (142, .lcmp, 1), (143, .ifCond .le 13, 3), (146, .aload_n 0, 1), (147, .iload_n 1, 1), (148, .bipush 6, 2), (150, .invokevirtual 301, 3), (153, .goto 21, 3), (156, .aload_n 0, 1), (157, .getfield 84, 3), (160, .iload_n 2, 1), (161, .aload_n 0, 1), (162, .aload_n 0, 1), (163, .getfield 84, 3)]
def zp_t214_2 : List (Nat × Instr × Nat) := [(166, .iload_n 2, 1), (167, .laload, 1), (168, .l2i, 1), (169, .invokevirtual 269, 3), (172, .i2l, 1), (173, .lastore, 1), (174, .return_, 1)]
/-- 214: ClassFramesModel.makes (II)V -/
def zp_m214 : zx_M := (⟨RX12, "makes", "(II)V"⟩, prog_14_method_62_code, 3, none, (some 10), 2, 12, zp_t214_0 ++ (zp_t214_1 ++ (zp_t214_2)))
def zp_t215_0 : List (Nat × Instr × Nat) := [(0, .aload_n 0, 1), (1, .getfield 13, 3), (4, .iload_n 1, 1), (5, .iaload, 1), (6, .istore_n 3, 1), (7, .aload_n 0, 1), (8, .getfield 7, 3), (11, .iload_n 1, 1), (12, .iaload, 1), (13, .tableswitch 443 0 28 #[131, 443, 443, 443, 443, 443, 443, 443, 134, 151, 131, 131, 443, 443, 443, 443, 443, 187, 187, 187, 196, 237, 271, 311, 319, 328, 348, 367, 418], 131), (144, .goto 338, 3), (147, .aload_n 0, 1), (148, .getfield 84, 3), (151, .iload_n 2, 1), (152, .iconst 1, 1), (153, .iadd, 1), (154, .aload_n 0, 1), (155, .getfield 84, 3), (158, .iload_n 3, 1), (159, .laload, 1), (160, .lastore, 1), (161, .goto 321, 3), (164, .aload_n 0, 1), (165, .getfield 84, 3), (168, .iload_n 3, 1), (169, .aload_n 0, 1), (170, .getfield 87, 3), (173, .iload_n 2, 1), (174, .iaload, 1), (175, .iconst 3, 1), (176, .if_icmp .ne 14, 3), (179, .aload_n 0, 1), (180, .getfield 84, 3), (183, .iload_n 2, 1), (184, .iconst 1, 1), (185, .isub, 1), (186, .laload, 1), (187, .goto 9, 3), (190, .aload_n 0, 1), (191, .getfield 84, 3)]
def zp_t215_1 : List (Nat × Instr × Nat) := [(194, .iload_n 2, 1), (195, .laload, 1), (196, .lastore, 1), (197, .goto 285, 3), (200, .aload_n 0, 1), (201, .iload_n 1, 1), (202, .iload_n 2, 1), (203, .invokevirtual 306, 3), (206, .goto 276, 3), (209, .aload_n 0, 1), (210, .getfield 87, 3), (213, .iload_n 2, 1), (214, .iaload, 1), (215, .iconst 4, 1), (216, .if_icmp .ne 12, 3), (219, .aload_n 0, 1), (220, .iload_n 1, 1), (221, .iconst 1, 1), (222, .invokevirtual 301, 3), (225, .goto 257, 3), (228, .aload_n 0, 1), (229, .getfield 84, 3), (232, .iload_n 2, 1), (233, .aload_n 0, 1), (234, .getfield 90, 3), (237, .aload_n 0, 1), (238, .getfield 84, 3), (241, .iload_n 2, 1), (242, .laload, 1), (243, .l2i, 1), (244, .iaload, 1), (245, .i2l, 1), (246, .lastore, 1), (247, .goto 235, 3), (250, .aload_n 0, 1), (251, .getfield 60, 3), (254, .iload_n 2, 1), (255, .aload_n 0, 1), (256, .getfield 87, 3), (259, .iload_n 2, 1)]
def zp_t215_2 : List (Nat × Instr × Nat) := [(260, .iaload, 1), (261, .iastore, 1), (262, .aload_n 0, 1), (263, .getfield 87, 3), (266, .iload_n 2, 1), (267, .iaload, 1), (268, .iload_n 3, 1), (269, .invokestatic 103, 3), (272, .ifCond .ne 210, 3), (275, .aload_n 0, 1), (276, .iload_n 1, 1), (277, .iconst 4, 1), (278, .invokevirtual 301, 3), (281, .goto 201, 3), (284, .aload_n 0, 1), (285, .getfield 87, 3), (288, .iload_n 2, 1), (289, .iaload, 1), (290, .iconst 4, 1), (291, .if_icmp .ne 12, 3), (294, .aload_n 0, 1), (295, .iload_n 1, 1), (296, .iconst 1, 1), (297, .invokevirtual 301, 3), (300, .goto 182, 3), (303, .aload_n 0, 1), (304, .iload_n 1, 1), (305, .aload_n 0, 1), (306, .getfield 87, 3), (309, .iload_n 2, 1), (310, .iaload, 1), (311, .aload_n 0, 1), (312, .getfield 84, 3), (315, .iload_n 2, 1), (316, .laload, 1), (317, .l2i, 1), (318, .invokevirtual 297, 3), (321, .goto 161, 3), (324, .aload_n 0, 1), (325, .iconst 0, 1)]
def zp_t215_3 : List (Nat × Instr × Nat) := [(326, .invokevirtual 278, 3), (329, .goto 153, 3), (332, .aload_n 0, 1), (333, .iload_n 3, 1), (334, .iload_n 1, 1), (335, .invokevirtual 288, 3), (338, .goto 144, 3), (341, .aload_n 0, 1), (342, .getfield 84, 3), (345, .iload_n 2, 1), (346, .laload, 1), (347, .lconst 0, 1), (348, .lcmp, 1), (349, .ifCond .ne 133, 3), (352, .aload_n 0, 1), (353, .iload_n 3, 1), (354, .iload_n 1, 1), (355, .invokevirtual 288, 3), (358, .goto 124, 3), (361, .aload_n 0, 1), (362, .getfield 87, 3), (365, .iload_n 2, 1), (366, .iaload, 1), (367, .iconst 4, 1), (368, .if_icmp .ne 114, 3), (371, .aload_n 0, 1), (372, .iload_n 3, 1), (373, .iload_n 1, 1), (374, .invokevirtual 288, 3), (377, .goto 105, 3), (380, .aload_n 0, 1), (381, .getfield 84, 3), (384, .iload_n 2, 1), (385, .laload, 1), (386, .lconst 0, 1), (387, .lcmp, 1), (388, .ifCond .eq 14, 3), (391, .aload_n 0, 1), (392, .getfield 84, 3), (395, .iload_n 2, 1)]
def zp_t215_4 : List (Nat × Instr × Nat) := [(396, .laload, 1), (397, .lconst 1, 1), (398, .lcmp, 1), (399, .ifCond .ne 83, 3), (402, .aload_n 0, 1), (403, .aload_n 0, 1), (404, .getfield 84, 3), (407, .iload_n 2, 1), (408, .laload, 1), (409, .lconst 0, 1), (410, .lcmp, 1), (411, .ifCond .ne 7, 3), (414, .iload_n 3, 1), (415, .goto 9, 3), (418, .aload_n 0, 1), (419, .getfield 16, 3), (422, .iload_n 1, 1), (423, .iaload, 1), (424, .iload_n 1, 1), (425, .invokevirtual 288, 3), (428, .goto 54, 3), (431, .aload_n 0, 1), (432, .getfield 84, 3), (435, .iload_n 3, 1), (436, .aload_n 0, 1), (437, .getfield 84, 3), (440, .iload_n 3, 1), (441, .laload, 1), (442, .aload_n 0, 1), (443, .getfield 16, 3), (446, .iload_n 1, 1), (447, .iaload, 1), (448, .i2l, 1), (449, .ladd, 1), (450, .l2i, 1), (451, .i2l, 1), (452, .lastore, 1), (453, .goto 29, 3), (456, .aload_n 0, 1), (457, .getfield 7, 3)]
def zp_t215_5 : List (Nat × Instr × Nat) := [(460, .iload_n 1, 1), (461, .iaload, 1), (462, .bipush 8, 2), (464, .if_icmp .ge 12, 3), (467, .aload_n 0, 1), (468, .iload_n 1, 1), (469, .iload_n 2, 1), (470, .invokevirtual 309, 3), (473, .goto 9, 3), (476, .aload_n 0, 1), (477, .iload_n 1, 1), (478, .iload_n 2, 1), (479, .invokevirtual 312, 3), (482, .return_, 1)]
/-- 215: ClassFramesModel.acts (II)V -/
def zp_m215 : zx_M := (⟨RX12, "acts", "(II)V"⟩, prog_14_method_63_code, 4, none, (some 10), 2, 12, zp_t215_0 ++ (zp_t215_1 ++ (zp_t215_2 ++ (zp_t215_3 ++ (zp_t215_4 ++ (zp_t215_5))))))
def zp_t216_0 : List (Nat × Instr × Nat) := [(0, .iconst 0, 1), (1, .istore_n 2, 1), (2, .iload_n 2, 1), (3, .bipush 14, 2), (5, .if_icmp .ge 21, 3), (8, .aload_n 0, 1), (9, .getfield 87, 3), (12, .iload_n 2, 1), (13, .aload_n 0, 1), (14, .getfield 60, 3), (17, .iload_n 2, 1), (18, .iaload, 1), (19, .iastore, 1), (20, .iinc 2 1, 3), (23, .goto (-21), 3), (26, .bipush 8, 2), (28, .aload_n 0, 1), (29, .getfield 110, 3), (32, .iadd, 1), (33, .iconst 1, 1), (34, .isub, 1), (35, .istore_n 2, 1), (36, .aload_n 0, 1), (37, .iload_n 1, 1), (38, .invokevirtual 175, 3), (41, .istore_n 3, 1), (42, .iload_n 3, 1), (43, .ifCond .eq 10, 3), (46, .aload_n 0, 1), (47, .iload_n 3, 1), (48, .iload_n 1, 1), (49, .invokevirtual 284, 3), (52, .return_, 1), (53, .aload_n 0, 1), (54, .iconst (-1), 1), (55, .putfield 281, 3), (58, .aload_n 0, 1), (59, .iload_n 1, 1), (60, .iload_n 2, 1), (61, .invokevirtual 315, 3)]
def zp_t216_1 : List (Nat × Instr × Nat) := [(64, .aload_n 0, 1), (65, .getfield 272, 3), (68, .ifCond .ne 38, 3), (71, .aload_n 0, 1), (72, .getfield 281, 3), (75, .iconst (-1), 1), (76, .if_icmp .ne 30, 3), (79, .iload_n 1, 1), (80, .iconst 1, 1), (81, .iadd, 1), (82, .aload_n 0, 1), (83, .getfield 151, 3), (86, .if_icmp .ne 13, 3), (89, .aload_n 0, 1), (90, .bipush 6, 2), (92, .iload_n 1, 1), (93, .invokevirtual 284, 3), (96, .goto 10, 3), (99, .aload_n 0, 1), (100, .iload_n 1, 1), (101, .iconst 1, 1), (102, .iadd, 1), (103, .putfield 281, 3), (106, .return_, 1)]
/-- 216: ClassFramesModel.step (I)V -/
def zp_m216 : zx_M := (⟨RX12, "step", "(I)V"⟩, prog_14_method_64_code, 4, none, (some 10), 1, 12, zp_t216_0 ++ (zp_t216_1))
def zp_t217_0 : List (Nat × Instr × Nat) := [(0, .aload_n 0, 1), (1, .iconst 0, 1), (2, .putfield 100, 3), (5, .iload_n 1, 1), (6, .iconst 0, 1), (7, .sipush 300, 3), (10, .invokestatic 128, 3), (13, .ifCond .ne 6, 3), (16, .bipush (-2), 2), (18, .ireturn, 1), (19, .aload_n 0, 1), (20, .getfield 294, 3), (23, .sipush 1000, 3), (26, .if_icmp .lt 6, 3), (29, .bipush (-4), 2), (31, .ireturn, 1), (32, .aload_n 0, 1), (33, .iconst 1, 1), (34, .putfield 318, 3), (37, .aload_n 0, 1), (38, .iconst 0, 1), (39, .putfield 192, 3), (42, .aload_n 0, 1), (43, .iconst (-1), 1), (44, .putfield 96, 3), (47, .aload_n 0, 1), (48, .lconst 0, 1), (49, .putfield 321, 3), (52, .aload_n 0, 1), (53, .iconst 0, 1), (54, .putfield 325, 3), (57, .aload_n 0, 1), (58, .iconst 0, 1), (59, .putfield 291, 3), (62, .aload_n 0, 1), (63, .iconst (-1), 1), (64, .putfield 328, 3), (67, .aload_n 0, 1), (68, .getfield 151, 3), (71, .ifCond .ne 12, 3)]
def zp_t217_1 : List (Nat × Instr × Nat) := [(74, .aload_n 0, 1), (75, .bipush 6, 2), (77, .putfield 192, 3), (80, .bipush (-9), 2), (82, .ireturn, 1), (83, .aload_n 0, 1), (84, .invokevirtual 331, 3), (87, .aload_n 0, 1), (88, .iconst 0, 1), (89, .putfield 272, 3), (92, .iconst 0, 1), (93, .istore_n 2, 1), (94, .aload_n 0, 1), (95, .getfield 272, 3), (98, .ifCond .ne 47, 3), (101, .aload_n 0, 1), (102, .iload_n 2, 1), (103, .putfield 328, 3), (106, .aload_n 0, 1), (107, .getfield 325, 3), (110, .iload_n 1, 1), (111, .if_icmp .ne 11, 3), (114, .aload_n 0, 1), (115, .iconst 2, 1), (116, .invokevirtual 278, 3), (119, .goto (-25), 3), (122, .aload_n 0, 1), (123, .dup, 1), (124, .getfield 325, 3), (127, .iconst 1, 1), (128, .iadd, 1), (129, .putfield 325, 3), (132, .aload_n 0, 1), (133, .iload_n 2, 1), (134, .invokevirtual 334, 3), (137, .aload_n 0, 1), (138, .getfield 281, 3), (141, .istore_n 2, 1), (142, .goto (-48), 3), (145, .aload_n 0, 1)]
def zp_t217_2 : List (Nat × Instr × Nat) := [(146, .getfield 275, 3), (149, .ifCond .ne 107, 3), (152, .aload_n 0, 1), (153, .getfield 110, 3), (156, .ifCond .le 100, 3), (159, .aload_n 0, 1), (160, .invokevirtual 117, 3), (163, .iconst 3, 1), (164, .if_icmp .ne 7, 3), (167, .iconst 1, 1), (168, .goto 4, 3), (171, .iconst 0, 1), (172, .istore_n 3, 1), (173, .aload_n 0, 1), (174, .iload_n 3, 1), (175, .ifCond .eq 7, 3), (178, .iconst 2, 1), (179, .goto 7, 3), (182, .aload_n 0, 1), (183, .invokevirtual 117, 3), (186, .putfield 96, 3), (189, .aload_n 0, 1), (190, .getfield 84, 3), (193, .bipush 8, 2), (195, .aload_n 0, 1), (196, .getfield 110, 3), (199, .iadd, 1), (200, .iload_n 3, 1), (201, .ifCond .eq 7, 3), (204, .iconst 2, 1), (205, .goto 4, 3), (208, .iconst 1, 1), (209, .isub, 1), (210, .laload, 1), (211, .lstore 4, 2), (213, .aload_n 0, 1), (214, .aload_n 0, 1), (215, .getfield 96, 3), (218, .iconst 1, 1), (219, .if_icmp .eq 7, 3)]
def zp_t217_3 : List (Nat × Instr × Nat) := [(222, .iload_n 3, 1), (223, .ifCond .eq 8, 3), (226, .lload 4, 2), (228, .goto 25, 3), (231, .aload_n 0, 1), (232, .getfield 96, 3), (235, .bipush 6, 2), (237, .if_icmp .lt 15, 3), (240, .aload_n 0, 1), (241, .getfield 90, 3), (244, .lload 4, 2), (246, .l2i, 1), (247, .iaload, 1), (248, .i2l, 1), (249, .goto 4, 3), (252, .lconst 0, 1), (253, .putfield 321, 3), (256, .aload_n 0, 1), (257, .getfield 275, 3), (260, .ireturn, 1)]
/-- 217: ClassFramesModel.run (I)I -/
def zp_m217 : zx_M := (⟨RX12, "run", "(I)I"⟩, prog_14_method_65_code, 6, (some .int), (some 10), 1, 12, zp_t217_0 ++ (zp_t217_1 ++ (zp_t217_2 ++ (zp_t217_3))))
def zp_t218_0 : List (Nat × Instr × Nat) := [(0, .aload_n 0, 1), (1, .iconst 0, 1), (2, .putfield 100, 3), (5, .aload_n 0, 1), (6, .getfield 318, 3), (9, .ifCond .ne 5, 3), (12, .lconst 0, 1), (13, .lreturn, 1), (14, .iload_n 1, 1), (15, .ifCond .ne 11, 3), (18, .aload_n 0, 1), (19, .getfield 96, 3), (22, .i2l, 1), (23, .goto 55, 3), (26, .iload_n 1, 1), (27, .iconst 1, 1), (28, .if_icmp .ne 10, 3), (31, .aload_n 0, 1), (32, .getfield 321, 3), (35, .goto 43, 3), (38, .iload_n 1, 1), (39, .iconst 2, 1), (40, .if_icmp .ne 11, 3), (43, .aload_n 0, 1), (44, .getfield 328, 3), (47, .i2l, 1), (48, .goto 30, 3), (51, .iload_n 1, 1), (52, .iconst 3, 1), (53, .if_icmp .ne 11, 3), (56, .aload_n 0, 1), (57, .getfield 325, 3), (60, .i2l, 1), (61, .goto 17, 3), (64, .iload_n 1, 1), (65, .iconst 4, 1), (66, .if_icmp .ne 11, 3), (69, .aload_n 0, 1), (70, .getfield 291, 3), (73, .i2l, 1)]
def zp_t218_1 : List (Nat × Instr × Nat) := [(74, .goto 4, 3), (77, .lconst 0, 1), (78, .lreturn, 1)]
/-- 218: ClassFramesModel.told (I)J -/
def zp_m218 : zx_M := (⟨RX12, "told", "(I)J"⟩, prog_14_method_66_code, 2, (some .long), (some 10), 1, 12, zp_t218_0 ++ (zp_t218_1))
def zp_t219_0 : List (Nat × Instr × Nat) := [(0, .aload_n 0, 1), (1, .iconst 0, 1), (2, .putfield 100, 3), (5, .iconst 0, 1), (6, .istore_n 2, 1), (7, .iconst 0, 1), (8, .istore_n 3, 1), (9, .iload_n 3, 1), (10, .aload_n 0, 1), (11, .getfield 151, 3), (14, .if_icmp .ge 26, 3), (17, .iload_n 2, 1), (18, .aload_n 0, 1), (19, .getfield 38, 3), (22, .iload_n 3, 1), (23, .baload, 1), (24, .ifCond .eq 7, 3), (27, .iconst 0, 1), (28, .goto 4, 3), (31, .iconst 1, 1), (32, .iadd, 1), (33, .istore_n 2, 1), (34, .iinc 3 1, 3), (37, .goto (-28), 3), (40, .iload_n 1, 1), (41, .tableswitch 88 0 5 #[39, 44, 49, 54, 70, 83], 39), (80, .aload_n 0, 1), (81, .getfield 151, 3), (84, .ireturn, 1), (85, .aload_n 0, 1), (86, .getfield 165, 3), (89, .ireturn, 1), (90, .aload_n 0, 1), (91, .getfield 148, 3), (94, .ireturn, 1), (95, .aload_n 0, 1), (96, .getfield 189, 3), (99, .ifCond .eq 10, 3), (102, .aload_n 0, 1), (103, .getfield 198, 3)]
def zp_t219_1 : List (Nat × Instr × Nat) := [(106, .goto 4, 3), (109, .iconst 0, 1), (110, .ireturn, 1), (111, .aload_n 0, 1), (112, .getfield 189, 3), (115, .ifCond .eq 7, 3), (118, .iload_n 2, 1), (119, .goto 4, 3), (122, .iconst 0, 1), (123, .ireturn, 1), (124, .aload_n 0, 1), (125, .getfield 195, 3), (128, .ireturn, 1), (129, .bipush (-2), 2), (131, .ireturn, 1)]
/-- 219: ClassFramesModel.count (I)I -/
def zp_m219 : zx_M := (⟨RX12, "count", "(I)I"⟩, prog_14_method_67_code, 4, (some .int), (some 10), 1, 12, zp_t219_0 ++ (zp_t219_1))
def zp_t220_0 : List (Nat × Instr × Nat) := [(0, .aload_n 0, 1), (1, .iconst 0, 1), (2, .putfield 100, 3), (5, .aload_n 0, 1), (6, .getfield 151, 3), (9, .istore_n 1, 1), (10, .aload_n 0, 1), (11, .iconst 0, 1), (12, .putfield 151, 3), (15, .aload_n 0, 1), (16, .iconst 0, 1), (17, .putfield 165, 3), (20, .aload_n 0, 1), (21, .iconst 0, 1), (22, .putfield 148, 3), (25, .aload_n 0, 1), (26, .iconst 0, 1), (27, .putfield 189, 3), (30, .iload_n 1, 1), (31, .ireturn, 1)]
/-- 220: ClassFramesModel.clear ()I -/
def zp_m220 : zx_M := (⟨RX12, "clear", "()I"⟩, prog_14_method_68_code, 2, (some .int), (some 10), 0, 12, zp_t220_0)
def zp_t221_0 : List (Nat × Instr × Nat) := [(0, .iconst 0, 1), (1, .istore_n 2, 1), (2, .aload_n 0, 1), (3, .arraylength, 1), (4, .istore_n 3, 1), (5, .iload_n 2, 1), (6, .iload_n 3, 1), (7, .if_icmp .ge 13, 3), (10, .aload_n 0, 1), (11, .iload_n 2, 1), (12, .iload_n 1, 1), (13, .iastore, 1), (14, .iinc 2 1, 3), (17, .goto (-12), 3), (20, .return_, 1)]
/-- 221: java/util/Arrays.fill ([II)V -/
def zp_m221 : zx_M := (⟨RJ7, "fill", "([II)V"⟩, prog_22_method_103_code, 4, none, none, 2, 14, zp_t221_0)
def zp_ms : List zx_M := [zp_m0, zp_m1, zp_m2, zp_m3, zp_m4, zp_m5, zp_m6, zp_m7, zp_m8, zp_m9, zp_m10, zp_m11, zp_m12, zp_m13, zp_m14, zp_m15, zp_m16, zp_m17, zp_m18, zp_m19, zp_m20, zp_m21, zp_m22, zp_m23, zp_m24, zp_m25, zp_m26, zp_m27, zp_m28, zp_m29, zp_m30, zp_m31, zp_m32, zp_m33, zp_m34, zp_m35, zp_m36, zp_m37, zp_m38, zp_m39, zp_m40, zp_m41, zp_m42, zp_m43, zp_m44, zp_m45, zp_m46, zp_m47, zp_m48, zp_m49, zp_m50, zp_m51, zp_m52, zp_m53, zp_m54, zp_m55, zp_m56, zp_m57, zp_m58, zp_m59, zp_m60, zp_m61, zp_m62, zp_m63, zp_m64, zp_m65, zp_m66, zp_m67, zp_m68, zp_m69, zp_m70, zp_m71, zp_m72, zp_m73, zp_m74, zp_m75, zp_m76, zp_m77, zp_m78, zp_m79, zp_m80, zp_m81, zp_m82, zp_m83, zp_m84, zp_m85, zp_m86, zp_m87, zp_m88, zp_m89, zp_m90, zp_m91, zp_m92, zp_m93, zp_m94, zp_m95, zp_m96, zp_m97, zp_m98, zp_m99, zp_m100, zp_m101, zp_m102, zp_m103, zp_m104, zp_m105, zp_m106, zp_m107, zp_m108, zp_m109, zp_m110, zp_m111, zp_m112, zp_m113, zp_m114, zp_m115, zp_m116, zp_m117, zp_m118, zp_m119, zp_m120, zp_m121, zp_m122, zp_m123, zp_m124, zp_m125, zp_m126, zp_m127, zp_m128, zp_m129, zp_m130, zp_m131, zp_m132, zp_m133, zp_m134, zp_m135, zp_m136, zp_m137, zp_m138, zp_m139, zp_m140, zp_m141, zp_m142, zp_m143, zp_m144, zp_m145, zp_m146, zp_m147, zp_m148, zp_m149, zp_m150, zp_m151, zp_m152, zp_m153, zp_m154, zp_m155, zp_m156, zp_m157, zp_m158, zp_m159, zp_m160, zp_m161, zp_m162, zp_m163, zp_m164, zp_m165, zp_m166, zp_m167, zp_m168, zp_m169, zp_m170, zp_m171, zp_m172, zp_m173, zp_m174, zp_m175, zp_m176, zp_m177, zp_m178, zp_m179, zp_m180, zp_m181, zp_m182, zp_m183, zp_m184, zp_m185, zp_m186, zp_m187, zp_m188, zp_m189, zp_m190, zp_m191, zp_m192, zp_m193, zp_m194, zp_m195, zp_m196, zp_m197, zp_m198, zp_m199, zp_m200, zp_m201, zp_m202, zp_m203, zp_m204, zp_m205, zp_m206, zp_m207, zp_m208, zp_m209, zp_m210, zp_m211, zp_m212, zp_m213, zp_m214, zp_m215, zp_m216, zp_m217, zp_m218, zp_m219, zp_m220, zp_m221]
def zp_ft : List (List (Nat × Nat × Nat × Nat)) := [[(9, 0, 0, 128), (15, 0, 1, 129), (18, 0, 2, 130), (21, 0, 4, 132), (24, 0, 5, 133), (27, 0, 6, 134), (30, 0, 7, 135), (33, 0, 9, 137), (36, 0, 10, 138), (40, 0, 3, 131), (43, 0, 8, 136)], [], [(12, 1, 0, 182), (18, 1, 1, 183), (22, 1, 2, 184), (25, 1, 3, 185)], [(12, 2, 3, 252), (18, 2, 4, 253), (21, 2, 0, 249), (25, 2, 1, 250), (29, 2, 2, 251)], [], [(9, 3, 1, 333), (18, 3, 2, 334), (22, 3, 3, 335), (25, 3, 4, 336), (28, 3, 5, 337), (35, 3, 6, 338), (39, 3, 0, 332), (45, 3, 14, 346), (49, 3, 11, 343), (52, 3, 12, 344), (55, 3, 9, 341), (61, 3, 8, 340), (65, 3, 10, 342), (71, 3, 7, 339), (74, 3, 13, 345)], [(12, 4, 2, 218), (21, 4, 3, 219), (25, 4, 0, 216), (29, 4, 1, 217), (33, 4, 4, 220), (37, 4, 6, 222), (41, 4, 7, 223), (65, 4, 5, 221)], [(12, 5, 2, 275), (18, 5, 3, 276), (22, 5, 5, 278), (25, 5, 7, 280), (28, 5, 9, 282), (31, 5, 0, 273), (35, 5, 1, 274), (39, 5, 4, 277), (66, 5, 6, 279), (88, 5, 8, 281), (94, 5, 10, 283)], [(11, 6, 0, 321), (15, 6, 1, 322), (18, 6, 2, 323)], [(9, 7, 0, 209), (21, 7, 1, 210)], [(9, 8, 0, 175), (15, 8, 1, 176)], [(12, 9, 0, 378), (19, 9, 1, 379), (28, 9, 2, 380), (37, 9, 3, 381), (44, 9, 4, 382), (53, 9, 5, 383), (80, 9, 6, 384)], [(7, 10, 2, 1172), (13, 10, 3, 1173), (16, 10, 4, 1174), (19, 10, 6, 1176), (22, 10, 7, 1177), (25, 10, 8, 1178), (28, 10, 9, 1179), (31, 10, 11, 1181), (34, 10, 12, 1182), (38, 10, 16, 1186), (42, 10, 17, 1187), (45, 10, 18, 1188), (48, 10, 20, 1190), (51, 10, 21, 1191), (54, 10, 22, 1192), (57, 10, 23, 1193), (60, 10, 24, 1194), (63, 10, 28, 1198), (66, 10, 29, 1199), (69, 10, 31, 1201), (72, 10, 32, 1202), (75, 10, 33, 1203), (78, 10, 34, 1204), (81, 10, 35, 1205), (84, 10, 36, 1206), (87, 10, 37, 1207), (90, 10, 39, 1209), (93, 10, 40, 1210), (96, 10, 45, 1215), (100, 10, 0, 1170), (107, 10, 26, 1196), (110, 10, 25, 1195), (148, 10, 10, 1180), (151, 10, 1, 1171), (154, 10, 27, 1197), (165, 10, 5, 1175), (189, 10, 13, 1183), (192, 10, 14, 1184), (195, 10, 15, 1185), (198, 10, 19, 1189), (236, 10, 30, 1200), (264, 10, 38, 1208), (272, 10, 42, 1212), (275, 10, 43, 1213), (281, 10, 50, 1220), (291, 10, 49, 1219), (294, 10, 41, 1211), (318, 10, 44, 1214), (321, 10, 46, 1216), (325, 10, 48, 1218), (328, 10, 47, 1217)], [], [], []]
def zp_mt : List (List (Nat × Nat × Nat)) := [[(46, 7, 569), (50, 8, 626), (54, 9, 631), (57, 10, 632), (60, 14, 502), (63, 15, 973), (67, 17, 974), (70, 49, 975)], [(9, 22, 577), (15, 23, 586), (18, 24, 601), (22, 25, 604), (25, 26, 607), (28, 21, 610), (39, 120, 589), (45, 49, 617), (51, 122, 593), (55, 123, 581), (58, 118, 580), (61, 124, 597)], [(29, 29, 660), (33, 134, 664), (37, 118, 663), (43, 31, 709), (47, 130, 725), (50, 135, 765), (53, 32, 713), (56, 33, 717), (59, 34, 721), (62, 38, 726), (66, 40, 730), (70, 41, 734), (73, 131, 738), (75, 132, 747)], [(33, 43, 756), (37, 115, 776), (41, 4, 777), (46, 83, 778), (52, 44, 779), (56, 46, 800), (59, 48, 816), (62, 11, 825), (65, 30, 760), (70, 36, 761), (74, 125, 766), (78, 32, 775), (82, 45, 783), (86, 128, 791), (90, 35, 787), (93, 5, 804), (96, 15, 805), (100, 16, 806), (103, 17, 807), (106, 47, 808), (109, 127, 812), (112, 116, 813), (115, 120, 814), (118, 49, 815), (123, 8, 820), (126, 9, 821), (129, 20, 822), (135, 12, 823), (138, 13, 824)], [(9, 49, 554)], [(58, 57, 906), (68, 61, 935), (78, 109, 910), (81, 115, 914), (84, 58, 915), (88, 4, 930), (94, 59, 931), (97, 118, 919), (101, 72, 920), (107, 110, 925), (110, 119, 929), (114, 8, 939), (117, 9, 940), (120, 62, 941), (123, 20, 951), (129, 64, 952), (133, 65, 965), (136, 60, 976), (139, 66, 987), (142, 69, 1013), (145, 120, 945), (148, 116, 946), (151, 71, 947), (155, 63, 956), (158, 112, 960), (162, 49, 964), (167, 18, 969), (170, 121, 980), (173, 16, 981), (176, 70, 982), (179, 68, 991), (183, 10, 995), (186, 67, 996), (189, 113, 1000), (192, 114, 1005), (196, 111, 1009), (199, 7, 986), (203, 75, 1037), (206, 76, 1045), (210, 74, 1041)], [(44, 130, 486), (48, 83, 482), (52, 131, 542), (56, 4, 474), (62, 86, 439), (68, 87, 478), (71, 92, 640), (74, 27, 443), (79, 129, 447), (80, 115, 454), (83, 134, 462), (87, 89, 490), (90, 88, 561), (93, 90, 618), (96, 135, 506), (99, 8, 565), (102, 9, 570), (105, 20, 574), (111, 5, 494), (114, 15, 498), (118, 17, 521), (121, 121, 525), (125, 16, 529), (128, 91, 533), (131, 12, 622), (134, 13, 627), (137, 11, 636), (140, 7, 537), (143, 116, 541), (146, 118, 550), (148, 50, 551), (153, 132, 557), (157, 93, 644), (160, 94, 648), (163, 95, 652), (166, 28, 656)], [(43, 99, 834), (46, 30, 843), (52, 100, 844), (56, 32, 856), (60, 103, 857), (63, 102, 881), (69, 6, 838), (74, 19, 842), (77, 36, 848), (81, 33, 849), (84, 101, 850), (91, 116, 855), (97, 118, 854), (100, 104, 861), (104, 108, 865), (107, 106, 869), (111, 105, 877), (114, 107, 873)], [(22, 112, 1004)], [(15, 19, 458), (31, 119, 585), (35, 126, 770), (39, 118, 774), (42, 49, 799), (48, 127, 795)], [(18, 221, 451), (24, 133, 546), (28, 116, 466), (34, 118, 470), (38, 117, 510), (42, 119, 517)], [(57, 0, 404), (61, 78, 408), (64, 1, 416), (68, 153, 424), (72, 2, 427), (76, 85, 435), (84, 30, 665), (87, 80, 669), (90, 154, 673), (93, 7, 684), (96, 77, 685), (100, 81, 689), (103, 82, 693), (107, 37, 705), (110, 39, 743), (113, 42, 752), (116, 98, 830), (119, 96, 1153), (127, 97, 1160), (130, 51, 889), (134, 52, 898), (137, 56, 902), (141, 54, 1017), (144, 53, 1021), (147, 55, 1025), (150, 73, 1033), (153, 4, 1053), (156, 5, 1054), (159, 6, 1055), (162, 84, 1056), (165, 79, 1060), (168, 3, 1068)], [(103, 156, 1343), (113, 159, 1369), (117, 160, 1377), (121, 161, 1381), (124, 164, 1392), (128, 155, 1337), (132, 163, 1365), (135, 158, 1346), (139, 162, 1373), (142, 165, 1384), (145, 166, 1388), (158, 157, 1340), (162, 173, 1353), (168, 171, 1357), (171, 174, 1333), (175, 167, 1361), (179, 170, 1396), (182, 169, 1400), (185, 168, 1404), (201, 172, 1329), (205, 175, 1349), (208, 177, 1408), (211, 178, 1412), (214, 181, 1435), (217, 182, 1431), (220, 179, 1423), (223, 183, 1427), (226, 180, 1420), (230, 184, 1439), (233, 185, 1443), (239, 188, 1458), (243, 187, 1468), (246, 189, 1455), (249, 191, 1461), (253, 192, 1464), (256, 190, 1472), (259, 193, 1451), (269, 205, 1526), (278, 207, 1530), (284, 208, 1538), (288, 209, 1558), (297, 210, 1554), (301, 211, 1550), (306, 212, 1546), (309, 214, 1562), (312, 213, 1567), (315, 215, 1542), (331, 206, 1521), (334, 216, 1534)], [], [], [(7, 147, 1149), (19, 136, 400), (22, 196, 1480), (23, 137, 412), (27, 197, 1484), (28, 138, 420), (32, 198, 1488), (33, 139, 431), (37, 176, 1325), (38, 140, 676), (41, 199, 1492), (42, 141, 680), (46, 200, 1496), (47, 142, 697), (50, 201, 1500), (51, 143, 701), (54, 202, 1504), (55, 144, 739), (58, 203, 1508), (59, 145, 748), (62, 186, 1416), (63, 146, 826), (66, 194, 1447), (72, 195, 1476), (75, 148, 885), (79, 204, 1512), (80, 149, 894), (83, 217, 1517), (84, 150, 1029), (88, 218, 1571), (89, 151, 1049), (92, 219, 1575), (93, 152, 1064), (96, 220, 1579)]]
def zp_lt : List (List (Nat × Int64 × Nat)) := [[], [], [], [], [], [(43, (-2), 893), (105, (7), 924)], [], [], [], [], [], [], [(262, (-2), 1516), (267, (7), 1525), (304, (20), 1566)], [], [], [(73, (4294967295), 1583)]]
def zp_st : List (List (Nat × Nat × Nat)) := [[], [(32, 1000000, 613), (36, 1000001, 615)], [], [], [], [], [], [], [], [], [], [], [], [], [], []]
def zp_nt : List (List (Nat × Nat)) := [[], [], [], [], [], [], [], [], [], [(25, 514)], [], [], [], [], [], []]
/-- ClassFrames$Effect.TAKES -/
def zp_a0 : List Int32 := [0, 0, 0, 0, 0, 0, 0, 1, 0, 0, 0, 0, 17, 17, 8995, 35, 1, 97, 1553, 6, 7, 4, 7, 0, 0, 1, 4, 1, 0]
/-- ClassFrames$Effect.GIVES -/
def zp_a1 : List Int32 := [0, 1, 2, 4, 5, 7, 8, 6, 0, 0, 0, 0, 1, 1, 2, 1, 2, 1, 0, 1, 1, 0, 0, 0, 0, 0, 0, 0, 0]
def zp_as {α : Type} : List (Nat × α) → Nat → Option α
  | [], _ => none
  | q :: r, i => match Nat.beq q.1 i with
    | true => some q.2
    | false => zp_as r i
def zp_lk {α : Type} (T : List (List (Nat × α))) (o i : Nat) : Option α := match T[o]? with
  | some l => zp_as l i
  | none => none
def zp_pt (ci k : Nat) : FieldType × Bool := match ci with
  | 0 => (tyX0 k, (TX0 k).2.2.2)
  | 1 => (tyX2 k, (TX2 k).2.2.2)
  | 2 => (tyX3 k, (TX3 k).2.2.2)
  | 3 => (tyX5 k, (TX5 k).2.2.2)
  | 4 => (tyX6 k, (TX6 k).2.2.2)
  | 5 => (tyX7 k, (TX7 k).2.2.2)
  | 6 => (tyX8 k, (TX8 k).2.2.2)
  | 7 => (tyX9 k, (TX9 k).2.2.2)
  | 8 => (tyX10 k, (TX10 k).2.2.2)
  | 9 => (tyX11 k, (TX11 k).2.2.2)
  | 10 => (tyX12 k, (TX12 k).2.2.2)
  | 11 => (tyJ0 k, (TJ0 k).2.2.2)
  | _ => (tyJx00060 k, (TJx00060 k).2.2.2)
def zp_pa (k : Nat) : Option (Nat × (Nat → Int32)) := if k = 1000000 then some (29, fun j => zp_a0.getD j 0) else if k = 1000001 then some (29, fun j => zp_a1.getD j 0) else none
def zp_P : zx_P := (zp_ms, zp_po, fun o i => (zp_lk zp_ft o i).map (fun q => (q.1, q.2.1)), fun o i => (zp_lk zp_mt o i).map (fun q => q.1), fun o i => (zp_lk zp_st o i).map (fun q => q.1), zp_pa, fun o i => (zp_lk zp_lt o i).map (fun q => q.1), zp_pt, fun o i => (zp_lk zp_nt o i).isSome)
end
section
/-! ===== 07: the tables say so ===== -/
def zp_G : List Cond := lw_tbl.filter goodWord
def zp_in (i : Nat) (x : Cond) : Bool := decide (lw_tbl[i]? = some x) && goodWord x
theorem zp_in_ok {i : Nat} {x : Cond} (h : zp_in i x = true) : x ∈ zp_G := by
  unfold zp_in at h
  rw [Bool.and_eq_true, decide_eq_true_eq] at h
  exact List.mem_filter.mpr ⟨List.mem_of_getElem? h.1, h.2⟩
theorem zp_as_mem {α : Type} {l : List (Nat × α)} {i : Nat} {v : α} (h : zp_as l i = some v) : (i, v) ∈ l := by
  induction l with
  | nil => simp [zp_as] at h
  | cons q r ih =>
    rw [zp_as] at h
    split at h
    · next e =>
      have e' : q.1 = i := Nat.eq_of_beq_eq_true e
      have : q = (i, v) := by rw [← e', ← Option.some.inj h]
      rw [this]; exact List.mem_cons_self
    · exact List.mem_cons_of_mem _ (ih h)
def zp_all {α : Type} (f : Nat → Nat → α → Bool) : Nat → List (List (Nat × α)) → Bool
  | _, [] => true
  | o, l :: r => l.all (fun q => f o q.1 q.2) && zp_all f (o + 1) r
theorem zp_all_ok {α : Type} {f : Nat → Nat → α → Bool} : ∀ (T : List (List (Nat × α))) (b : Nat), zp_all f b T = true → ∀ (o i : Nat) (v : α), zp_lk T o i = some v → f (b + o) i v = true := by
  intro T
  induction T with
  | nil => intro b h o i v h2; simp [zp_lk] at h2
  | cons l r ih =>
    intro b h o i v h2
    rw [zp_all, Bool.and_eq_true] at h
    cases o with
    | zero => exact List.all_eq_true.mp h.1 (i, v) (zp_as_mem h2)
    | succ o =>
      have := ih (b + 1) h.2 o i v h2
      rwa [show b + 1 + o = b + (o + 1) by omega] at this
def zp_mb (q : zx_M) (a b c d : Nat) : Bool := plainName (zx_my q).cls && decide ((zx_my q).cls ≠ "java/lang/invoke/MethodHandle") && decide ((zx_my q).cls ≠ "java/lang/invoke/VarHandle") && decide ((parseMethodDescriptor (zx_my q).desc).map (fun d => d.parameters.length) = some (zx_mp q)) && decide (zp_po (zx_mo q) = (zx_my q).cls) && zp_in a (Cond.code (zx_my q) (zx_mb q) (zx_ml q) (zx_mr q)) && zp_in b (Cond.initialized (zx_my q).cls) && (match zx_mc q with
    | none => zp_in c (Cond.static (zx_my q))
    | some ci => zp_in c (Cond.instanceMethod (zx_my q)) && zp_in d (Cond.selects (zx_my q).cls (zx_my q) (zx_my q)) && decide ((zp_cl[ci]?).map (fun r => r.1) = some (zx_my q).cls)) 
def zp_db (cc : ByteArray) (l : List (Nat × Instr × Nat)) : Bool := l.all (fun z => decide (decode cc z.1 = .ok z.2))
theorem zp_db_ok {cc : ByteArray} {l : List (Nat × Instr × Nat)} (h : zp_db cc l = true) : ∀ z ∈ l, decode cc z.1 = .ok z.2 := fun z hz => of_decide_eq_true (List.all_eq_true.mp h z hz)
theorem zp_db_app {cc : ByteArray} {l r : List (Nat × Instr × Nat)} (h : ∀ z ∈ l, decode cc z.1 = .ok z.2) (h2 : ∀ z ∈ r, decode cc z.1 = .ok z.2) : ∀ z ∈ l ++ r, decode cc z.1 = .ok z.2 := fun z hz => (List.mem_append.mp hz).elim (h z) (h2 z)
theorem zp_mb_ok {q : zx_M} {a b c d : Nat} (h : zp_mb q a b c d = true) (h9 : ∀ z ∈ zx_mi q, decode (zx_mb q) z.1 = .ok z.2) : zx_mok zp_P zp_G zp_cl q := by
  unfold zp_mb at h
  simp only [Bool.and_eq_true, decide_eq_true_eq] at h
  obtain ⟨⟨⟨⟨⟨⟨⟨h1, h2⟩, h3⟩, h4⟩, h5⟩, h6⟩, h7⟩, h8⟩ := h
  refine ⟨h1, ⟨h2, h3⟩, h4, h5, zp_in_ok h6, zp_in_ok h7, ?_, h9⟩
  · split at h8
    · next e => simp only [e]; exact zp_in_ok h8
    · next ci e =>
      simp only [Bool.and_eq_true, decide_eq_true_eq] at h8
      obtain ⟨⟨a1, a2⟩, a3⟩ := h8
      obtain ⟨r, hr, hr2⟩ := Option.map_eq_some_iff.mp a3
      simp only [e]
      exact ⟨zp_in_ok a1, zp_in_ok a2, r.2.1, r.2.2, by rw [hr, ← hr2]⟩
end
section
set_option maxRecDepth 100000 in
theorem zp_d0_0 : zp_db prog_2_method_2_code zp_t0_0 = true := by decide +kernel
set_option maxRecDepth 100000 in
theorem zp_d0_1 : zp_db prog_2_method_2_code zp_t0_1 = true := by decide +kernel
set_option maxRecDepth 100000 in
theorem zp_k0 : zx_mok zp_P zp_G zp_cl zp_m0 := zp_mb_ok (a := 407) (b := 94) (c := 405) (d := 406) (by decide +kernel) (zp_db_app (zp_db_ok zp_d0_0) (zp_db_ok zp_d0_1))
set_option maxRecDepth 100000 in
theorem zp_d1_0 : zp_db prog_2_method_3_code zp_t1_0 = true := by decide +kernel
set_option maxRecDepth 100000 in
theorem zp_k1 : zx_mok zp_P zp_G zp_cl zp_m1 := zp_mb_ok (a := 419) (b := 94) (c := 417) (d := 418) (by decide +kernel) (zp_db_ok zp_d1_0)
set_option maxRecDepth 100000 in
theorem zp_d2_0 : zp_db prog_2_method_4_code zp_t2_0 = true := by decide +kernel
set_option maxRecDepth 100000 in
theorem zp_k2 : zx_mok zp_P zp_G zp_cl zp_m2 := zp_mb_ok (a := 430) (b := 94) (c := 428) (d := 429) (by decide +kernel) (zp_db_ok zp_d2_0)
set_option maxRecDepth 100000 in
theorem zp_d3_0 : zp_db prog_2_method_5_code zp_t3_0 = true := by decide +kernel
set_option maxRecDepth 100000 in
theorem zp_k3 : zx_mok zp_P zp_G zp_cl zp_m3 := zp_mb_ok (a := 1071) (b := 94) (c := 1069) (d := 1070) (by decide +kernel) (zp_db_ok zp_d3_0)
set_option maxRecDepth 100000 in
theorem zp_d4_0 : zp_db prog_2_method_6_code zp_t4_0 = true := by decide +kernel
set_option maxRecDepth 100000 in
theorem zp_k4 : zx_mok zp_P zp_G zp_cl zp_m4 := zp_mb_ok (a := 477) (b := 94) (c := 475) (d := 476) (by decide +kernel) (zp_db_ok zp_d4_0)
set_option maxRecDepth 100000 in
theorem zp_d5_0 : zp_db prog_2_method_7_code zp_t5_0 = true := by decide +kernel
set_option maxRecDepth 100000 in
theorem zp_k5 : zx_mok zp_P zp_G zp_cl zp_m5 := zp_mb_ok (a := 497) (b := 94) (c := 495) (d := 496) (by decide +kernel) (zp_db_ok zp_d5_0)
set_option maxRecDepth 100000 in
theorem zp_d6_0 : zp_db prog_2_method_8_code zp_t6_0 = true := by decide +kernel
set_option maxRecDepth 100000 in
theorem zp_k6 : zx_mok zp_P zp_G zp_cl zp_m6 := zp_mb_ok (a := 841) (b := 94) (c := 839) (d := 840) (by decide +kernel) (zp_db_ok zp_d6_0)
set_option maxRecDepth 100000 in
theorem zp_d7_0 : zp_db prog_2_method_9_code zp_t7_0 = true := by decide +kernel
set_option maxRecDepth 100000 in
theorem zp_k7 : zx_mok zp_P zp_G zp_cl zp_m7 := zp_mb_ok (a := 540) (b := 94) (c := 538) (d := 539) (by decide +kernel) (zp_db_ok zp_d7_0)
set_option maxRecDepth 100000 in
theorem zp_d8_0 : zp_db prog_2_method_10_code zp_t8_0 = true := by decide +kernel
set_option maxRecDepth 100000 in
theorem zp_k8 : zx_mok zp_P zp_G zp_cl zp_m8 := zp_mb_ok (a := 568) (b := 94) (c := 566) (d := 567) (by decide +kernel) (zp_db_ok zp_d8_0)
set_option maxRecDepth 100000 in
theorem zp_d9_0 : zp_db prog_2_method_11_code zp_t9_0 = true := by decide +kernel
set_option maxRecDepth 100000 in
theorem zp_k9 : zx_mok zp_P zp_G zp_cl zp_m9 := zp_mb_ok (a := 573) (b := 94) (c := 571) (d := 572) (by decide +kernel) (zp_db_ok zp_d9_0)
set_option maxRecDepth 100000 in
theorem zp_d10_0 : zp_db prog_2_method_12_code zp_t10_0 = true := by decide +kernel
set_option maxRecDepth 100000 in
theorem zp_k10 : zx_mok zp_P zp_G zp_cl zp_m10 := zp_mb_ok (a := 635) (b := 94) (c := 633) (d := 634) (by decide +kernel) (zp_db_ok zp_d10_0)
set_option maxRecDepth 100000 in
theorem zp_d11_0 : zp_db prog_2_method_13_code zp_t11_0 = true := by decide +kernel
set_option maxRecDepth 100000 in
theorem zp_k11 : zx_mok zp_P zp_G zp_cl zp_m11 := zp_mb_ok (a := 639) (b := 94) (c := 637) (d := 638) (by decide +kernel) (zp_db_ok zp_d11_0)
set_option maxRecDepth 100000 in
theorem zp_d12_0 : zp_db prog_2_method_14_code zp_t12_0 = true := by decide +kernel
set_option maxRecDepth 100000 in
theorem zp_k12 : zx_mok zp_P zp_G zp_cl zp_m12 := zp_mb_ok (a := 625) (b := 94) (c := 623) (d := 624) (by decide +kernel) (zp_db_ok zp_d12_0)
set_option maxRecDepth 100000 in
theorem zp_d13_0 : zp_db prog_2_method_15_code zp_t13_0 = true := by decide +kernel
set_option maxRecDepth 100000 in
theorem zp_k13 : zx_mok zp_P zp_G zp_cl zp_m13 := zp_mb_ok (a := 630) (b := 94) (c := 628) (d := 629) (by decide +kernel) (zp_db_ok zp_d13_0)
set_option maxRecDepth 100000 in
theorem zp_d14_0 : zp_db prog_2_method_16_code zp_t14_0 = true := by decide +kernel
set_option maxRecDepth 100000 in
theorem zp_k14 : zx_mok zp_P zp_G zp_cl zp_m14 := zp_mb_ok (a := 505) (b := 94) (c := 504) (d := 3) (by decide +kernel) (zp_db_ok zp_d14_0)
set_option maxRecDepth 100000 in
theorem zp_d15_0 : zp_db prog_2_method_17_code zp_t15_0 = true := by decide +kernel
set_option maxRecDepth 100000 in
theorem zp_k15 : zx_mok zp_P zp_G zp_cl zp_m15 := zp_mb_ok (a := 501) (b := 94) (c := 499) (d := 500) (by decide +kernel) (zp_db_ok zp_d15_0)
set_option maxRecDepth 100000 in
theorem zp_d16_0 : zp_db prog_2_method_18_code zp_t16_0 = true := by decide +kernel
set_option maxRecDepth 100000 in
theorem zp_k16 : zx_mok zp_P zp_G zp_cl zp_m16 := zp_mb_ok (a := 532) (b := 94) (c := 530) (d := 531) (by decide +kernel) (zp_db_ok zp_d16_0)
set_option maxRecDepth 100000 in
theorem zp_d17_0 : zp_db prog_2_method_19_code zp_t17_0 = true := by decide +kernel
set_option maxRecDepth 100000 in
theorem zp_k17 : zx_mok zp_P zp_G zp_cl zp_m17 := zp_mb_ok (a := 524) (b := 94) (c := 522) (d := 523) (by decide +kernel) (zp_db_ok zp_d17_0)
set_option maxRecDepth 100000 in
theorem zp_d18_0 : zp_db prog_2_method_20_code zp_t18_0 = true := by decide +kernel
set_option maxRecDepth 100000 in
theorem zp_k18 : zx_mok zp_P zp_G zp_cl zp_m18 := zp_mb_ok (a := 972) (b := 94) (c := 970) (d := 971) (by decide +kernel) (zp_db_ok zp_d18_0)
set_option maxRecDepth 100000 in
theorem zp_d19_0 : zp_db prog_2_method_21_code zp_t19_0 = true := by decide +kernel
set_option maxRecDepth 100000 in
theorem zp_k19 : zx_mok zp_P zp_G zp_cl zp_m19 := zp_mb_ok (a := 461) (b := 94) (c := 459) (d := 460) (by decide +kernel) (zp_db_ok zp_d19_0)
set_option maxRecDepth 100000 in
theorem zp_d20_0 : zp_db prog_3_method_2_code zp_t20_0 = true := by decide +kernel
set_option maxRecDepth 100000 in
theorem zp_k20 : zx_mok zp_P zp_G zp_cl zp_m20 := zp_mb_ok (a := 576) (b := 107) (c := 575) (d := 0) (by decide +kernel) (zp_db_ok zp_d20_0)
set_option maxRecDepth 100000 in
theorem zp_d21_0 : zp_db prog_3_method_3_code zp_t21_0 = true := by decide +kernel
set_option maxRecDepth 100000 in
theorem zp_d21_1 : zp_db prog_3_method_3_code zp_t21_1 = true := by decide +kernel
set_option maxRecDepth 100000 in
theorem zp_k21 : zx_mok zp_P zp_G zp_cl zp_m21 := zp_mb_ok (a := 612) (b := 107) (c := 611) (d := 0) (by decide +kernel) (zp_db_app (zp_db_ok zp_d21_0) (zp_db_ok zp_d21_1))
set_option maxRecDepth 100000 in
theorem zp_d22_0 : zp_db prog_3_method_4_code zp_t22_0 = true := by decide +kernel
set_option maxRecDepth 100000 in
theorem zp_k22 : zx_mok zp_P zp_G zp_cl zp_m22 := zp_mb_ok (a := 579) (b := 107) (c := 578) (d := 0) (by decide +kernel) (zp_db_ok zp_d22_0)
set_option maxRecDepth 100000 in
theorem zp_d23_0 : zp_db prog_3_method_5_code zp_t23_0 = true := by decide +kernel
set_option maxRecDepth 100000 in
theorem zp_k23 : zx_mok zp_P zp_G zp_cl zp_m23 := zp_mb_ok (a := 588) (b := 107) (c := 587) (d := 0) (by decide +kernel) (zp_db_ok zp_d23_0)
set_option maxRecDepth 100000 in
theorem zp_d24_0 : zp_db prog_3_method_6_code zp_t24_0 = true := by decide +kernel
set_option maxRecDepth 100000 in
theorem zp_k24 : zx_mok zp_P zp_G zp_cl zp_m24 := zp_mb_ok (a := 603) (b := 107) (c := 602) (d := 0) (by decide +kernel) (zp_db_ok zp_d24_0)
set_option maxRecDepth 100000 in
theorem zp_d25_0 : zp_db prog_3_method_7_code zp_t25_0 = true := by decide +kernel
set_option maxRecDepth 100000 in
theorem zp_k25 : zx_mok zp_P zp_G zp_cl zp_m25 := zp_mb_ok (a := 606) (b := 107) (c := 605) (d := 0) (by decide +kernel) (zp_db_ok zp_d25_0)
set_option maxRecDepth 100000 in
theorem zp_d26_0 : zp_db prog_3_method_8_code zp_t26_0 = true := by decide +kernel
set_option maxRecDepth 100000 in
theorem zp_k26 : zx_mok zp_P zp_G zp_cl zp_m26 := zp_mb_ok (a := 609) (b := 107) (c := 608) (d := 0) (by decide +kernel) (zp_db_ok zp_d26_0)
set_option maxRecDepth 100000 in
theorem zp_d27_0 : zp_db prog_4_method_2_code zp_t27_0 = true := by decide +kernel
set_option maxRecDepth 100000 in
theorem zp_k27 : zx_mok zp_P zp_G zp_cl zp_m27 := zp_mb_ok (a := 446) (b := 95) (c := 444) (d := 445) (by decide +kernel) (zp_db_ok zp_d27_0)
set_option maxRecDepth 100000 in
theorem zp_d28_0 : zp_db prog_4_method_3_code zp_t28_0 = true := by decide +kernel
set_option maxRecDepth 100000 in
theorem zp_k28 : zx_mok zp_P zp_G zp_cl zp_m28 := zp_mb_ok (a := 659) (b := 95) (c := 657) (d := 658) (by decide +kernel) (zp_db_ok zp_d28_0)
set_option maxRecDepth 100000 in
theorem zp_d29_0 : zp_db prog_4_method_4_code zp_t29_0 = true := by decide +kernel
set_option maxRecDepth 100000 in
theorem zp_k29 : zx_mok zp_P zp_G zp_cl zp_m29 := zp_mb_ok (a := 662) (b := 95) (c := 661) (d := 0) (by decide +kernel) (zp_db_ok zp_d29_0)
set_option maxRecDepth 100000 in
theorem zp_d30_0 : zp_db prog_4_method_5_code zp_t30_0 = true := by decide +kernel
set_option maxRecDepth 100000 in
theorem zp_k30 : zx_mok zp_P zp_G zp_cl zp_m30 := zp_mb_ok (a := 668) (b := 95) (c := 666) (d := 667) (by decide +kernel) (zp_db_ok zp_d30_0)
set_option maxRecDepth 100000 in
theorem zp_d31_0 : zp_db prog_4_method_6_code zp_t31_0 = true := by decide +kernel
set_option maxRecDepth 100000 in
theorem zp_k31 : zx_mok zp_P zp_G zp_cl zp_m31 := zp_mb_ok (a := 712) (b := 95) (c := 711) (d := 12) (by decide +kernel) (zp_db_ok zp_d31_0)
set_option maxRecDepth 100000 in
theorem zp_d32_0 : zp_db prog_4_method_7_code zp_t32_0 = true := by decide +kernel
set_option maxRecDepth 100000 in
theorem zp_k32 : zx_mok zp_P zp_G zp_cl zp_m32 := zp_mb_ok (a := 716) (b := 95) (c := 714) (d := 715) (by decide +kernel) (zp_db_ok zp_d32_0)
set_option maxRecDepth 100000 in
theorem zp_d33_0 : zp_db prog_4_method_8_code zp_t33_0 = true := by decide +kernel
set_option maxRecDepth 100000 in
theorem zp_k33 : zx_mok zp_P zp_G zp_cl zp_m33 := zp_mb_ok (a := 720) (b := 95) (c := 718) (d := 719) (by decide +kernel) (zp_db_ok zp_d33_0)
set_option maxRecDepth 100000 in
theorem zp_d34_0 : zp_db prog_4_method_9_code zp_t34_0 = true := by decide +kernel
set_option maxRecDepth 100000 in
theorem zp_k34 : zx_mok zp_P zp_G zp_cl zp_m34 := zp_mb_ok (a := 724) (b := 95) (c := 722) (d := 723) (by decide +kernel) (zp_db_ok zp_d34_0)
set_option maxRecDepth 100000 in
theorem zp_d35_0 : zp_db prog_4_method_10_code zp_t35_0 = true := by decide +kernel
set_option maxRecDepth 100000 in
theorem zp_k35 : zx_mok zp_P zp_G zp_cl zp_m35 := zp_mb_ok (a := 790) (b := 95) (c := 788) (d := 789) (by decide +kernel) (zp_db_ok zp_d35_0)
set_option maxRecDepth 100000 in
theorem zp_d36_0 : zp_db prog_4_method_11_code zp_t36_0 = true := by decide +kernel
set_option maxRecDepth 100000 in
theorem zp_k36 : zx_mok zp_P zp_G zp_cl zp_m36 := zp_mb_ok (a := 764) (b := 95) (c := 762) (d := 763) (by decide +kernel) (zp_db_ok zp_d36_0)
set_option maxRecDepth 100000 in
theorem zp_d37_0 : zp_db prog_4_method_12_code zp_t37_0 = true := by decide +kernel
set_option maxRecDepth 100000 in
theorem zp_k37 : zx_mok zp_P zp_G zp_cl zp_m37 := zp_mb_ok (a := 708) (b := 95) (c := 706) (d := 707) (by decide +kernel) (zp_db_ok zp_d37_0)
set_option maxRecDepth 100000 in
theorem zp_d38_0 : zp_db prog_4_method_13_code zp_t38_0 = true := by decide +kernel
set_option maxRecDepth 100000 in
theorem zp_k38 : zx_mok zp_P zp_G zp_cl zp_m38 := zp_mb_ok (a := 729) (b := 95) (c := 727) (d := 728) (by decide +kernel) (zp_db_ok zp_d38_0)
set_option maxRecDepth 100000 in
theorem zp_d39_0 : zp_db prog_4_method_14_code zp_t39_0 = true := by decide +kernel
set_option maxRecDepth 100000 in
theorem zp_k39 : zx_mok zp_P zp_G zp_cl zp_m39 := zp_mb_ok (a := 746) (b := 95) (c := 744) (d := 745) (by decide +kernel) (zp_db_ok zp_d39_0)
set_option maxRecDepth 100000 in
theorem zp_d40_0 : zp_db prog_4_method_15_code zp_t40_0 = true := by decide +kernel
set_option maxRecDepth 100000 in
theorem zp_k40 : zx_mok zp_P zp_G zp_cl zp_m40 := zp_mb_ok (a := 733) (b := 95) (c := 732) (d := 13) (by decide +kernel) (zp_db_ok zp_d40_0)
set_option maxRecDepth 100000 in
theorem zp_d41_0 : zp_db prog_4_method_16_code zp_t41_0 = true := by decide +kernel
set_option maxRecDepth 100000 in
theorem zp_k41 : zx_mok zp_P zp_G zp_cl zp_m41 := zp_mb_ok (a := 737) (b := 95) (c := 736) (d := 14) (by decide +kernel) (zp_db_ok zp_d41_0)
set_option maxRecDepth 100000 in
theorem zp_d42_0 : zp_db prog_5_method_2_code zp_t42_0 = true := by decide +kernel
set_option maxRecDepth 100000 in
theorem zp_d42_1 : zp_db prog_5_method_2_code zp_t42_1 = true := by decide +kernel
set_option maxRecDepth 100000 in
theorem zp_k42 : zx_mok zp_P zp_G zp_cl zp_m42 := zp_mb_ok (a := 755) (b := 99) (c := 753) (d := 754) (by decide +kernel) (zp_db_app (zp_db_ok zp_d42_0) (zp_db_ok zp_d42_1))
set_option maxRecDepth 100000 in
theorem zp_d43_0 : zp_db prog_5_method_3_code zp_t43_0 = true := by decide +kernel
set_option maxRecDepth 100000 in
theorem zp_k43 : zx_mok zp_P zp_G zp_cl zp_m43 := zp_mb_ok (a := 759) (b := 99) (c := 758) (d := 15) (by decide +kernel) (zp_db_ok zp_d43_0)
set_option maxRecDepth 100000 in
theorem zp_d44_0 : zp_db prog_5_method_4_code zp_t44_0 = true := by decide +kernel
set_option maxRecDepth 100000 in
theorem zp_k44 : zx_mok zp_P zp_G zp_cl zp_m44 := zp_mb_ok (a := 782) (b := 99) (c := 781) (d := 17) (by decide +kernel) (zp_db_ok zp_d44_0)
end
section
set_option maxRecDepth 100000 in
theorem zp_d45_0 : zp_db prog_5_method_5_code zp_t45_0 = true := by decide +kernel
set_option maxRecDepth 100000 in
theorem zp_k45 : zx_mok zp_P zp_G zp_cl zp_m45 := zp_mb_ok (a := 786) (b := 99) (c := 785) (d := 18) (by decide +kernel) (zp_db_ok zp_d45_0)
set_option maxRecDepth 100000 in
theorem zp_d46_0 : zp_db prog_5_method_6_code zp_t46_0 = true := by decide +kernel
set_option maxRecDepth 100000 in
theorem zp_k46 : zx_mok zp_P zp_G zp_cl zp_m46 := zp_mb_ok (a := 803) (b := 99) (c := 802) (d := 19) (by decide +kernel) (zp_db_ok zp_d46_0)
set_option maxRecDepth 100000 in
theorem zp_d47_0 : zp_db prog_5_method_7_code zp_t47_0 = true := by decide +kernel
set_option maxRecDepth 100000 in
theorem zp_k47 : zx_mok zp_P zp_G zp_cl zp_m47 := zp_mb_ok (a := 811) (b := 99) (c := 810) (d := 20) (by decide +kernel) (zp_db_ok zp_d47_0)
set_option maxRecDepth 100000 in
theorem zp_d48_0 : zp_db prog_5_method_8_code zp_t48_0 = true := by decide +kernel
set_option maxRecDepth 100000 in
theorem zp_d48_1 : zp_db prog_5_method_8_code zp_t48_1 = true := by decide +kernel
set_option maxRecDepth 100000 in
theorem zp_k48 : zx_mok zp_P zp_G zp_cl zp_m48 := zp_mb_ok (a := 819) (b := 99) (c := 818) (d := 21) (by decide +kernel) (zp_db_app (zp_db_ok zp_d48_0) (zp_db_ok zp_d48_1))
set_option maxRecDepth 100000 in
theorem zp_d49_0 : zp_db prog_6_method_2_code zp_t49_0 = true := by decide +kernel
set_option maxRecDepth 100000 in
theorem zp_k49 : zx_mok zp_P zp_G zp_cl zp_m49 := zp_mb_ok (a := 556) (b := 106) (c := 555) (d := 0) (by decide +kernel) (zp_db_ok zp_d49_0)
set_option maxRecDepth 100000 in
theorem zp_d50_0 : zp_db prog_6_method_3_code zp_t50_0 = true := by decide +kernel
set_option maxRecDepth 100000 in
theorem zp_k50 : zx_mok zp_P zp_G zp_cl zp_m50 := zp_mb_ok (a := 553) (b := 106) (c := 552) (d := 0) (by decide +kernel) (zp_db_ok zp_d50_0)
set_option maxRecDepth 100000 in
theorem zp_d51_0 : zp_db prog_7_method_2_code zp_t51_0 = true := by decide +kernel
set_option maxRecDepth 100000 in
theorem zp_k51 : zx_mok zp_P zp_G zp_cl zp_m51 := zp_mb_ok (a := 892) (b := 101) (c := 890) (d := 891) (by decide +kernel) (zp_db_ok zp_d51_0)
set_option maxRecDepth 100000 in
theorem zp_d52_0 : zp_db prog_7_method_3_code zp_t52_0 = true := by decide +kernel
set_option maxRecDepth 100000 in
theorem zp_k52 : zx_mok zp_P zp_G zp_cl zp_m52 := zp_mb_ok (a := 901) (b := 101) (c := 899) (d := 900) (by decide +kernel) (zp_db_ok zp_d52_0)
set_option maxRecDepth 100000 in
theorem zp_d53_0 : zp_db prog_7_method_4_code zp_t53_0 = true := by decide +kernel
set_option maxRecDepth 100000 in
theorem zp_k53 : zx_mok zp_P zp_G zp_cl zp_m53 := zp_mb_ok (a := 1024) (b := 101) (c := 1022) (d := 1023) (by decide +kernel) (zp_db_ok zp_d53_0)
set_option maxRecDepth 100000 in
theorem zp_d54_0 : zp_db prog_7_method_5_code zp_t54_0 = true := by decide +kernel
set_option maxRecDepth 100000 in
theorem zp_k54 : zx_mok zp_P zp_G zp_cl zp_m54 := zp_mb_ok (a := 1020) (b := 101) (c := 1018) (d := 1019) (by decide +kernel) (zp_db_ok zp_d54_0)
set_option maxRecDepth 100000 in
theorem zp_d55_0 : zp_db prog_7_method_6_code zp_t55_0 = true := by decide +kernel
set_option maxRecDepth 100000 in
theorem zp_k55 : zx_mok zp_P zp_G zp_cl zp_m55 := zp_mb_ok (a := 1028) (b := 101) (c := 1026) (d := 1027) (by decide +kernel) (zp_db_ok zp_d55_0)
set_option maxRecDepth 100000 in
theorem zp_d56_0 : zp_db prog_7_method_7_code zp_t56_0 = true := by decide +kernel
set_option maxRecDepth 100000 in
theorem zp_k56 : zx_mok zp_P zp_G zp_cl zp_m56 := zp_mb_ok (a := 905) (b := 101) (c := 903) (d := 904) (by decide +kernel) (zp_db_ok zp_d56_0)
set_option maxRecDepth 100000 in
theorem zp_d57_0 : zp_db prog_7_method_8_code zp_t57_0 = true := by decide +kernel
set_option maxRecDepth 100000 in
theorem zp_d57_1 : zp_db prog_7_method_8_code zp_t57_1 = true := by decide +kernel
set_option maxRecDepth 100000 in
theorem zp_k57 : zx_mok zp_P zp_G zp_cl zp_m57 := zp_mb_ok (a := 909) (b := 101) (c := 908) (d := 32) (by decide +kernel) (zp_db_app (zp_db_ok zp_d57_0) (zp_db_ok zp_d57_1))
set_option maxRecDepth 100000 in
theorem zp_d58_0 : zp_db prog_7_method_9_code zp_t58_0 = true := by decide +kernel
set_option maxRecDepth 100000 in
theorem zp_d58_1 : zp_db prog_7_method_9_code zp_t58_1 = true := by decide +kernel
set_option maxRecDepth 100000 in
theorem zp_k58 : zx_mok zp_P zp_G zp_cl zp_m58 := zp_mb_ok (a := 918) (b := 101) (c := 917) (d := 33) (by decide +kernel) (zp_db_app (zp_db_ok zp_d58_0) (zp_db_ok zp_d58_1))
set_option maxRecDepth 100000 in
theorem zp_d59_0 : zp_db prog_7_method_10_code zp_t59_0 = true := by decide +kernel
set_option maxRecDepth 100000 in
theorem zp_k59 : zx_mok zp_P zp_G zp_cl zp_m59 := zp_mb_ok (a := 934) (b := 101) (c := 933) (d := 35) (by decide +kernel) (zp_db_ok zp_d59_0)
set_option maxRecDepth 100000 in
theorem zp_d60_0 : zp_db prog_7_method_11_code zp_t60_0 = true := by decide +kernel
set_option maxRecDepth 100000 in
theorem zp_k60 : zx_mok zp_P zp_G zp_cl zp_m60 := zp_mb_ok (a := 979) (b := 101) (c := 978) (d := 42) (by decide +kernel) (zp_db_ok zp_d60_0)
set_option maxRecDepth 100000 in
theorem zp_d61_0 : zp_db prog_7_method_12_code zp_t61_0 = true := by decide +kernel
set_option maxRecDepth 100000 in
theorem zp_d61_1 : zp_db prog_7_method_12_code zp_t61_1 = true := by decide +kernel
set_option maxRecDepth 100000 in
theorem zp_k61 : zx_mok zp_P zp_G zp_cl zp_m61 := zp_mb_ok (a := 938) (b := 101) (c := 937) (d := 36) (by decide +kernel) (zp_db_app (zp_db_ok zp_d61_0) (zp_db_ok zp_d61_1))
set_option maxRecDepth 100000 in
theorem zp_d62_0 : zp_db prog_7_method_13_code zp_t62_0 = true := by decide +kernel
set_option maxRecDepth 100000 in
theorem zp_k62 : zx_mok zp_P zp_G zp_cl zp_m62 := zp_mb_ok (a := 944) (b := 101) (c := 943) (d := 37) (by decide +kernel) (zp_db_ok zp_d62_0)
set_option maxRecDepth 100000 in
theorem zp_d63_0 : zp_db prog_7_method_14_code zp_t63_0 = true := by decide +kernel
set_option maxRecDepth 100000 in
theorem zp_k63 : zx_mok zp_P zp_G zp_cl zp_m63 := zp_mb_ok (a := 959) (b := 101) (c := 958) (d := 40) (by decide +kernel) (zp_db_ok zp_d63_0)
set_option maxRecDepth 100000 in
theorem zp_d64_0 : zp_db prog_7_method_15_code zp_t64_0 = true := by decide +kernel
set_option maxRecDepth 100000 in
theorem zp_d64_1 : zp_db prog_7_method_15_code zp_t64_1 = true := by decide +kernel
set_option maxRecDepth 100000 in
theorem zp_d64_2 : zp_db prog_7_method_15_code zp_t64_2 = true := by decide +kernel
set_option maxRecDepth 100000 in
theorem zp_k64 : zx_mok zp_P zp_G zp_cl zp_m64 := zp_mb_ok (a := 955) (b := 101) (c := 954) (d := 39) (by decide +kernel) (zp_db_app (zp_db_ok zp_d64_0) (zp_db_app (zp_db_ok zp_d64_1) (zp_db_ok zp_d64_2)))
set_option maxRecDepth 100000 in
theorem zp_d65_0 : zp_db prog_7_method_16_code zp_t65_0 = true := by decide +kernel
set_option maxRecDepth 100000 in
theorem zp_k65 : zx_mok zp_P zp_G zp_cl zp_m65 := zp_mb_ok (a := 968) (b := 101) (c := 967) (d := 41) (by decide +kernel) (zp_db_ok zp_d65_0)
set_option maxRecDepth 100000 in
theorem zp_d66_0 : zp_db prog_7_method_17_code zp_t66_0 = true := by decide +kernel
set_option maxRecDepth 100000 in
theorem zp_d66_1 : zp_db prog_7_method_17_code zp_t66_1 = true := by decide +kernel
set_option maxRecDepth 100000 in
theorem zp_k66 : zx_mok zp_P zp_G zp_cl zp_m66 := zp_mb_ok (a := 990) (b := 101) (c := 989) (d := 44) (by decide +kernel) (zp_db_app (zp_db_ok zp_d66_0) (zp_db_ok zp_d66_1))
set_option maxRecDepth 100000 in
theorem zp_d67_0 : zp_db prog_7_method_18_code zp_t67_0 = true := by decide +kernel
set_option maxRecDepth 100000 in
theorem zp_d67_1 : zp_db prog_7_method_18_code zp_t67_1 = true := by decide +kernel
set_option maxRecDepth 100000 in
theorem zp_d67_2 : zp_db prog_7_method_18_code zp_t67_2 = true := by decide +kernel
set_option maxRecDepth 100000 in
theorem zp_k67 : zx_mok zp_P zp_G zp_cl zp_m67 := zp_mb_ok (a := 999) (b := 101) (c := 998) (d := 46) (by decide +kernel) (zp_db_app (zp_db_ok zp_d67_0) (zp_db_app (zp_db_ok zp_d67_1) (zp_db_ok zp_d67_2)))
set_option maxRecDepth 100000 in
theorem zp_d68_0 : zp_db prog_7_method_19_code zp_t68_0 = true := by decide +kernel
set_option maxRecDepth 100000 in
theorem zp_k68 : zx_mok zp_P zp_G zp_cl zp_m68 := zp_mb_ok (a := 994) (b := 101) (c := 993) (d := 45) (by decide +kernel) (zp_db_ok zp_d68_0)
set_option maxRecDepth 100000 in
theorem zp_d69_0 : zp_db prog_7_method_20_code zp_t69_0 = true := by decide +kernel
set_option maxRecDepth 100000 in
theorem zp_d69_1 : zp_db prog_7_method_20_code zp_t69_1 = true := by decide +kernel
set_option maxRecDepth 100000 in
theorem zp_k69 : zx_mok zp_P zp_G zp_cl zp_m69 := zp_mb_ok (a := 1016) (b := 101) (c := 1015) (d := 47) (by decide +kernel) (zp_db_app (zp_db_ok zp_d69_0) (zp_db_ok zp_d69_1))
set_option maxRecDepth 100000 in
theorem zp_d70_0 : zp_db prog_7_method_21_code zp_t70_0 = true := by decide +kernel
set_option maxRecDepth 100000 in
theorem zp_k70 : zx_mok zp_P zp_G zp_cl zp_m70 := zp_mb_ok (a := 985) (b := 101) (c := 984) (d := 43) (by decide +kernel) (zp_db_ok zp_d70_0)
set_option maxRecDepth 100000 in
theorem zp_d71_0 : zp_db prog_7_method_22_code zp_t71_0 = true := by decide +kernel
set_option maxRecDepth 100000 in
theorem zp_k71 : zx_mok zp_P zp_G zp_cl zp_m71 := zp_mb_ok (a := 950) (b := 101) (c := 949) (d := 38) (by decide +kernel) (zp_db_ok zp_d71_0)
set_option maxRecDepth 100000 in
theorem zp_d72_0 : zp_db prog_7_method_23_code zp_t72_0 = true := by decide +kernel
set_option maxRecDepth 100000 in
theorem zp_k72 : zx_mok zp_P zp_G zp_cl zp_m72 := zp_mb_ok (a := 923) (b := 101) (c := 922) (d := 34) (by decide +kernel) (zp_db_ok zp_d72_0)
set_option maxRecDepth 100000 in
theorem zp_d73_0 : zp_db prog_7_method_24_code zp_t73_0 = true := by decide +kernel
set_option maxRecDepth 100000 in
theorem zp_k73 : zx_mok zp_P zp_G zp_cl zp_m73 := zp_mb_ok (a := 1036) (b := 101) (c := 1034) (d := 1035) (by decide +kernel) (zp_db_ok zp_d73_0)
set_option maxRecDepth 100000 in
theorem zp_d74_0 : zp_db prog_7_method_25_code zp_t74_0 = true := by decide +kernel
set_option maxRecDepth 100000 in
theorem zp_k74 : zx_mok zp_P zp_G zp_cl zp_m74 := zp_mb_ok (a := 1044) (b := 101) (c := 1043) (d := 49) (by decide +kernel) (zp_db_ok zp_d74_0)
set_option maxRecDepth 100000 in
theorem zp_d75_0 : zp_db prog_7_method_26_code zp_t75_0 = true := by decide +kernel
set_option maxRecDepth 100000 in
theorem zp_k75 : zx_mok zp_P zp_G zp_cl zp_m75 := zp_mb_ok (a := 1040) (b := 101) (c := 1039) (d := 48) (by decide +kernel) (zp_db_ok zp_d75_0)
set_option maxRecDepth 100000 in
theorem zp_d76_0 : zp_db prog_7_method_27_code zp_t76_0 = true := by decide +kernel
set_option maxRecDepth 100000 in
theorem zp_k76 : zx_mok zp_P zp_G zp_cl zp_m76 := zp_mb_ok (a := 1048) (b := 101) (c := 1047) (d := 50) (by decide +kernel) (zp_db_ok zp_d76_0)
set_option maxRecDepth 100000 in
theorem zp_d77_0 : zp_db prog_8_method_2_code zp_t77_0 = true := by decide +kernel
set_option maxRecDepth 100000 in
theorem zp_k77 : zx_mok zp_P zp_G zp_cl zp_m77 := zp_mb_ok (a := 688) (b := 97) (c := 686) (d := 687) (by decide +kernel) (zp_db_ok zp_d77_0)
set_option maxRecDepth 100000 in
theorem zp_d78_0 : zp_db prog_8_method_3_code zp_t78_0 = true := by decide +kernel
set_option maxRecDepth 100000 in
theorem zp_k78 : zx_mok zp_P zp_G zp_cl zp_m78 := zp_mb_ok (a := 411) (b := 97) (c := 409) (d := 410) (by decide +kernel) (zp_db_ok zp_d78_0)
set_option maxRecDepth 100000 in
theorem zp_d79_0 : zp_db prog_8_method_4_code zp_t79_0 = true := by decide +kernel
set_option maxRecDepth 100000 in
theorem zp_k79 : zx_mok zp_P zp_G zp_cl zp_m79 := zp_mb_ok (a := 1063) (b := 97) (c := 1061) (d := 1062) (by decide +kernel) (zp_db_ok zp_d79_0)
set_option maxRecDepth 100000 in
theorem zp_d80_0 : zp_db prog_8_method_5_code zp_t80_0 = true := by decide +kernel
set_option maxRecDepth 100000 in
theorem zp_k80 : zx_mok zp_P zp_G zp_cl zp_m80 := zp_mb_ok (a := 672) (b := 97) (c := 670) (d := 671) (by decide +kernel) (zp_db_ok zp_d80_0)
set_option maxRecDepth 100000 in
theorem zp_d81_0 : zp_db prog_8_method_6_code zp_t81_0 = true := by decide +kernel
set_option maxRecDepth 100000 in
theorem zp_k81 : zx_mok zp_P zp_G zp_cl zp_m81 := zp_mb_ok (a := 692) (b := 97) (c := 690) (d := 691) (by decide +kernel) (zp_db_ok zp_d81_0)
set_option maxRecDepth 100000 in
theorem zp_d82_0 : zp_db prog_8_method_7_code zp_t82_0 = true := by decide +kernel
set_option maxRecDepth 100000 in
theorem zp_k82 : zx_mok zp_P zp_G zp_cl zp_m82 := zp_mb_ok (a := 696) (b := 97) (c := 694) (d := 695) (by decide +kernel) (zp_db_ok zp_d82_0)
set_option maxRecDepth 100000 in
theorem zp_d83_0 : zp_db prog_8_method_8_code zp_t83_0 = true := by decide +kernel
set_option maxRecDepth 100000 in
theorem zp_k83 : zx_mok zp_P zp_G zp_cl zp_m83 := zp_mb_ok (a := 485) (b := 97) (c := 483) (d := 484) (by decide +kernel) (zp_db_ok zp_d83_0)
set_option maxRecDepth 100000 in
theorem zp_d84_0 : zp_db prog_8_method_9_code zp_t84_0 = true := by decide +kernel
set_option maxRecDepth 100000 in
theorem zp_k84 : zx_mok zp_P zp_G zp_cl zp_m84 := zp_mb_ok (a := 1059) (b := 97) (c := 1057) (d := 1058) (by decide +kernel) (zp_db_ok zp_d84_0)
set_option maxRecDepth 100000 in
theorem zp_d85_0 : zp_db prog_8_method_10_code zp_t85_0 = true := by decide +kernel
set_option maxRecDepth 100000 in
theorem zp_d85_1 : zp_db prog_8_method_10_code zp_t85_1 = true := by decide +kernel
set_option maxRecDepth 100000 in
theorem zp_k85 : zx_mok zp_P zp_G zp_cl zp_m85 := zp_mb_ok (a := 438) (b := 97) (c := 436) (d := 437) (by decide +kernel) (zp_db_app (zp_db_ok zp_d85_0) (zp_db_ok zp_d85_1))
set_option maxRecDepth 100000 in
theorem zp_d86_0 : zp_db prog_8_method_11_code zp_t86_0 = true := by decide +kernel
set_option maxRecDepth 100000 in
theorem zp_k86 : zx_mok zp_P zp_G zp_cl zp_m86 := zp_mb_ok (a := 442) (b := 97) (c := 441) (d := 0) (by decide +kernel) (zp_db_ok zp_d86_0)
set_option maxRecDepth 100000 in
theorem zp_d87_0 : zp_db prog_8_method_12_code zp_t87_0 = true := by decide +kernel
set_option maxRecDepth 100000 in
theorem zp_k87 : zx_mok zp_P zp_G zp_cl zp_m87 := zp_mb_ok (a := 481) (b := 97) (c := 480) (d := 1) (by decide +kernel) (zp_db_ok zp_d87_0)
set_option maxRecDepth 100000 in
theorem zp_d88_0 : zp_db prog_8_method_13_code zp_t88_0 = true := by decide +kernel
set_option maxRecDepth 100000 in
theorem zp_k88 : zx_mok zp_P zp_G zp_cl zp_m88 := zp_mb_ok (a := 564) (b := 97) (c := 563) (d := 6) (by decide +kernel) (zp_db_ok zp_d88_0)
set_option maxRecDepth 100000 in
theorem zp_d89_0 : zp_db prog_8_method_14_code zp_t89_0 = true := by decide +kernel
set_option maxRecDepth 100000 in
theorem zp_d89_1 : zp_db prog_8_method_14_code zp_t89_1 = true := by decide +kernel
set_option maxRecDepth 100000 in
theorem zp_k89 : zx_mok zp_P zp_G zp_cl zp_m89 := zp_mb_ok (a := 493) (b := 97) (c := 492) (d := 2) (by decide +kernel) (zp_db_app (zp_db_ok zp_d89_0) (zp_db_ok zp_d89_1))
end
section
set_option maxRecDepth 100000 in
theorem zp_d90_0 : zp_db prog_8_method_15_code zp_t90_0 = true := by decide +kernel
set_option maxRecDepth 100000 in
theorem zp_d90_1 : zp_db prog_8_method_15_code zp_t90_1 = true := by decide +kernel
set_option maxRecDepth 100000 in
theorem zp_k90 : zx_mok zp_P zp_G zp_cl zp_m90 := zp_mb_ok (a := 621) (b := 97) (c := 620) (d := 7) (by decide +kernel) (zp_db_app (zp_db_ok zp_d90_0) (zp_db_ok zp_d90_1))
set_option maxRecDepth 100000 in
theorem zp_d91_0 : zp_db prog_8_method_16_code zp_t91_0 = true := by decide +kernel
set_option maxRecDepth 100000 in
theorem zp_d91_1 : zp_db prog_8_method_16_code zp_t91_1 = true := by decide +kernel
set_option maxRecDepth 100000 in
theorem zp_k91 : zx_mok zp_P zp_G zp_cl zp_m91 := zp_mb_ok (a := 536) (b := 97) (c := 535) (d := 4) (by decide +kernel) (zp_db_app (zp_db_ok zp_d91_0) (zp_db_ok zp_d91_1))
set_option maxRecDepth 100000 in
theorem zp_d92_0 : zp_db prog_8_method_17_code zp_t92_0 = true := by decide +kernel
set_option maxRecDepth 100000 in
theorem zp_k92 : zx_mok zp_P zp_G zp_cl zp_m92 := zp_mb_ok (a := 643) (b := 97) (c := 642) (d := 8) (by decide +kernel) (zp_db_ok zp_d92_0)
set_option maxRecDepth 100000 in
theorem zp_d93_0 : zp_db prog_8_method_18_code zp_t93_0 = true := by decide +kernel
set_option maxRecDepth 100000 in
theorem zp_k93 : zx_mok zp_P zp_G zp_cl zp_m93 := zp_mb_ok (a := 647) (b := 97) (c := 646) (d := 9) (by decide +kernel) (zp_db_ok zp_d93_0)
set_option maxRecDepth 100000 in
theorem zp_d94_0 : zp_db prog_8_method_19_code zp_t94_0 = true := by decide +kernel
set_option maxRecDepth 100000 in
theorem zp_k94 : zx_mok zp_P zp_G zp_cl zp_m94 := zp_mb_ok (a := 651) (b := 97) (c := 650) (d := 10) (by decide +kernel) (zp_db_ok zp_d94_0)
set_option maxRecDepth 100000 in
theorem zp_d95_0 : zp_db prog_8_method_20_code zp_t95_0 = true := by decide +kernel
set_option maxRecDepth 100000 in
theorem zp_k95 : zx_mok zp_P zp_G zp_cl zp_m95 := zp_mb_ok (a := 655) (b := 97) (c := 654) (d := 11) (by decide +kernel) (zp_db_ok zp_d95_0)
set_option maxRecDepth 100000 in
theorem zp_d96_0 : zp_db prog_9_method_2_code zp_t96_0 = true := by decide +kernel
set_option maxRecDepth 100000 in
theorem zp_k96 : zx_mok zp_P zp_G zp_cl zp_m96 := zp_mb_ok (a := 1156) (b := 100) (c := 1154) (d := 1155) (by decide +kernel) (zp_db_ok zp_d96_0)
set_option maxRecDepth 100000 in
theorem zp_d97_0 : zp_db prog_9_method_3_code zp_t97_0 = true := by decide +kernel
set_option maxRecDepth 100000 in
theorem zp_k97 : zx_mok zp_P zp_G zp_cl zp_m97 := zp_mb_ok (a := 1163) (b := 100) (c := 1161) (d := 1162) (by decide +kernel) (zp_db_ok zp_d97_0)
set_option maxRecDepth 100000 in
theorem zp_d98_0 : zp_db prog_9_method_4_code zp_t98_0 = true := by decide +kernel
set_option maxRecDepth 100000 in
theorem zp_k98 : zx_mok zp_P zp_G zp_cl zp_m98 := zp_mb_ok (a := 833) (b := 100) (c := 831) (d := 832) (by decide +kernel) (zp_db_ok zp_d98_0)
set_option maxRecDepth 100000 in
theorem zp_d99_0 : zp_db prog_9_method_5_code zp_t99_0 = true := by decide +kernel
set_option maxRecDepth 100000 in
theorem zp_k99 : zx_mok zp_P zp_G zp_cl zp_m99 := zp_mb_ok (a := 837) (b := 100) (c := 836) (d := 22) (by decide +kernel) (zp_db_ok zp_d99_0)
set_option maxRecDepth 100000 in
theorem zp_d100_0 : zp_db prog_9_method_6_code zp_t100_0 = true := by decide +kernel
set_option maxRecDepth 100000 in
theorem zp_k100 : zx_mok zp_P zp_G zp_cl zp_m100 := zp_mb_ok (a := 847) (b := 100) (c := 846) (d := 23) (by decide +kernel) (zp_db_ok zp_d100_0)
set_option maxRecDepth 100000 in
theorem zp_d101_0 : zp_db prog_9_method_7_code zp_t101_0 = true := by decide +kernel
set_option maxRecDepth 100000 in
theorem zp_d101_1 : zp_db prog_9_method_7_code zp_t101_1 = true := by decide +kernel
set_option maxRecDepth 100000 in
theorem zp_k101 : zx_mok zp_P zp_G zp_cl zp_m101 := zp_mb_ok (a := 853) (b := 100) (c := 852) (d := 24) (by decide +kernel) (zp_db_app (zp_db_ok zp_d101_0) (zp_db_ok zp_d101_1))
set_option maxRecDepth 100000 in
theorem zp_d102_0 : zp_db prog_9_method_8_code zp_t102_0 = true := by decide +kernel
set_option maxRecDepth 100000 in
theorem zp_k102 : zx_mok zp_P zp_G zp_cl zp_m102 := zp_mb_ok (a := 884) (b := 100) (c := 883) (d := 31) (by decide +kernel) (zp_db_ok zp_d102_0)
set_option maxRecDepth 100000 in
theorem zp_d103_0 : zp_db prog_9_method_9_code zp_t103_0 = true := by decide +kernel
set_option maxRecDepth 100000 in
theorem zp_d103_1 : zp_db prog_9_method_9_code zp_t103_1 = true := by decide +kernel
set_option maxRecDepth 100000 in
theorem zp_k103 : zx_mok zp_P zp_G zp_cl zp_m103 := zp_mb_ok (a := 860) (b := 100) (c := 859) (d := 25) (by decide +kernel) (zp_db_app (zp_db_ok zp_d103_0) (zp_db_ok zp_d103_1))
set_option maxRecDepth 100000 in
theorem zp_d104_0 : zp_db prog_9_method_10_code zp_t104_0 = true := by decide +kernel
set_option maxRecDepth 100000 in
theorem zp_k104 : zx_mok zp_P zp_G zp_cl zp_m104 := zp_mb_ok (a := 864) (b := 100) (c := 863) (d := 26) (by decide +kernel) (zp_db_ok zp_d104_0)
set_option maxRecDepth 100000 in
theorem zp_d105_0 : zp_db prog_9_method_11_code zp_t105_0 = true := by decide +kernel
set_option maxRecDepth 100000 in
theorem zp_k105 : zx_mok zp_P zp_G zp_cl zp_m105 := zp_mb_ok (a := 880) (b := 100) (c := 879) (d := 30) (by decide +kernel) (zp_db_ok zp_d105_0)
set_option maxRecDepth 100000 in
theorem zp_d106_0 : zp_db prog_9_method_12_code zp_t106_0 = true := by decide +kernel
set_option maxRecDepth 100000 in
theorem zp_k106 : zx_mok zp_P zp_G zp_cl zp_m106 := zp_mb_ok (a := 872) (b := 100) (c := 871) (d := 28) (by decide +kernel) (zp_db_ok zp_d106_0)
set_option maxRecDepth 100000 in
theorem zp_d107_0 : zp_db prog_9_method_13_code zp_t107_0 = true := by decide +kernel
set_option maxRecDepth 100000 in
theorem zp_k107 : zx_mok zp_P zp_G zp_cl zp_m107 := zp_mb_ok (a := 876) (b := 100) (c := 875) (d := 29) (by decide +kernel) (zp_db_ok zp_d107_0)
set_option maxRecDepth 100000 in
theorem zp_d108_0 : zp_db prog_9_method_14_code zp_t108_0 = true := by decide +kernel
set_option maxRecDepth 100000 in
theorem zp_k108 : zx_mok zp_P zp_G zp_cl zp_m108 := zp_mb_ok (a := 868) (b := 100) (c := 867) (d := 27) (by decide +kernel) (zp_db_ok zp_d108_0)
set_option maxRecDepth 100000 in
theorem zp_d109_0 : zp_db prog_10_method_2_code zp_t109_0 = true := by decide +kernel
set_option maxRecDepth 100000 in
theorem zp_k109 : zx_mok zp_P zp_G zp_cl zp_m109 := zp_mb_ok (a := 913) (b := 102) (c := 911) (d := 912) (by decide +kernel) (zp_db_ok zp_d109_0)
set_option maxRecDepth 100000 in
theorem zp_d110_0 : zp_db prog_10_method_3_code zp_t110_0 = true := by decide +kernel
set_option maxRecDepth 100000 in
theorem zp_d110_1 : zp_db prog_10_method_3_code zp_t110_1 = true := by decide +kernel
set_option maxRecDepth 100000 in
theorem zp_k110 : zx_mok zp_P zp_G zp_cl zp_m110 := zp_mb_ok (a := 928) (b := 102) (c := 926) (d := 927) (by decide +kernel) (zp_db_app (zp_db_ok zp_d110_0) (zp_db_ok zp_d110_1))
set_option maxRecDepth 100000 in
theorem zp_d111_0 : zp_db prog_10_method_4_code zp_t111_0 = true := by decide +kernel
set_option maxRecDepth 100000 in
theorem zp_k111 : zx_mok zp_P zp_G zp_cl zp_m111 := zp_mb_ok (a := 1012) (b := 102) (c := 1010) (d := 1011) (by decide +kernel) (zp_db_ok zp_d111_0)
set_option maxRecDepth 100000 in
theorem zp_d112_0 : zp_db prog_10_method_5_code zp_t112_0 = true := by decide +kernel
set_option maxRecDepth 100000 in
theorem zp_k112 : zx_mok zp_P zp_G zp_cl zp_m112 := zp_mb_ok (a := 963) (b := 102) (c := 961) (d := 962) (by decide +kernel) (zp_db_ok zp_d112_0)
set_option maxRecDepth 100000 in
theorem zp_d113_0 : zp_db prog_10_method_6_code zp_t113_0 = true := by decide +kernel
set_option maxRecDepth 100000 in
theorem zp_k113 : zx_mok zp_P zp_G zp_cl zp_m113 := zp_mb_ok (a := 1003) (b := 102) (c := 1001) (d := 1002) (by decide +kernel) (zp_db_ok zp_d113_0)
set_option maxRecDepth 100000 in
theorem zp_d114_0 : zp_db prog_10_method_7_code zp_t114_0 = true := by decide +kernel
set_option maxRecDepth 100000 in
theorem zp_k114 : zx_mok zp_P zp_G zp_cl zp_m114 := zp_mb_ok (a := 1008) (b := 102) (c := 1006) (d := 1007) (by decide +kernel) (zp_db_ok zp_d114_0)
set_option maxRecDepth 100000 in
theorem zp_d115_0 : zp_db prog_11_method_2_code zp_t115_0 = true := by decide +kernel
set_option maxRecDepth 100000 in
theorem zp_k115 : zx_mok zp_P zp_G zp_cl zp_m115 := zp_mb_ok (a := 457) (b := 98) (c := 455) (d := 456) (by decide +kernel) (zp_db_ok zp_d115_0)
set_option maxRecDepth 100000 in
theorem zp_d116_0 : zp_db prog_11_method_3_code zp_t116_0 = true := by decide +kernel
set_option maxRecDepth 100000 in
theorem zp_k116 : zx_mok zp_P zp_G zp_cl zp_m116 := zp_mb_ok (a := 469) (b := 98) (c := 467) (d := 468) (by decide +kernel) (zp_db_ok zp_d116_0)
set_option maxRecDepth 100000 in
theorem zp_d117_0 : zp_db prog_11_method_4_code zp_t117_0 = true := by decide +kernel
set_option maxRecDepth 100000 in
theorem zp_k117 : zx_mok zp_P zp_G zp_cl zp_m117 := zp_mb_ok (a := 513) (b := 98) (c := 511) (d := 512) (by decide +kernel) (zp_db_ok zp_d117_0)
set_option maxRecDepth 100000 in
theorem zp_d118_0 : zp_db prog_11_method_5_code zp_t118_0 = true := by decide +kernel
set_option maxRecDepth 100000 in
theorem zp_k118 : zx_mok zp_P zp_G zp_cl zp_m118 := zp_mb_ok (a := 473) (b := 98) (c := 471) (d := 472) (by decide +kernel) (zp_db_ok zp_d118_0)
set_option maxRecDepth 100000 in
theorem zp_d119_0 : zp_db prog_11_method_6_code zp_t119_0 = true := by decide +kernel
set_option maxRecDepth 100000 in
theorem zp_k119 : zx_mok zp_P zp_G zp_cl zp_m119 := zp_mb_ok (a := 520) (b := 98) (c := 518) (d := 519) (by decide +kernel) (zp_db_ok zp_d119_0)
set_option maxRecDepth 100000 in
theorem zp_d120_0 : zp_db prog_11_method_7_code zp_t120_0 = true := by decide +kernel
set_option maxRecDepth 100000 in
theorem zp_k120 : zx_mok zp_P zp_G zp_cl zp_m120 := zp_mb_ok (a := 592) (b := 98) (c := 590) (d := 591) (by decide +kernel) (zp_db_ok zp_d120_0)
set_option maxRecDepth 100000 in
theorem zp_d121_0 : zp_db prog_11_method_8_code zp_t121_0 = true := by decide +kernel
set_option maxRecDepth 100000 in
theorem zp_k121 : zx_mok zp_P zp_G zp_cl zp_m121 := zp_mb_ok (a := 528) (b := 98) (c := 526) (d := 527) (by decide +kernel) (zp_db_ok zp_d121_0)
set_option maxRecDepth 100000 in
theorem zp_d122_0 : zp_db prog_11_method_9_code zp_t122_0 = true := by decide +kernel
set_option maxRecDepth 100000 in
theorem zp_k122 : zx_mok zp_P zp_G zp_cl zp_m122 := zp_mb_ok (a := 596) (b := 98) (c := 594) (d := 595) (by decide +kernel) (zp_db_ok zp_d122_0)
set_option maxRecDepth 100000 in
theorem zp_d123_0 : zp_db prog_11_method_10_code zp_t123_0 = true := by decide +kernel
set_option maxRecDepth 100000 in
theorem zp_d123_1 : zp_db prog_11_method_10_code zp_t123_1 = true := by decide +kernel
set_option maxRecDepth 100000 in
theorem zp_k123 : zx_mok zp_P zp_G zp_cl zp_m123 := zp_mb_ok (a := 584) (b := 98) (c := 582) (d := 583) (by decide +kernel) (zp_db_app (zp_db_ok zp_d123_0) (zp_db_ok zp_d123_1))
set_option maxRecDepth 100000 in
theorem zp_d124_0 : zp_db prog_11_method_11_code zp_t124_0 = true := by decide +kernel
set_option maxRecDepth 100000 in
theorem zp_d124_1 : zp_db prog_11_method_11_code zp_t124_1 = true := by decide +kernel
set_option maxRecDepth 100000 in
theorem zp_k124 : zx_mok zp_P zp_G zp_cl zp_m124 := zp_mb_ok (a := 600) (b := 98) (c := 598) (d := 599) (by decide +kernel) (zp_db_app (zp_db_ok zp_d124_0) (zp_db_ok zp_d124_1))
set_option maxRecDepth 100000 in
theorem zp_d125_0 : zp_db prog_11_method_12_code zp_t125_0 = true := by decide +kernel
set_option maxRecDepth 100000 in
theorem zp_k125 : zx_mok zp_P zp_G zp_cl zp_m125 := zp_mb_ok (a := 769) (b := 98) (c := 767) (d := 768) (by decide +kernel) (zp_db_ok zp_d125_0)
set_option maxRecDepth 100000 in
theorem zp_d126_0 : zp_db prog_11_method_13_code zp_t126_0 = true := by decide +kernel
set_option maxRecDepth 100000 in
theorem zp_d126_1 : zp_db prog_11_method_13_code zp_t126_1 = true := by decide +kernel
set_option maxRecDepth 100000 in
theorem zp_k126 : zx_mok zp_P zp_G zp_cl zp_m126 := zp_mb_ok (a := 773) (b := 98) (c := 772) (d := 16) (by decide +kernel) (zp_db_app (zp_db_ok zp_d126_0) (zp_db_ok zp_d126_1))
set_option maxRecDepth 100000 in
theorem zp_d127_0 : zp_db prog_11_method_14_code zp_t127_0 = true := by decide +kernel
set_option maxRecDepth 100000 in
theorem zp_k127 : zx_mok zp_P zp_G zp_cl zp_m127 := zp_mb_ok (a := 798) (b := 98) (c := 796) (d := 797) (by decide +kernel) (zp_db_ok zp_d127_0)
set_option maxRecDepth 100000 in
theorem zp_d128_0 : zp_db prog_11_method_15_code zp_t128_0 = true := by decide +kernel
set_option maxRecDepth 100000 in
theorem zp_k128 : zx_mok zp_P zp_G zp_cl zp_m128 := zp_mb_ok (a := 794) (b := 98) (c := 792) (d := 793) (by decide +kernel) (zp_db_ok zp_d128_0)
set_option maxRecDepth 100000 in
theorem zp_d129_0 : zp_db prog_12_method_2_code zp_t129_0 = true := by decide +kernel
set_option maxRecDepth 100000 in
theorem zp_k129 : zx_mok zp_P zp_G zp_cl zp_m129 := zp_mb_ok (a := 450) (b := 96) (c := 448) (d := 449) (by decide +kernel) (zp_db_ok zp_d129_0)
set_option maxRecDepth 100000 in
theorem zp_d130_0 : zp_db prog_12_method_3_code zp_t130_0 = true := by decide +kernel
set_option maxRecDepth 100000 in
theorem zp_k130 : zx_mok zp_P zp_G zp_cl zp_m130 := zp_mb_ok (a := 489) (b := 96) (c := 487) (d := 488) (by decide +kernel) (zp_db_ok zp_d130_0)
set_option maxRecDepth 100000 in
theorem zp_d131_0 : zp_db prog_12_method_4_code zp_t131_0 = true := by decide +kernel
set_option maxRecDepth 100000 in
theorem zp_k131 : zx_mok zp_P zp_G zp_cl zp_m131 := zp_mb_ok (a := 545) (b := 96) (c := 543) (d := 544) (by decide +kernel) (zp_db_ok zp_d131_0)
set_option maxRecDepth 100000 in
theorem zp_d132_0 : zp_db prog_12_method_5_code zp_t132_0 = true := by decide +kernel
set_option maxRecDepth 100000 in
theorem zp_k132 : zx_mok zp_P zp_G zp_cl zp_m132 := zp_mb_ok (a := 560) (b := 96) (c := 558) (d := 559) (by decide +kernel) (zp_db_ok zp_d132_0)
set_option maxRecDepth 100000 in
theorem zp_d133_0 : zp_db prog_12_method_6_code zp_t133_0 = true := by decide +kernel
set_option maxRecDepth 100000 in
theorem zp_k133 : zx_mok zp_P zp_G zp_cl zp_m133 := zp_mb_ok (a := 549) (b := 96) (c := 548) (d := 5) (by decide +kernel) (zp_db_ok zp_d133_0)
set_option maxRecDepth 100000 in
theorem zp_d134_0 : zp_db prog_12_method_7_code zp_t134_0 = true := by decide +kernel
set_option maxRecDepth 100000 in
theorem zp_k134 : zx_mok zp_P zp_G zp_cl zp_m134 := zp_mb_ok (a := 465) (b := 96) (c := 463) (d := 464) (by decide +kernel) (zp_db_ok zp_d134_0)
end
section
set_option maxRecDepth 100000 in
theorem zp_d135_0 : zp_db prog_12_method_8_code zp_t135_0 = true := by decide +kernel
set_option maxRecDepth 100000 in
theorem zp_k135 : zx_mok zp_P zp_G zp_cl zp_m135 := zp_mb_ok (a := 509) (b := 96) (c := 507) (d := 508) (by decide +kernel) (zp_db_ok zp_d135_0)
set_option maxRecDepth 100000 in
theorem zp_d136_0 : zp_db prog_1_method_2_code zp_t136_0 = true := by decide +kernel
set_option maxRecDepth 100000 in
theorem zp_k136 : zx_mok zp_P zp_G zp_cl zp_m136 := zp_mb_ok (a := 403) (b := 93) (c := 401) (d := 402) (by decide +kernel) (zp_db_ok zp_d136_0)
set_option maxRecDepth 100000 in
theorem zp_d137_0 : zp_db prog_1_method_3_code zp_t137_0 = true := by decide +kernel
set_option maxRecDepth 100000 in
theorem zp_k137 : zx_mok zp_P zp_G zp_cl zp_m137 := zp_mb_ok (a := 415) (b := 93) (c := 413) (d := 414) (by decide +kernel) (zp_db_ok zp_d137_0)
set_option maxRecDepth 100000 in
theorem zp_d138_0 : zp_db prog_1_method_4_code zp_t138_0 = true := by decide +kernel
set_option maxRecDepth 100000 in
theorem zp_k138 : zx_mok zp_P zp_G zp_cl zp_m138 := zp_mb_ok (a := 423) (b := 93) (c := 421) (d := 422) (by decide +kernel) (zp_db_ok zp_d138_0)
set_option maxRecDepth 100000 in
theorem zp_d139_0 : zp_db prog_1_method_5_code zp_t139_0 = true := by decide +kernel
set_option maxRecDepth 100000 in
theorem zp_k139 : zx_mok zp_P zp_G zp_cl zp_m139 := zp_mb_ok (a := 434) (b := 93) (c := 432) (d := 433) (by decide +kernel) (zp_db_ok zp_d139_0)
set_option maxRecDepth 100000 in
theorem zp_d140_0 : zp_db prog_1_method_6_code zp_t140_0 = true := by decide +kernel
set_option maxRecDepth 100000 in
theorem zp_k140 : zx_mok zp_P zp_G zp_cl zp_m140 := zp_mb_ok (a := 679) (b := 93) (c := 677) (d := 678) (by decide +kernel) (zp_db_ok zp_d140_0)
set_option maxRecDepth 100000 in
theorem zp_d141_0 : zp_db prog_1_method_7_code zp_t141_0 = true := by decide +kernel
set_option maxRecDepth 100000 in
theorem zp_k141 : zx_mok zp_P zp_G zp_cl zp_m141 := zp_mb_ok (a := 683) (b := 93) (c := 681) (d := 682) (by decide +kernel) (zp_db_ok zp_d141_0)
set_option maxRecDepth 100000 in
theorem zp_d142_0 : zp_db prog_1_method_8_code zp_t142_0 = true := by decide +kernel
set_option maxRecDepth 100000 in
theorem zp_k142 : zx_mok zp_P zp_G zp_cl zp_m142 := zp_mb_ok (a := 700) (b := 93) (c := 698) (d := 699) (by decide +kernel) (zp_db_ok zp_d142_0)
set_option maxRecDepth 100000 in
theorem zp_d143_0 : zp_db prog_1_method_9_code zp_t143_0 = true := by decide +kernel
set_option maxRecDepth 100000 in
theorem zp_k143 : zx_mok zp_P zp_G zp_cl zp_m143 := zp_mb_ok (a := 704) (b := 93) (c := 702) (d := 703) (by decide +kernel) (zp_db_ok zp_d143_0)
set_option maxRecDepth 100000 in
theorem zp_d144_0 : zp_db prog_1_method_10_code zp_t144_0 = true := by decide +kernel
set_option maxRecDepth 100000 in
theorem zp_k144 : zx_mok zp_P zp_G zp_cl zp_m144 := zp_mb_ok (a := 742) (b := 93) (c := 740) (d := 741) (by decide +kernel) (zp_db_ok zp_d144_0)
set_option maxRecDepth 100000 in
theorem zp_d145_0 : zp_db prog_1_method_11_code zp_t145_0 = true := by decide +kernel
set_option maxRecDepth 100000 in
theorem zp_k145 : zx_mok zp_P zp_G zp_cl zp_m145 := zp_mb_ok (a := 751) (b := 93) (c := 749) (d := 750) (by decide +kernel) (zp_db_ok zp_d145_0)
set_option maxRecDepth 100000 in
theorem zp_d146_0 : zp_db prog_1_method_12_code zp_t146_0 = true := by decide +kernel
set_option maxRecDepth 100000 in
theorem zp_k146 : zx_mok zp_P zp_G zp_cl zp_m146 := zp_mb_ok (a := 829) (b := 93) (c := 827) (d := 828) (by decide +kernel) (zp_db_ok zp_d146_0)
set_option maxRecDepth 100000 in
theorem zp_d147_0 : zp_db prog_1_method_13_code zp_t147_0 = true := by decide +kernel
set_option maxRecDepth 100000 in
theorem zp_k147 : zx_mok zp_P zp_G zp_cl zp_m147 := zp_mb_ok (a := 1152) (b := 93) (c := 1150) (d := 1151) (by decide +kernel) (zp_db_ok zp_d147_0)
set_option maxRecDepth 100000 in
theorem zp_d148_0 : zp_db prog_1_method_14_code zp_t148_0 = true := by decide +kernel
set_option maxRecDepth 100000 in
theorem zp_k148 : zx_mok zp_P zp_G zp_cl zp_m148 := zp_mb_ok (a := 888) (b := 93) (c := 886) (d := 887) (by decide +kernel) (zp_db_ok zp_d148_0)
set_option maxRecDepth 100000 in
theorem zp_d149_0 : zp_db prog_1_method_15_code zp_t149_0 = true := by decide +kernel
set_option maxRecDepth 100000 in
theorem zp_k149 : zx_mok zp_P zp_G zp_cl zp_m149 := zp_mb_ok (a := 897) (b := 93) (c := 895) (d := 896) (by decide +kernel) (zp_db_ok zp_d149_0)
set_option maxRecDepth 100000 in
theorem zp_d150_0 : zp_db prog_1_method_16_code zp_t150_0 = true := by decide +kernel
set_option maxRecDepth 100000 in
theorem zp_k150 : zx_mok zp_P zp_G zp_cl zp_m150 := zp_mb_ok (a := 1032) (b := 93) (c := 1030) (d := 1031) (by decide +kernel) (zp_db_ok zp_d150_0)
set_option maxRecDepth 100000 in
theorem zp_d151_0 : zp_db prog_1_method_17_code zp_t151_0 = true := by decide +kernel
set_option maxRecDepth 100000 in
theorem zp_k151 : zx_mok zp_P zp_G zp_cl zp_m151 := zp_mb_ok (a := 1052) (b := 93) (c := 1050) (d := 1051) (by decide +kernel) (zp_db_ok zp_d151_0)
set_option maxRecDepth 100000 in
theorem zp_d152_0 : zp_db prog_1_method_18_code zp_t152_0 = true := by decide +kernel
set_option maxRecDepth 100000 in
theorem zp_k152 : zx_mok zp_P zp_G zp_cl zp_m152 := zp_mb_ok (a := 1067) (b := 93) (c := 1065) (d := 1066) (by decide +kernel) (zp_db_ok zp_d152_0)
set_option maxRecDepth 100000 in
theorem zp_d153_0 : zp_db prog_1_method_19_code zp_t153_0 = true := by decide +kernel
set_option maxRecDepth 100000 in
theorem zp_k153 : zx_mok zp_P zp_G zp_cl zp_m153 := zp_mb_ok (a := 426) (b := 93) (c := 425) (d := 0) (by decide +kernel) (zp_db_ok zp_d153_0)
set_option maxRecDepth 100000 in
theorem zp_d154_0 : zp_db prog_1_method_20_code zp_t154_0 = true := by decide +kernel
set_option maxRecDepth 100000 in
theorem zp_k154 : zx_mok zp_P zp_G zp_cl zp_m154 := zp_mb_ok (a := 675) (b := 93) (c := 674) (d := 0) (by decide +kernel) (zp_db_ok zp_d154_0)
set_option maxRecDepth 100000 in
theorem zp_d155_0 : zp_db prog_14_method_3_code zp_t155_0 = true := by decide +kernel
set_option maxRecDepth 100000 in
theorem zp_k155 : zx_mok zp_P zp_G zp_cl zp_m155 := zp_mb_ok (a := 1339) (b := 103) (c := 1338) (d := 0) (by decide +kernel) (zp_db_ok zp_d155_0)
set_option maxRecDepth 100000 in
theorem zp_d156_0 : zp_db prog_14_method_4_code zp_t156_0 = true := by decide +kernel
set_option maxRecDepth 100000 in
theorem zp_k156 : zx_mok zp_P zp_G zp_cl zp_m156 := zp_mb_ok (a := 1345) (b := 103) (c := 1344) (d := 0) (by decide +kernel) (zp_db_ok zp_d156_0)
set_option maxRecDepth 100000 in
theorem zp_d157_0 : zp_db prog_14_method_5_code zp_t157_0 = true := by decide +kernel
set_option maxRecDepth 100000 in
theorem zp_k157 : zx_mok zp_P zp_G zp_cl zp_m157 := zp_mb_ok (a := 1342) (b := 103) (c := 1341) (d := 0) (by decide +kernel) (zp_db_ok zp_d157_0)
set_option maxRecDepth 100000 in
theorem zp_d158_0 : zp_db prog_14_method_6_code zp_t158_0 = true := by decide +kernel
set_option maxRecDepth 100000 in
theorem zp_d158_1 : zp_db prog_14_method_6_code zp_t158_1 = true := by decide +kernel
set_option maxRecDepth 100000 in
theorem zp_k158 : zx_mok zp_P zp_G zp_cl zp_m158 := zp_mb_ok (a := 1348) (b := 103) (c := 1347) (d := 0) (by decide +kernel) (zp_db_app (zp_db_ok zp_d158_0) (zp_db_ok zp_d158_1))
set_option maxRecDepth 100000 in
theorem zp_d159_0 : zp_db prog_14_method_7_code zp_t159_0 = true := by decide +kernel
set_option maxRecDepth 100000 in
theorem zp_k159 : zx_mok zp_P zp_G zp_cl zp_m159 := zp_mb_ok (a := 1372) (b := 103) (c := 1371) (d := 59) (by decide +kernel) (zp_db_ok zp_d159_0)
set_option maxRecDepth 100000 in
theorem zp_d160_0 : zp_db prog_14_method_8_code zp_t160_0 = true := by decide +kernel
set_option maxRecDepth 100000 in
theorem zp_k160 : zx_mok zp_P zp_G zp_cl zp_m160 := zp_mb_ok (a := 1380) (b := 103) (c := 1379) (d := 61) (by decide +kernel) (zp_db_ok zp_d160_0)
set_option maxRecDepth 100000 in
theorem zp_d161_0 : zp_db prog_14_method_9_code zp_t161_0 = true := by decide +kernel
set_option maxRecDepth 100000 in
theorem zp_d161_1 : zp_db prog_14_method_9_code zp_t161_1 = true := by decide +kernel
set_option maxRecDepth 100000 in
theorem zp_k161 : zx_mok zp_P zp_G zp_cl zp_m161 := zp_mb_ok (a := 1383) (b := 103) (c := 1382) (d := 0) (by decide +kernel) (zp_db_app (zp_db_ok zp_d161_0) (zp_db_ok zp_d161_1))
set_option maxRecDepth 100000 in
theorem zp_d162_0 : zp_db prog_14_method_10_code zp_t162_0 = true := by decide +kernel
set_option maxRecDepth 100000 in
theorem zp_k162 : zx_mok zp_P zp_G zp_cl zp_m162 := zp_mb_ok (a := 1376) (b := 103) (c := 1375) (d := 60) (by decide +kernel) (zp_db_ok zp_d162_0)
set_option maxRecDepth 100000 in
theorem zp_d163_0 : zp_db prog_14_method_11_code zp_t163_0 = true := by decide +kernel
set_option maxRecDepth 100000 in
theorem zp_d163_1 : zp_db prog_14_method_11_code zp_t163_1 = true := by decide +kernel
set_option maxRecDepth 100000 in
theorem zp_k163 : zx_mok zp_P zp_G zp_cl zp_m163 := zp_mb_ok (a := 1368) (b := 103) (c := 1367) (d := 58) (by decide +kernel) (zp_db_app (zp_db_ok zp_d163_0) (zp_db_ok zp_d163_1))
set_option maxRecDepth 100000 in
theorem zp_d164_0 : zp_db prog_14_method_12_code zp_t164_0 = true := by decide +kernel
set_option maxRecDepth 100000 in
theorem zp_k164 : zx_mok zp_P zp_G zp_cl zp_m164 := zp_mb_ok (a := 1395) (b := 103) (c := 1394) (d := 64) (by decide +kernel) (zp_db_ok zp_d164_0)
set_option maxRecDepth 100000 in
theorem zp_d165_0 : zp_db prog_14_method_13_code zp_t165_0 = true := by decide +kernel
set_option maxRecDepth 100000 in
theorem zp_k165 : zx_mok zp_P zp_G zp_cl zp_m165 := zp_mb_ok (a := 1387) (b := 103) (c := 1386) (d := 62) (by decide +kernel) (zp_db_ok zp_d165_0)
set_option maxRecDepth 100000 in
theorem zp_d166_0 : zp_db prog_14_method_14_code zp_t166_0 = true := by decide +kernel
set_option maxRecDepth 100000 in
theorem zp_d166_1 : zp_db prog_14_method_14_code zp_t166_1 = true := by decide +kernel
set_option maxRecDepth 100000 in
theorem zp_k166 : zx_mok zp_P zp_G zp_cl zp_m166 := zp_mb_ok (a := 1391) (b := 103) (c := 1390) (d := 63) (by decide +kernel) (zp_db_app (zp_db_ok zp_d166_0) (zp_db_ok zp_d166_1))
set_option maxRecDepth 100000 in
theorem zp_d167_0 : zp_db prog_14_method_15_code zp_t167_0 = true := by decide +kernel
set_option maxRecDepth 100000 in
theorem zp_d167_1 : zp_db prog_14_method_15_code zp_t167_1 = true := by decide +kernel
set_option maxRecDepth 100000 in
theorem zp_d167_2 : zp_db prog_14_method_15_code zp_t167_2 = true := by decide +kernel
set_option maxRecDepth 100000 in
theorem zp_d167_3 : zp_db prog_14_method_15_code zp_t167_3 = true := by decide +kernel
set_option maxRecDepth 100000 in
theorem zp_d167_4 : zp_db prog_14_method_15_code zp_t167_4 = true := by decide +kernel
set_option maxRecDepth 100000 in
theorem zp_k167 : zx_mok zp_P zp_G zp_cl zp_m167 := zp_mb_ok (a := 1364) (b := 103) (c := 1363) (d := 57) (by decide +kernel) (zp_db_app (zp_db_ok zp_d167_0) (zp_db_app (zp_db_ok zp_d167_1) (zp_db_app (zp_db_ok zp_d167_2) (zp_db_app (zp_db_ok zp_d167_3) (zp_db_ok zp_d167_4)))))
set_option maxRecDepth 100000 in
theorem zp_d168_0 : zp_db prog_14_method_16_code zp_t168_0 = true := by decide +kernel
set_option maxRecDepth 100000 in
theorem zp_k168 : zx_mok zp_P zp_G zp_cl zp_m168 := zp_mb_ok (a := 1407) (b := 103) (c := 1406) (d := 67) (by decide +kernel) (zp_db_ok zp_d168_0)
set_option maxRecDepth 100000 in
theorem zp_d169_0 : zp_db prog_14_method_17_code zp_t169_0 = true := by decide +kernel
set_option maxRecDepth 100000 in
theorem zp_d169_1 : zp_db prog_14_method_17_code zp_t169_1 = true := by decide +kernel
set_option maxRecDepth 100000 in
theorem zp_k169 : zx_mok zp_P zp_G zp_cl zp_m169 := zp_mb_ok (a := 1403) (b := 103) (c := 1402) (d := 66) (by decide +kernel) (zp_db_app (zp_db_ok zp_d169_0) (zp_db_ok zp_d169_1))
set_option maxRecDepth 100000 in
theorem zp_d170_0 : zp_db prog_14_method_18_code zp_t170_0 = true := by decide +kernel
set_option maxRecDepth 100000 in
theorem zp_k170 : zx_mok zp_P zp_G zp_cl zp_m170 := zp_mb_ok (a := 1399) (b := 103) (c := 1398) (d := 65) (by decide +kernel) (zp_db_ok zp_d170_0)
set_option maxRecDepth 100000 in
theorem zp_d171_0 : zp_db prog_14_method_19_code zp_t171_0 = true := by decide +kernel
set_option maxRecDepth 100000 in
theorem zp_k171 : zx_mok zp_P zp_G zp_cl zp_m171 := zp_mb_ok (a := 1360) (b := 103) (c := 1359) (d := 56) (by decide +kernel) (zp_db_ok zp_d171_0)
set_option maxRecDepth 100000 in
theorem zp_d172_0 : zp_db prog_14_method_20_code zp_t172_0 = true := by decide +kernel
set_option maxRecDepth 100000 in
theorem zp_k172 : zx_mok zp_P zp_G zp_cl zp_m172 := zp_mb_ok (a := 1332) (b := 103) (c := 1331) (d := 52) (by decide +kernel) (zp_db_ok zp_d172_0)
set_option maxRecDepth 100000 in
theorem zp_d173_0 : zp_db prog_14_method_21_code zp_t173_0 = true := by decide +kernel
set_option maxRecDepth 100000 in
theorem zp_k173 : zx_mok zp_P zp_G zp_cl zp_m173 := zp_mb_ok (a := 1356) (b := 103) (c := 1355) (d := 55) (by decide +kernel) (zp_db_ok zp_d173_0)
set_option maxRecDepth 100000 in
theorem zp_d174_0 : zp_db prog_14_method_22_code zp_t174_0 = true := by decide +kernel
set_option maxRecDepth 100000 in
theorem zp_d174_1 : zp_db prog_14_method_22_code zp_t174_1 = true := by decide +kernel
set_option maxRecDepth 100000 in
theorem zp_d174_2 : zp_db prog_14_method_22_code zp_t174_2 = true := by decide +kernel
set_option maxRecDepth 100000 in
theorem zp_d174_3 : zp_db prog_14_method_22_code zp_t174_3 = true := by decide +kernel
set_option maxRecDepth 100000 in
theorem zp_k174 : zx_mok zp_P zp_G zp_cl zp_m174 := zp_mb_ok (a := 1336) (b := 103) (c := 1335) (d := 53) (by decide +kernel) (zp_db_app (zp_db_ok zp_d174_0) (zp_db_app (zp_db_ok zp_d174_1) (zp_db_app (zp_db_ok zp_d174_2) (zp_db_ok zp_d174_3))))
set_option maxRecDepth 100000 in
theorem zp_d175_0 : zp_db prog_14_method_23_code zp_t175_0 = true := by decide +kernel
set_option maxRecDepth 100000 in
theorem zp_d175_1 : zp_db prog_14_method_23_code zp_t175_1 = true := by decide +kernel
set_option maxRecDepth 100000 in
theorem zp_d175_2 : zp_db prog_14_method_23_code zp_t175_2 = true := by decide +kernel
set_option maxRecDepth 100000 in
theorem zp_k175 : zx_mok zp_P zp_G zp_cl zp_m175 := zp_mb_ok (a := 1352) (b := 103) (c := 1351) (d := 54) (by decide +kernel) (zp_db_app (zp_db_ok zp_d175_0) (zp_db_app (zp_db_ok zp_d175_1) (zp_db_ok zp_d175_2)))
set_option maxRecDepth 100000 in
theorem zp_d176_0 : zp_db prog_14_method_24_code zp_t176_0 = true := by decide +kernel
set_option maxRecDepth 100000 in
theorem zp_d176_1 : zp_db prog_14_method_24_code zp_t176_1 = true := by decide +kernel
set_option maxRecDepth 100000 in
theorem zp_d176_2 : zp_db prog_14_method_24_code zp_t176_2 = true := by decide +kernel
set_option maxRecDepth 100000 in
theorem zp_k176 : zx_mok zp_P zp_G zp_cl zp_m176 := zp_mb_ok (a := 1328) (b := 103) (c := 1326) (d := 1327) (by decide +kernel) (zp_db_app (zp_db_ok zp_d176_0) (zp_db_app (zp_db_ok zp_d176_1) (zp_db_ok zp_d176_2)))
set_option maxRecDepth 100000 in
theorem zp_d177_0 : zp_db prog_14_method_25_code zp_t177_0 = true := by decide +kernel
set_option maxRecDepth 100000 in
theorem zp_d177_1 : zp_db prog_14_method_25_code zp_t177_1 = true := by decide +kernel
set_option maxRecDepth 100000 in
theorem zp_k177 : zx_mok zp_P zp_G zp_cl zp_m177 := zp_mb_ok (a := 1411) (b := 103) (c := 1410) (d := 68) (by decide +kernel) (zp_db_app (zp_db_ok zp_d177_0) (zp_db_ok zp_d177_1))
set_option maxRecDepth 100000 in
theorem zp_d178_0 : zp_db prog_14_method_26_code zp_t178_0 = true := by decide +kernel
set_option maxRecDepth 100000 in
theorem zp_d178_1 : zp_db prog_14_method_26_code zp_t178_1 = true := by decide +kernel
set_option maxRecDepth 100000 in
theorem zp_d178_2 : zp_db prog_14_method_26_code zp_t178_2 = true := by decide +kernel
set_option maxRecDepth 100000 in
theorem zp_k178 : zx_mok zp_P zp_G zp_cl zp_m178 := zp_mb_ok (a := 1415) (b := 103) (c := 1414) (d := 69) (by decide +kernel) (zp_db_app (zp_db_ok zp_d178_0) (zp_db_app (zp_db_ok zp_d178_1) (zp_db_ok zp_d178_2)))
set_option maxRecDepth 100000 in
theorem zp_d179_0 : zp_db prog_14_method_27_code zp_t179_0 = true := by decide +kernel
set_option maxRecDepth 100000 in
theorem zp_k179 : zx_mok zp_P zp_G zp_cl zp_m179 := zp_mb_ok (a := 1426) (b := 103) (c := 1425) (d := 70) (by decide +kernel) (zp_db_ok zp_d179_0)
end
section
set_option maxRecDepth 100000 in
theorem zp_d180_0 : zp_db prog_14_method_28_code zp_t180_0 = true := by decide +kernel
set_option maxRecDepth 100000 in
theorem zp_d180_1 : zp_db prog_14_method_28_code zp_t180_1 = true := by decide +kernel
set_option maxRecDepth 100000 in
theorem zp_k180 : zx_mok zp_P zp_G zp_cl zp_m180 := zp_mb_ok (a := 1422) (b := 103) (c := 1421) (d := 0) (by decide +kernel) (zp_db_app (zp_db_ok zp_d180_0) (zp_db_ok zp_d180_1))
set_option maxRecDepth 100000 in
theorem zp_d181_0 : zp_db prog_14_method_29_code zp_t181_0 = true := by decide +kernel
set_option maxRecDepth 100000 in
theorem zp_k181 : zx_mok zp_P zp_G zp_cl zp_m181 := zp_mb_ok (a := 1438) (b := 103) (c := 1437) (d := 73) (by decide +kernel) (zp_db_ok zp_d181_0)
set_option maxRecDepth 100000 in
theorem zp_d182_0 : zp_db prog_14_method_30_code zp_t182_0 = true := by decide +kernel
set_option maxRecDepth 100000 in
theorem zp_k182 : zx_mok zp_P zp_G zp_cl zp_m182 := zp_mb_ok (a := 1434) (b := 103) (c := 1433) (d := 72) (by decide +kernel) (zp_db_ok zp_d182_0)
set_option maxRecDepth 100000 in
theorem zp_d183_0 : zp_db prog_14_method_31_code zp_t183_0 = true := by decide +kernel
set_option maxRecDepth 100000 in
theorem zp_d183_1 : zp_db prog_14_method_31_code zp_t183_1 = true := by decide +kernel
set_option maxRecDepth 100000 in
theorem zp_k183 : zx_mok zp_P zp_G zp_cl zp_m183 := zp_mb_ok (a := 1430) (b := 103) (c := 1429) (d := 71) (by decide +kernel) (zp_db_app (zp_db_ok zp_d183_0) (zp_db_ok zp_d183_1))
set_option maxRecDepth 100000 in
theorem zp_d184_0 : zp_db prog_14_method_32_code zp_t184_0 = true := by decide +kernel
set_option maxRecDepth 100000 in
theorem zp_d184_1 : zp_db prog_14_method_32_code zp_t184_1 = true := by decide +kernel
set_option maxRecDepth 100000 in
theorem zp_k184 : zx_mok zp_P zp_G zp_cl zp_m184 := zp_mb_ok (a := 1442) (b := 103) (c := 1441) (d := 74) (by decide +kernel) (zp_db_app (zp_db_ok zp_d184_0) (zp_db_ok zp_d184_1))
set_option maxRecDepth 100000 in
theorem zp_d185_0 : zp_db prog_14_method_33_code zp_t185_0 = true := by decide +kernel
set_option maxRecDepth 100000 in
theorem zp_d185_1 : zp_db prog_14_method_33_code zp_t185_1 = true := by decide +kernel
set_option maxRecDepth 100000 in
theorem zp_k185 : zx_mok zp_P zp_G zp_cl zp_m185 := zp_mb_ok (a := 1446) (b := 103) (c := 1445) (d := 75) (by decide +kernel) (zp_db_app (zp_db_ok zp_d185_0) (zp_db_ok zp_d185_1))
set_option maxRecDepth 100000 in
theorem zp_d186_0 : zp_db prog_14_method_34_code zp_t186_0 = true := by decide +kernel
set_option maxRecDepth 100000 in
theorem zp_d186_1 : zp_db prog_14_method_34_code zp_t186_1 = true := by decide +kernel
set_option maxRecDepth 100000 in
theorem zp_d186_2 : zp_db prog_14_method_34_code zp_t186_2 = true := by decide +kernel
set_option maxRecDepth 100000 in
theorem zp_k186 : zx_mok zp_P zp_G zp_cl zp_m186 := zp_mb_ok (a := 1419) (b := 103) (c := 1417) (d := 1418) (by decide +kernel) (zp_db_app (zp_db_ok zp_d186_0) (zp_db_app (zp_db_ok zp_d186_1) (zp_db_ok zp_d186_2)))
set_option maxRecDepth 100000 in
theorem zp_d187_0 : zp_db prog_14_method_35_code zp_t187_0 = true := by decide +kernel
set_option maxRecDepth 100000 in
theorem zp_k187 : zx_mok zp_P zp_G zp_cl zp_m187 := zp_mb_ok (a := 1471) (b := 103) (c := 1470) (d := 78) (by decide +kernel) (zp_db_ok zp_d187_0)
set_option maxRecDepth 100000 in
theorem zp_d188_0 : zp_db prog_14_method_36_code zp_t188_0 = true := by decide +kernel
set_option maxRecDepth 100000 in
theorem zp_k188 : zx_mok zp_P zp_G zp_cl zp_m188 := zp_mb_ok (a := 1460) (b := 103) (c := 1459) (d := 0) (by decide +kernel) (zp_db_ok zp_d188_0)
set_option maxRecDepth 100000 in
theorem zp_d189_0 : zp_db prog_14_method_37_code zp_t189_0 = true := by decide +kernel
set_option maxRecDepth 100000 in
theorem zp_k189 : zx_mok zp_P zp_G zp_cl zp_m189 := zp_mb_ok (a := 1457) (b := 103) (c := 1456) (d := 0) (by decide +kernel) (zp_db_ok zp_d189_0)
set_option maxRecDepth 100000 in
theorem zp_d190_0 : zp_db prog_14_method_38_code zp_t190_0 = true := by decide +kernel
set_option maxRecDepth 100000 in
theorem zp_d190_1 : zp_db prog_14_method_38_code zp_t190_1 = true := by decide +kernel
set_option maxRecDepth 100000 in
theorem zp_k190 : zx_mok zp_P zp_G zp_cl zp_m190 := zp_mb_ok (a := 1475) (b := 103) (c := 1474) (d := 79) (by decide +kernel) (zp_db_app (zp_db_ok zp_d190_0) (zp_db_ok zp_d190_1))
set_option maxRecDepth 100000 in
theorem zp_d191_0 : zp_db prog_14_method_39_code zp_t191_0 = true := by decide +kernel
set_option maxRecDepth 100000 in
theorem zp_k191 : zx_mok zp_P zp_G zp_cl zp_m191 := zp_mb_ok (a := 1463) (b := 103) (c := 1462) (d := 0) (by decide +kernel) (zp_db_ok zp_d191_0)
set_option maxRecDepth 100000 in
theorem zp_d192_0 : zp_db prog_14_method_40_code zp_t192_0 = true := by decide +kernel
set_option maxRecDepth 100000 in
theorem zp_k192 : zx_mok zp_P zp_G zp_cl zp_m192 := zp_mb_ok (a := 1467) (b := 103) (c := 1466) (d := 77) (by decide +kernel) (zp_db_ok zp_d192_0)
set_option maxRecDepth 100000 in
theorem zp_d193_0 : zp_db prog_14_method_41_code zp_t193_0 = true := by decide +kernel
set_option maxRecDepth 100000 in
theorem zp_d193_1 : zp_db prog_14_method_41_code zp_t193_1 = true := by decide +kernel
set_option maxRecDepth 100000 in
theorem zp_d193_2 : zp_db prog_14_method_41_code zp_t193_2 = true := by decide +kernel
set_option maxRecDepth 100000 in
theorem zp_d193_3 : zp_db prog_14_method_41_code zp_t193_3 = true := by decide +kernel
set_option maxRecDepth 100000 in
theorem zp_d193_4 : zp_db prog_14_method_41_code zp_t193_4 = true := by decide +kernel
set_option maxRecDepth 100000 in
theorem zp_d193_5 : zp_db prog_14_method_41_code zp_t193_5 = true := by decide +kernel
set_option maxRecDepth 100000 in
theorem zp_d193_6 : zp_db prog_14_method_41_code zp_t193_6 = true := by decide +kernel
set_option maxRecDepth 100000 in
theorem zp_k193 : zx_mok zp_P zp_G zp_cl zp_m193 := zp_mb_ok (a := 1454) (b := 103) (c := 1453) (d := 76) (by decide +kernel) (zp_db_app (zp_db_ok zp_d193_0) (zp_db_app (zp_db_ok zp_d193_1) (zp_db_app (zp_db_ok zp_d193_2) (zp_db_app (zp_db_ok zp_d193_3) (zp_db_app (zp_db_ok zp_d193_4) (zp_db_app (zp_db_ok zp_d193_5) (zp_db_ok zp_d193_6)))))))
set_option maxRecDepth 100000 in
theorem zp_d194_0 : zp_db prog_14_method_42_code zp_t194_0 = true := by decide +kernel
set_option maxRecDepth 100000 in
theorem zp_k194 : zx_mok zp_P zp_G zp_cl zp_m194 := zp_mb_ok (a := 1450) (b := 103) (c := 1448) (d := 1449) (by decide +kernel) (zp_db_ok zp_d194_0)
set_option maxRecDepth 100000 in
theorem zp_d195_0 : zp_db prog_14_method_43_code zp_t195_0 = true := by decide +kernel
set_option maxRecDepth 100000 in
theorem zp_k195 : zx_mok zp_P zp_G zp_cl zp_m195 := zp_mb_ok (a := 1479) (b := 103) (c := 1477) (d := 1478) (by decide +kernel) (zp_db_ok zp_d195_0)
set_option maxRecDepth 100000 in
theorem zp_d196_0 : zp_db prog_14_method_44_code zp_t196_0 = true := by decide +kernel
set_option maxRecDepth 100000 in
theorem zp_d196_1 : zp_db prog_14_method_44_code zp_t196_1 = true := by decide +kernel
set_option maxRecDepth 100000 in
theorem zp_k196 : zx_mok zp_P zp_G zp_cl zp_m196 := zp_mb_ok (a := 1483) (b := 103) (c := 1481) (d := 1482) (by decide +kernel) (zp_db_app (zp_db_ok zp_d196_0) (zp_db_ok zp_d196_1))
set_option maxRecDepth 100000 in
theorem zp_d197_0 : zp_db prog_14_method_45_code zp_t197_0 = true := by decide +kernel
set_option maxRecDepth 100000 in
theorem zp_d197_1 : zp_db prog_14_method_45_code zp_t197_1 = true := by decide +kernel
set_option maxRecDepth 100000 in
theorem zp_k197 : zx_mok zp_P zp_G zp_cl zp_m197 := zp_mb_ok (a := 1487) (b := 103) (c := 1485) (d := 1486) (by decide +kernel) (zp_db_app (zp_db_ok zp_d197_0) (zp_db_ok zp_d197_1))
set_option maxRecDepth 100000 in
theorem zp_d198_0 : zp_db prog_14_method_46_code zp_t198_0 = true := by decide +kernel
set_option maxRecDepth 100000 in
theorem zp_d198_1 : zp_db prog_14_method_46_code zp_t198_1 = true := by decide +kernel
set_option maxRecDepth 100000 in
theorem zp_k198 : zx_mok zp_P zp_G zp_cl zp_m198 := zp_mb_ok (a := 1491) (b := 103) (c := 1489) (d := 1490) (by decide +kernel) (zp_db_app (zp_db_ok zp_d198_0) (zp_db_ok zp_d198_1))
set_option maxRecDepth 100000 in
theorem zp_d199_0 : zp_db prog_14_method_47_code zp_t199_0 = true := by decide +kernel
set_option maxRecDepth 100000 in
theorem zp_k199 : zx_mok zp_P zp_G zp_cl zp_m199 := zp_mb_ok (a := 1495) (b := 103) (c := 1493) (d := 1494) (by decide +kernel) (zp_db_ok zp_d199_0)
set_option maxRecDepth 100000 in
theorem zp_d200_0 : zp_db prog_14_method_48_code zp_t200_0 = true := by decide +kernel
set_option maxRecDepth 100000 in
theorem zp_d200_1 : zp_db prog_14_method_48_code zp_t200_1 = true := by decide +kernel
set_option maxRecDepth 100000 in
theorem zp_k200 : zx_mok zp_P zp_G zp_cl zp_m200 := zp_mb_ok (a := 1499) (b := 103) (c := 1497) (d := 1498) (by decide +kernel) (zp_db_app (zp_db_ok zp_d200_0) (zp_db_ok zp_d200_1))
set_option maxRecDepth 100000 in
theorem zp_d201_0 : zp_db prog_14_method_49_code zp_t201_0 = true := by decide +kernel
set_option maxRecDepth 100000 in
theorem zp_k201 : zx_mok zp_P zp_G zp_cl zp_m201 := zp_mb_ok (a := 1503) (b := 103) (c := 1501) (d := 1502) (by decide +kernel) (zp_db_ok zp_d201_0)
set_option maxRecDepth 100000 in
theorem zp_d202_0 : zp_db prog_14_method_50_code zp_t202_0 = true := by decide +kernel
set_option maxRecDepth 100000 in
theorem zp_d202_1 : zp_db prog_14_method_50_code zp_t202_1 = true := by decide +kernel
set_option maxRecDepth 100000 in
theorem zp_k202 : zx_mok zp_P zp_G zp_cl zp_m202 := zp_mb_ok (a := 1507) (b := 103) (c := 1505) (d := 1506) (by decide +kernel) (zp_db_app (zp_db_ok zp_d202_0) (zp_db_ok zp_d202_1))
set_option maxRecDepth 100000 in
theorem zp_d203_0 : zp_db prog_14_method_51_code zp_t203_0 = true := by decide +kernel
set_option maxRecDepth 100000 in
theorem zp_d203_1 : zp_db prog_14_method_51_code zp_t203_1 = true := by decide +kernel
set_option maxRecDepth 100000 in
theorem zp_k203 : zx_mok zp_P zp_G zp_cl zp_m203 := zp_mb_ok (a := 1511) (b := 103) (c := 1509) (d := 1510) (by decide +kernel) (zp_db_app (zp_db_ok zp_d203_0) (zp_db_ok zp_d203_1))
set_option maxRecDepth 100000 in
theorem zp_d204_0 : zp_db prog_14_method_52_code zp_t204_0 = true := by decide +kernel
set_option maxRecDepth 100000 in
theorem zp_k204 : zx_mok zp_P zp_G zp_cl zp_m204 := zp_mb_ok (a := 1515) (b := 103) (c := 1513) (d := 1514) (by decide +kernel) (zp_db_ok zp_d204_0)
set_option maxRecDepth 100000 in
theorem zp_d205_0 : zp_db prog_14_method_53_code zp_t205_0 = true := by decide +kernel
set_option maxRecDepth 100000 in
theorem zp_k205 : zx_mok zp_P zp_G zp_cl zp_m205 := zp_mb_ok (a := 1529) (b := 103) (c := 1528) (d := 81) (by decide +kernel) (zp_db_ok zp_d205_0)
set_option maxRecDepth 100000 in
theorem zp_d206_0 : zp_db prog_14_method_54_code zp_t206_0 = true := by decide +kernel
set_option maxRecDepth 100000 in
theorem zp_d206_1 : zp_db prog_14_method_54_code zp_t206_1 = true := by decide +kernel
set_option maxRecDepth 100000 in
theorem zp_d206_2 : zp_db prog_14_method_54_code zp_t206_2 = true := by decide +kernel
set_option maxRecDepth 100000 in
theorem zp_k206 : zx_mok zp_P zp_G zp_cl zp_m206 := zp_mb_ok (a := 1524) (b := 103) (c := 1523) (d := 80) (by decide +kernel) (zp_db_app (zp_db_ok zp_d206_0) (zp_db_app (zp_db_ok zp_d206_1) (zp_db_ok zp_d206_2)))
set_option maxRecDepth 100000 in
theorem zp_d207_0 : zp_db prog_14_method_55_code zp_t207_0 = true := by decide +kernel
set_option maxRecDepth 100000 in
theorem zp_k207 : zx_mok zp_P zp_G zp_cl zp_m207 := zp_mb_ok (a := 1533) (b := 103) (c := 1532) (d := 82) (by decide +kernel) (zp_db_ok zp_d207_0)
set_option maxRecDepth 100000 in
theorem zp_d208_0 : zp_db prog_14_method_56_code zp_t208_0 = true := by decide +kernel
set_option maxRecDepth 100000 in
theorem zp_k208 : zx_mok zp_P zp_G zp_cl zp_m208 := zp_mb_ok (a := 1541) (b := 103) (c := 1540) (d := 84) (by decide +kernel) (zp_db_ok zp_d208_0)
set_option maxRecDepth 100000 in
theorem zp_d209_0 : zp_db prog_14_method_57_code zp_t209_0 = true := by decide +kernel
set_option maxRecDepth 100000 in
theorem zp_k209 : zx_mok zp_P zp_G zp_cl zp_m209 := zp_mb_ok (a := 1561) (b := 103) (c := 1560) (d := 89) (by decide +kernel) (zp_db_ok zp_d209_0)
set_option maxRecDepth 100000 in
theorem zp_d210_0 : zp_db prog_14_method_58_code zp_t210_0 = true := by decide +kernel
set_option maxRecDepth 100000 in
theorem zp_d210_1 : zp_db prog_14_method_58_code zp_t210_1 = true := by decide +kernel
set_option maxRecDepth 100000 in
theorem zp_k210 : zx_mok zp_P zp_G zp_cl zp_m210 := zp_mb_ok (a := 1557) (b := 103) (c := 1556) (d := 88) (by decide +kernel) (zp_db_app (zp_db_ok zp_d210_0) (zp_db_ok zp_d210_1))
set_option maxRecDepth 100000 in
theorem zp_d211_0 : zp_db prog_14_method_59_code zp_t211_0 = true := by decide +kernel
set_option maxRecDepth 100000 in
theorem zp_k211 : zx_mok zp_P zp_G zp_cl zp_m211 := zp_mb_ok (a := 1553) (b := 103) (c := 1552) (d := 87) (by decide +kernel) (zp_db_ok zp_d211_0)
set_option maxRecDepth 100000 in
theorem zp_d212_0 : zp_db prog_14_method_60_code zp_t212_0 = true := by decide +kernel
set_option maxRecDepth 100000 in
theorem zp_d212_1 : zp_db prog_14_method_60_code zp_t212_1 = true := by decide +kernel
set_option maxRecDepth 100000 in
theorem zp_d212_2 : zp_db prog_14_method_60_code zp_t212_2 = true := by decide +kernel
set_option maxRecDepth 100000 in
theorem zp_k212 : zx_mok zp_P zp_G zp_cl zp_m212 := zp_mb_ok (a := 1549) (b := 103) (c := 1548) (d := 86) (by decide +kernel) (zp_db_app (zp_db_ok zp_d212_0) (zp_db_app (zp_db_ok zp_d212_1) (zp_db_ok zp_d212_2)))
set_option maxRecDepth 100000 in
theorem zp_d213_0 : zp_db prog_14_method_61_code zp_t213_0 = true := by decide +kernel
set_option maxRecDepth 100000 in
theorem zp_d213_1 : zp_db prog_14_method_61_code zp_t213_1 = true := by decide +kernel
set_option maxRecDepth 100000 in
theorem zp_d213_2 : zp_db prog_14_method_61_code zp_t213_2 = true := by decide +kernel
set_option maxRecDepth 100000 in
theorem zp_k213 : zx_mok zp_P zp_G zp_cl zp_m213 := zp_mb_ok (a := 1570) (b := 103) (c := 1569) (d := 91) (by decide +kernel) (zp_db_app (zp_db_ok zp_d213_0) (zp_db_app (zp_db_ok zp_d213_1) (zp_db_ok zp_d213_2)))
set_option maxRecDepth 100000 in
theorem zp_d214_0 : zp_db prog_14_method_62_code zp_t214_0 = true := by decide +kernel
set_option maxRecDepth 100000 in
theorem zp_d214_1 : zp_db prog_14_method_62_code zp_t214_1 = true := by decide +kernel
set_option maxRecDepth 100000 in
theorem zp_d214_2 : zp_db prog_14_method_62_code zp_t214_2 = true := by decide +kernel
set_option maxRecDepth 100000 in
theorem zp_k214 : zx_mok zp_P zp_G zp_cl zp_m214 := zp_mb_ok (a := 1565) (b := 103) (c := 1564) (d := 90) (by decide +kernel) (zp_db_app (zp_db_ok zp_d214_0) (zp_db_app (zp_db_ok zp_d214_1) (zp_db_ok zp_d214_2)))
set_option maxRecDepth 100000 in
theorem zp_d215_0 : zp_db prog_14_method_63_code zp_t215_0 = true := by decide +kernel
set_option maxRecDepth 100000 in
theorem zp_d215_1 : zp_db prog_14_method_63_code zp_t215_1 = true := by decide +kernel
set_option maxRecDepth 100000 in
theorem zp_d215_2 : zp_db prog_14_method_63_code zp_t215_2 = true := by decide +kernel
set_option maxRecDepth 100000 in
theorem zp_d215_3 : zp_db prog_14_method_63_code zp_t215_3 = true := by decide +kernel
set_option maxRecDepth 100000 in
theorem zp_d215_4 : zp_db prog_14_method_63_code zp_t215_4 = true := by decide +kernel
set_option maxRecDepth 100000 in
theorem zp_d215_5 : zp_db prog_14_method_63_code zp_t215_5 = true := by decide +kernel
set_option maxRecDepth 100000 in
theorem zp_k215 : zx_mok zp_P zp_G zp_cl zp_m215 := zp_mb_ok (a := 1545) (b := 103) (c := 1544) (d := 85) (by decide +kernel) (zp_db_app (zp_db_ok zp_d215_0) (zp_db_app (zp_db_ok zp_d215_1) (zp_db_app (zp_db_ok zp_d215_2) (zp_db_app (zp_db_ok zp_d215_3) (zp_db_app (zp_db_ok zp_d215_4) (zp_db_ok zp_d215_5))))))
set_option maxRecDepth 100000 in
theorem zp_d216_0 : zp_db prog_14_method_64_code zp_t216_0 = true := by decide +kernel
set_option maxRecDepth 100000 in
theorem zp_d216_1 : zp_db prog_14_method_64_code zp_t216_1 = true := by decide +kernel
set_option maxRecDepth 100000 in
theorem zp_k216 : zx_mok zp_P zp_G zp_cl zp_m216 := zp_mb_ok (a := 1537) (b := 103) (c := 1536) (d := 83) (by decide +kernel) (zp_db_app (zp_db_ok zp_d216_0) (zp_db_ok zp_d216_1))
set_option maxRecDepth 100000 in
theorem zp_d217_0 : zp_db prog_14_method_65_code zp_t217_0 = true := by decide +kernel
set_option maxRecDepth 100000 in
theorem zp_d217_1 : zp_db prog_14_method_65_code zp_t217_1 = true := by decide +kernel
set_option maxRecDepth 100000 in
theorem zp_d217_2 : zp_db prog_14_method_65_code zp_t217_2 = true := by decide +kernel
set_option maxRecDepth 100000 in
theorem zp_d217_3 : zp_db prog_14_method_65_code zp_t217_3 = true := by decide +kernel
set_option maxRecDepth 100000 in
theorem zp_k217 : zx_mok zp_P zp_G zp_cl zp_m217 := zp_mb_ok (a := 1520) (b := 103) (c := 1518) (d := 1519) (by decide +kernel) (zp_db_app (zp_db_ok zp_d217_0) (zp_db_app (zp_db_ok zp_d217_1) (zp_db_app (zp_db_ok zp_d217_2) (zp_db_ok zp_d217_3))))
set_option maxRecDepth 100000 in
theorem zp_d218_0 : zp_db prog_14_method_66_code zp_t218_0 = true := by decide +kernel
set_option maxRecDepth 100000 in
theorem zp_d218_1 : zp_db prog_14_method_66_code zp_t218_1 = true := by decide +kernel
set_option maxRecDepth 100000 in
theorem zp_k218 : zx_mok zp_P zp_G zp_cl zp_m218 := zp_mb_ok (a := 1574) (b := 103) (c := 1572) (d := 1573) (by decide +kernel) (zp_db_app (zp_db_ok zp_d218_0) (zp_db_ok zp_d218_1))
set_option maxRecDepth 100000 in
theorem zp_d219_0 : zp_db prog_14_method_67_code zp_t219_0 = true := by decide +kernel
set_option maxRecDepth 100000 in
theorem zp_d219_1 : zp_db prog_14_method_67_code zp_t219_1 = true := by decide +kernel
set_option maxRecDepth 100000 in
theorem zp_k219 : zx_mok zp_P zp_G zp_cl zp_m219 := zp_mb_ok (a := 1578) (b := 103) (c := 1576) (d := 1577) (by decide +kernel) (zp_db_app (zp_db_ok zp_d219_0) (zp_db_ok zp_d219_1))
set_option maxRecDepth 100000 in
theorem zp_d220_0 : zp_db prog_14_method_68_code zp_t220_0 = true := by decide +kernel
set_option maxRecDepth 100000 in
theorem zp_k220 : zx_mok zp_P zp_G zp_cl zp_m220 := zp_mb_ok (a := 1582) (b := 103) (c := 1580) (d := 1581) (by decide +kernel) (zp_db_ok zp_d220_0)
set_option maxRecDepth 100000 in
theorem zp_d221_0 : zp_db prog_22_method_103_code zp_t221_0 = true := by decide +kernel
set_option maxRecDepth 100000 in
theorem zp_k221 : zx_mok zp_P zp_G zp_cl zp_m221 := zp_mb_ok (a := 453) (b := 104) (c := 452) (d := 0) (by decide +kernel) (zp_db_ok zp_d221_0)
end
section
/-! ===== 08: links; the whole ===== -/
set_option maxRecDepth 100000 in
theorem zp_ms_ok : ∀ q ∈ zp_ms, zx_mok zp_P zp_G zp_cl q := List.forall_mem_cons.mpr ⟨zp_k0, List.forall_mem_cons.mpr ⟨zp_k1, List.forall_mem_cons.mpr ⟨zp_k2, List.forall_mem_cons.mpr ⟨zp_k3, List.forall_mem_cons.mpr ⟨zp_k4, List.forall_mem_cons.mpr ⟨zp_k5, List.forall_mem_cons.mpr ⟨zp_k6, List.forall_mem_cons.mpr ⟨zp_k7, List.forall_mem_cons.mpr ⟨zp_k8, List.forall_mem_cons.mpr ⟨zp_k9, List.forall_mem_cons.mpr ⟨zp_k10, List.forall_mem_cons.mpr ⟨zp_k11, List.forall_mem_cons.mpr ⟨zp_k12, List.forall_mem_cons.mpr ⟨zp_k13, List.forall_mem_cons.mpr ⟨zp_k14, List.forall_mem_cons.mpr ⟨zp_k15, List.forall_mem_cons.mpr ⟨zp_k16, List.forall_mem_cons.mpr ⟨zp_k17, List.forall_mem_cons.mpr ⟨zp_k18, List.forall_mem_cons.mpr ⟨zp_k19, List.forall_mem_cons.mpr ⟨zp_k20, List.forall_mem_cons.mpr ⟨zp_k21, List.forall_mem_cons.mpr ⟨zp_k22, List.forall_mem_cons.mpr ⟨zp_k23, List.forall_mem_cons.mpr ⟨zp_k24, List.forall_mem_cons.mpr ⟨zp_k25, List.forall_mem_cons.mpr ⟨zp_k26, List.forall_mem_cons.mpr ⟨zp_k27, List.forall_mem_cons.mpr ⟨zp_k28, List.forall_mem_cons.mpr ⟨zp_k29, List.forall_mem_cons.mpr ⟨zp_k30, List.forall_mem_cons.mpr ⟨zp_k31, List.forall_mem_cons.mpr ⟨zp_k32, List.forall_mem_cons.mpr ⟨zp_k33, List.forall_mem_cons.mpr ⟨zp_k34, List.forall_mem_cons.mpr ⟨zp_k35, List.forall_mem_cons.mpr ⟨zp_k36, List.forall_mem_cons.mpr ⟨zp_k37, List.forall_mem_cons.mpr ⟨zp_k38, List.forall_mem_cons.mpr ⟨zp_k39, List.forall_mem_cons.mpr ⟨zp_k40, List.forall_mem_cons.mpr ⟨zp_k41, List.forall_mem_cons.mpr ⟨zp_k42, List.forall_mem_cons.mpr ⟨zp_k43, List.forall_mem_cons.mpr ⟨zp_k44, List.forall_mem_cons.mpr ⟨zp_k45, List.forall_mem_cons.mpr ⟨zp_k46, List.forall_mem_cons.mpr ⟨zp_k47, List.forall_mem_cons.mpr ⟨zp_k48, List.forall_mem_cons.mpr ⟨zp_k49, List.forall_mem_cons.mpr ⟨zp_k50, List.forall_mem_cons.mpr ⟨zp_k51, List.forall_mem_cons.mpr ⟨zp_k52, List.forall_mem_cons.mpr ⟨zp_k53, List.forall_mem_cons.mpr ⟨zp_k54, List.forall_mem_cons.mpr ⟨zp_k55, List.forall_mem_cons.mpr ⟨zp_k56, List.forall_mem_cons.mpr ⟨zp_k57, List.forall_mem_cons.mpr ⟨zp_k58, List.forall_mem_cons.mpr ⟨zp_k59, List.forall_mem_cons.mpr ⟨zp_k60, List.forall_mem_cons.mpr ⟨zp_k61, List.forall_mem_cons.mpr ⟨zp_k62, List.forall_mem_cons.mpr ⟨zp_k63, List.forall_mem_cons.mpr ⟨zp_k64, List.forall_mem_cons.mpr ⟨zp_k65, List.forall_mem_cons.mpr ⟨zp_k66, List.forall_mem_cons.mpr ⟨zp_k67, List.forall_mem_cons.mpr ⟨zp_k68, List.forall_mem_cons.mpr ⟨zp_k69, List.forall_mem_cons.mpr ⟨zp_k70, List.forall_mem_cons.mpr ⟨zp_k71, List.forall_mem_cons.mpr ⟨zp_k72, List.forall_mem_cons.mpr ⟨zp_k73, List.forall_mem_cons.mpr ⟨zp_k74, List.forall_mem_cons.mpr ⟨zp_k75, List.forall_mem_cons.mpr ⟨zp_k76, List.forall_mem_cons.mpr ⟨zp_k77, List.forall_mem_cons.mpr ⟨zp_k78, List.forall_mem_cons.mpr ⟨zp_k79, List.forall_mem_cons.mpr ⟨zp_k80, List.forall_mem_cons.mpr ⟨zp_k81, List.forall_mem_cons.mpr ⟨zp_k82, List.forall_mem_cons.mpr ⟨zp_k83, List.forall_mem_cons.mpr ⟨zp_k84, List.forall_mem_cons.mpr ⟨zp_k85, List.forall_mem_cons.mpr ⟨zp_k86, List.forall_mem_cons.mpr ⟨zp_k87, List.forall_mem_cons.mpr ⟨zp_k88, List.forall_mem_cons.mpr ⟨zp_k89, List.forall_mem_cons.mpr ⟨zp_k90, List.forall_mem_cons.mpr ⟨zp_k91, List.forall_mem_cons.mpr ⟨zp_k92, List.forall_mem_cons.mpr ⟨zp_k93, List.forall_mem_cons.mpr ⟨zp_k94, List.forall_mem_cons.mpr ⟨zp_k95, List.forall_mem_cons.mpr ⟨zp_k96, List.forall_mem_cons.mpr ⟨zp_k97, List.forall_mem_cons.mpr ⟨zp_k98, List.forall_mem_cons.mpr ⟨zp_k99, List.forall_mem_cons.mpr ⟨zp_k100, List.forall_mem_cons.mpr ⟨zp_k101, List.forall_mem_cons.mpr ⟨zp_k102, List.forall_mem_cons.mpr ⟨zp_k103, List.forall_mem_cons.mpr ⟨zp_k104, List.forall_mem_cons.mpr ⟨zp_k105, List.forall_mem_cons.mpr ⟨zp_k106, List.forall_mem_cons.mpr ⟨zp_k107, List.forall_mem_cons.mpr ⟨zp_k108, List.forall_mem_cons.mpr ⟨zp_k109, List.forall_mem_cons.mpr ⟨zp_k110, List.forall_mem_cons.mpr ⟨zp_k111, List.forall_mem_cons.mpr ⟨zp_k112, List.forall_mem_cons.mpr ⟨zp_k113, List.forall_mem_cons.mpr ⟨zp_k114, List.forall_mem_cons.mpr ⟨zp_k115, List.forall_mem_cons.mpr ⟨zp_k116, List.forall_mem_cons.mpr ⟨zp_k117, List.forall_mem_cons.mpr ⟨zp_k118, List.forall_mem_cons.mpr ⟨zp_k119, List.forall_mem_cons.mpr ⟨zp_k120, List.forall_mem_cons.mpr ⟨zp_k121, List.forall_mem_cons.mpr ⟨zp_k122, List.forall_mem_cons.mpr ⟨zp_k123, List.forall_mem_cons.mpr ⟨zp_k124, List.forall_mem_cons.mpr ⟨zp_k125, List.forall_mem_cons.mpr ⟨zp_k126, List.forall_mem_cons.mpr ⟨zp_k127, List.forall_mem_cons.mpr ⟨zp_k128, List.forall_mem_cons.mpr ⟨zp_k129, List.forall_mem_cons.mpr ⟨zp_k130, List.forall_mem_cons.mpr ⟨zp_k131, List.forall_mem_cons.mpr ⟨zp_k132, List.forall_mem_cons.mpr ⟨zp_k133, List.forall_mem_cons.mpr ⟨zp_k134, List.forall_mem_cons.mpr ⟨zp_k135, List.forall_mem_cons.mpr ⟨zp_k136, List.forall_mem_cons.mpr ⟨zp_k137, List.forall_mem_cons.mpr ⟨zp_k138, List.forall_mem_cons.mpr ⟨zp_k139, List.forall_mem_cons.mpr ⟨zp_k140, List.forall_mem_cons.mpr ⟨zp_k141, List.forall_mem_cons.mpr ⟨zp_k142, List.forall_mem_cons.mpr ⟨zp_k143, List.forall_mem_cons.mpr ⟨zp_k144, List.forall_mem_cons.mpr ⟨zp_k145, List.forall_mem_cons.mpr ⟨zp_k146, List.forall_mem_cons.mpr ⟨zp_k147, List.forall_mem_cons.mpr ⟨zp_k148, List.forall_mem_cons.mpr ⟨zp_k149, List.forall_mem_cons.mpr ⟨zp_k150, List.forall_mem_cons.mpr ⟨zp_k151, List.forall_mem_cons.mpr ⟨zp_k152, List.forall_mem_cons.mpr ⟨zp_k153, List.forall_mem_cons.mpr ⟨zp_k154, List.forall_mem_cons.mpr ⟨zp_k155, List.forall_mem_cons.mpr ⟨zp_k156, List.forall_mem_cons.mpr ⟨zp_k157, List.forall_mem_cons.mpr ⟨zp_k158, List.forall_mem_cons.mpr ⟨zp_k159, List.forall_mem_cons.mpr ⟨zp_k160, List.forall_mem_cons.mpr ⟨zp_k161, List.forall_mem_cons.mpr ⟨zp_k162, List.forall_mem_cons.mpr ⟨zp_k163, List.forall_mem_cons.mpr ⟨zp_k164, List.forall_mem_cons.mpr ⟨zp_k165, List.forall_mem_cons.mpr ⟨zp_k166, List.forall_mem_cons.mpr ⟨zp_k167, List.forall_mem_cons.mpr ⟨zp_k168, List.forall_mem_cons.mpr ⟨zp_k169, List.forall_mem_cons.mpr ⟨zp_k170, List.forall_mem_cons.mpr ⟨zp_k171, List.forall_mem_cons.mpr ⟨zp_k172, List.forall_mem_cons.mpr ⟨zp_k173, List.forall_mem_cons.mpr ⟨zp_k174, List.forall_mem_cons.mpr ⟨zp_k175, List.forall_mem_cons.mpr ⟨zp_k176, List.forall_mem_cons.mpr ⟨zp_k177, List.forall_mem_cons.mpr ⟨zp_k178, List.forall_mem_cons.mpr ⟨zp_k179, List.forall_mem_cons.mpr ⟨zp_k180, List.forall_mem_cons.mpr ⟨zp_k181, List.forall_mem_cons.mpr ⟨zp_k182, List.forall_mem_cons.mpr ⟨zp_k183, List.forall_mem_cons.mpr ⟨zp_k184, List.forall_mem_cons.mpr ⟨zp_k185, List.forall_mem_cons.mpr ⟨zp_k186, List.forall_mem_cons.mpr ⟨zp_k187, List.forall_mem_cons.mpr ⟨zp_k188, List.forall_mem_cons.mpr ⟨zp_k189, List.forall_mem_cons.mpr ⟨zp_k190, List.forall_mem_cons.mpr ⟨zp_k191, List.forall_mem_cons.mpr ⟨zp_k192, List.forall_mem_cons.mpr ⟨zp_k193, List.forall_mem_cons.mpr ⟨zp_k194, List.forall_mem_cons.mpr ⟨zp_k195, List.forall_mem_cons.mpr ⟨zp_k196, List.forall_mem_cons.mpr ⟨zp_k197, List.forall_mem_cons.mpr ⟨zp_k198, List.forall_mem_cons.mpr ⟨zp_k199, List.forall_mem_cons.mpr ⟨zp_k200, List.forall_mem_cons.mpr ⟨zp_k201, List.forall_mem_cons.mpr ⟨zp_k202, List.forall_mem_cons.mpr ⟨zp_k203, List.forall_mem_cons.mpr ⟨zp_k204, List.forall_mem_cons.mpr ⟨zp_k205, List.forall_mem_cons.mpr ⟨zp_k206, List.forall_mem_cons.mpr ⟨zp_k207, List.forall_mem_cons.mpr ⟨zp_k208, List.forall_mem_cons.mpr ⟨zp_k209, List.forall_mem_cons.mpr ⟨zp_k210, List.forall_mem_cons.mpr ⟨zp_k211, List.forall_mem_cons.mpr ⟨zp_k212, List.forall_mem_cons.mpr ⟨zp_k213, List.forall_mem_cons.mpr ⟨zp_k214, List.forall_mem_cons.mpr ⟨zp_k215, List.forall_mem_cons.mpr ⟨zp_k216, List.forall_mem_cons.mpr ⟨zp_k217, List.forall_mem_cons.mpr ⟨zp_k218, List.forall_mem_cons.mpr ⟨zp_k219, List.forall_mem_cons.mpr ⟨zp_k220, List.forall_mem_cons.mpr ⟨zp_k221, fun q h => absurd h List.not_mem_nil⟩⟩⟩⟩⟩⟩⟩⟩⟩⟩⟩⟩⟩⟩⟩⟩⟩⟩⟩⟩⟩⟩⟩⟩⟩⟩⟩⟩⟩⟩⟩⟩⟩⟩⟩⟩⟩⟩⟩⟩⟩⟩⟩⟩⟩⟩⟩⟩⟩⟩⟩⟩⟩⟩⟩⟩⟩⟩⟩⟩⟩⟩⟩⟩⟩⟩⟩⟩⟩⟩⟩⟩⟩⟩⟩⟩⟩⟩⟩⟩⟩⟩⟩⟩⟩⟩⟩⟩⟩⟩⟩⟩⟩⟩⟩⟩⟩⟩⟩⟩⟩⟩⟩⟩⟩⟩⟩⟩⟩⟩⟩⟩⟩⟩⟩⟩⟩⟩⟩⟩⟩⟩⟩⟩⟩⟩⟩⟩⟩⟩⟩⟩⟩⟩⟩⟩⟩⟩⟩⟩⟩⟩⟩⟩⟩⟩⟩⟩⟩⟩⟩⟩⟩⟩⟩⟩⟩⟩⟩⟩⟩⟩⟩⟩⟩⟩⟩⟩⟩⟩⟩⟩⟩⟩⟩⟩⟩⟩⟩⟩⟩⟩⟩⟩⟩⟩⟩⟩⟩⟩⟩⟩⟩⟩⟩⟩⟩⟩⟩⟩⟩⟩⟩⟩⟩⟩⟩⟩⟩⟩⟩⟩⟩⟩⟩⟩⟩⟩⟩⟩⟩⟩
theorem zp_us {C : String} {T : u_T} {N : Nat} (h : (u_ws C T N).all (fun x => decide (x ∈ lw_tbl) && goodWord x) = true) : ∀ x ∈ u_ws C T N, x ∈ zp_G := by
  intro x hx
  have h1 := List.all_eq_true.mp h x hx
  rw [Bool.and_eq_true, decide_eq_true_eq] at h1
  exact List.mem_filter.mpr h1
set_option maxRecDepth 100000 in
theorem zp_uX0 : ∀ x ∈ u_ws RX0 TX0 11, x ∈ zp_G := zp_us (by decide +kernel)
set_option maxRecDepth 100000 in
theorem zp_uX2 : ∀ x ∈ u_ws RX2 TX2 4, x ∈ zp_G := zp_us (by decide +kernel)
set_option maxRecDepth 100000 in
theorem zp_uX3 : ∀ x ∈ u_ws RX3 TX3 5, x ∈ zp_G := zp_us (by decide +kernel)
set_option maxRecDepth 100000 in
theorem zp_uX5 : ∀ x ∈ u_ws RX5 TX5 15, x ∈ zp_G := zp_us (by decide +kernel)
set_option maxRecDepth 100000 in
theorem zp_uX6 : ∀ x ∈ u_ws RX6 TX6 8, x ∈ zp_G := zp_us (by decide +kernel)
set_option maxRecDepth 100000 in
theorem zp_uX7 : ∀ x ∈ u_ws RX7 TX7 11, x ∈ zp_G := zp_us (by decide +kernel)
set_option maxRecDepth 100000 in
theorem zp_uX8 : ∀ x ∈ u_ws RX8 TX8 3, x ∈ zp_G := zp_us (by decide +kernel)
set_option maxRecDepth 100000 in
theorem zp_uX9 : ∀ x ∈ u_ws RX9 TX9 2, x ∈ zp_G := zp_us (by decide +kernel)
set_option maxRecDepth 100000 in
theorem zp_uX10 : ∀ x ∈ u_ws RX10 TX10 2, x ∈ zp_G := zp_us (by decide +kernel)
set_option maxRecDepth 100000 in
theorem zp_uX11 : ∀ x ∈ u_ws RX11 TX11 7, x ∈ zp_G := zp_us (by decide +kernel)
set_option maxRecDepth 100000 in
theorem zp_uX12 : ∀ x ∈ u_ws RX12 TX12 51, x ∈ zp_G := zp_us (by decide +kernel)
set_option maxRecDepth 100000 in
theorem zp_uJ0 : ∀ x ∈ u_ws RJ0 TJ0 2, x ∈ zp_G := zp_us (by decide +kernel)
set_option maxRecDepth 100000 in
theorem zp_uJx00060 : ∀ x ∈ u_ws RJx00060 TJx00060 6, x ∈ zp_G := zp_us (by decide +kernel)
def zp_cR : Nat → String := fun ci => match ci with
  | 0 => RX0
  | 1 => RX2
  | 2 => RX3
  | 3 => RX5
  | 4 => RX6
  | 5 => RX7
  | 6 => RX8
  | 7 => RX9
  | 8 => RX10
  | 9 => RX11
  | 10 => RX12
  | 11 => RJ0
  | _ => RJx00060
def zp_cT : Nat → u_T := fun ci => match ci with
  | 0 => TX0
  | 1 => TX2
  | 2 => TX3
  | 3 => TX5
  | 4 => TX6
  | 5 => TX7
  | 6 => TX8
  | 7 => TX9
  | 8 => TX10
  | 9 => TX11
  | 10 => TX12
  | 11 => TJ0
  | _ => TJx00060
def zp_cN : Nat → Nat := fun ci => match ci with
  | 0 => 11
  | 1 => 4
  | 2 => 5
  | 3 => 15
  | 4 => 8
  | 5 => 11
  | 6 => 3
  | 7 => 2
  | 8 => 2
  | 9 => 7
  | 10 => 51
  | 11 => 2
  | _ => 6
def zp_fb (o idx : Nat) (q : Nat × Nat × Nat) : Bool := decide (q.1 < 13) && decide (q.2.1 < zp_cN q.1) && zp_in q.2.2 (Cond.fieldLink (zp_po o) idx (zp_cT q.1 q.2.1).1 (zp_cT q.1 q.2.1).2.1 (zp_cT q.1 q.2.1).2.2.1)
theorem zp_cls (ci k : Nat) (hc : ci < 13) (hk : k < zp_cN ci) {o idx : Nat} (hl : Cond.fieldLink (zp_po o) idx (zp_cT ci k).1 (zp_cT ci k).2.1 (zp_cT ci k).2.2.1 ∈ zp_G) : zx_fok zp_P zp_G zp_cl o idx ci k := by
  rcases (show ci = 0 ∨ ci = 1 ∨ ci = 2 ∨ ci = 3 ∨ ci = 4 ∨ ci = 5 ∨ ci = 6 ∨ ci = 7 ∨ ci = 8 ∨ ci = 9 ∨ ci = 10 ∨ ci = 11 ∨ ci = 12 by omega) with rfl | rfl | rfl | rfl | rfl | rfl | rfl | rfl | rfl | rfl | rfl | rfl | rfl
  · exact ⟨RX0, TX0, 11, tyX0, rfl, hk, hl, zp_uX0, tyX0_ok, nmX0, rfl⟩
  · exact ⟨RX2, TX2, 4, tyX2, rfl, hk, hl, zp_uX2, tyX2_ok, nmX2, rfl⟩
  · exact ⟨RX3, TX3, 5, tyX3, rfl, hk, hl, zp_uX3, tyX3_ok, nmX3, rfl⟩
  · exact ⟨RX5, TX5, 15, tyX5, rfl, hk, hl, zp_uX5, tyX5_ok, nmX5, rfl⟩
  · exact ⟨RX6, TX6, 8, tyX6, rfl, hk, hl, zp_uX6, tyX6_ok, nmX6, rfl⟩
  · exact ⟨RX7, TX7, 11, tyX7, rfl, hk, hl, zp_uX7, tyX7_ok, nmX7, rfl⟩
  · exact ⟨RX8, TX8, 3, tyX8, rfl, hk, hl, zp_uX8, tyX8_ok, nmX8, rfl⟩
  · exact ⟨RX9, TX9, 2, tyX9, rfl, hk, hl, zp_uX9, tyX9_ok, nmX9, rfl⟩
  · exact ⟨RX10, TX10, 2, tyX10, rfl, hk, hl, zp_uX10, tyX10_ok, nmX10, rfl⟩
  · exact ⟨RX11, TX11, 7, tyX11, rfl, hk, hl, zp_uX11, tyX11_ok, nmX11, rfl⟩
  · exact ⟨RX12, TX12, 51, tyX12, rfl, hk, hl, zp_uX12, tyX12_ok, nmX12, rfl⟩
  · exact ⟨RJ0, TJ0, 2, tyJ0, rfl, hk, hl, zp_uJ0, tyJ0_ok, nmJ0, rfl⟩
  · exact ⟨RJx00060, TJx00060, 6, tyJx00060, rfl, hk, hl, zp_uJx00060, tyJx00060_ok, nmJx00060, rfl⟩
set_option maxRecDepth 100000 in
theorem zp_ft_ok : zp_all zp_fb 0 zp_ft = true := by decide +kernel
def zp_cb (o idx : Nat) (q : Nat × Nat) : Bool := match zp_ms[q.1]? with
  | some r => zp_in q.2 (Cond.methodLink (zp_po o) idx (zx_my r))
  | none => false
set_option maxRecDepth 100000 in
theorem zp_mt_ok : zp_all zp_cb 0 zp_mt = true := by decide +kernel
def zp_lb (o idx : Nat) (q : Int64 × Nat) : Bool := zp_in q.2 (Cond.constantLong (zp_po o) idx q.1)
set_option maxRecDepth 100000 in
theorem zp_lt_ok : zp_all zp_lb 0 zp_lt = true := by decide +kernel
def zp_nb (o idx : Nat) (q : Nat) : Bool := zp_in q (Cond.methodLink (zp_po o) idx Lib.Math.min.name)
set_option maxRecDepth 100000 in
theorem zp_nt_ok : zp_all zp_nb 0 zp_nt = true := by decide +kernel
set_option maxRecDepth 100000 in
theorem zp_n_s : zp_in 515 (Cond.static Lib.Math.min.name) = true := by decide +kernel
set_option maxRecDepth 100000 in
theorem zp_n_i : zp_in 105 (Cond.initialized "java/lang/Math") = true := by decide +kernel
set_option maxRecDepth 100000 in
theorem zp_n_c : zp_in 516 (Cond.code Lib.Math.min.name Lib.Math.min.code 2 (some .int)) = true := by decide +kernel
theorem zp_ok : zx_ok zp_P zp_G zp_cl := by
  refine ⟨fun x hx => good_of_word (List.mem_filter.mp hx).2, fun j q hq => zp_ms_ok q (List.mem_of_getElem? hq), ?_, ?_, ?_, ?_⟩
  · intro o idx ci k h
    obtain ⟨q, hq, e⟩ := Option.map_eq_some_iff.mp h
    cases e
    have h1 := zp_all_ok _ 0 zp_ft_ok _ _ _ hq
    rw [Nat.zero_add, zp_fb, Bool.and_eq_true, Bool.and_eq_true, decide_eq_true_eq, decide_eq_true_eq] at h1
    exact zp_cls _ _ h1.1.1 h1.1.2 (zp_in_ok h1.2)
  · intro o idx cj h
    obtain ⟨q, hq, e⟩ := Option.map_eq_some_iff.mp h
    cases e
    have h1 := zp_all_ok _ 0 zp_mt_ok _ _ _ hq
    rw [Nat.zero_add, zp_cb] at h1
    split at h1
    · next r hr => exact ⟨r, hr, zp_in_ok h1⟩
    · cases h1
  · intro o idx v h
    obtain ⟨q, hq, e⟩ := Option.map_eq_some_iff.mp h
    cases e
    have h1 := zp_all_ok _ 0 zp_lt_ok _ _ _ hq
    rw [Nat.zero_add, zp_lb] at h1
    exact zp_in_ok h1
  · intro o idx h
    obtain ⟨q, hq⟩ := Option.isSome_iff_exists.mp h
    have h1 := zp_all_ok _ 0 zp_nt_ok _ _ _ hq
    rw [Nat.zero_add, zp_nb] at h1
    exact ⟨zp_in_ok h1, zp_in_ok zp_n_s, zp_in_ok zp_n_i, zp_in_ok zp_n_c⟩
end
section
/-! ===== 09: an abstract interpreter: ints lie in intervals (a value is a base and an offset, or known), references are known cells; what a heap keeps is told by descriptors of its cells; methods by contracts ===== -/
/-- base and offset; a known int; a cell; a long -/
abbrev za_V : Type := (Nat × Int) ⊕ (Int ⊕ (Nat ⊕ Unit))
abbrev za_N : Type := List (Int × Int)
/-- what a place may hold: an int of an interval; a long; the cell -/
abbrev za_T : Type := (Int × Int) ⊕ (Unit ⊕ Nat)
/-- a cell: array (kind, length, elements' interval), object (class, fields) -/
abbrev za_D : Type := (Nat × Nat × Int × Int) ⊕ (Nat × List za_T)
abbrev za_L : Type := List (Nat × za_V)
abbrev za_F : Type := List ((Nat × Nat) × za_V)
abbrev za_C : Type := List (Nat × List za_V × za_V)
/-- bases' intervals, locals, stack, what fields hold now, what pure calls have answered -/
abbrev za_S : Type := za_N × za_L × List za_V × za_F × za_C
def za_top : Int × Int := (-2147483648, 2147483647)
def za_le (a b : Int) : Bool := match b - a with
  | .ofNat _ => true
  | .negSucc _ => false
theorem za_le_iff {a b : Int} : za_le a b = true ↔ a ≤ b := by
  unfold za_le
  split
  · next k e => have h9 := Int.natCast_nonneg k; simp only [Int.ofNat_eq_natCast] at e; simp; omega
  · next k e => have h9 := Int.negSucc_lt_zero k; simp; omega
def za_min (a b : Int) : Int := match za_le a b with
  | true => a
  | false => b
def za_max (a b : Int) : Int := match za_le a b with
  | true => b
  | false => a
def za_iv (n : za_N) (a : za_V) : Int × Int := match a with
  | .inl (b, c) => (match n[b]? with
    | some q => (q.1 + c, q.2 + c)
    | none => za_top)
  | .inr (.inl k) => (k, k)
  | _ => za_top
def za_hi (n : za_N) (a : za_V) (m : Int) : za_N := match a with
  | .inl (b, c) => (match n[b]? with
    | some q => n.set b (q.1, za_min q.2 (m - c))
    | none => n)
  | _ => n
def za_lo (n : za_N) (a : za_V) (m : Int) : za_N := match a with
  | .inl (b, c) => (match n[b]? with
    | some q => n.set b (za_max q.1 (m - c), q.2)
    | none => n)
  | _ => n
def za_isI : za_V → Bool
  | .inl _ => true
  | .inr (.inl _) => true
  | _ => false
def za_isL : za_V → Bool
  | .inr (.inr (.inr _)) => true
  | _ => false
/-- bases under x + d ≤ y, none: that can't be -/
def za_cl (n : za_N) (x y : za_V) (d : Int) : Option za_N :=
  match za_le ((za_iv n x).1 + d) (za_iv n y).2 with
  | true => some (za_lo (za_hi n x ((za_iv n y).2 - d)) y ((za_iv n x).1 + d))
  | false => none
def za_ceq (n : za_N) (x y : za_V) : Option za_N := match za_cl n x y 0 with
  | some n1 => za_cl n1 y x 0
  | none => none
def za_cne (n : za_N) (x y : za_V) : Option za_N :=
  match y with
  | .inr (.inl k) => (match decide ((za_iv n x).1 = k) with
    | true => za_cl n (.inr (.inl k)) x 1
    | false => (match decide ((za_iv n x).2 = k) with
      | true => za_cl n x (.inr (.inl k)) 1
      | false => some n))
  | _ => some n
def za_br (k : Jvm.ClassFile.Cond) (n : za_N) (x y : za_V) : Option za_N := match k with
  | .eq => za_ceq n x y
  | .ne => za_cne n x y
  | .lt => za_cl n x y 1
  | .ge => za_cl n y x 0
  | .gt => za_cl n y x 1
  | .le => za_cl n x y 0
def za_ng (k : Jvm.ClassFile.Cond) : Jvm.ClassFile.Cond := match k with
  | .eq => .ne
  | .ne => .eq
  | .lt => .ge
  | .ge => .lt
  | .gt => .le
  | .le => .gt
/-- a new base -/
def za_new (n : za_N) (q : Int × Int) (r : List za_V) : Nat × za_N × List za_V := (1, n ++ [q], .inl (n.length, 0) :: r)
def za_inr (l h : Int) : Bool := za_le (-2147483648) l && za_le h 2147483647
def za_add (n : za_N) (x y : za_V) (r : List za_V) : Nat × za_N × List za_V :=
  match za_inr ((za_iv n x).1 + (za_iv n y).1) ((za_iv n x).2 + (za_iv n y).2) with
  | false => za_new n za_top r
  | true => (match x, y with
    | .inl (b, c), .inr (.inl k) => (1, n, .inl (b, c + k) :: r)
    | .inr (.inl k), .inl (b, c) => (1, n, .inl (b, c + k) :: r)
    | .inr (.inl k), .inr (.inl j) => (1, n, .inr (.inl (k + j)) :: r)
    | _, _ => za_new n ((za_iv n x).1 + (za_iv n y).1, (za_iv n x).2 + (za_iv n y).2) r)
def za_sub (n : za_N) (x y : za_V) (r : List za_V) : Nat × za_N × List za_V :=
  match za_inr ((za_iv n x).1 - (za_iv n y).2) ((za_iv n x).2 - (za_iv n y).1) with
  | false => za_new n za_top r
  | true => (match x, y with
    | .inl (b, c), .inr (.inl k) => (1, n, .inl (b, c - k) :: r)
    | .inr (.inl k), .inr (.inl j) => (1, n, .inr (.inl (k - j)) :: r)
    | _, _ => za_new n ((za_iv n x).1 - (za_iv n y).2, (za_iv n x).2 - (za_iv n y).1) r)
def za_mul (n : za_N) (x y : za_V) (r : List za_V) : Nat × za_N × List za_V :=
  match za_le 0 (za_iv n x).1 && za_le 0 (za_iv n y).1 && za_le ((za_iv n x).2 * (za_iv n y).2) 2147483647 with
  | false => za_new n za_top r
  | true => za_new n (0, (za_iv n x).2 * (za_iv n y).2) r
/-- stack alone -/
def za_s (i : Instr) (n : za_N) (st : List za_V) : Option (Nat × za_N × List za_V) :=
  match i, st with
  | .iconst k, st => some (1, n, .inr (.inl (Int32.ofInt k).toInt) :: st)
  | .bipush k, st => some (2, n, .inr (.inl (Int8.ofInt k).toInt32.toInt) :: st)
  | .sipush k, st => some (3, n, .inr (.inl (Int16.ofInt k).toInt32.toInt) :: st)
  | .lconst _, st => some (1, n, .inr (.inr (.inr ())) :: st)
  | .iadd, y :: x :: r => if za_isI y && za_isI x then some (za_add n x y r) else none
  | .isub, y :: x :: r => if za_isI y && za_isI x then some (za_sub n x y r) else none
  | .imul, y :: x :: r => if za_isI y && za_isI x then some (za_mul n x y r) else none
  | .iand, y :: x :: r => if za_isI y && za_isI x then some (za_new n za_top r) else none
  | .idiv, y :: x :: r => if za_isI y && za_isI x && (za_le 1 (za_iv n y).1 || za_le (za_iv n y).2 (-1)) then some (za_new n za_top r) else none
  | .iushr, y :: x :: r => if za_isI y && za_isI x then some (za_new n za_top r) else none
  | .ladd, y :: x :: r => if za_isL y && za_isL x then some (1, n, .inr (.inr (.inr ())) :: r) else none
  | .land, y :: x :: r => if za_isL y && za_isL x then some (1, n, .inr (.inr (.inr ())) :: r) else none
  | .lor, y :: x :: r => if za_isL y && za_isL x then some (1, n, .inr (.inr (.inr ())) :: r) else none
  | .lshl, y :: x :: r => if za_isI y && za_isL x then some (1, n, .inr (.inr (.inr ())) :: r) else none
  | .i2l, x :: r => if za_isI x then some (1, n, .inr (.inr (.inr ())) :: r) else none
  | .l2i, x :: r => if za_isL x then some (za_new n za_top r) else none
  | .lcmp, y :: x :: r => if za_isL y && za_isL x then some (za_new n (-1, 1) r) else none
  | .dup, x :: r => if za_isL x then none else some (1, n, x :: x :: r)
  | .pop, x :: r => if za_isL x then none else some (1, n, r)
  | .pop2, x :: r => if za_isL x then some (1, n, r) else none
  | .dup_x1, x :: y :: r => if za_isL x || za_isL y then none else some (1, n, x :: y :: x :: r)
  | _, _ => none
def za_lk : za_L → Nat → Option za_V
  | [], _ => none
  | q :: r, i => match Nat.beq q.1 i with
    | true => some q.2
    | false => za_lk r i
def za_gi (ls : za_L) (k n : Nat) : Option (Nat × za_V) := match za_lk ls k with
  | some x => if za_isI x then some (n, x) else none
  | _ => none
def za_gl (ls : za_L) (k n : Nat) : Option (Nat × za_V) := match za_lk ls k with
  | some x => if za_isL x then some (n, x) else none
  | _ => none
def za_gr (ls : za_L) (k n : Nat) : Option (Nat × za_V) := match za_lk ls k with
  | some (.inr (.inr (.inl a))) => some (n, .inr (.inr (.inl a)))
  | _ => none
def za_l (i : Instr) (ls : za_L) : Option (Nat × za_V) :=
  match i with
  | .iload_n k => za_gi ls k.val 1
  | .iload k => za_gi ls k 2
  | .lload_n k => za_gl ls k.val 1
  | .lload k => za_gl ls k 2
  | .aload_n k => za_gr ls k.val 1
  | .aload k => za_gr ls k 2
  | _ => none
def za_set1 (ls : za_L) (i : Nat) (v : za_V) : za_L := (i, v) :: ls.filter (fun q => !(Nat.beq q.1 i) && !(Nat.beq (q.1 + 1) i && za_isL q.2))
def za_set2 (ls : za_L) (i : Nat) (v : za_V) : za_L := (i, v) :: ls.filter (fun q => !(Nat.beq q.1 i) && (!(Nat.beq q.1 (i + 1)) && !(Nat.beq (q.1 + 1) i && za_isL q.2)))
def za_st1 (nL k len : Nat) (ls : za_L) (v : za_V) (r : List za_V) : Option (Nat × za_L × List za_V) := if Nat.blt k nL then some (len, za_set1 ls k v, r) else none
def za_st2 (nL k len : Nat) (ls : za_L) (v : za_V) (r : List za_V) : Option (Nat × za_L × List za_V) := if Nat.blt (k + 1) nL then some (len, za_set2 ls k v, r) else none
def za_t (i : Instr) (nL : Nat) (ls : za_L) (st : List za_V) : Option (Nat × za_L × List za_V) :=
  match i, st with
  | .istore_n k, x :: r => if za_isI x then za_st1 nL k.val 1 ls x r else none
  | .istore k, x :: r => if za_isI x then za_st1 nL k 2 ls x r else none
  | .lstore_n k, x :: r => if za_isL x then za_st2 nL k.val 1 ls x r else none
  | .lstore k, x :: r => if za_isL x then za_st2 nL k 2 ls x r else none
  | .astore_n k, .inr (.inr (.inl a)) :: r => za_st1 nL k.val 1 ls (.inr (.inr (.inl a))) r
  | .astore k, .inr (.inr (.inl a)) :: r => za_st1 nL k 2 ls (.inr (.inr (.inl a))) r
  | _, _ => none
/-- iinc, which may want a new base -/
def za_inc (i : Instr) (nL : Nat) (n : za_N) (ls : za_L) : Option (za_N × za_L) :=
  match i with
  | .iinc k c => (match za_lk ls k with
    | some x => if za_isI x && Nat.blt k nL then (match za_add n x (.inr (.inl (Int32.ofInt c).toInt)) [] with
      | (_, n', v :: _) => some (n', za_set1 ls k v)
      | _ => none) else none
    | none => none)
  | _ => none
/-- jumps: where each goes on, with which bases and stack -/
def za_2 (o : Option za_N) (pc : Nat) (r : List za_V) : List (za_N × Nat × List za_V) := match o with
  | some n => [(n, pc, r)]
  | none => []
/-- against 0: what isn't 0 is below or above -/
def za_zs (k : Jvm.ClassFile.Cond) (n : za_N) (x : za_V) (t : Nat) (r : List za_V) : List (za_N × Nat × List za_V) := match k with
  | .ne => za_2 (za_cl n x (.inr (.inl 0)) 1) t r ++ za_2 (za_cl n (.inr (.inl 0)) x 1) t r
  | k => za_2 (za_br k n x (.inr (.inl 0))) t r
def za_tgs (pc : Nat) : List Int → Option (List Nat)
  | [] => some []
  | o :: r => match zx_tg pc o, za_tgs pc r with
    | some t, some l => some (t :: l)
    | _, _ => none
def za_sw (n : za_N) (x : za_V) (r : List za_V) : Int → List Nat → List (za_N × Nat × List za_V)
  | _, [] => []
  | k, t :: l => za_2 (za_ceq n x (.inr (.inl k))) t r ++ za_sw n x r (k + 1) l
def za_ls (n : za_N) (x : za_V) (r : List za_V) : List Int → List Nat → List (za_N × Nat × List za_V)
  | k :: ks, t :: ts => za_2 (za_ceq n x (.inr (.inl k))) t r ++ za_ls n x r ks ts
  | _, _ => []
def za_j (i : Instr) (len pc : Nat) (n : za_N) (st : List za_V) : Option (List (za_N × Nat × List za_V)) :=
  match i, st with
  | .goto off, st => if Nat.beq len 3 then (zx_tg pc off).map (fun t => [(n, t, st)]) else none
  | .ifCond k off, x :: r => if Nat.beq len 3 && za_isI x then (zx_tg pc off).map (fun t => za_zs k n x t r ++ za_zs (za_ng k) n x (pc + 3) r) else none
  | .if_icmp k off, y :: x :: r => if Nat.beq len 3 && (za_isI x && za_isI y) then (zx_tg pc off).map (fun t => za_2 (za_br k n x y) t r ++ za_2 (za_br (za_ng k) n x y) (pc + 3) r) else none
  | .tableswitch dflt lo hi offs, x :: r => if za_isI x && decide (lo + offs.toList.length = hi + 1) && za_inr lo hi && za_le lo hi then (match zx_tg pc dflt, za_tgs pc offs.toList with
    | some d, some l => some (za_2 (za_cl n x (.inr (.inl lo)) 1) d r ++ (za_2 (za_cl n (.inr (.inl hi)) x 1) d r ++ za_sw n x r lo l))
    | _, _ => none) else none
  | .lookupswitch dflt ps, x :: r => if za_isI x && (ps.toList.zip (ps.toList.drop 1)).all (fun q => q.1.1 < q.2.1) then (match zx_tg pc dflt, za_tgs pc (ps.toList.map (fun q => q.2)) with
    | some d, some l => some ((n, d, r) :: za_ls n x r (ps.toList.map (fun q => q.1)) l)
    | _, _ => none) else none
  | _, _ => none
/-- method, depth, arguments, cases (answer; the int arguments' intervals), what it writes -/
abbrev za_K : Type := Nat × Nat × List za_T × List (Option za_T × List (Int × Int)) × List (Nat × Nat)
/-- at a place: locals, stack, fields, measure (number, weights of the bases) -/
abbrev za_Q : Type := List (Nat × za_T) × List za_T × List ((Nat × Nat) × (Int × Int)) × (Int × List Int)
def za_in (w : List (Nat × Nat)) (a k : Nat) : Bool := w.any (fun q => Nat.beq q.1 a && Nat.beq q.2 k)
def za_fk : za_F → Nat → Nat → Option za_V
  | [], _, _ => none
  | q :: r, a, k => match Nat.beq q.1.1 a && Nat.beq q.1.2 k with
    | true => some q.2
    | false => za_fk r a k
def za_fdrop (f : za_F) (w : List (Nat × Nat)) : za_F := f.filter (fun q => !(za_in w q.1.1 q.1.2))
def za_sub2 (q r : Int × Int) : Bool := za_le r.1 q.1 && za_le q.2 r.2
/-- a value is of a kind -/
def za_mt (n : za_N) (t : za_T) (v : za_V) : Bool := match t with
  | .inl q => za_isI v && za_sub2 (za_iv n v) q
  | .inr (.inl _) => za_isL v
  | .inr (.inr a) => (match v with
    | .inr (.inr (.inl b)) => Nat.beq a b
    | _ => false)
section ZAA
variable (P : zx_P) (HT : List za_D)
/-- a field's kind -/
def za_ft (o idx a : Nat) : Option (Nat × za_T) := match zx_pf P o idx with
  | some (ci, k) => (match HT[a]? with
    | some (.inr (cj, fd)) => if Nat.beq cj ci then (fd[k]?).map (fun t => (k, t)) else none
    | _ => none)
  | none => none
def za_fty (t : FieldType) (q : Int × Int) : Bool := match t with
  | .int => true
  | .boolean => za_sub2 q (0, 1)
  | _ => false
def za_pty (o idx : Nat) : Option FieldType := match zx_pf P o idx with
  | some (ci, k) => if (zx_pt P ci k).2 then none else some (zx_pt P ci k).1
  | none => none
/-- fields and arrays: length, bases, stack, facts, whether something was written -/
def za_g (W : List (Nat × Nat)) (o : Nat) (i : Instr) (n : za_N) (st : List za_V) (f : za_F) : Option (Nat × za_N × List za_V × za_F × Bool) :=
  match i, st with
  | .getfield idx, .inr (.inr (.inl a)) :: r => (match za_ft P HT o idx a with
    | some (k, .inl q) => (match za_fk f a k with
      | some v => some (3, n, v :: r, f, false)
      | none => some (3, n ++ [q], .inl (n.length, 0) :: r, ((a, k), .inl (n.length, 0)) :: f, false))
    | some (_, .inr (.inl _)) => some (3, n, .inr (.inr (.inr ())) :: r, f, false)
    | some (_, .inr (.inr b)) => some (3, n, .inr (.inr (.inl b)) :: r, f, false)
    | none => none)
  | .putfield idx, v :: .inr (.inr (.inl a)) :: r => (match za_ft P HT o idx a, za_pty P o idx with
    | some (k, .inl q), some ty => if za_isI v && za_sub2 (za_iv n v) q && za_in W a k && za_fty ty (za_iv n v) then some (3, n, r, ((a, k), v) :: za_fdrop f [(a, k)], true) else none
    | some (k, .inr (.inl _)), some .long => if za_isL v && za_in W a k then some (3, n, r, za_fdrop f [(a, k)], true) else none
    | _, _ => none)
  | .iaload, x :: .inr (.inr (.inl a)) :: r => (match HT[a]? with
    | some (.inl (0, m, lo, hi)) => if za_isI x && za_sub2 (za_iv n x) (0, (m : Int) - 1) then some (1, n ++ [(lo, hi)], .inl (n.length, 0) :: r, f, false) else none
    | none => (match zx_pa P a with
      | some (m, _) => if za_isI x && za_sub2 (za_iv n x) (0, (m : Int) - 1) then some (1, n ++ [za_top], .inl (n.length, 0) :: r, f, false) else none
      | none => none)
    | _ => none)
  | .laload, x :: .inr (.inr (.inl a)) :: r => (match HT[a]? with
    | some (.inl (1, m, _, _)) => if za_isI x && za_sub2 (za_iv n x) (0, (m : Int) - 1) then some (1, n, .inr (.inr (.inr ())) :: r, f, false) else none
    | _ => none)
  | .baload, x :: .inr (.inr (.inl a)) :: r => (match HT[a]? with
    | some (.inl (2, m, lo, hi)) => if za_isI x && za_sub2 (za_iv n x) (0, (m : Int) - 1) then some (1, n ++ [(lo, hi)], .inl (n.length, 0) :: r, f, false) else none
    | _ => none)
  | .iastore, v :: x :: .inr (.inr (.inl a)) :: r => (match HT[a]? with
    | some (.inl (0, m, lo, hi)) => if za_isI x && za_sub2 (za_iv n x) (0, (m : Int) - 1) && za_isI v && za_sub2 (za_iv n v) (lo, hi) && za_in W a 0 then some (1, n, r, f, true) else none
    | _ => none)
  | .lastore, v :: x :: .inr (.inr (.inl a)) :: r => (match HT[a]? with
    | some (.inl (1, m, _, _)) => if za_isI x && za_sub2 (za_iv n x) (0, (m : Int) - 1) && za_isL v && za_in W a 0 then some (1, n, r, f, true) else none
    | _ => none)
  | .bastore, v :: x :: .inr (.inr (.inl a)) :: r => (match HT[a]? with
    | some (.inl (2, m, lo, hi)) => if za_isI x && za_sub2 (za_iv n x) (0, (m : Int) - 1) && za_isI v && za_sub2 (za_iv n v) (0, 1) && za_sub2 (0, 1) (lo, hi) && za_in W a 0 then some (1, n, r, f, true) else none
    | _ => none)
  | .arraylength, .inr (.inr (.inl a)) :: r => (match HT[a]? with
    | some (.inl (t, m, _, _)) => if Nat.blt t 3 then some (1, n, .inr (.inl (Int32.ofNat m).toInt) :: r, f, false) else none
    | none => (match zx_pa P a with
      | some (m, _) => some (1, n, .inr (.inl (Int32.ofNat m).toInt) :: r, f, false)
      | none => none)
    | _ => none)
  | .getstatic idx, st => (zx_ps P o idx).map (fun k => (3, n, .inr (.inr (.inl k)) :: st, f, false))
  | .ldc2_w idx, st => (zx_pl P o idx).map (fun _ => (3, n, .inr (.inr (.inr ())) :: st, f, false))
  | _, _ => none
end ZAA
/-- answers -/
def za_rm (n : za_N) (t : Option za_T) (v : Option za_V) : Bool := match t, v with
  | none, none => true
  | some t, some v => za_mt n t v
  | _, _ => false
/-- the arguments' intervals: by the bases (at a run from the method's start), or as they were told -/
def za_ca (ent : Bool) (n : za_N) : Nat → List za_T → List (Int × Int) → Bool
  | _, [], _ => true
  | b, .inl q :: r, c :: cs => za_sub2 (match ent with
      | true => (match n[b]? with
        | some z => z
        | none => q)
      | false => q) c && za_ca ent n (b + 1) r cs
  | _, .inl _ :: _, [] => false
  | b, _ :: r, cs => za_ca ent n b r cs
def za_ret (ent : Bool) (k : za_K) (n : za_N) (v : Option za_V) : Bool := k.2.2.2.1.any (fun c => za_rm n c.1 v && za_ca ent n 0 k.2.2.1 c.2)
def za_r (i : Instr) (len : Nat) (ret : Option FieldType) (n : za_N) (st : List za_V) : Option (Option za_V) :=
  match i, st, ret with
  | .ireturn, [x], some ty => if Nat.beq len 1 && za_isI x && za_fty ty (za_iv n x) then some (some x) else none
  | .lreturn, [x], some .long => if Nat.beq len 1 && za_isL x then some (some x) else none
  | .return_, [], none => if Nat.beq len 1 then some none else none
  | _, _, _ => none
def za_cat (v : za_V) : Nat := if za_isL v then 2 else 1
def za_cats : List za_V → Nat
  | [] => 0
  | v :: r => za_cat v + za_cats r
def za_mts (n : za_N) : List za_T → List za_V → Bool
  | [], [] => true
  | t :: ts, v :: vs => za_mt n t v && za_mts n ts vs
  | _, _ => false
def za_con (n : za_N) (d cj : Nat) (as : List za_V) : List za_K → Option za_K
  | [] => none
  | k :: r => match Nat.beq k.1 cj && Nat.blt k.2.1 d && za_mts n k.2.2.1 as with
    | true => some k
    | false => za_con n d cj as r
/-- bases under a case's intervals of the arguments; none: that can't be -/
def za_ref (n : za_N) : List za_T → List za_V → List (Int × Int) → Option za_N
  | .inl _ :: ts, v :: vs, c :: cs => (match za_cl n v (.inr (.inl c.2)) 0 with
    | some n1 => (match za_cl n1 (.inr (.inl c.1)) v 0 with
      | some n2 => za_ref n2 ts vs cs
      | none => none)
    | none => none)
  | .inr _ :: ts, _ :: vs, cs => za_ref n ts vs cs
  | _, _, _ => some n
def za_psh (n : za_N) (t : Option za_T) (r : List za_V) : za_N × List za_V := match t with
  | none => (n, r)
  | some (.inl q) => (match decide (q.1 = q.2) with
    | true => (n, .inr (.inl q.1) :: r)
    | false => (n ++ [q], .inl (n.length, 0) :: r))
  | some (.inr (.inl _)) => (n, .inr (.inr (.inr ())) :: r)
  | some (.inr (.inr a)) => (n, .inr (.inr (.inl a)) :: r)
def za_exact : List za_V → Bool
  | [] => true
  | .inr (.inl _) :: r => za_exact r
  | .inr (.inr (.inl _)) :: r => za_exact r
  | _ => false
def za_cf : za_C → Nat → List za_V → Option za_V
  | [], _, _ => none
  | q :: r, cj, as => match Nat.beq q.1 cj && decide (q.2.1 = as) with
    | true => some q.2.2
    | false => za_cf r cj as
/-- what is known of calls behind one -/
def za_cfx (k : za_K) (cj : Nat) (as : List za_V) (t : Option za_T) (st : List za_V) (cf : za_C) : za_C := match k.2.2.2.2 with
  | _ :: _ => []
  | [] => (match za_exact as, t, st with
    | true, some _, v :: _ => (cj, as, v) :: cf
    | _, _, _ => cf)
/-- what stands behind a call, case by case -/
def za_cs (k : za_K) (cj : Nat) (as rest : List za_V) (ls : za_L) (f : za_F) (cf : za_C) (n : za_N) : List (Option za_T × List (Int × Int)) → List za_S
  | [] => []
  | c :: r => (match za_ref n k.2.2.1 as c.2 with
    | none => za_cs k cj as rest ls f cf n r
    | some n1 => ((za_psh n1 c.1 rest).1, ls, (za_psh n1 c.1 rest).2, za_fdrop f k.2.2.2.2, za_cfx k cj as c.1 (za_psh n1 c.1 rest).2 cf) :: za_cs k cj as rest ls f cf n r)
def za_oc (HT : List za_D) (a ci : Nat) : Bool := match HT[a]? with
  | some (.inr (cj, _)) => Nat.beq cj ci
  | _ => false
def za_call (P : zx_P) (HT : List za_D) (KT : List za_K) (W : List (Nat × Nat)) (d o : Nat) (i : Instr) (len : Nat) (s : za_S) : Option (List za_S) :=
  match s with
  | (n, ls, st, f, cf) =>
  (match i with
  | .invokevirtual idx => (match zx_pc P o idx with
    | some cj => (match (zx_pm P)[cj]? with
      | some q => (match zx_mc q, st.drop (zx_mp q) with
        | some ci, .inr (.inr (.inl a)) :: rest =>
          if za_oc HT a ci && Nat.ble 1 d && Nat.beq len 3 && Nat.beq (st.take (zx_mp q)).length (zx_mp q) && Nat.ble (za_cats rest) 8 && Nat.ble (zx_ml q) 21 && Nat.ble (za_cats (.inr (.inr (.inl a)) :: (st.take (zx_mp q)).reverse)) (zx_ml q) then
            (match za_cf cf cj (.inr (.inr (.inl a)) :: (st.take (zx_mp q)).reverse) with
            | some v => some [(n, ls, v :: rest, f, cf)]
            | none => (match za_con n d cj (.inr (.inr (.inl a)) :: (st.take (zx_mp q)).reverse) KT with
              | some k => if k.2.2.2.2.all (fun z => za_in W z.1 z.2) then some (za_cs k cj (.inr (.inr (.inl a)) :: (st.take (zx_mp q)).reverse) rest ls f cf n k.2.2.2.1) else none
              | none => none))
          else none
        | _, _ => none)
      | none => none)
    | none => none)
  | .invokestatic idx => (match zx_pc P o idx with
    | some cj => (match (zx_pm P)[cj]? with
      | some q => (match zx_mc q with
        | none =>
          if !(zx_pn P o idx) && Nat.ble 1 d && Nat.beq len 3 && Nat.beq (st.take (zx_mp q)).length (zx_mp q) && Nat.ble (za_cats (st.drop (zx_mp q))) 8 && Nat.ble (zx_ml q) 21 && Nat.ble (za_cats (st.take (zx_mp q)).reverse) (zx_ml q) then
            (match za_cf cf cj (st.take (zx_mp q)).reverse with
            | some v => some [(n, ls, v :: st.drop (zx_mp q), f, cf)]
            | none => (match za_con n d cj (st.take (zx_mp q)).reverse KT with
              | some k => if k.2.2.2.2.all (fun z => za_in W z.1 z.2) then some (za_cs k cj (st.take (zx_mp q)).reverse (st.drop (zx_mp q)) ls f cf n k.2.2.2.1) else none
              | none => none))
          else none
        | some _ => none)
      | none => none)
    | none => none)
  | _ => none)
/-- Math.min -/
def za_n (P : zx_P) (o : Nat) (i : Instr) (len : Nat) (n : za_N) (st : List za_V) : Option (za_N × List za_V) :=
  match i, st with
  | .invokestatic idx, y :: x :: r => if zx_pn P o idx && Nat.beq len 3 && Nat.ble (za_cats r) 8 && (za_isI x && za_isI y) then some (n ++ [(za_min (za_iv n x).1 (za_iv n y).1, za_min (za_iv n x).2 (za_iv n y).2)], .inl (n.length, 0) :: r) else none
  | _, _ => none
/-- one instruction: where it may go on -/
def za_one (P : zx_P) (HT : List za_D) (KT : List za_K) (q : zx_M) (k : za_K) (ent : Bool) (s : za_S) (pc : Nat) : Option (List (za_S × Nat)) :=
  match s with
  | (n, ls, st, f, cf) =>
  (match zx_at (zx_mi q) pc with
  | none => none
  | some (i, len) =>
    match za_s i n st with
    | some (l, n', st') => if Nat.beq len l then some [((n', ls, st', f, cf), pc + l)] else none
    | none =>
    match za_l i ls with
    | some (l, v) => if Nat.beq len l then some [((n, ls, v :: st, f, cf), pc + l)] else none
    | none =>
    match za_t i (zx_ml q) ls st with
    | some (l, ls', st') => if Nat.beq len l then some [((n, ls', st', f, cf), pc + l)] else none
    | none =>
    match za_inc i (zx_ml q) n ls with
    | some (n', ls') => if Nat.beq len 3 then some [((n', ls', st, f, cf), pc + 3)] else none
    | none =>
    match za_j i len pc n st with
    | some l => some (l.map (fun z => ((z.1, ls, z.2.2, f, cf), z.2.1)))
    | none =>
    match za_g P HT k.2.2.2.2 (zx_mo q) i n st f with
    | some (l, n', st', f', w) => if Nat.beq len l then some [((n', ls, st', f', (match w with
      | true => []
      | false => cf)), pc + l)] else none
    | none =>
    match za_r i len (zx_mr q) n st with
    | some v => if za_ret ent k n v then some [] else none
    | none =>
    match za_n P (zx_mo q) i len n st with
    | some (n', st') => if Nat.ble 1 k.2.1 then some [((n', ls, st', f, cf), pc + 3)] else none
    | none => (za_call P HT KT k.2.2.2.2 k.2.1 (zx_mo q) i len s).map (fun l => l.map (fun z => (z, pc + 3))))
def za_ct : List (Nat × za_Q) → Nat → Option za_Q
  | [], _ => none
  | q :: r, pc => match Nat.beq q.1 pc with
    | true => some q.2
    | false => za_ct r pc
/-- facts that a place wants: where one is not known, the field's own interval -/
def za_need (HT : List za_D) : List ((Nat × Nat) × (Int × Int)) → za_N → za_F → Option (za_N × za_F)
  | [], n, f => some (n, f)
  | z :: r, n, f => match za_fk f z.1.1 z.1.2 with
    | some _ => za_need HT r n f
    | none => (match HT[z.1.1]? with
      | some (.inr (_, fd)) => (match fd[z.1.2]? with
        | some (.inl q) => za_need HT r (n ++ [q]) ((z.1, .inl (n.length, 0)) :: f)
        | _ => none)
      | _ => none)
/-- the ints of a place, in order -/
def za_xl (ls : za_L) : List (Nat × za_T) → List za_V
  | [] => []
  | (i, .inl _) :: r => (match za_lk ls i with
    | some v => v :: za_xl ls r
    | none => .inr (.inl 0) :: za_xl ls r)
  | _ :: r => za_xl ls r
def za_xs : List za_T → List za_V → List za_V
  | .inl _ :: ts, v :: vs => v :: za_xs ts vs
  | _ :: ts, _ :: vs => za_xs ts vs
  | _, _ => []
def za_xf (f : za_F) : List ((Nat × Nat) × (Int × Int)) → List za_V
  | [] => []
  | z :: r => (match za_fk f z.1.1 z.1.2 with
    | some v => v :: za_xf f r
    | none => .inr (.inl 0) :: za_xf f r)
/-- weights of values as a number and terms of bases -/
def za_lin : List Int → List za_V → Int × List (Nat × Int)
  | w :: ws, .inl (b, c) :: vs => (w * c + (za_lin ws vs).1, (b, w) :: (za_lin ws vs).2)
  | w :: ws, .inr (.inl k) :: vs => (w * k + (za_lin ws vs).1, (za_lin ws vs).2)
  | _ :: ws, _ :: vs => za_lin ws vs
  | _, _ => (0, [])
def za_neg : Nat → List Int → List (Nat × Int)
  | _, [] => []
  | b, w :: r => (b, -w) :: za_neg (b + 1) r
def za_co (t : List (Nat × Int)) (b : Nat) : Int := match t with
  | [] => 0
  | q :: r => (match Nat.beq q.1 b with
    | true => q.2 + za_co r b
    | false => za_co r b)
def za_ub (t : List (Nat × Int)) : Nat → za_N → Int
  | _, [] => 0
  | b, q :: r => (match za_le 0 (za_co t b) with
    | true => za_co t b * q.2
    | false => za_co t b * q.1) + za_ub t (b + 1) r
def za_lok (n : za_N) (ls : za_L) (l : List (Nat × za_T)) : Bool := l.all (fun z => match za_lk ls z.1 with
  | some v => za_mt n z.2 v
  | none => false)
def za_fok (n : za_N) (f : za_F) (l : List ((Nat × Nat) × (Int × Int))) : Bool := l.all (fun z => match za_fk f z.1.1 z.1.2 with
  | some v => za_isI v && za_sub2 (za_iv n v) z.2
  | none => false)
/-- a run comes to a place: kinds, measure -/
def za_arr (HT : List za_D) (ent : Bool) (mu : Int × List Int) (s : za_S) (c : za_Q) : Bool :=
  match s with
  | (n0, ls, st, f0, _) => (match za_need HT c.2.2.1 n0 f0 with
    | none => false
    | some (n, f) => za_lok n ls c.1 && za_mts n c.2.1 st && za_fok n f c.2.2.1 && (match ent with
      | true => true
      | false => za_le (c.2.2.2.1 + (za_lin c.2.2.2.2 (za_xl ls c.1 ++ (za_xs c.2.1 st ++ za_xf f c.2.2.1))).1 - mu.1 + za_ub ((za_lin c.2.2.2.2 (za_xl ls c.1 ++ (za_xs c.2.1 st ++ za_xf f c.2.2.1))).2 ++ za_neg 0 mu.2) 0 n) (-1)))
def za_ck (P : zx_P) (HT : List za_D) (KT : List za_K) (q : zx_M) (k : za_K) (CT : List (Nat × za_Q)) (ent : Bool) (mu : Int × List Int) : Nat → Bool → za_S → Nat → Bool
  | 0, _, _, _ => false
  | g + 1, b, s, pc => match (match b with
      | true => za_ct CT pc
      | false => none) with
    | some c => za_arr HT ent mu s c
    | none => (match za_one P HT KT q k ent s pc with
      | none => false
      | some l => l.all (fun z => za_ck P HT KT q k CT ent mu g true z.1 z.2))
/-- bases and values of kinds -/
def za_ini : List za_T → za_N → za_N × List za_V
  | [], n => (n, [])
  | .inl q :: r, n => ((za_ini r (n ++ [q])).1, .inl (n.length, 0) :: (za_ini r (n ++ [q])).2)
  | .inr (.inl _) :: r, n => ((za_ini r n).1, .inr (.inr (.inr ())) :: (za_ini r n).2)
  | .inr (.inr a) :: r, n => ((za_ini r n).1, .inr (.inr (.inl a)) :: (za_ini r n).2)
/-- numbers of the locals that hold arguments -/
def za_args : Nat → List za_V → za_L
  | _, [] => []
  | i, v :: vs => (i, v) :: za_args (if za_isL v then i + 2 else i + 1) vs
def za_start (c : za_Q) : za_S :=
  match za_ini (c.1.map (fun z => z.2) ++ (c.2.1 ++ c.2.2.1.map (fun z => .inl z.2))) [] with
  | (n, vs) => (n, (c.1.map (fun z => z.1)).zip (vs.take c.1.length), (vs.drop c.1.length).take c.2.1.length, (c.2.2.1.map (fun z => z.1)).zip (vs.drop (c.1.length + c.2.1.length)), [])
/-- the least that a measure can be -/
def za_mlo : List Int → za_N → Int
  | w :: ws, q :: n => (match za_le 0 w with
    | true => w * q.1
    | false => w * q.2) + za_mlo ws n
  | _, _ => 0
/-- a contract is kept: from the start, and from each place -/
def za_okK (P : zx_P) (HT : List za_D) (KT : List za_K) (k : za_K) (CT : List (Nat × za_Q)) (g : Nat) : Bool :=
  match (zx_pm P)[k.1]? with
  | none => false
  | some q => (match za_ini k.2.2.1 [] with
    | (n, vs) => za_ck P HT KT q k CT true (0, []) g true (n, za_args 0 vs, [], [], []) 0) &&
    CT.all (fun c => za_ck P HT KT q k CT false c.2.2.2.2 g false (za_start c.2) c.1 && Nat.ble c.2.2.2.2.2.length (za_start c.2).1.length && za_le 0 (c.2.2.2.2.1 + za_mlo c.2.2.2.2.2 (za_start c.2).1))
end
section
/-! ===== 10: what the abstract interpreter's words mean; stack, locals, jumps are right ===== -/
def zb_V (u : Nat → Int) (n : Nat) (v : Value) (a : za_V) : Prop := match a with
  | .inl (b, c) => b < n ∧ ∃ x : Int32, v = .int x ∧ x.toInt = u b + c
  | .inr (.inl k) => ∃ x : Int32, v = .int x ∧ x.toInt = k
  | .inr (.inr (.inl a)) => v = .ref a
  | .inr (.inr (.inr _)) => ∃ x : Int64, v = .long x
def zb_N (u : Nat → Int) (n : za_N) : Prop := ∀ (b : Nat) (q : Int × Int), n[b]? = some q → q.1 ≤ u b ∧ u b ≤ q.2
def zb_L (u : Nat → Int) (n : Nat) (ls : zx_L) (al : za_L) : Prop := ∀ q ∈ al, ∃ v, zx_lk ls q.1 = some v ∧ zb_V u n v q.2
def zb_T (v : Value) (t : za_T) : Prop := match t with
  | .inl q => ∃ x : Int32, v = .int x ∧ q.1 ≤ x.toInt ∧ x.toInt ≤ q.2
  | .inr (.inl _) => ∃ x : Int64, v = .long x
  | .inr (.inr a) => v = .ref a
/-- more bases -/
def zb_X (u u' : Nat → Int) (n n' : Nat) : Prop := n ≤ n' ∧ ∀ b, b < n → u' b = u b
theorem zb_X.rf {u : Nat → Int} {n : Nat} : zb_X u u n n := ⟨Nat.le_refl _, fun _ _ => rfl⟩
theorem zb_X.tr {u u' u'' : Nat → Int} {n n' n'' : Nat} (h : zb_X u u' n n') (h2 : zb_X u' u'' n' n'') : zb_X u u'' n n'' := ⟨Nat.le_trans h.1 h2.1, fun b hb => (h2.2 b (Nat.lt_of_lt_of_le hb h.1)).trans (h.2 b hb)⟩
theorem zb_V.mo {u u' : Nat → Int} {n n' : Nat} {v : Value} {a : za_V} (h : zb_X u u' n n') (hv : zb_V u n v a) : zb_V u' n' v a := by
  unfold zb_V at hv ⊢
  split
  · obtain ⟨h1, x, h2, h3⟩ := hv; exact ⟨Nat.lt_of_lt_of_le h1 h.1, x, h2, by rw [h.2 _ h1]; exact h3⟩
  · exact hv
  · exact hv
  · exact hv
def zb_A {α β : Type} (R : α → β → Prop) : List α → List β → Prop
  | [], [] => True
  | a :: as, b :: bs => R a b ∧ zb_A R as bs
  | _, _ => False
theorem zb_A.c {α β : Type} {R : α → β → Prop} {l : List α} {b : β} {bs : List β} (h : zb_A R l (b :: bs)) : ∃ a as, l = a :: as ∧ R a b ∧ zb_A R as bs := by
  cases l with
  | nil => exact h.elim
  | cons a as => exact ⟨a, as, rfl, h.1, h.2⟩
theorem zb_A.n {α β : Type} {R : α → β → Prop} {l : List α} (h : zb_A R l []) : l = [] := by
  cases l with
  | nil => rfl
  | cons a as => exact h.elim
theorem zb_A.im {α β : Type} {R S : α → β → Prop} (hi : ∀ a b, R a b → S a b) : ∀ {l : List α} {m : List β}, zb_A R l m → zb_A S l m
  | [], [], _ => trivial
  | _ :: _, _ :: _, h => ⟨hi _ _ h.1, zb_A.im hi h.2⟩
  | [], _ :: _, h => h.elim
  | _ :: _, [], h => h.elim
theorem zb_A.len {α β : Type} {R : α → β → Prop} : ∀ {l : List α} {m : List β}, zb_A R l m → l.length = m.length
  | [], [], _ => rfl
  | _ :: _, _ :: _, h => by rw [List.length_cons, List.length_cons, zb_A.len h.2]
  | [], _ :: _, h => h.elim
  | _ :: _, [], h => h.elim
theorem zb_A.app {α β : Type} {R : α → β → Prop} : ∀ {l l' : List α} {m m' : List β}, zb_A R l m → zb_A R l' m' → zb_A R (l ++ l') (m ++ m')
  | [], _, [], _, _, h => h
  | _ :: _, _, _ :: _, _, h, h' => ⟨h.1, zb_A.app h.2 h'⟩
  | [], _, _ :: _, _, h, _ => h.elim
  | _ :: _, _, [], _, h, _ => h.elim
theorem zb_A.rev {α β : Type} {R : α → β → Prop} : ∀ {l : List α} {m : List β}, zb_A R l m → zb_A R l.reverse m.reverse
  | [], [], _ => trivial
  | _ :: _, _ :: _, h => by rw [List.reverse_cons, List.reverse_cons]; exact zb_A.app (zb_A.rev h.2) ⟨h.1, trivial⟩
  | [], _ :: _, h => h.elim
  | _ :: _, [], h => h.elim
theorem zb_A.take {α β : Type} {R : α → β → Prop} : ∀ (k : Nat) {l : List α} {m : List β}, zb_A R l m → zb_A R (l.take k) (m.take k)
  | 0, _, _, _ => trivial
  | k + 1, [], [], _ => trivial
  | k + 1, _ :: _, _ :: _, h => ⟨h.1, zb_A.take k h.2⟩
  | k + 1, [], _ :: _, h => h.elim
  | k + 1, _ :: _, [], h => h.elim
theorem zb_A.drop {α β : Type} {R : α → β → Prop} : ∀ (k : Nat) {l : List α} {m : List β}, zb_A R l m → zb_A R (l.drop k) (m.drop k)
  | 0, _, _, h => h
  | k + 1, [], [], _ => trivial
  | k + 1, _ :: _, _ :: _, h => zb_A.drop k h.2
  | k + 1, [], _ :: _, h => h.elim
  | k + 1, _ :: _, [], h => h.elim
abbrev zb_S (u : Nat → Int) (n : Nat) : List Value → List za_V → Prop := zb_A (zb_V u n)
theorem zb_S.mo {u u' : Nat → Int} {n n' : Nat} {st : List Value} {al : List za_V} (h : zb_X u u' n n') (hv : zb_S u n st al) : zb_S u' n' st al := zb_A.im (fun _ _ z => z.mo h) hv
theorem zb_L.mo {u u' : Nat → Int} {n n' : Nat} {ls : zx_L} {al : za_L} (h : zb_X u u' n n') (hv : zb_L u n ls al) : zb_L u' n' ls al := fun q e => by
  obtain ⟨v, h1, h2⟩ := hv q e; exact ⟨v, h1, h2.mo h⟩
/-- a new base with a value of its own -/
def zb_up (u : Nat → Int) (n : Nat) (z : Int) : Nat → Int := fun b => if b = n then z else u b
theorem zb_up_X (u : Nat → Int) (n : Nat) (z : Int) : zb_X u (zb_up u n z) n (n + 1) := ⟨Nat.le_succ _, fun b hb => by unfold zb_up; rw [if_neg (by omega)]⟩
theorem zb_up_N {u : Nat → Int} {n : za_N} {z : Int} {q : Int × Int} (h : zb_N u n) (h1 : q.1 ≤ z) (h2 : z ≤ q.2) : zb_N (zb_up u n.length z) (n ++ [q]) := by
  intro b r hr
  unfold zb_up
  by_cases e : b = n.length
  · subst e
    rw [if_pos rfl]
    rw [List.getElem?_append_right (Nat.le_refl _), Nat.sub_self] at hr
    cases hr
    exact ⟨h1, h2⟩
  · rw [if_neg e]
    by_cases hb : b < n.length
    · rw [List.getElem?_append_left hb] at hr
      exact h b r hr
    · rw [List.getElem?_append_right (by omega)] at hr
      rw [List.getElem?_eq_none (by simp; omega)] at hr
      cases hr
theorem zb_up_V (u : Nat → Int) (n : Nat) (x : Int32) : zb_V (zb_up u n x.toInt) (n + 1) (.int x) (.inl (n, 0)) := ⟨Nat.lt_succ_self _, x, rfl, by unfold zb_up; rw [if_pos rfl, Int.add_zero]⟩
theorem zb_len {n : za_N} {q : Int × Int} : (n ++ [q]).length = n.length + 1 := by simp
/-- ints have a number in the interval -/
theorem zb_iv {u : Nat → Int} {n : za_N} {v : Value} {a : za_V} (hN : zb_N u n) (hv : zb_V u n.length v a) (hi : za_isI a = true) : ∃ x : Int32, v = .int x ∧ (za_iv n a).1 ≤ x.toInt ∧ x.toInt ≤ (za_iv n a).2 := by
  unfold zb_V at hv
  unfold za_iv
  split at hv
  · next b c =>
    obtain ⟨h1, x, h2, h3⟩ := hv
    obtain ⟨q, hq⟩ : ∃ q, n[b]? = some q := ⟨n[b], List.getElem?_eq_getElem h1⟩
    have := hN b q hq
    refine ⟨x, h2, ?_⟩
    simp only [hq]
    omega
  · next k => obtain ⟨x, h2, h3⟩ := hv; exact ⟨x, h2, by simp only; omega⟩
  · cases hi
  · cases hi
theorem zb_isL {u : Nat → Int} {n : Nat} {v : Value} {a : za_V} (hv : zb_V u n v a) (hi : za_isL a = true) : ∃ x : Int64, v = .long x := by
  unfold zb_V at hv
  split at hv
  · cases hi
  · cases hi
  · cases hi
  · exact hv
theorem zb_cat {u : Nat → Int} {n : Nat} {v : Value} {a : za_V} (hv : zb_V u n v a) : v.category = if za_isL a then 2 else 1 := by
  unfold zb_V at hv
  split at hv
  · obtain ⟨_, x, rfl, _⟩ := hv; rfl
  · obtain ⟨x, rfl, _⟩ := hv; rfl
  · rw [hv]; rfl
  · obtain ⟨x, rfl⟩ := hv; rfl
theorem za_min_le {a b x : Int} : x ≤ za_min a b ↔ x ≤ a ∧ x ≤ b := by
  unfold za_min
  split
  · next e => rw [za_le_iff] at e; omega
  · next e => have h9 : ¬ a ≤ b := fun h => Bool.noConfusion (e.symm.trans (za_le_iff.mpr h)); omega
theorem za_max_le {a b x : Int} : za_max a b ≤ x ↔ a ≤ x ∧ b ≤ x := by
  unfold za_max
  split
  · next e => rw [za_le_iff] at e; omega
  · next e => have h9 : ¬ a ≤ b := fun h => Bool.noConfusion (e.symm.trans (za_le_iff.mpr h)); omega
theorem zb_hi {u : Nat → Int} {n : za_N} {x : Int32} {a : za_V} {m : Int} (hN : zb_N u n) (hv : zb_V u n.length (.int x) a) (h : x.toInt ≤ m) : zb_N u (za_hi n a m) ∧ (za_hi n a m).length = n.length := by
  unfold za_hi
  split
  · next b c =>
    obtain ⟨h1, y, h2, h3⟩ := hv
    cases h2
    split
    · next q hq =>
      refine ⟨fun b' r hr => ?_, by simp⟩
      rw [List.getElem?_set] at hr
      split at hr
      · next e =>
        subst e
        cases hr
        have := hN _ q hq
        exact ⟨this.1, za_min_le.mpr ⟨this.2, by omega⟩⟩
      · exact hN _ _ hr
    · exact ⟨hN, rfl⟩
  · exact ⟨hN, rfl⟩
theorem zb_lo {u : Nat → Int} {n : za_N} {x : Int32} {a : za_V} {m : Int} (hN : zb_N u n) (hv : zb_V u n.length (.int x) a) (h : m ≤ x.toInt) : zb_N u (za_lo n a m) ∧ (za_lo n a m).length = n.length := by
  unfold za_lo
  split
  · next b c =>
    obtain ⟨h1, y, h2, h3⟩ := hv
    cases h2
    split
    · next q hq =>
      refine ⟨fun b' r hr => ?_, by simp⟩
      rw [List.getElem?_set] at hr
      split at hr
      · next e =>
        subst e
        cases hr
        have := hN _ q hq
        exact ⟨za_max_le.mpr ⟨this.1, by omega⟩, this.2⟩
      · exact hN _ _ hr
    · exact ⟨hN, rfl⟩
  · exact ⟨hN, rfl⟩
theorem zb_cl {u : Nat → Int} {n : za_N} {x y : Int32} {a b : za_V} {d : Int} (hN : zb_N u n) (ha : zb_V u n.length (.int x) a) (hb : zb_V u n.length (.int y) b) (ia : za_isI a = true) (ib : za_isI b = true) (h : x.toInt + d ≤ y.toInt) : ∃ n', za_cl n a b d = some n' ∧ zb_N u n' ∧ n'.length = n.length := by
  obtain ⟨x', e1, a1, a2⟩ := zb_iv hN ha ia
  obtain ⟨y', e2, b1, b2⟩ := zb_iv hN hb ib
  cases e1; cases e2
  unfold za_cl
  rw [show za_le ((za_iv n a).1 + d) (za_iv n b).2 = true from za_le_iff.mpr (by omega)]
  obtain ⟨h1, h2⟩ := zb_hi (m := (za_iv n b).2 - d) hN ha (by omega)
  obtain ⟨h3, h4⟩ := zb_lo (m := (za_iv n a).1 + d) h1 (by rw [h2]; exact hb) (by omega)
  exact ⟨_, rfl, h3, by rw [h4, h2]⟩
theorem zb_ceq {u : Nat → Int} {n : za_N} {x y : Int32} {a b : za_V} (hN : zb_N u n) (ha : zb_V u n.length (.int x) a) (hb : zb_V u n.length (.int y) b) (ia : za_isI a = true) (ib : za_isI b = true) (h : x = y) : ∃ n', za_ceq n a b = some n' ∧ zb_N u n' ∧ n'.length = n.length := by
  subst h
  obtain ⟨n1, e1, h1, l1⟩ := zb_cl (d := 0) hN ha hb ia ib (by omega)
  obtain ⟨n2, e2, h2, l2⟩ := zb_cl (d := 0) h1 (by rw [l1]; exact hb) (by rw [l1]; exact ha) ib ia (by omega)
  refine ⟨n2, ?_, h2, l2.trans l1⟩
  unfold za_ceq
  rw [e1]; exact e2
theorem zb_ne_lt {x y : Int32} (h : ¬ x = y) : ¬ x.toInt = y.toInt := fun e => h (Int32.toInt_inj.mp e)
theorem zb_cne {u : Nat → Int} {n : za_N} {x y : Int32} {a b : za_V} (hN : zb_N u n) (ha : zb_V u n.length (.int x) a) (hb : zb_V u n.length (.int y) b) (ia : za_isI a = true) (h : ¬ x = y) : ∃ n', za_cne n a b = some n' ∧ zb_N u n' ∧ n'.length = n.length := by
  obtain ⟨x', e1, a1, a2⟩ := zb_iv hN ha ia
  cases e1
  have hne := zb_ne_lt h
  unfold za_cne
  split
  · next k =>
    have hb' := hb
    obtain ⟨y', e2, hk⟩ := hb'
    cases e2
    split
    · next e => rw [decide_eq_true_eq] at e; exact zb_cl hN hb ha rfl ia (by omega)
    · split
      · next e => rw [decide_eq_true_eq] at e; exact zb_cl hN ha hb ia rfl (by omega)
      · exact ⟨n, rfl, hN, rfl⟩
  · exact ⟨n, rfl, hN, rfl⟩
theorem zb_br {u : Nat → Int} {n : za_N} {x y : Int32} {a b : za_V} {k : Jvm.ClassFile.Cond} (hN : zb_N u n) (ha : zb_V u n.length (.int x) a) (hb : zb_V u n.length (.int y) b) (ia : za_isI a = true) (ib : za_isI b = true) (h : zx_cmp k x y = true) : ∃ n', za_br k n a b = some n' ∧ zb_N u n' ∧ n'.length = n.length := by
  unfold zx_cmp at h
  cases k <;> simp only [decide_eq_true_eq] at h
  · exact zb_ceq hN ha hb ia ib h
  · exact zb_cne hN ha hb ia h
  · exact zb_cl hN ha hb ia ib (by rw [Int32.lt_iff_toInt_lt] at h; omega)
  · exact zb_cl hN hb ha ib ia (by rw [Int32.le_iff_toInt_le] at h; omega)
  · exact zb_cl hN hb ha ib ia (by rw [Int32.lt_iff_toInt_lt] at h; omega)
  · exact zb_cl hN ha hb ia ib (by rw [Int32.le_iff_toInt_le] at h; omega)
theorem zb_ng {k : Jvm.ClassFile.Cond} {x y : Int32} (h : ¬ zx_cmp k x y = true) : zx_cmp (za_ng k) x y = true := by
  unfold zx_cmp at h ⊢
  cases k <;> simp only [za_ng, decide_eq_true_eq, Int32.lt_iff_toInt_lt, Int32.le_iff_toInt_le] at h ⊢ <;> first | omega | exact h | (exact Classical.not_not.mp h)
theorem zb_bm {x : Int} (h1 : -2147483648 ≤ x) (h2 : x ≤ 2147483647) : x.bmod (2 ^ 32) = x := by
  unfold Int.bmod
  have e : ((2 ^ 32 : Nat) : Int) = 4294967296 := rfl
  rw [e]
  dsimp only
  split <;> omega
theorem zb_add {x y : Int32} (h1 : -2147483648 ≤ x.toInt + y.toInt) (h2 : x.toInt + y.toInt ≤ 2147483647) : (x + y).toInt = x.toInt + y.toInt := by
  rw [Int32.toInt_add]; exact zb_bm h1 h2
theorem zb_sub {x y : Int32} (h1 : -2147483648 ≤ x.toInt - y.toInt) (h2 : x.toInt - y.toInt ≤ 2147483647) : (x - y).toInt = x.toInt - y.toInt := by
  rw [Int32.toInt_sub]; exact zb_bm h1 h2
theorem zb_mul {x y : Int32} (h1 : -2147483648 ≤ x.toInt * y.toInt) (h2 : x.toInt * y.toInt ≤ 2147483647) : (x * y).toInt = x.toInt * y.toInt := by
  rw [Int32.toInt_mul]; exact zb_bm h1 h2
theorem zb_top (x : Int32) : za_top.1 ≤ x.toInt ∧ x.toInt ≤ za_top.2 := by
  have h1 := Int32.le_toInt x
  have h2 := Int32.toInt_lt x
  unfold za_top
  constructor <;> simp only <;> omega
theorem zb_inr {l h : Int} (e : za_inr l h = true) : -2147483648 ≤ l ∧ h ≤ 2147483647 := by
  unfold za_inr at e
  rw [Bool.and_eq_true, za_le_iff, za_le_iff] at e
  exact e
/-- the goal of a step on the stack -/
def zb_G (u : Nat → Int) (n n' : za_N) (st : List Value) (al : List za_V) : Prop := ∃ u', zb_X u u' n.length n'.length ∧ zb_N u' n' ∧ zb_S u' n'.length st al
theorem zb_G.id {u : Nat → Int} {n : za_N} {st : List Value} {al : List za_V} (hN : zb_N u n) (hs : zb_S u n.length st al) : zb_G u n n st al := ⟨u, zb_X.rf, hN, hs⟩
theorem zb_G.nw {u : Nat → Int} {n : za_N} {r : List Value} {ar : List za_V} (hN : zb_N u n) (hs : zb_S u n.length r ar) (x : Int32) (q : Int × Int) (h1 : q.1 ≤ x.toInt) (h2 : x.toInt ≤ q.2) : zb_G u n (n ++ [q]) (.int x :: r) (.inl (n.length, 0) :: ar) := by
  have hX : zb_X u (zb_up u n.length x.toInt) n.length (n ++ [q]).length := by rw [zb_len]; exact zb_up_X _ _ _
  exact ⟨_, hX, zb_up_N hN h1 h2, by rw [zb_len]; exact zb_up_V _ _ _, hs.mo hX⟩
theorem zb_addW {u : Nat → Int} {n : za_N} {x y : Int32} {a b : za_V} {r : List Value} {ar : List za_V} (hN : zb_N u n) (ha : zb_V u n.length (.int x) a) (hb : zb_V u n.length (.int y) b) (ia : za_isI a = true) (ib : za_isI b = true) (hs : zb_S u n.length r ar) {k : Nat} {n' : za_N} {al : List za_V} (h : za_add n a b ar = (k, n', al)) : k = 1 ∧ zb_G u n n' (.int (x + y) :: r) al := by
  obtain ⟨x', e1, a1, a2⟩ := zb_iv hN ha ia
  obtain ⟨y', e2, b1, b2⟩ := zb_iv hN hb ib
  cases e1; cases e2
  unfold za_add at h
  split at h
  · cases h; exact ⟨rfl, zb_G.nw hN hs _ _ (zb_top _).1 (zb_top _).2⟩
  · next e =>
    obtain ⟨c1, c2⟩ := zb_inr e
    have hadd : (x + y).toInt = x.toInt + y.toInt := zb_add (by omega) (by omega)
    split at h
    · cases h
      obtain ⟨h1, x1, h2, h3⟩ := ha
      obtain ⟨y1, h4, h5⟩ := hb
      cases h2; cases h4
      exact ⟨rfl, zb_G.id hN ⟨⟨h1, _, rfl, by omega⟩, hs⟩⟩
    · cases h
      obtain ⟨h1, x1, h2, h3⟩ := hb
      obtain ⟨y1, h4, h5⟩ := ha
      cases h2; cases h4
      exact ⟨rfl, zb_G.id hN ⟨⟨h1, _, rfl, by omega⟩, hs⟩⟩
    · cases h
      obtain ⟨x1, h2, h3⟩ := ha
      obtain ⟨y1, h4, h5⟩ := hb
      cases h2; cases h4
      exact ⟨rfl, zb_G.id hN ⟨⟨_, rfl, by omega⟩, hs⟩⟩
    · cases h
      exact ⟨rfl, zb_G.nw hN hs _ _ (by simp only; omega) (by simp only; omega)⟩
theorem zb_subW {u : Nat → Int} {n : za_N} {x y : Int32} {a b : za_V} {r : List Value} {ar : List za_V} (hN : zb_N u n) (ha : zb_V u n.length (.int x) a) (hb : zb_V u n.length (.int y) b) (ia : za_isI a = true) (ib : za_isI b = true) (hs : zb_S u n.length r ar) {k : Nat} {n' : za_N} {al : List za_V} (h : za_sub n a b ar = (k, n', al)) : k = 1 ∧ zb_G u n n' (.int (x - y) :: r) al := by
  obtain ⟨x', e1, a1, a2⟩ := zb_iv hN ha ia
  obtain ⟨y', e2, b1, b2⟩ := zb_iv hN hb ib
  cases e1; cases e2
  unfold za_sub at h
  split at h
  · cases h; exact ⟨rfl, zb_G.nw hN hs _ _ (zb_top _).1 (zb_top _).2⟩
  · next e =>
    obtain ⟨c1, c2⟩ := zb_inr e
    have hadd : (x - y).toInt = x.toInt - y.toInt := zb_sub (by omega) (by omega)
    split at h
    · cases h
      obtain ⟨h1, x1, h2, h3⟩ := ha
      obtain ⟨y1, h4, h5⟩ := hb
      cases h2; cases h4
      exact ⟨rfl, zb_G.id hN ⟨⟨h1, _, rfl, by omega⟩, hs⟩⟩
    · cases h
      obtain ⟨x1, h2, h3⟩ := ha
      obtain ⟨y1, h4, h5⟩ := hb
      cases h2; cases h4
      exact ⟨rfl, zb_G.id hN ⟨⟨_, rfl, by omega⟩, hs⟩⟩
    · cases h
      exact ⟨rfl, zb_G.nw hN hs _ _ (by simp only; omega) (by simp only; omega)⟩
theorem zb_mulW {u : Nat → Int} {n : za_N} {x y : Int32} {a b : za_V} {r : List Value} {ar : List za_V} (hN : zb_N u n) (ha : zb_V u n.length (.int x) a) (hb : zb_V u n.length (.int y) b) (ia : za_isI a = true) (ib : za_isI b = true) (hs : zb_S u n.length r ar) {k : Nat} {n' : za_N} {al : List za_V} (h : za_mul n a b ar = (k, n', al)) : k = 1 ∧ zb_G u n n' (.int (x * y) :: r) al := by
  obtain ⟨x', e1, a1, a2⟩ := zb_iv hN ha ia
  obtain ⟨y', e2, b1, b2⟩ := zb_iv hN hb ib
  cases e1; cases e2
  unfold za_mul at h
  split at h
  · cases h; exact ⟨rfl, zb_G.nw hN hs _ _ (zb_top _).1 (zb_top _).2⟩
  · next e =>
    rw [Bool.and_eq_true, Bool.and_eq_true, za_le_iff, za_le_iff, za_le_iff] at e
    obtain ⟨⟨c1, c2⟩, c3⟩ := e
    have h0 : 0 ≤ x.toInt * y.toInt := Int.mul_nonneg (by omega) (by omega)
    have h1 : x.toInt * y.toInt ≤ (za_iv n a).2 * (za_iv n b).2 := Int.mul_le_mul a2 b2 (by omega) (by omega)
    have hm : (x * y).toInt = x.toInt * y.toInt := zb_mul (by omega) (by omega)
    cases h
    exact ⟨rfl, zb_G.nw hN hs _ _ (by rw [hm]; exact h0) (by rw [hm]; exact h1)⟩
end
section
/-! ===== 11: the abstract interpreter's steps on stack and locals are right ===== -/
theorem zb_and {a b : Bool} (h : (a && b) = true) : a = true ∧ b = true := by rwa [Bool.and_eq_true] at h
theorem zb_cmp (x y : Int64) : (-1 : Int) ≤ (lg_cmp x y).toInt ∧ (lg_cmp x y).toInt ≤ 1 := by
  unfold lg_cmp
  split
  · decide +kernel
  · split
    · decide +kernel
    · decide +kernel
set_option maxHeartbeats 4000000 in
theorem zb_s {u : Nat → Int} {n n' : za_N} {i : Instr} {st : List Value} {al al' : List za_V} {k : Nat} (hN : zb_N u n) (hs : zb_S u n.length st al) (h : za_s i n al = some (k, n', al')) : ∃ st', zx_s i st = some (k, st') ∧ zb_G u n n' st' al' := by
  unfold za_s at h
  split at h
  · cases h; exact ⟨_, rfl, zb_G.id hN ⟨⟨_, rfl, rfl⟩, hs⟩⟩
  · cases h; exact ⟨_, rfl, zb_G.id hN ⟨⟨_, rfl, rfl⟩, hs⟩⟩
  · cases h; exact ⟨_, rfl, zb_G.id hN ⟨⟨_, rfl, rfl⟩, hs⟩⟩
  · cases h; exact ⟨_, rfl, zb_G.id hN ⟨⟨_, rfl⟩, hs⟩⟩
  · obtain ⟨v, s1, rfl, h1, hs1⟩ := hs.c
    obtain ⟨w, s2, rfl, h2, hs2⟩ := hs1.c
    split at h
    · next hi =>
      obtain ⟨i1, i2⟩ := zb_and hi
      obtain ⟨y, rfl, _⟩ := zb_iv hN h1 i1
      obtain ⟨x, rfl, _⟩ := zb_iv hN h2 i2
      obtain ⟨rfl, hg⟩ := zb_addW hN h2 h1 i2 i1 hs2 (Option.some.inj h)
      exact ⟨_, rfl, hg⟩
    · cases h
  · obtain ⟨v, s1, rfl, h1, hs1⟩ := hs.c
    obtain ⟨w, s2, rfl, h2, hs2⟩ := hs1.c
    split at h
    · next hi =>
      obtain ⟨i1, i2⟩ := zb_and hi
      obtain ⟨y, rfl, _⟩ := zb_iv hN h1 i1
      obtain ⟨x, rfl, _⟩ := zb_iv hN h2 i2
      obtain ⟨rfl, hg⟩ := zb_subW hN h2 h1 i2 i1 hs2 (Option.some.inj h)
      exact ⟨_, rfl, hg⟩
    · cases h
  · obtain ⟨v, s1, rfl, h1, hs1⟩ := hs.c
    obtain ⟨w, s2, rfl, h2, hs2⟩ := hs1.c
    split at h
    · next hi =>
      obtain ⟨i1, i2⟩ := zb_and hi
      obtain ⟨y, rfl, _⟩ := zb_iv hN h1 i1
      obtain ⟨x, rfl, _⟩ := zb_iv hN h2 i2
      obtain ⟨rfl, hg⟩ := zb_mulW hN h2 h1 i2 i1 hs2 (Option.some.inj h)
      exact ⟨_, rfl, hg⟩
    · cases h
  · obtain ⟨v, s1, rfl, h1, hs1⟩ := hs.c
    obtain ⟨w, s2, rfl, h2, hs2⟩ := hs1.c
    split at h
    · next hi =>
      obtain ⟨i1, i2⟩ := zb_and hi
      obtain ⟨y, rfl, _⟩ := zb_iv hN h1 i1
      obtain ⟨x, rfl, _⟩ := zb_iv hN h2 i2
      cases h
      exact ⟨_, rfl, zb_G.nw hN hs2 _ _ (zb_top _).1 (zb_top _).2⟩
    · cases h
  · obtain ⟨v, s1, rfl, h1, hs1⟩ := hs.c
    obtain ⟨w, s2, rfl, h2, hs2⟩ := hs1.c
    split at h
    · next hi =>
      obtain ⟨hi, i3⟩ := zb_and hi
      obtain ⟨i1, i2⟩ := zb_and hi
      obtain ⟨y, rfl, y1, y2⟩ := zb_iv hN h1 i1
      obtain ⟨x, rfl, _⟩ := zb_iv hN h2 i2
      cases h
      rw [Bool.or_eq_true, za_le_iff, za_le_iff] at i3
      have hy : ¬ y = 0 := fun e => by
        rw [e, Int32.toInt_zero] at y1 y2; omega
      exact ⟨_, by rw [zx_s, if_neg hy], zb_G.nw hN hs2 _ _ (zb_top _).1 (zb_top _).2⟩
    · cases h
  · obtain ⟨v, s1, rfl, h1, hs1⟩ := hs.c
    obtain ⟨w, s2, rfl, h2, hs2⟩ := hs1.c
    split at h
    · next hi =>
      obtain ⟨i1, i2⟩ := zb_and hi
      obtain ⟨y, rfl, _⟩ := zb_iv hN h1 i1
      obtain ⟨x, rfl, _⟩ := zb_iv hN h2 i2
      cases h
      exact ⟨_, rfl, zb_G.nw hN hs2 _ _ (zb_top _).1 (zb_top _).2⟩
    · cases h
  · obtain ⟨v, s1, rfl, h1, hs1⟩ := hs.c
    obtain ⟨w, s2, rfl, h2, hs2⟩ := hs1.c
    split at h
    · next hi =>
      obtain ⟨i1, i2⟩ := zb_and hi
      obtain ⟨y, rfl⟩ := zb_isL h1 i1
      obtain ⟨x, rfl⟩ := zb_isL h2 i2
      cases h
      exact ⟨_, rfl, zb_G.id hN ⟨⟨_, rfl⟩, hs2⟩⟩
    · cases h
  · obtain ⟨v, s1, rfl, h1, hs1⟩ := hs.c
    obtain ⟨w, s2, rfl, h2, hs2⟩ := hs1.c
    split at h
    · next hi =>
      obtain ⟨i1, i2⟩ := zb_and hi
      obtain ⟨y, rfl⟩ := zb_isL h1 i1
      obtain ⟨x, rfl⟩ := zb_isL h2 i2
      cases h
      exact ⟨_, rfl, zb_G.id hN ⟨⟨_, rfl⟩, hs2⟩⟩
    · cases h
  · obtain ⟨v, s1, rfl, h1, hs1⟩ := hs.c
    obtain ⟨w, s2, rfl, h2, hs2⟩ := hs1.c
    split at h
    · next hi =>
      obtain ⟨i1, i2⟩ := zb_and hi
      obtain ⟨y, rfl⟩ := zb_isL h1 i1
      obtain ⟨x, rfl⟩ := zb_isL h2 i2
      cases h
      exact ⟨_, rfl, zb_G.id hN ⟨⟨_, rfl⟩, hs2⟩⟩
    · cases h
  · obtain ⟨v, s1, rfl, h1, hs1⟩ := hs.c
    obtain ⟨w, s2, rfl, h2, hs2⟩ := hs1.c
    split at h
    · next hi =>
      obtain ⟨i1, i2⟩ := zb_and hi
      obtain ⟨y, rfl, _⟩ := zb_iv hN h1 i1
      obtain ⟨x, rfl⟩ := zb_isL h2 i2
      cases h
      exact ⟨_, rfl, zb_G.id hN ⟨⟨_, rfl⟩, hs2⟩⟩
    · cases h
  · obtain ⟨v, s1, rfl, h1, hs1⟩ := hs.c
    split at h
    · next hi =>
      obtain ⟨y, rfl, _⟩ := zb_iv hN h1 hi
      cases h
      exact ⟨_, rfl, zb_G.id hN ⟨⟨_, rfl⟩, hs1⟩⟩
    · cases h
  · obtain ⟨v, s1, rfl, h1, hs1⟩ := hs.c
    split at h
    · next hi =>
      obtain ⟨y, rfl⟩ := zb_isL h1 hi
      cases h
      exact ⟨_, rfl, zb_G.nw hN hs1 _ _ (zb_top _).1 (zb_top _).2⟩
    · cases h
  · obtain ⟨v, s1, rfl, h1, hs1⟩ := hs.c
    obtain ⟨w, s2, rfl, h2, hs2⟩ := hs1.c
    split at h
    · next hi =>
      obtain ⟨i1, i2⟩ := zb_and hi
      obtain ⟨y, rfl⟩ := zb_isL h1 i1
      obtain ⟨x, rfl⟩ := zb_isL h2 i2
      cases h
      exact ⟨_, rfl, zb_G.nw hN hs2 _ _ (zb_cmp x y).1 (zb_cmp x y).2⟩
    · cases h
  · obtain ⟨v, s1, rfl, h1, hs1⟩ := hs.c
    split at h
    · cases h
    · next hi =>
      cases h
      exact ⟨v :: v :: s1, by rw [zx_s, if_pos (by rw [zb_cat h1, if_neg hi])], zb_G.id hN ⟨h1, h1, hs1⟩⟩
  · obtain ⟨v, s1, rfl, h1, hs1⟩ := hs.c
    split at h
    · cases h
    · next hi =>
      cases h
      exact ⟨_, by rw [zx_s, if_pos (by rw [zb_cat h1, if_neg hi])], zb_G.id hN hs1⟩
  · obtain ⟨v, s1, rfl, h1, hs1⟩ := hs.c
    split at h
    · next hi =>
      cases h
      exact ⟨_, by rw [zx_s, if_pos (by rw [zb_cat h1, if_pos hi])], zb_G.id hN hs1⟩
    · cases h
  · obtain ⟨v, s1, rfl, h1, hs1⟩ := hs.c
    obtain ⟨w, s2, rfl, h2, hs2⟩ := hs1.c
    split at h
    · cases h
    · next hi =>
      cases h
      rw [Bool.or_eq_true, not_or] at hi
      exact ⟨v :: w :: v :: s2, by rw [zx_s, if_pos ⟨by rw [zb_cat h1, if_neg hi.1], by rw [zb_cat h2, if_neg hi.2]⟩], zb_G.id hN ⟨h1, h2, h1, hs2⟩⟩
  · cases h
theorem za_lk_mem {ls : za_L} {i : Nat} {v : za_V} (h : za_lk ls i = some v) : (i, v) ∈ ls := by
  induction ls with
  | nil => simp [za_lk] at h
  | cons q r ih =>
    rw [za_lk] at h
    split at h
    · next e =>
      have e' : q.1 = i := Nat.eq_of_beq_eq_true e
      have : q = (i, v) := by rw [← e', ← Option.some.inj h]
      rw [this]; exact List.mem_cons_self
    · exact List.mem_cons_of_mem _ (ih h)
theorem zb_gi {u : Nat → Int} {n : za_N} {ls : zx_L} {al : za_L} {k m k' : Nat} {a : za_V} (hN : zb_N u n) (hl : zb_L u n.length ls al) (h : za_gi al k m = some (k', a)) : ∃ v, zx_gi ls k m = some (k', v) ∧ zb_V u n.length v a := by
  unfold za_gi at h
  split at h
  · next x e =>
    split at h
    · next hi =>
      cases h
      obtain ⟨v, h1, h2⟩ := hl _ (za_lk_mem e)
      obtain ⟨y, rfl, _⟩ := zb_iv hN h2 hi
      exact ⟨_, by rw [zx_gi, h1], h2⟩
    · cases h
  · cases h
theorem zb_gl {u : Nat → Int} {n : Nat} {ls : zx_L} {al : za_L} {k m k' : Nat} {a : za_V} (hl : zb_L u n ls al) (h : za_gl al k m = some (k', a)) : ∃ v, zx_gl ls k m = some (k', v) ∧ zb_V u n v a := by
  unfold za_gl at h
  split at h
  · next x e =>
    split at h
    · next hi =>
      cases h
      obtain ⟨v, h1, h2⟩ := hl _ (za_lk_mem e)
      obtain ⟨y, rfl⟩ := zb_isL h2 hi
      exact ⟨_, by rw [zx_gl, h1], h2⟩
    · cases h
  · cases h
theorem zb_gr {u : Nat → Int} {n : Nat} {ls : zx_L} {al : za_L} {k m k' : Nat} {a : za_V} (hl : zb_L u n ls al) (h : za_gr al k m = some (k', a)) : ∃ v, zx_gr ls k m = some (k', v) ∧ zb_V u n v a := by
  unfold za_gr at h
  split at h
  · next x e =>
    cases h
    obtain ⟨v, h1, h2⟩ := hl _ (za_lk_mem e)
    have h3 : v = .ref x := h2
    subst h3
    exact ⟨_, by rw [zx_gr, h1], h2⟩
  · cases h
theorem zb_l {u : Nat → Int} {n : za_N} {i : Instr} {ls : zx_L} {al : za_L} {k : Nat} {a : za_V} (st : List Value) (hN : zb_N u n) (hl : zb_L u n.length ls al) (h : za_l i al = some (k, a)) : zx_s i st = none ∧ ∃ v, zx_l i ls = some (k, v) ∧ zb_V u n.length v a := by
  unfold za_l at h
  split at h
  · exact ⟨rfl, zb_gi hN hl h⟩
  · exact ⟨rfl, zb_gi hN hl h⟩
  · exact ⟨rfl, zb_gl hl h⟩
  · exact ⟨rfl, zb_gl hl h⟩
  · exact ⟨rfl, zb_gr hl h⟩
  · exact ⟨rfl, zb_gr hl h⟩
  · cases h
theorem zx_lk_filter {p : Nat × Value → Bool} {al : zx_L} {i : Nat} {a : Value} (h : zx_lk al i = some a) (hp : p (i, a) = true) : zx_lk (al.filter p) i = some a := by
  induction al with
  | nil => simp [zx_lk] at h
  | cons q r ih =>
    rw [zx_lk] at h
    split at h
    · next e =>
      have e' : q.1 = i := Nat.eq_of_beq_eq_true e
      have hq : q = (i, a) := by rw [← e', ← Option.some.inj h]
      rw [List.filter_cons, if_pos (by rw [hq]; exact hp), zx_lk, e]
      exact h
    · next e =>
      rw [List.filter_cons]
      split
      · rw [zx_lk, e]; exact ih h
      · exact ih h
theorem zb_V_L {u : Nat → Int} {n : Nat} {v : Value} {a : za_V} (hv : zb_V u n v a) : (v.category == 2) = za_isL a := by
  rw [zb_cat hv]
  cases za_isL a <;> rfl
theorem zb_beq (a b : Nat) : Nat.beq a b = (a == b) := by
  cases h : Nat.beq a b with
  | true => rw [Nat.eq_of_beq_eq_true h]; simp
  | false => have := Nat.ne_of_beq_eq_false h; simp [this]
theorem zx_lk_tl {i j : Nat} {v : Value} {r : zx_L} (h : ¬ i = j) : zx_lk ((i, v) :: r) j = zx_lk r j := by
  rw [zx_lk]
  have : Nat.beq i j = false := by rw [zb_beq]; simp [h]
  simp only [this]
theorem zx_lk_hd {i : Nat} {v : Value} {r : zx_L} : zx_lk ((i, v) :: r) i = some v := by
  rw [zx_lk]
  have : Nat.beq i i = true := by rw [zb_beq]; simp
  simp only [this]
theorem zb_set1 {u : Nat → Int} {n i : Nat} {ls : zx_L} {al : za_L} {v : Value} {a : za_V} (hl : zb_L u n ls al) (hv : zb_V u n v a) : zb_L u n (zx_set1 ls i v) (za_set1 al i a) := by
  intro q hq
  rw [za_set1] at hq
  rw [zx_set1]
  rcases List.mem_cons.mp hq with rfl | hq
  · exact ⟨v, zx_lk_hd, hv⟩
  · obtain ⟨h1, h2⟩ := List.mem_filter.mp hq
    obtain ⟨w, h3, h4⟩ := hl q h1
    simp only [zb_beq] at h2
    have hne : ¬ i = q.1 := fun e => by rw [e] at h2; simp at h2
    refine ⟨w, ?_, h4⟩
    rw [zx_lk_tl hne]
    refine zx_lk_filter h3 ?_
    simp only [zb_V_L h4]
    exact h2
theorem zb_set2 {u : Nat → Int} {n i : Nat} {ls : zx_L} {al : za_L} {v : Value} {a : za_V} (hl : zb_L u n ls al) (hv : zb_V u n v a) : zb_L u n (zx_set2 ls i v) (za_set2 al i a) := by
  intro q hq
  rw [za_set2] at hq
  rw [zx_set2]
  rcases List.mem_cons.mp hq with rfl | hq
  · exact ⟨v, zx_lk_hd, hv⟩
  · obtain ⟨h1, h2⟩ := List.mem_filter.mp hq
    obtain ⟨w, h3, h4⟩ := hl q h1
    simp only [zb_beq] at h2
    have hne : ¬ i = q.1 := fun e => by rw [e] at h2; simp at h2
    refine ⟨w, ?_, h4⟩
    rw [zx_lk_tl hne]
    refine zx_lk_filter h3 ?_
    simp only [zb_V_L h4]
    exact h2
theorem zb_blt {a b : Nat} (h : Nat.blt a b = true) : a < b := by
  unfold Nat.blt at h
  exact Nat.le_of_ble_eq_true h
theorem zb_st1 {nL k len l : Nat} {al al' : za_L} {a : za_V} {r r' : List za_V} (h : za_st1 nL k len al a r = some (l, al', r')) : k < nL ∧ l = len ∧ al' = za_set1 al k a ∧ r' = r := by
  unfold za_st1 at h
  split at h
  · next e => cases h; exact ⟨zb_blt e, rfl, rfl, rfl⟩
  · cases h
theorem zb_st2 {nL k len l : Nat} {al al' : za_L} {a : za_V} {r r' : List za_V} (h : za_st2 nL k len al a r = some (l, al', r')) : k + 1 < nL ∧ l = len ∧ al' = za_set2 al k a ∧ r' = r := by
  unfold za_st2 at h
  split at h
  · next e => cases h; exact ⟨zb_blt e, rfl, rfl, rfl⟩
  · cases h
set_option maxHeartbeats 4000000 in
theorem zb_t {u : Nat → Int} {n : za_N} {i : Instr} {nL l : Nat} {ls : zx_L} {al al' : za_L} {st : List Value} {as as' : List za_V} (hN : zb_N u n) (hl : zb_L u n.length ls al) (hs : zb_S u n.length st as) (h : za_t i nL al as = some (l, al', as')) : zx_s i st = none ∧ zx_l i ls = none ∧ ∃ ls' st', zx_t i nL ls st = some (l, ls', st') ∧ zb_L u n.length ls' al' ∧ zb_S u n.length st' as' := by
  unfold za_t at h
  split at h
  · obtain ⟨v, s1, rfl, h1, hs1⟩ := hs.c
    split at h
    · next hi =>
      obtain ⟨y, rfl, _⟩ := zb_iv hN h1 hi
      obtain ⟨e1, rfl, rfl, rfl⟩ := zb_st1 h
      exact ⟨rfl, rfl, _, _, by rw [zx_t, if_pos e1], zb_set1 hl h1, hs1⟩
    · cases h
  · obtain ⟨v, s1, rfl, h1, hs1⟩ := hs.c
    split at h
    · next hi =>
      obtain ⟨y, rfl, _⟩ := zb_iv hN h1 hi
      obtain ⟨e1, rfl, rfl, rfl⟩ := zb_st1 h
      exact ⟨rfl, rfl, _, _, by rw [zx_t, if_pos e1], zb_set1 hl h1, hs1⟩
    · cases h
  · obtain ⟨v, s1, rfl, h1, hs1⟩ := hs.c
    split at h
    · next hi =>
      obtain ⟨y, rfl⟩ := zb_isL h1 hi
      obtain ⟨e1, rfl, rfl, rfl⟩ := zb_st2 h
      exact ⟨rfl, rfl, _, _, by rw [zx_t, if_pos e1], zb_set2 hl h1, hs1⟩
    · cases h
  · obtain ⟨v, s1, rfl, h1, hs1⟩ := hs.c
    split at h
    · next hi =>
      obtain ⟨y, rfl⟩ := zb_isL h1 hi
      obtain ⟨e1, rfl, rfl, rfl⟩ := zb_st2 h
      exact ⟨rfl, rfl, _, _, by rw [zx_t, if_pos e1], zb_set2 hl h1, hs1⟩
    · cases h
  · next a r =>
    obtain ⟨v, s1, rfl, h1, hs1⟩ := hs.c
    have h3 : v = .ref a := h1
    subst h3
    obtain ⟨e1, rfl, rfl, rfl⟩ := zb_st1 h
    exact ⟨rfl, rfl, _, _, by rw [zx_t, if_pos e1], zb_set1 hl h1, hs1⟩
  · next a r =>
    obtain ⟨v, s1, rfl, h1, hs1⟩ := hs.c
    have h3 : v = .ref a := h1
    subst h3
    obtain ⟨e1, rfl, rfl, rfl⟩ := zb_st1 h
    exact ⟨rfl, rfl, _, _, by rw [zx_t, if_pos e1], zb_set1 hl h1, hs1⟩
  · cases h
theorem zb_inc {u : Nat → Int} {n n' : za_N} {i : Instr} {nL : Nat} {ls : zx_L} {al al' : za_L} (st : List Value) (hN : zb_N u n) (hl : zb_L u n.length ls al) (h : za_inc i nL n al = some (n', al')) : zx_s i st = none ∧ zx_l i ls = none ∧ ∃ ls' u', zx_t i nL ls st = some (3, ls', st) ∧ zb_X u u' n.length n'.length ∧ zb_N u' n' ∧ zb_L u' n'.length ls' al' := by
  unfold za_inc at h
  split at h
  · next k c =>
    split at h
    · next x e =>
      split at h
      · next hi =>
        obtain ⟨i1, i2⟩ := zb_and hi
        obtain ⟨w, h3, h4⟩ := hl _ (za_lk_mem e)
        obtain ⟨y, rfl, _⟩ := zb_iv hN h4 i1
        have h3 : zx_lk ls k = some (.int y) := h3
        split at h
        · next l2 n2 v r e2 =>
          cases h
          obtain ⟨_, u', hX, hN', hs'⟩ := zb_addW (r := []) (ar := []) (y := Int32.ofInt c) (b := .inr (.inl (Int32.ofInt c).toInt)) hN h4 ⟨_, rfl, rfl⟩ i1 rfl trivial e2
          exact ⟨rfl, rfl, _, u', by simp only [zx_t, h3]; rw [if_pos (zb_blt i2)], hX, hN', zb_set1 (hl.mo hX) hs'.1⟩
        · cases h
      · cases h
    · cases h
  · cases h
theorem zb_of {k : Int} (h1 : -2147483648 ≤ k) (h2 : k ≤ 2147483647) : (Int32.ofInt k).toInt = k := by
  rw [Int32.toInt_ofInt]; exact zb_bm h1 h2
theorem zb_tgs {pc : Nat} : ∀ {os : List Int} {l : List Nat} {j : Nat} {o : Int}, za_tgs pc os = some l → os[j]? = some o → ∃ t, zx_tg pc o = some t ∧ l[j]? = some t
  | [], _, _, _, _, h => by simp at h
  | a :: os, l, j, o, h, h2 => by
    rw [za_tgs] at h
    split at h
    · next t l' e1 e2 =>
      cases h
      cases j with
      | zero => rw [List.getElem?_cons_zero] at h2; cases h2; exact ⟨t, e1, rfl⟩
      | succ j => rw [List.getElem?_cons_succ] at h2; rw [List.getElem?_cons_succ]; exact zb_tgs e2 h2
    · cases h
theorem zb_sw {n n' : za_N} {x : za_V} {r : List za_V} : ∀ {l : List Nat} {k : Int} {j t : Nat}, l[j]? = some t → za_ceq n x (.inr (.inl (k + j))) = some n' → (n', t, r) ∈ za_sw n x r k l
  | [], _, _, _, h, _ => by simp at h
  | a :: l, k, j, t, h, h2 => by
    rw [za_sw]
    cases j with
    | zero =>
      rw [List.getElem?_cons_zero] at h
      cases h
      rw [show k + ((0 : Nat) : Int) = k by simp] at h2
      rw [h2]
      exact List.mem_append_left _ List.mem_cons_self
    | succ j =>
      rw [List.getElem?_cons_succ] at h
      exact List.mem_append_right _ (zb_sw h (by rw [show k + 1 + (j : Int) = k + ((j + 1 : Nat) : Int) by omega]; exact h2))
theorem zb_ls {n n' : za_N} {x : za_V} {r : List za_V} : ∀ {ks : List Int} {l : List Nat} {j t : Nat} {k : Int}, ks[j]? = some k → l[j]? = some t → za_ceq n x (.inr (.inl k)) = some n' → (n', t, r) ∈ za_ls n x r ks l
  | [], _, _, _, _, h, _, _ => by simp at h
  | _ :: _, [], _, _, _, _, h, _ => by simp at h
  | a :: ks, b :: l, j, t, k, h1, h2, h3 => by
    rw [za_ls]
    cases j with
    | zero =>
      rw [List.getElem?_cons_zero] at h1 h2
      cases h1; cases h2
      rw [h3]
      exact List.mem_append_left _ List.mem_cons_self
    | succ j =>
      rw [List.getElem?_cons_succ] at h1 h2
      exact List.mem_append_right _ (zb_ls h1 h2 h3)
theorem zb_zs {u : Nat → Int} {n : za_N} {x : Int32} {a : za_V} {k : Jvm.ClassFile.Cond} {t : Nat} {r : List za_V} (hN : zb_N u n) (ha : zb_V u n.length (.int x) a) (ia : za_isI a = true) (h : zx_cmp k x 0 = true) : ∃ n', (n', t, r) ∈ za_zs k n a t r ∧ zb_N u n' ∧ n'.length = n.length := by
  have h0 : zb_V u n.length (.int 0) (.inr (.inl 0)) := ⟨0, rfl, Int32.toInt_zero⟩
  unfold za_zs
  split
  · have hne : ¬ x = 0 := by simpa [zx_cmp] using h
    have h1 := zb_ne_lt hne
    rw [Int32.toInt_zero] at h1
    by_cases c : x.toInt < 0
    · obtain ⟨n', e1, e2, e3⟩ := zb_cl (d := 1) hN ha h0 ia rfl (by rw [Int32.toInt_zero]; omega)
      exact ⟨n', List.mem_append_left _ (by rw [e1]; exact List.mem_cons_self), e2, e3⟩
    · obtain ⟨n', e1, e2, e3⟩ := zb_cl (d := 1) hN h0 ha rfl ia (by rw [Int32.toInt_zero]; omega)
      exact ⟨n', List.mem_append_right _ (by rw [e1]; exact List.mem_cons_self), e2, e3⟩
  · obtain ⟨n', e1, e2, e3⟩ := zb_br (b := .inr (.inl 0)) hN ha h0 ia rfl h
    exact ⟨n', by rw [e1]; exact List.mem_cons_self, e2, e3⟩
theorem zb_off {d k : Int} : ∀ (ps : List (Int × Int)), Op.lookupswitch.offset ps d k = d ∨ ∃ (j : Nat) (o : Int), (ps.map (fun q => q.1))[j]? = some k ∧ (ps.map (fun q => q.2))[j]? = some o ∧ Op.lookupswitch.offset ps d k = o
  | [] => Or.inl rfl
  | (a, o) :: r => by
    rw [Op.lookupswitch.offset_cons]
    split
    · next e => exact Or.inr ⟨0, o, by rw [List.map_cons, List.getElem?_cons_zero]; simp [e], rfl, rfl⟩
    · rcases zb_off r with h | ⟨j, o', h1, h2, h3⟩
      · exact Or.inl h
      · exact Or.inr ⟨j + 1, o', h1, h2, h3⟩
set_option maxHeartbeats 4000000 in
theorem zb_j {u : Nat → Int} {n : za_N} {i : Instr} {len pc nL : Nat} {st : List Value} {as : List za_V} {l : List (za_N × Nat × List za_V)} (ls : zx_L) (hN : zb_N u n) (hs : zb_S u n.length st as) (h : za_j i len pc n as = some l) : zx_s i st = none ∧ zx_l i ls = none ∧ zx_t i nL ls st = none ∧ ∃ pc' st' n' as', zx_j i len pc st = some (pc', st') ∧ (n', pc', as') ∈ l ∧ zb_N u n' ∧ n'.length = n.length ∧ zb_S u n.length st' as' := by
  unfold za_j at h
  split at h
  · split at h
    · next hn =>
      have hn := Nat.eq_of_beq_eq_true hn
      obtain ⟨t, ht, e9⟩ := Option.map_eq_some_iff.mp h
      cases e9
      exact ⟨rfl, rfl, rfl, t, st, n, _, by rw [zx_j, if_pos hn, ht]; rfl, List.mem_cons_self, hN, rfl, hs⟩
    · cases h
  · next k off x r =>
    obtain ⟨v, s1, rfl, h1, hs1⟩ := hs.c
    split at h
    · next hi =>
      obtain ⟨hn, i1⟩ := zb_and hi
      have hn := Nat.eq_of_beq_eq_true hn
      obtain ⟨y, rfl, _⟩ := zb_iv hN h1 i1
      obtain ⟨t, ht, e9⟩ := Option.map_eq_some_iff.mp h
      cases e9
      by_cases hc : zx_cmp k y 0 = true
      · obtain ⟨n', e1, e2, e3⟩ := zb_zs (t := t) (r := r) hN h1 i1 hc
        exact ⟨rfl, rfl, rfl, t, s1, n', r, by rw [zx_j, if_pos hn, ht]; simp only [hc, if_true], List.mem_append_left _ e1, e2, e3, hs1⟩
      · obtain ⟨n', e1, e2, e3⟩ := zb_zs (t := pc + 3) (r := r) hN h1 i1 (zb_ng hc)
        exact ⟨rfl, rfl, rfl, pc + 3, s1, n', r, by rw [zx_j, if_pos hn, ht]; simp only [hc]; rfl, List.mem_append_right _ e1, e2, e3, hs1⟩
    · cases h
  · next k off y x r =>
    obtain ⟨v, s1, rfl, h1, hs1⟩ := hs.c
    obtain ⟨w, s2, rfl, h2, hs2⟩ := hs1.c
    split at h
    · next hi =>
      obtain ⟨hn, hi⟩ := zb_and hi
      obtain ⟨i1, i2⟩ := zb_and hi
      have hn := Nat.eq_of_beq_eq_true hn
      obtain ⟨cy, rfl, _⟩ := zb_iv hN h1 i2
      obtain ⟨cx, rfl, _⟩ := zb_iv hN h2 i1
      obtain ⟨t, ht, e9⟩ := Option.map_eq_some_iff.mp h
      cases e9
      by_cases hc : zx_cmp k cx cy = true
      · obtain ⟨n', e1, e2, e3⟩ := zb_br hN h2 h1 i1 i2 hc
        exact ⟨rfl, rfl, rfl, t, s2, n', r, by rw [zx_j, if_pos hn, ht]; simp only [hc, if_true], List.mem_append_left _ (by rw [e1]; exact List.mem_cons_self), e2, e3, hs2⟩
      · obtain ⟨n', e1, e2, e3⟩ := zb_br hN h2 h1 i1 i2 (zb_ng hc)
        exact ⟨rfl, rfl, rfl, pc + 3, s2, n', r, by rw [zx_j, if_pos hn, ht]; simp only [hc]; rfl, List.mem_append_right _ (by rw [e1]; exact List.mem_cons_self), e2, e3, hs2⟩
    · cases h
  · next dflt lo hi offs x r =>
    obtain ⟨v, s1, rfl, h1, hs1⟩ := hs.c
    split at h
    · next hi9 =>
      obtain ⟨hi9, i4⟩ := zb_and hi9
      obtain ⟨hi9, i3⟩ := zb_and hi9
      obtain ⟨i1, i2⟩ := zb_and hi9
      rw [decide_eq_true_eq] at i2
      rw [za_le_iff] at i4
      obtain ⟨i5, i6⟩ := zb_inr i3
      obtain ⟨y, rfl, _⟩ := zb_iv hN h1 i1
      split at h
      · next d l9 hd hl9 =>
        cases h
        have vlo : zb_V u n.length (.int (Int32.ofInt lo)) (.inr (.inl lo)) := ⟨_, rfl, zb_of i5 (by omega)⟩
        have vhi : zb_V u n.length (.int (Int32.ofInt hi)) (.inr (.inl hi)) := ⟨_, rfl, zb_of (by omega) i6⟩
        by_cases c1 : y.toInt < lo
        · obtain ⟨n', e1, e2, e3⟩ := zb_cl (d := 1) hN h1 vlo i1 rfl (by rw [zb_of i5 (by omega)]; omega)
          exact ⟨rfl, rfl, rfl, d, s1, n', r, by rw [zx_j, if_pos (Or.inl c1), hd]; rfl, List.mem_append_left _ (by rw [e1]; exact List.mem_cons_self), e2, e3, hs1⟩
        · by_cases c2 : hi < y.toInt
          · obtain ⟨n', e1, e2, e3⟩ := zb_cl (d := 1) hN vhi h1 rfl i1 (by rw [zb_of (by omega) i6]; omega)
            exact ⟨rfl, rfl, rfl, d, s1, n', r, by rw [zx_j, if_pos (Or.inr c2), hd]; rfl, List.mem_append_right _ (List.mem_append_left _ (by rw [e1]; exact List.mem_cons_self)), e2, e3, hs1⟩
          · have hj : (y.toInt - lo).toNat < offs.toList.length := by omega
            obtain ⟨o, ho⟩ : ∃ o, offs.toList[(y.toInt - lo).toNat]? = some o := ⟨_, List.getElem?_eq_getElem hj⟩
            obtain ⟨t, ht, hlt⟩ := zb_tgs hl9 ho
            have ho2 : offs[(y.toInt - lo).toNat]? = some o := by rw [← Array.getElem?_toList]; exact ho
            have hk : lo + (((y.toInt - lo).toNat : Nat) : Int) = y.toInt := by omega
            obtain ⟨n', e1, e2, e3⟩ := zb_ceq (b := .inr (.inl (lo + (((y.toInt - lo).toNat : Nat) : Int)))) hN h1 (y := y) ⟨y, rfl, hk.symm⟩ i1 rfl rfl
            exact ⟨rfl, rfl, rfl, t, s1, n', r, by rw [zx_j, if_neg (fun z => z.elim c1 c2), ho2]; simp only [ht]; rfl, List.mem_append_right _ (List.mem_append_right _ (zb_sw hlt e1)), e2, e3, hs1⟩
      · cases h
    · cases h
  · next dflt ps x r =>
    obtain ⟨v, s1, rfl, h1, hs1⟩ := hs.c
    split at h
    · next hi9 =>
      obtain ⟨i1, i2⟩ := zb_and hi9
      obtain ⟨y, rfl, _⟩ := zb_iv hN h1 i1
      split at h
      · next d l9 hd hl9 =>
        cases h
        rcases zb_off (d := dflt) (k := y.toInt) ps.toList with e | ⟨j, o, e1, e2, e3⟩
        · exact ⟨rfl, rfl, rfl, d, s1, n, r, by rw [zx_j, if_pos i2, e, hd]; rfl, List.mem_cons_self, hN, rfl, hs1⟩
        · obtain ⟨t, ht, hlt⟩ := zb_tgs hl9 e2
          obtain ⟨n', f1, f2, f3⟩ := zb_ceq (b := .inr (.inl y.toInt)) hN h1 (y := y) ⟨y, rfl, rfl⟩ i1 rfl rfl
          exact ⟨rfl, rfl, rfl, t, s1, n', r, by rw [zx_j, if_pos i2, e3, ht]; rfl, List.mem_cons_of_mem _ (zb_ls e1 hlt f1), f2, f3, hs1⟩
      · cases h
    · cases h
  · cases h
end
section
/-! ===== 12: fields and arrays ===== -/
def zx_fld (h : zx_H) (a k : Nat) : Option Value := match h[a]? with
  | some (.inr (_, fs)) => fs[k]?
  | _ => none
def zx_arr (h : zx_H) (a : Nat) : Option (Nat × vp_A) := match h[a]? with
  | some (.inl x) => some x
  | _ => none
def zb_c (c : zx_E) (d : za_D) : Prop := match d, c with
  | .inl (t, n, lo, hi), .inl (t', n', .inl f) => t' = t ∧ n' = n ∧ ¬ t = 1 ∧ ∀ j, lo ≤ (f j).toInt ∧ (f j).toInt ≤ hi
  | .inl (t, n, _, _), .inl (t', n', .inr (.inl _)) => t' = t ∧ n' = n ∧ t = 1
  | .inr (ci, fd), .inr (cj, fs) => cj = ci ∧ zb_A zb_T fs fd
  | _, _ => False
def zb_I (HT : List za_D) (h : zx_H) : Prop := zb_A zb_c h HT
def zb_F (u : Nat → Int) (n : Nat) (h : zx_H) (f : za_F) : Prop := ∀ q ∈ f, ∃ w, zx_fld h q.1.1 q.1.2 = some w ∧ zb_V u n w q.2
def zb_W (W : List (Nat × Nat)) (h h' : zx_H) : Prop := (∀ a k, za_in W a k = false → zx_fld h' a k = zx_fld h a k) ∧ ∀ a, za_in W a 0 = false → zx_arr h' a = zx_arr h a
theorem zb_W.rf {W : List (Nat × Nat)} {h : zx_H} : zb_W W h h := ⟨fun _ _ _ => rfl, fun _ _ => rfl⟩
theorem zb_W.tr {W : List (Nat × Nat)} {h h' h'' : zx_H} (a : zb_W W h h') (b : zb_W W h' h'') : zb_W W h h'' := ⟨fun x k e => (b.1 x k e).trans (a.1 x k e), fun x e => (b.2 x e).trans (a.2 x e)⟩
theorem zb_W.sub {W V : List (Nat × Nat)} {h h' : zx_H} (a : zb_W V h h') (hs : ∀ x k, za_in V x k = true → za_in W x k = true) : zb_W W h h' :=
  ⟨fun x k e => a.1 x k (by cases z : za_in V x k with
    | false => rfl
    | true => rw [hs x k z] at e; cases e), fun x e => a.2 x (by cases z : za_in V x 0 with
    | false => rfl
    | true => rw [hs x 0 z] at e; cases e)⟩
theorem zb_F.mo {u u' : Nat → Int} {n n' : Nat} {h : zx_H} {f : za_F} (hX : zb_X u u' n n') (hv : zb_F u n h f) : zb_F u' n' h f := fun q e => by
  obtain ⟨v, h1, h2⟩ := hv q e; exact ⟨v, h1, h2.mo hX⟩
theorem zb_A.at1 {α β : Type} {R : α → β → Prop} : ∀ {l : List α} {m : List β} (i : Nat) {b : β}, zb_A R l m → m[i]? = some b → ∃ a, l[i]? = some a ∧ R a b
  | [], [], i, b, _, e => by simp at e
  | a :: l, c :: m, 0, b, h, e => by rw [List.getElem?_cons_zero] at e; cases e; exact ⟨a, rfl, h.1⟩
  | a :: l, c :: m, i + 1, b, h, e => by rw [List.getElem?_cons_succ] at e ⊢; exact zb_A.at1 i h.2 e
  | [], _ :: _, _, _, h, _ => h.elim
  | _ :: _, [], _, _, h, _ => h.elim
theorem zb_A.set {α β : Type} {R : α → β → Prop} : ∀ {l : List α} {m : List β} (i : Nat) {b : β} {a : α}, zb_A R l m → m[i]? = some b → R a b → zb_A R (l.set i a) m
  | [], [], i, b, _, _, e, _ => by simp at e
  | a :: l, c :: m, 0, b, x, h, e, hx => by rw [List.getElem?_cons_zero] at e; cases e; exact ⟨hx, h.2⟩
  | a :: l, c :: m, i + 1, b, x, h, e, hx => by rw [List.getElem?_cons_succ] at e; exact ⟨h.1, zb_A.set i h.2 e hx⟩
  | [], _ :: _, _, _, _, h, _, _ => h.elim
  | _ :: _, [], _, _, _, h, _, _ => h.elim
theorem zb_I.obj {HT : List za_D} {h : zx_H} (hI : zb_I HT h) {a ci : Nat} {fd : List za_T} (e : HT[a]? = some (.inr (ci, fd))) : ∃ fs, h[a]? = some (.inr (ci, fs)) ∧ zb_A zb_T fs fd := by
  obtain ⟨c, h1, h2⟩ := hI.at1 a e
  cases c with
  | inl x => exact False.elim (by obtain ⟨_, _, x⟩ := x; cases x <;> exact h2)
  | inr x => obtain ⟨cj, fs⟩ := x; obtain ⟨rfl, h3⟩ := h2; exact ⟨fs, h1, h3⟩
theorem zb_I.arr {HT : List za_D} {h : zx_H} (hI : zb_I HT h) {a t n : Nat} {lo hi : Int} (e : HT[a]? = some (.inl (t, n, lo, hi))) (ht : ¬ t = 1) : ∃ f : Nat → Int32, h[a]? = some (.inl (t, n, .inl f)) ∧ ∀ j, lo ≤ (f j).toInt ∧ (f j).toInt ≤ hi := by
  obtain ⟨c, h1, h2⟩ := hI.at1 a e
  cases c with
  | inr x => exact h2.elim
  | inl x =>
    obtain ⟨t', n', x⟩ := x
    cases x with
    | inl f => obtain ⟨rfl, rfl, _, h3⟩ := h2; exact ⟨f, h1, h3⟩
    | inr x =>
      cases x with
      | inl f => obtain ⟨_, _, h3⟩ := h2; exact absurd h3 ht
      | inr x => exact h2.elim
theorem zb_I.lng {HT : List za_D} {h : zx_H} (hI : zb_I HT h) {a n : Nat} {lo hi : Int} (e : HT[a]? = some (.inl (1, n, lo, hi))) : ∃ f : Nat → Int64, h[a]? = some (.inl (1, n, .inr (.inl f))) := by
  obtain ⟨c, h1, h2⟩ := hI.at1 a e
  cases c with
  | inr x => exact h2.elim
  | inl x =>
    obtain ⟨t', n', x⟩ := x
    cases x with
    | inl f => obtain ⟨_, _, h3, _⟩ := h2; exact absurd rfl h3
    | inr x =>
      cases x with
      | inl f => obtain ⟨rfl, rfl, _⟩ := h2; exact ⟨f, h1⟩
      | inr x => exact h2.elim
theorem zb_I.len {HT : List za_D} {h : zx_H} (hI : zb_I HT h) {a : Nat} (e : HT[a]? = none) : h[a]? = none := by
  rw [List.getElem?_eq_none_iff] at e ⊢
  rw [zb_A.len hI]; exact e
theorem zb_fld_set {h : zx_H} {a cj k : Nat} {fs : List Value} {v : Value} (e : h[a]? = some (.inr (cj, fs))) (hk : k < fs.length) (a' k' : Nat) : zx_fld (h.set a (.inr (cj, fs.set k v))) a' k' = if a' = a ∧ k' = k then some v else zx_fld h a' k' := by
  have hl : a < h.length := (List.getElem?_eq_some_iff.mp e).1
  unfold zx_fld
  rw [List.getElem?_set]
  by_cases ha : a = a'
  · subst ha
    rw [if_pos rfl, if_pos hl, e]
    simp only [List.getElem?_set]
    by_cases hk' : k = k'
    · subst hk'; simp [hk]
    · rw [if_neg hk', if_neg (fun z => hk' z.2.symm)]
  · rw [if_neg ha, if_neg (fun z => ha z.1.symm)]
theorem zb_arr_obj {h : zx_H} {a cj : Nat} {fs fs' : List Value} (e : h[a]? = some (.inr (cj, fs))) (a' : Nat) : zx_arr (h.set a (.inr (cj, fs'))) a' = zx_arr h a' := by
  have hl : a < h.length := (List.getElem?_eq_some_iff.mp e).1
  unfold zx_arr
  rw [List.getElem?_set]
  by_cases ha : a = a'
  · subst ha; rw [if_pos rfl, if_pos hl, e]
  · rw [if_neg ha]
theorem zb_fld_arr {h : zx_H} {a : Nat} {x x' : Nat × vp_A} (e : h[a]? = some (.inl x)) (a' k : Nat) : zx_fld (h.set a (.inl x')) a' k = zx_fld h a' k := by
  have hl : a < h.length := (List.getElem?_eq_some_iff.mp e).1
  unfold zx_fld
  rw [List.getElem?_set]
  by_cases ha : a = a'
  · subst ha; rw [if_pos rfl, if_pos hl, e]
  · rw [if_neg ha]
theorem zb_arr_arr {h : zx_H} {a : Nat} {x' : Nat × vp_A} (a' : Nat) (ha : ¬ a' = a) : zx_arr (h.set a (.inl x')) a' = zx_arr h a' := by
  unfold zx_arr
  rw [List.getElem?_set, if_neg (fun z => ha z.symm)]
theorem za_in_iff {W : List (Nat × Nat)} {a k : Nat} : za_in W a k = true ↔ (a, k) ∈ W := by
  unfold za_in
  rw [List.any_eq_true]
  constructor
  · rintro ⟨q, h1, h2⟩
    obtain ⟨e1, e2⟩ := zb_and h2
    have : q = (a, k) := by rw [← Nat.eq_of_beq_eq_true e1, ← Nat.eq_of_beq_eq_true e2]
    rw [← this]; exact h1
  · intro h
    exact ⟨(a, k), h, by rw [zb_beq, zb_beq]; simp⟩
theorem za_fk_mem {f : za_F} {a k : Nat} {v : za_V} (h : za_fk f a k = some v) : ((a, k), v) ∈ f := by
  induction f with
  | nil => simp [za_fk] at h
  | cons q r ih =>
    rw [za_fk] at h
    split at h
    · next e =>
      obtain ⟨e1, e2⟩ := zb_and e
      have : q = ((a, k), v) := by rw [← Nat.eq_of_beq_eq_true e1, ← Nat.eq_of_beq_eq_true e2, ← Option.some.inj h]
      rw [this]; exact List.mem_cons_self
    · exact List.mem_cons_of_mem _ (ih h)
theorem zb_sub2 {q r : Int × Int} (h : za_sub2 q r = true) : r.1 ≤ q.1 ∧ q.2 ≤ r.2 := by
  unfold za_sub2 at h
  rw [Bool.and_eq_true, za_le_iff, za_le_iff] at h
  exact h
/-- facts behind writes -/
theorem zb_fdrop {u : Nat → Int} {n : Nat} {h h' : zx_H} {f : za_F} {V : List (Nat × Nat)} (hF : zb_F u n h f) (hW : zb_W V h h') : zb_F u n h' (za_fdrop f V) := by
  intro q hq
  obtain ⟨h1, h2⟩ := List.mem_filter.mp hq
  obtain ⟨w, h3, h4⟩ := hF q h1
  refine ⟨w, ?_, h4⟩
  rw [hW.1 _ _ (by simpa using h2)]
  exact h3
theorem zb_01 {x : Int32} (h1 : 0 ≤ x.toInt) (h2 : x.toInt ≤ 1) : x = 0 ∨ x = 1 := by
  rcases (show x.toInt = 0 ∨ x.toInt = 1 by omega) with e | e
  · left; exact Int32.toInt_inj.mp (e.trans Int32.toInt_zero.symm)
  · right; exact Int32.toInt_inj.mp (e.trans (by decide +kernel))
theorem zb_fty {ty : FieldType} {q : Int × Int} {x : Int32} (h : za_fty ty q = true) (h1 : q.1 ≤ x.toInt) (h2 : x.toInt ≤ q.2) : narrow ty (.int x) = .int x ∧ fits ty (.int x) = true := by
  unfold za_fty at h
  split at h
  · exact ⟨rfl, rfl⟩
  · obtain ⟨a, b⟩ := zb_sub2 h
    rcases zb_01 (x := x) (by omega) (by omega) with rfl | rfl
    · exact ⟨by decide +kernel, by decide +kernel⟩
    · exact ⟨by decide +kernel, by decide +kernel⟩
  · cases h
theorem zb_idx {x : Int32} {m : Nat} (h1 : 0 ≤ x.toInt) (h2 : x.toInt ≤ (m : Int) - 1) : ¬ (x < 0 ∨ m ≤ x.toNatClampNeg) := by
  have := (vp_in_iff (x := x) (n := m)).mpr ⟨h1, by omega⟩
  exact this
theorem zb_ftI {P : zx_P} {HT : List za_D} {o idx a k : Nat} {t : za_T} (h : za_ft P HT o idx a = some (k, t)) : ∃ ci fd, zx_pf P o idx = some (ci, k) ∧ HT[a]? = some (.inr (ci, fd)) ∧ fd[k]? = some t := by
  unfold za_ft at h
  split at h
  · next ci k' e =>
    split at h
    · next cj fd e2 =>
      split at h
      · next hc =>
        have hc := Nat.eq_of_beq_eq_true hc
        subst hc
        obtain ⟨t', ht, e9⟩ := Option.map_eq_some_iff.mp h
        cases e9
        exact ⟨_, fd, e, e2, ht⟩
      · cases h
    · cases h
  · cases h
theorem zb_gfx {P : zx_P} {h : zx_H} {o idx a k ci : Nat} {fs : List Value} (e : zx_pf P o idx = some (ci, k)) (e2 : h[a]? = some (.inr (ci, fs))) : zx_gf P o idx a h = fs[k]? := by
  unfold zx_gf
  simp only [e, e2, if_true]
end
section
/-! ===== 13: the abstract steps on fields and arrays are right ===== -/
def zb_Gh (HT : List za_D) (W : List (Nat × Nat)) (u : Nat → Int) (n n' : za_N) (h h' : zx_H) (f' : za_F) (st' : List Value) (as' : List za_V) (w : Bool) : Prop :=
  ∃ u', zb_X u u' n.length n'.length ∧ zb_N u' n' ∧ zb_S u' n'.length st' as' ∧ zb_I HT h' ∧ zb_F u' n'.length h' f' ∧ zb_W W h h' ∧ (w = false → h' = h)
theorem zb_Gh.id {HT : List za_D} {W : List (Nat × Nat)} {u : Nat → Int} {n : za_N} {h : zx_H} {f : za_F} {st : List Value} {as : List za_V} {w : Bool} (hN : zb_N u n) (hs : zb_S u n.length st as) (hI : zb_I HT h) (hF : zb_F u n.length h f) : zb_Gh HT W u n n h h f st as w := ⟨u, zb_X.rf, hN, hs, hI, hF, zb_W.rf, fun _ => rfl⟩
theorem zb_Gh.nw {HT : List za_D} {W : List (Nat × Nat)} {u : Nat → Int} {n : za_N} {h : zx_H} {f : za_F} {st : List Value} {as : List za_V} {w : Bool} (hN : zb_N u n) (hs : zb_S u n.length st as) (hI : zb_I HT h) (hF : zb_F u n.length h f) (x : Int32) (q : Int × Int) (h1 : q.1 ≤ x.toInt) (h2 : x.toInt ≤ q.2) : zb_Gh HT W u n (n ++ [q]) h h f (.int x :: st) (.inl (n.length, 0) :: as) w := by
  obtain ⟨u', hX, hN', hs'⟩ := zb_G.nw hN hs x q h1 h2
  exact ⟨u', hX, hN', hs', hI, hF.mo hX, zb_W.rf, fun _ => rfl⟩
theorem zb_ptyI {P : zx_P} {o idx : Nat} {ty : FieldType} (h : za_pty P o idx = some ty) {ci k : Nat} (e : zx_pf P o idx = some (ci, k)) : (zx_pt P ci k).2 = false ∧ (zx_pt P ci k).1 = ty := by
  unfold za_pty at h
  simp only [e] at h
  split at h
  · cases h
  · next hf => exact ⟨by simpa using hf, Option.some.inj h⟩
theorem zb_put {P : zx_P} {HT : List za_D} {h : zx_H} {o idx a k ci : Nat} {fd : List za_T} {t : za_T} {fs : List Value} {v : Value} {ty : FieldType} (hI : zb_I HT h) (e : zx_pf P o idx = some (ci, k)) (e1 : HT[a]? = some (.inr (ci, fd))) (e2 : fd[k]? = some t) (e3 : h[a]? = some (.inr (ci, fs))) (e4 : zb_A zb_T fs fd) (hp : za_pty P o idx = some ty) (hn : narrow ty v = v ∧ fits ty v = true) (ht : zb_T v t) {W : List (Nat × Nat)} (hw : za_in W a k = true) :
    zx_pu P o idx a v h = some (h.set a (.inr (ci, fs.set k v))) ∧ zb_I HT (h.set a (.inr (ci, fs.set k v))) ∧ k < fs.length ∧ zb_W W h (h.set a (.inr (ci, fs.set k v))) ∧ zb_W [(a, k)] h (h.set a (.inr (ci, fs.set k v))) := by
  obtain ⟨p1, p2⟩ := zb_ptyI hp e
  have hk : k < fs.length := by rw [zb_A.len e4]; exact (List.getElem?_eq_some_iff.mp e2).1
  have hW : zb_W [(a, k)] h (h.set a (.inr (ci, fs.set k v))) := by
    refine ⟨fun a' k' hn => ?_, fun a' _ => zb_arr_obj e3 a'⟩
    rw [zb_fld_set e3 hk, if_neg]
    rintro ⟨rfl, rfl⟩
    rw [za_in_iff.mpr List.mem_cons_self] at hn
    cases hn
  refine ⟨?_, zb_A.set a hI e1 ⟨rfl, zb_A.set k e4 e2 ht⟩, hk, ?_, hW⟩
  · unfold zx_pu
    simp only [e, e3]
    rw [if_pos ⟨trivial, hk, p1, by rw [p2]; exact hn.1, by rw [p2]; exact hn.2⟩]
  · refine hW.sub fun x y hx => ?_
    have := za_in_iff.mp hx
    simp only [List.mem_singleton, Prod.mk.injEq] at this
    rw [this.1, this.2]; exact hw
theorem zb_arrw {HT : List za_D} {h : zx_H} {a : Nat} {x x' : Nat × vp_A} {d : za_D} (hI : zb_I HT h) (e1 : HT[a]? = some d) (e2 : h[a]? = some (.inl x)) (hd : zb_c (.inl x') d) {W : List (Nat × Nat)} (hw : za_in W a 0 = true) : zb_I HT (h.set a (.inl x')) ∧ zb_W W h (h.set a (.inl x')) := by
  refine ⟨zb_A.set a hI e1 hd, fun a' k _ => zb_fld_arr e2 a' k, fun a' hn => zb_arr_arr a' ?_⟩
  rintro rfl
  rw [hw] at hn; cases hn
theorem zb_Fw {u : Nat → Int} {n : Nat} {h : zx_H} {a : Nat} {x x' : Nat × vp_A} {f : za_F} (e2 : h[a]? = some (.inl x)) (hF : zb_F u n h f) : zb_F u n (h.set a (.inl x')) f := by
  intro q hq
  obtain ⟨w, h1, h2⟩ := hF q hq
  exact ⟨w, by rw [zb_fld_arr e2]; exact h1, h2⟩
set_option maxHeartbeats 8000000 in
theorem zb_g {P : zx_P} {HT : List za_D} {W : List (Nat × Nat)} {o : Nat} {u : Nat → Int} {n n' : za_N} {i : Instr} {len pc nL l : Nat} {st : List Value} {as as' : List za_V} {h : zx_H} {f f' : za_F} {w : Bool} (ls : zx_L) (hN : zb_N u n) (hs : zb_S u n.length st as) (hI : zb_I HT h) (hF : zb_F u n.length h f) (hg : za_g P HT W o i n as f = some (l, n', as', f', w)) :
    zx_s i st = none ∧ zx_l i ls = none ∧ zx_t i nL ls st = none ∧ zx_j i len pc st = none ∧ ∃ st' h', zx_g P o i st h = some (l, st', h') ∧ zb_Gh HT W u n n' h h' f' st' as' w := by
  unfold za_g at hg
  split at hg
  · next idx a r =>
    obtain ⟨v, s1, rfl, h1, hs1⟩ := hs.c
    have h3 : v = .ref a := h1
    subst h3
    split at hg
    · next k q e =>
      obtain ⟨ci, fd, e1, e2, e3⟩ := zb_ftI e
      obtain ⟨fs, e4, e5⟩ := hI.obj e2
      obtain ⟨v, e6, x, rfl, x1, x2⟩ := e5.at1 k e3
      split at hg
      · next z ez =>
        cases hg
        obtain ⟨w9, f1, f2⟩ := hF _ (za_fk_mem ez)
        have : w9 = .int x := by
          unfold zx_fld at f1
          simp only [e4] at f1
          exact Option.some.inj (f1.symm.trans e6)
        subst this
        exact ⟨rfl, rfl, rfl, rfl, .int x :: s1, h, by rw [zx_g, zb_gfx e1 e4, e6]; rfl, zb_Gh.id hN ⟨f2, hs1⟩ hI hF⟩
      · cases hg
        obtain ⟨u', hX, hN', hs'⟩ := zb_G.nw hN hs1 x q x1 x2
        refine ⟨rfl, rfl, rfl, rfl, _, h, by rw [zx_g, zb_gfx e1 e4, e6]; rfl, u', hX, hN', hs', hI, ?_, zb_W.rf, fun _ => rfl⟩
        intro q9 hq9
        rcases List.mem_cons.mp hq9 with rfl | hq9
        · exact ⟨.int x, by unfold zx_fld; simp only [e4]; exact e6, hs'.1⟩
        · exact (hF.mo hX) q9 hq9
    · next k z e =>
      obtain ⟨ci, fd, e1, e2, e3⟩ := zb_ftI e
      obtain ⟨fs, e4, e5⟩ := hI.obj e2
      obtain ⟨v, e6, x, rfl⟩ := e5.at1 k e3
      cases hg
      exact ⟨rfl, rfl, rfl, rfl, .long x :: s1, h, by rw [zx_g, zb_gfx e1 e4, e6]; rfl, zb_Gh.id hN ⟨⟨x, rfl⟩, hs1⟩ hI hF⟩
    · next k b e =>
      obtain ⟨ci, fd, e1, e2, e3⟩ := zb_ftI e
      obtain ⟨fs, e4, e5⟩ := hI.obj e2
      obtain ⟨v, e6, e7⟩ := e5.at1 k e3
      have e8 : v = .ref b := e7
      subst e8
      cases hg
      exact ⟨rfl, rfl, rfl, rfl, .ref b :: s1, h, by rw [zx_g, zb_gfx e1 e4, e6]; rfl, zb_Gh.id hN ⟨rfl, hs1⟩ hI hF⟩
    · cases hg
  · next idx v9 a r =>
    obtain ⟨v, s1, rfl, h1, hs1⟩ := hs.c
    obtain ⟨v2, s2, rfl, h2, hs2⟩ := hs1.c
    have h3 : v2 = .ref a := h2
    subst h3
    split at hg
    · next k q ty e hty =>
      obtain ⟨ci, fd, e1, e2, e3⟩ := zb_ftI e
      obtain ⟨fs, e4, e5⟩ := hI.obj e2
      split at hg
      · next hc =>
        obtain ⟨hc, c4⟩ := zb_and hc
        obtain ⟨hc, c3⟩ := zb_and hc
        obtain ⟨c1, c2⟩ := zb_and hc
        obtain ⟨x, rfl, x1, x2⟩ := zb_iv hN h1 c1
        have c5 := zb_sub2 c2
        obtain ⟨p1, p2, p3, p4, p5⟩ := zb_put hI e1 e2 e3 e4 e5 hty (zb_fty c4 x1 x2) ⟨x, rfl, by omega, by omega⟩ c3
        cases hg
        refine ⟨rfl, rfl, rfl, rfl, _, _, by rw [zx_g, p1]; rfl, u, zb_X.rf, hN, hs2, p2, ?_, p4, fun z => by cases z⟩
        intro q9 hq9
        rcases List.mem_cons.mp hq9 with rfl | hq9
        · exact ⟨.int x, by rw [zb_fld_set e4 p3, if_pos ⟨rfl, rfl⟩], h1⟩
        · exact zb_fdrop hF p5 q9 hq9
      · cases hg
    · next k z e hty =>
      obtain ⟨ci, fd, e1, e2, e3⟩ := zb_ftI e
      obtain ⟨fs, e4, e5⟩ := hI.obj e2
      split at hg
      · next hc =>
        obtain ⟨c1, c3⟩ := zb_and hc
        obtain ⟨x, rfl⟩ := zb_isL h1 c1
        obtain ⟨p1, p2, p3, p4, p5⟩ := zb_put hI e1 e2 e3 e4 e5 hty ⟨rfl, rfl⟩ ⟨x, rfl⟩ c3
        cases hg
        exact ⟨rfl, rfl, rfl, rfl, _, _, by rw [zx_g, p1]; rfl, u, zb_X.rf, hN, hs2, p2, zb_fdrop hF p5, p4, fun z => by cases z⟩
      · cases hg
    · cases hg
  · next x9 a r =>
    obtain ⟨v, s1, rfl, h1, hs1⟩ := hs.c
    obtain ⟨v2, s2, rfl, h2, hs2⟩ := hs1.c
    have h3 : v2 = .ref a := h2
    subst h3
    split at hg
    · next m lo hi e =>
      obtain ⟨f9, e4, e5⟩ := hI.arr e (by omega)
      split at hg
      · next hc =>
        obtain ⟨c1, c2⟩ := zb_and hc
        obtain ⟨x, rfl, x1, x2⟩ := zb_iv hN h1 c1
        have c5 := zb_sub2 c2
        cases hg
        exact ⟨rfl, rfl, rfl, rfl, _, h, by simp only [zx_g, e4]; rw [if_neg (zb_idx (by simp only at c5; omega) (by simp only at c5; omega))], zb_Gh.nw hN hs2 hI hF _ _ (e5 _).1 (e5 _).2⟩
      · cases hg
    · next e =>
      have e4 := hI.len e
      split at hg
      · next m f9 ep =>
        split at hg
        · next hc =>
          obtain ⟨c1, c2⟩ := zb_and hc
          obtain ⟨x, rfl, x1, x2⟩ := zb_iv hN h1 c1
          have c5 := zb_sub2 c2
          cases hg
          exact ⟨rfl, rfl, rfl, rfl, _, h, by simp only [zx_g, e4, ep]; rw [if_neg (zb_idx (by simp only at c5; omega) (by simp only at c5; omega))], zb_Gh.nw hN hs2 hI hF _ _ (zb_top _).1 (zb_top _).2⟩
        · cases hg
      · cases hg
    · cases hg
  · next x9 a r =>
    obtain ⟨v, s1, rfl, h1, hs1⟩ := hs.c
    obtain ⟨v2, s2, rfl, h2, hs2⟩ := hs1.c
    have h3 : v2 = .ref a := h2
    subst h3
    split at hg
    · next m lo hi e =>
      obtain ⟨f9, e4⟩ := hI.lng e
      split at hg
      · next hc =>
        obtain ⟨c1, c2⟩ := zb_and hc
        obtain ⟨x, rfl, x1, x2⟩ := zb_iv hN h1 c1
        have c5 := zb_sub2 c2
        cases hg
        exact ⟨rfl, rfl, rfl, rfl, .long (f9 x.toNatClampNeg) :: s2, h, by simp only [zx_g, e4]; rw [if_neg (zb_idx (by simp only at c5; omega) (by simp only at c5; omega))], zb_Gh.id hN ⟨⟨_, rfl⟩, hs2⟩ hI hF⟩
      · cases hg
    · cases hg
  · next x9 a r =>
    obtain ⟨v, s1, rfl, h1, hs1⟩ := hs.c
    obtain ⟨v2, s2, rfl, h2, hs2⟩ := hs1.c
    have h3 : v2 = .ref a := h2
    subst h3
    split at hg
    · next m lo hi e =>
      obtain ⟨f9, e4, e5⟩ := hI.arr e (by omega)
      split at hg
      · next hc =>
        obtain ⟨c1, c2⟩ := zb_and hc
        obtain ⟨x, rfl, x1, x2⟩ := zb_iv hN h1 c1
        have c5 := zb_sub2 c2
        cases hg
        exact ⟨rfl, rfl, rfl, rfl, _, h, by simp only [zx_g, e4]; rw [if_neg (zb_idx (by simp only at c5; omega) (by simp only at c5; omega))], zb_Gh.nw hN hs2 hI hF _ _ (e5 _).1 (e5 _).2⟩
      · cases hg
    · cases hg
  · next v9 x9 a r =>
    obtain ⟨v0, s0, rfl, h0, hs0⟩ := hs.c
    obtain ⟨v, s1, rfl, h1, hs1⟩ := hs0.c
    obtain ⟨v2, s2, rfl, h2, hs2⟩ := hs1.c
    have h3 : v2 = .ref a := h2
    subst h3
    split at hg
    · next m lo hi e =>
      obtain ⟨f9, e4, e5⟩ := hI.arr e (by omega)
      split at hg
      · next hc =>
        obtain ⟨hc, c6⟩ := zb_and hc
        obtain ⟨hc, c4⟩ := zb_and hc
        obtain ⟨hc, c3⟩ := zb_and hc
        obtain ⟨c1, c2⟩ := zb_and hc
        obtain ⟨x, rfl, x1, x2⟩ := zb_iv hN h1 c1
        obtain ⟨y, rfl, y1, y2⟩ := zb_iv hN h0 c3
        have c5 := zb_sub2 c2
        have c7 := zb_sub2 c4
        simp only at c7
        obtain ⟨p1, p2⟩ := zb_arrw (x' := (0, m, .inl (upd f9 x.toNatClampNeg y))) hI e e4 ⟨rfl, rfl, by omega, fun j => by
          unfold upd; split
          · omega
          · exact e5 j⟩ c6
        cases hg
        exact ⟨rfl, rfl, rfl, rfl, _, _, by simp only [zx_g, e4]; rw [if_neg (zb_idx (by simp only at c5; omega) (by simp only at c5; omega))], u, zb_X.rf, hN, hs2, p1, zb_Fw e4 hF, p2, fun z => by cases z⟩
      · cases hg
    · cases hg
  · next v9 x9 a r =>
    obtain ⟨v0, s0, rfl, h0, hs0⟩ := hs.c
    obtain ⟨v, s1, rfl, h1, hs1⟩ := hs0.c
    obtain ⟨v2, s2, rfl, h2, hs2⟩ := hs1.c
    have h3 : v2 = .ref a := h2
    subst h3
    split at hg
    · next m lo hi e =>
      obtain ⟨f9, e4⟩ := hI.lng e
      split at hg
      · next hc =>
        obtain ⟨hc, c6⟩ := zb_and hc
        obtain ⟨hc, c3⟩ := zb_and hc
        obtain ⟨c1, c2⟩ := zb_and hc
        obtain ⟨x, rfl, x1, x2⟩ := zb_iv hN h1 c1
        obtain ⟨y, rfl⟩ := zb_isL h0 c3
        have c5 := zb_sub2 c2
        obtain ⟨p1, p2⟩ := zb_arrw (x' := (1, m, .inr (.inl (vp_updL f9 x.toNatClampNeg y)))) hI e e4 ⟨rfl, rfl, rfl⟩ c6
        cases hg
        exact ⟨rfl, rfl, rfl, rfl, _, _, by simp only [zx_g, e4]; rw [if_neg (zb_idx (by simp only at c5; omega) (by simp only at c5; omega))], u, zb_X.rf, hN, hs2, p1, zb_Fw e4 hF, p2, fun z => by cases z⟩
      · cases hg
    · cases hg
  · next v9 x9 a r =>
    obtain ⟨v0, s0, rfl, h0, hs0⟩ := hs.c
    obtain ⟨v, s1, rfl, h1, hs1⟩ := hs0.c
    obtain ⟨v2, s2, rfl, h2, hs2⟩ := hs1.c
    have h3 : v2 = .ref a := h2
    subst h3
    split at hg
    · next m lo hi e =>
      obtain ⟨f9, e4, e5⟩ := hI.arr e (by omega)
      split at hg
      · next hc =>
        obtain ⟨hc, c6⟩ := zb_and hc
        obtain ⟨hc, c8⟩ := zb_and hc
        obtain ⟨hc, c4⟩ := zb_and hc
        obtain ⟨hc, c3⟩ := zb_and hc
        obtain ⟨c1, c2⟩ := zb_and hc
        obtain ⟨x, rfl, x1, x2⟩ := zb_iv hN h1 c1
        obtain ⟨y, rfl, y1, y2⟩ := zb_iv hN h0 c3
        have c5 := zb_sub2 c2
        have c7 := zb_sub2 c4
        have c9 := zb_sub2 c8
        simp only at c7 c9
        obtain ⟨p1, p2⟩ := zb_arrw (x' := (2, m, .inl (upd f9 x.toNatClampNeg (vp_nar .boolean y)))) hI e e4 ⟨rfl, rfl, by omega, fun j => by
          unfold upd; split
          · rcases zb_01 (x := y) (by omega) (by omega) with rfl | rfl
            · rw [show (vp_nar .boolean 0).toInt = 0 by decide +kernel]; omega
            · rw [show (vp_nar .boolean 1).toInt = 1 by decide +kernel]; omega
          · exact e5 j⟩ c6
        cases hg
        exact ⟨rfl, rfl, rfl, rfl, _, _, by simp only [zx_g, e4]; rw [if_neg (zb_idx (by simp only at c5; omega) (by simp only at c5; omega))], u, zb_X.rf, hN, hs2, p1, zb_Fw e4 hF, p2, fun z => by cases z⟩
      · cases hg
    · cases hg
  · next a r =>
    obtain ⟨v2, s2, rfl, h2, hs2⟩ := hs.c
    have h3 : v2 = .ref a := h2
    subst h3
    split at hg
    · next t m lo hi e =>
      split at hg
      · next ht =>
        cases hg
        have ht := zb_blt ht
        by_cases t1 : t = 1
        · subst t1
          obtain ⟨f9, e4⟩ := hI.lng e
          exact ⟨rfl, rfl, rfl, rfl, .int (Int32.ofNat m) :: s2, h, by simp only [zx_g, e4]; rw [if_pos (by omega)], zb_Gh.id hN ⟨⟨_, rfl, rfl⟩, hs2⟩ hI hF⟩
        · obtain ⟨f9, e4, e5⟩ := hI.arr e t1
          exact ⟨rfl, rfl, rfl, rfl, .int (Int32.ofNat m) :: s2, h, by simp only [zx_g, e4]; rw [if_pos ht], zb_Gh.id hN ⟨⟨_, rfl, rfl⟩, hs2⟩ hI hF⟩
      · cases hg
    · next e =>
      have e4 := hI.len e
      split at hg
      · next m f9 ep =>
        cases hg
        exact ⟨rfl, rfl, rfl, rfl, .int (Int32.ofNat m) :: s2, h, by simp only [zx_g, e4, ep], zb_Gh.id hN ⟨⟨_, rfl, rfl⟩, hs2⟩ hI hF⟩
      · cases hg
    · cases hg
  · obtain ⟨k2, hv, e9⟩ := Option.map_eq_some_iff.mp hg
    cases e9
    exact ⟨rfl, rfl, rfl, rfl, .ref k2 :: st, h, by rw [zx_g, hv]; rfl, zb_Gh.id hN ⟨rfl, hs⟩ hI hF⟩
  · obtain ⟨k2, hv, e9⟩ := Option.map_eq_some_iff.mp hg
    cases e9
    exact ⟨rfl, rfl, rfl, rfl, .long k2 :: st, h, by rw [zx_g, hv]; rfl, zb_Gh.id hN ⟨⟨_, rfl⟩, hs⟩ hI hF⟩
  · cases hg
end
section
/-! ===== 14: one step of the interpreter by itself; more fuel, more depth ===== -/
abbrev zx_R : Type := (Nat × zx_L × List Value × zx_H) ⊕ (Option Value ⊕ (List Value ⊕ (Nat × List Value × List Value)))
def zx_o (P : zx_P) (q : zx_M) (pc : Nat) (ls : zx_L) (st : List Value) (h : zx_H) : Option zx_R :=
  match zx_at (zx_mi q) pc with
  | none => none
  | some (i, len) =>
    match zx_s i st with
    | some (k, st') => if len = k then some (.inl (pc + k, ls, st', h)) else none
    | none =>
    match zx_l i ls with
    | some (k, v) => if len = k then some (.inl (pc + k, ls, v :: st, h)) else none
    | none =>
    match zx_t i (zx_ml q) ls st with
    | some (k, ls', st') => if len = k then some (.inl (pc + k, ls', st', h)) else none
    | none =>
    match zx_j i len pc st with
    | some (pc', st') => some (.inl (pc', ls, st', h))
    | none =>
    match zx_g P (zx_mo q) i st h with
    | some (k, st', h') => if len = k then some (.inl (pc + k, ls, st', h')) else none
    | none =>
    match zx_r i len (zx_mr q) st with
    | some r => some (.inr (.inl r))
    | none =>
    match zx_n P (zx_mo q) i len st with
    | some st' => some (.inr (.inr (.inl st')))
    | none =>
    match zx_k P (zx_mo q) i len st h with
    | some z => some (.inr (.inr (.inr z)))
    | none => none
def zx_nx (P : zx_P) (n d : Nat) (q : zx_M) (pc : Nat) (ls : zx_L) (h : zx_H) (o : Option zx_R) : Option (Option Value × zx_H) :=
  match o with
  | none => none
  | some (.inl (pc', ls', st', h')) => zx_x P n d q pc' ls' st' h'
  | some (.inr (.inl r)) => some (r, h)
  | some (.inr (.inr (.inl st'))) => (match d with
    | 0 => none
    | d' + 1 => zx_x P n (d' + 1) q (pc + 3) ls st' h)
  | some (.inr (.inr (.inr (cj, as, rest)))) => (match d with
    | 0 => none
    | d' + 1 => (match (zx_pm P)[cj]? with
      | none => none
      | some q' => (match zx_x P n d' q' 0 (lv_args 0 as) [] h with
        | none => none
        | some (r, h') => zx_x P n (d' + 1) q (pc + 3) ls (r.toList ++ rest) h')))
theorem zx_x_succ (P : zx_P) (n d : Nat) (q : zx_M) (pc : Nat) (ls : zx_L) (st : List Value) (h : zx_H) : zx_x P (n + 1) d q pc ls st h = zx_nx P n d q pc ls h (zx_o P q pc ls st h) := by
  rw [zx_x]
  unfold zx_o
  cases zx_at (zx_mi q) pc with
  | none => rfl
  | some il =>
    obtain ⟨i, len⟩ := il
    dsimp only
    cases zx_s i st with
    | some z => obtain ⟨k, st'⟩ := z; dsimp only; split <;> rfl
    | none =>
      dsimp only
      cases zx_l i ls with
      | some z => obtain ⟨k, st'⟩ := z; dsimp only; split <;> rfl
      | none =>
        dsimp only
        cases zx_t i (zx_ml q) ls st with
        | some z => obtain ⟨k, ls', st'⟩ := z; dsimp only; split <;> rfl
        | none =>
          dsimp only
          cases zx_j i len pc st with
          | some z => rfl
          | none =>
            dsimp only
            cases zx_g P (zx_mo q) i st h with
            | some z => obtain ⟨k, st', h'⟩ := z; dsimp only; split <;> rfl
            | none =>
              dsimp only
              cases zx_r i len (zx_mr q) st with
              | some z => rfl
              | none =>
                dsimp only
                cases zx_n P (zx_mo q) i len st with
                | some z => rfl
                | none =>
                  dsimp only
                  cases zx_k P (zx_mo q) i len st h with
                  | some z => rfl
                  | none => rfl
theorem zx_mono {P : zx_P} : ∀ (n m d e : Nat) (q : zx_M) (pc : Nat) (ls : zx_L) (st : List Value) (h : zx_H) (R : Option Value × zx_H), n ≤ m → d ≤ e → zx_x P n d q pc ls st h = some R → zx_x P m e q pc ls st h = some R := by
  intro n
  induction n with
  | zero => intro m d e q pc ls st h R _ _ hx; simp [zx_x] at hx
  | succ n ih =>
    intro m d e q pc ls st h R hm hd hx
    obtain ⟨m, rfl⟩ : ∃ k, m = k + 1 := ⟨m - 1, by omega⟩
    have hm : n ≤ m := by omega
    rw [zx_x_succ] at hx ⊢
    unfold zx_nx at hx ⊢
    split at hx
    · cases hx
    · exact ih m d e _ _ _ _ _ _ hm hd hx
    · exact hx
    · split at hx
      · cases hx
      · next d' =>
        obtain ⟨e, rfl⟩ : ∃ k, e = k + 1 := ⟨e - 1, by omega⟩
        exact ih m _ _ _ _ _ _ _ _ hm hd hx
    · split at hx
      · cases hx
      · next d' =>
        obtain ⟨e, rfl⟩ : ∃ k, e = k + 1 := ⟨e - 1, by omega⟩
        dsimp only at hx ⊢
        split at hx
        · cases hx
        · next q' hq' =>
          split at hx
          · cases hx
          · next r h' hr =>
            rw [ih m d' e _ _ _ _ _ _ hm (by omega) hr]
            exact ih m _ _ _ _ _ _ _ _ hm hd hx
/-- it comes to an end, so -/
def zx_T (P : zx_P) (d : Nat) (q : zx_M) (pc : Nat) (ls : zx_L) (st : List Value) (h : zx_H) (F : Option Value → zx_H → Prop) : Prop := ∃ n r h', zx_x P n d q pc ls st h = some (r, h') ∧ F r h'
theorem zx_T.go {P : zx_P} {d : Nat} {q : zx_M} {pc pc' : Nat} {ls ls' : zx_L} {st st' : List Value} {h h' : zx_H} {F : Option Value → zx_H → Prop} (ho : zx_o P q pc ls st h = some (.inl (pc', ls', st', h'))) (ht : zx_T P d q pc' ls' st' h' F) : zx_T P d q pc ls st h F := by
  obtain ⟨n, r, h2, hx, hf⟩ := ht
  exact ⟨n + 1, r, h2, by rw [zx_x_succ, ho]; exact hx, hf⟩
theorem zx_T.rt {P : zx_P} {d : Nat} {q : zx_M} {pc : Nat} {ls : zx_L} {st : List Value} {h : zx_H} {F : Option Value → zx_H → Prop} {r : Option Value} (ho : zx_o P q pc ls st h = some (.inr (.inl r))) (hf : F r h) : zx_T P d q pc ls st h F :=
  ⟨1, r, h, by rw [zx_x_succ, ho]; rfl, hf⟩
theorem zx_T.mn {P : zx_P} {d : Nat} {q : zx_M} {pc : Nat} {ls : zx_L} {st st' : List Value} {h : zx_H} {F : Option Value → zx_H → Prop} (ho : zx_o P q pc ls st h = some (.inr (.inr (.inl st')))) (ht : zx_T P (d + 1) q (pc + 3) ls st' h F) : zx_T P (d + 1) q pc ls st h F := by
  obtain ⟨n, r, h2, hx, hf⟩ := ht
  exact ⟨n + 1, r, h2, by rw [zx_x_succ, ho]; exact hx, hf⟩
theorem zx_T.cl {P : zx_P} {d : Nat} {q q' : zx_M} {pc cj n1 : Nat} {ls : zx_L} {st as rest : List Value} {h h1 : zx_H} {r1 : Option Value} {F : Option Value → zx_H → Prop} (ho : zx_o P q pc ls st h = some (.inr (.inr (.inr (cj, as, rest))))) (hq : (zx_pm P)[cj]? = some q') (hc : zx_x P n1 d q' 0 (lv_args 0 as) [] h = some (r1, h1)) (ht : zx_T P (d + 1) q (pc + 3) ls (r1.toList ++ rest) h1 F) : zx_T P (d + 1) q pc ls st h F := by
  obtain ⟨n, r, h2, hx, hf⟩ := ht
  refine ⟨max n n1 + 1, r, h2, ?_, hf⟩
  rw [zx_x_succ, ho]
  unfold zx_nx
  dsimp only
  rw [hq]
  dsimp only
  rw [zx_mono n1 (max n n1) d d _ _ _ _ _ _ (Nat.le_max_right _ _) (Nat.le_refl _) hc]
  exact zx_mono n (max n n1) _ _ _ _ _ _ _ _ (Nat.le_max_left _ _) (Nat.le_refl _) hx
end
section
/-! ===== 15: calls ===== -/
def zb_R (r : Option Value) (t : Option za_T) : Prop := match r, t with
  | none, none => True
  | some v, some t => zb_T v t
  | _, _ => False
def zb_ca : List Value → List za_T → List (Int × Int) → Prop
  | v :: vs, .inl _ :: ts, c :: cs => (∃ x : Int32, v = .int x ∧ c.1 ≤ x.toInt ∧ x.toInt ≤ c.2) ∧ zb_ca vs ts cs
  | _ :: vs, .inr _ :: ts, cs => zb_ca vs ts cs
  | _, _, _ => True
/-- what a contract means -/
def zb_K (P : zx_P) (HT : List za_D) (k : za_K) : Prop := ∀ q, (zx_pm P)[k.1]? = some q → ∀ (vs : List Value) (h : zx_H), zb_A zb_T vs k.2.2.1 → zb_I HT h →
  zx_T P k.2.1 q 0 (lv_args 0 vs) [] h (fun r h' => zb_I HT h' ∧ zb_W k.2.2.2.2 h h' ∧ (k.2.2.2.2 = [] → h' = h) ∧ ∃ c ∈ k.2.2.2.1, zb_R r c.1 ∧ zb_ca vs k.2.2.1 c.2)
def zb_C (P : zx_P) (d : Nat) (u : Nat → Int) (n : Nat) (h : zx_H) (cf : za_C) : Prop := ∀ z ∈ cf, za_exact z.2.1 = true ∧ ∃ q vs m v, (zx_pm P)[z.1]? = some q ∧ zb_S u n vs z.2.1 ∧ zx_x P m d q 0 (lv_args 0 vs) [] h = some (some v, h) ∧ zb_V u n v z.2.2
theorem zb_C.mo {P : zx_P} {d : Nat} {u u' : Nat → Int} {n n' : Nat} {h : zx_H} {cf : za_C} (hX : zb_X u u' n n') (hv : zb_C P d u n h cf) : zb_C P d u' n' h cf := fun z hz => by
  obtain ⟨h1, q, vs, m, v, h2, h3, h4, h5⟩ := hv z hz
  exact ⟨h1, q, vs, m, v, h2, zb_S.mo hX h3, h4, h5.mo hX⟩
theorem zb_ex {u u' : Nat → Int} {n n' : Nat} : ∀ {as : List za_V} {vs vs' : List Value}, za_exact as = true → zb_S u n vs as → zb_S u' n' vs' as → vs = vs'
  | [], [], [], _, _, _ => rfl
  | [], _ :: _, _, _, h, _ => h.elim
  | [], [], _ :: _, _, _, h => h.elim
  | .inr (.inl k) :: as, v :: vs, v' :: vs', e, h, h' => by
    obtain ⟨x, rfl, h1⟩ := h.1
    obtain ⟨y, rfl, h2⟩ := h'.1
    rw [Int32.toInt_inj.mp (h1.trans h2.symm), zb_ex (as := as) e h.2 h'.2]
  | .inr (.inr (.inl a)) :: as, v :: vs, v' :: vs', e, h, h' => by
    have h1 : v = .ref a := h.1
    have h2 : v' = .ref a := h'.1
    rw [h1, h2, zb_ex (as := as) e h.2 h'.2]
  | .inr (.inr (.inr _)) :: _, _, _, e, _, _ => by simp [za_exact] at e
  | .inl _ :: _, _, _, e, _, _ => by simp [za_exact] at e
  | _ :: _, [], _, _, h, _ => h.elim
  | _ :: _, _ :: _, [], _, _, h => h.elim
theorem za_cf_mem {cf : za_C} {cj : Nat} {as : List za_V} {v : za_V} (h : za_cf cf cj as = some v) : (cj, as, v) ∈ cf := by
  induction cf with
  | nil => simp [za_cf] at h
  | cons q r ih =>
    rw [za_cf] at h
    split at h
    · next e =>
      obtain ⟨e1, e2⟩ := zb_and e
      rw [decide_eq_true_eq] at e2
      have : q = (cj, as, v) := by rw [← Nat.eq_of_beq_eq_true e1, ← e2, ← Option.some.inj h]
      rw [this]; exact List.mem_cons_self
    · exact List.mem_cons_of_mem _ (ih h)
theorem zb_mt {u : Nat → Int} {n : za_N} {v : Value} {a : za_V} {t : za_T} (hN : zb_N u n) (hv : zb_V u n.length v a) (h : za_mt n t a = true) : zb_T v t := by
  unfold za_mt at h
  split at h
  · obtain ⟨i1, i2⟩ := zb_and h
    obtain ⟨x, rfl, x1, x2⟩ := zb_iv hN hv i1
    have := zb_sub2 i2
    exact ⟨x, rfl, by omega, by omega⟩
  · exact zb_isL hv h
  · split at h
    · next a b =>
      have h1 : v = .ref b := hv
      rw [Nat.eq_of_beq_eq_true h]; exact h1
    · cases h
theorem zb_mts {u : Nat → Int} {n : za_N} (hN : zb_N u n) : ∀ {vs : List Value} {as : List za_V} {ts : List za_T}, zb_S u n.length vs as → za_mts n ts as = true → zb_A zb_T vs ts
  | [], [], [], _, _ => trivial
  | v :: vs, a :: as, t :: ts, h, e => by
    rw [za_mts] at e
    obtain ⟨e1, e2⟩ := zb_and e
    exact ⟨zb_mt hN h.1 e1, zb_mts hN h.2 e2⟩
  | [], _ :: _, _, h, _ => h.elim
  | _ :: _, [], _, h, _ => h.elim
  | [], [], _ :: _, _, e => by simp [za_mts] at e
  | _ :: _, _ :: _, [], _, e => by simp [za_mts] at e
/-- an int's number -/
def zb_VI (u : Nat → Int) (n : Nat) (x : Int) (a : za_V) : Prop := match a with
  | .inl (b, c) => b < n ∧ x = u b + c
  | .inr (.inl k) => x = k
  | _ => False
theorem zb_VI.of {u : Nat → Int} {n : Nat} {x : Int32} {a : za_V} (h : zb_V u n (.int x) a) : zb_VI u n x.toInt a := by
  unfold zb_V at h
  unfold zb_VI
  split at h
  · obtain ⟨h1, y, h2, h3⟩ := h; cases h2; exact ⟨h1, h3⟩
  · obtain ⟨y, h2, h3⟩ := h; cases h2; exact h3
  · cases h
  · obtain ⟨y, h2⟩ := h; cases h2
theorem zb_ivI {u : Nat → Int} {n : za_N} {x : Int} {a : za_V} (hN : zb_N u n) (hv : zb_VI u n.length x a) : (za_iv n a).1 ≤ x ∧ x ≤ (za_iv n a).2 := by
  unfold zb_VI at hv
  unfold za_iv
  split at hv
  · next b c =>
    obtain ⟨h1, h3⟩ := hv
    obtain ⟨q, hq⟩ : ∃ q, n[b]? = some q := ⟨n[b], List.getElem?_eq_getElem h1⟩
    have := hN b q hq
    simp only [hq]
    omega
  · simp only; omega
  · exact hv.elim
theorem zb_hiI {u : Nat → Int} {n : za_N} {x : Int} {a : za_V} {m : Int} (hN : zb_N u n) (hv : zb_VI u n.length x a) (h : x ≤ m) : zb_N u (za_hi n a m) ∧ (za_hi n a m).length = n.length := by
  unfold za_hi
  split
  · next b c =>
    obtain ⟨h1, h3⟩ := hv
    split
    · next q hq =>
      refine ⟨fun b' r hr => ?_, by simp⟩
      rw [List.getElem?_set] at hr
      split at hr
      · next e =>
        subst e
        cases hr
        have := hN _ q hq
        exact ⟨this.1, za_min_le.mpr ⟨this.2, by omega⟩⟩
      · exact hN _ _ hr
    · exact ⟨hN, rfl⟩
  · exact ⟨hN, rfl⟩
theorem zb_loI {u : Nat → Int} {n : za_N} {x : Int} {a : za_V} {m : Int} (hN : zb_N u n) (hv : zb_VI u n.length x a) (h : m ≤ x) : zb_N u (za_lo n a m) ∧ (za_lo n a m).length = n.length := by
  unfold za_lo
  split
  · next b c =>
    obtain ⟨h1, h3⟩ := hv
    split
    · next q hq =>
      refine ⟨fun b' r hr => ?_, by simp⟩
      rw [List.getElem?_set] at hr
      split at hr
      · next e =>
        subst e
        cases hr
        have := hN _ q hq
        exact ⟨za_max_le.mpr ⟨this.1, by omega⟩, this.2⟩
      · exact hN _ _ hr
    · exact ⟨hN, rfl⟩
  · exact ⟨hN, rfl⟩
theorem zb_clI {u : Nat → Int} {n : za_N} {x y : Int} {a b : za_V} {d : Int} (hN : zb_N u n) (ha : zb_VI u n.length x a) (hb : zb_VI u n.length y b) (h : x + d ≤ y) : ∃ n', za_cl n a b d = some n' ∧ zb_N u n' ∧ n'.length = n.length := by
  obtain ⟨a1, a2⟩ := zb_ivI hN ha
  obtain ⟨b1, b2⟩ := zb_ivI hN hb
  unfold za_cl
  rw [show za_le ((za_iv n a).1 + d) (za_iv n b).2 = true from za_le_iff.mpr (by omega)]
  obtain ⟨h1, h2⟩ := zb_hiI (m := (za_iv n b).2 - d) hN ha (by omega)
  obtain ⟨h3, h4⟩ := zb_loI (m := (za_iv n a).1 + d) h1 (by rw [h2]; exact hb) (by omega)
  exact ⟨_, rfl, h3, by rw [h4, h2]⟩
theorem zb_ref {u : Nat → Int} : ∀ {ts : List za_T} {as : List za_V} {vs : List Value} {cs : List (Int × Int)} {n : za_N}, zb_N u n → zb_S u n.length vs as → zb_ca vs ts cs → ∃ n', za_ref n ts as cs = some n' ∧ zb_N u n' ∧ n'.length = n.length
  | [], as, vs, cs, n, hN, _, _ => ⟨n, by cases as <;> rfl, hN, rfl⟩
  | t :: _, [], vs, cs, n, hN, _, _ => ⟨n, by cases t <;> rfl, hN, rfl⟩
  | _ :: _, _ :: _, [], cs, n, _, h, _ => h.elim
  | .inr _ :: ts, a :: as, v :: vs, cs, n, hN, h, hc => by
    rw [za_ref]; exact zb_ref (ts := ts) hN h.2 hc
  | .inl _ :: ts, a :: as, v :: vs, [], n, hN, h, hc => ⟨n, rfl, hN, rfl⟩
  | .inl _ :: ts, a :: as, v :: vs, c :: cs, n, hN, h, hc => by
    obtain ⟨⟨x, rfl, x1, x2⟩, hc⟩ := hc
    have h1 := zb_VI.of h.1
    obtain ⟨n1, e1, N1, l1⟩ := zb_clI (d := 0) (y := c.2) (b := .inr (.inl c.2)) hN h1 rfl (by omega)
    obtain ⟨n2, e2, N2, l2⟩ := zb_clI (d := 0) (x := c.1) (a := .inr (.inl c.1)) N1 rfl (by rw [l1]; exact h1) (by omega)
    obtain ⟨n3, e3, N3, l3⟩ := zb_ref (ts := ts) (cs := cs) N2 (by rw [l2, l1]; exact h.2) hc
    refine ⟨n3, ?_, N3, by rw [l3, l2, l1]⟩
    rw [za_ref]
    simp only [e1, e2]
    exact e3
theorem zb_psh {u : Nat → Int} {n : za_N} {r : Option Value} {t : Option za_T} {rest : List Value} {ar : List za_V} (hN : zb_N u n) (hr : zb_R r t) (hs : zb_S u n.length rest ar) : zb_G u n (za_psh n t ar).1 (r.toList ++ rest) (za_psh n t ar).2 := by
  unfold za_psh
  cases t with
  | none =>
    cases r with
    | none => exact zb_G.id hN hs
    | some v => exact hr.elim
  | some t =>
    cases r with
    | none => exact hr.elim
    | some v =>
      cases t with
      | inl q =>
        obtain ⟨x, rfl, x1, x2⟩ := hr
        dsimp only
        split
        · next e => rw [decide_eq_true_eq] at e; exact zb_G.id hN ⟨⟨x, rfl, by omega⟩, hs⟩
        · exact zb_G.nw hN hs x q x1 x2
      | inr t =>
        cases t with
        | inl t => exact zb_G.id hN ⟨hr, hs⟩
        | inr a => exact zb_G.id hN ⟨hr, hs⟩
theorem zb_cs {k : za_K} {cj : Nat} {as rest : List za_V} {ls : za_L} {f : za_F} {cf : za_C} {n n1 : za_N} : ∀ {cs : List (Option za_T × List (Int × Int))} {c : Option za_T × List (Int × Int)}, c ∈ cs → za_ref n k.2.2.1 as c.2 = some n1 → ((za_psh n1 c.1 rest).1, ls, (za_psh n1 c.1 rest).2, za_fdrop f k.2.2.2.2, za_cfx k cj as c.1 (za_psh n1 c.1 rest).2 cf) ∈ za_cs k cj as rest ls f cf n cs
  | [], c, h, _ => absurd h List.not_mem_nil
  | c0 :: cs, c, h, e => by
    rw [za_cs]
    rcases List.mem_cons.mp h with rfl | h
    · rw [e]; exact List.mem_cons_self
    · split
      · exact zb_cs h e
      · exact List.mem_cons_of_mem _ (zb_cs h e)
theorem zb_con {n : za_N} {d cj : Nat} {as : List za_V} {k : za_K} : ∀ {KT : List za_K}, za_con n d cj as KT = some k → k ∈ KT ∧ k.1 = cj ∧ k.2.1 < d ∧ za_mts n k.2.2.1 as = true
  | [], h => by simp [za_con] at h
  | k0 :: KT, h => by
    rw [za_con] at h
    split at h
    · next e =>
      cases h
      obtain ⟨e, e3⟩ := zb_and e
      obtain ⟨e1, e2⟩ := zb_and e
      exact ⟨List.mem_cons_self, Nat.eq_of_beq_eq_true e1, zb_blt e2, e3⟩
    · obtain ⟨a, b⟩ := zb_con h
      exact ⟨List.mem_cons_of_mem _ a, b⟩
theorem zb_cats {u : Nat → Int} {n : Nat} : ∀ {vs : List Value} {as : List za_V}, zb_S u n vs as → (vs.map fun v => v.category).sum = za_cats as
  | [], [], _ => rfl
  | v :: vs, a :: as, h => by
    rw [List.map_cons, List.sum_cons, za_cats, zb_cats h.2, zb_cat h.1]; rfl
  | [], _ :: _, h => h.elim
  | _ :: _, [], h => h.elim
theorem zb_sl (vs : List Value) : (lg_sl vs).length = (vs.map fun v => v.category).sum := by
  induction vs with
  | nil => rfl
  | cons v vs ih =>
    have h1 : (lg_sl (v :: vs)).length = (lg_sl [v]).length + (lg_sl vs).length := by simp [lg_sl]
    rw [h1, ih, List.map_cons, List.sum_cons]
    congr 1
    cases v <;> rfl
/-- the state of a run -/
def zb_Q (P : zx_P) (d : Nat) (u : Nat → Int) (s : za_S) (ls : zx_L) (st : List Value) (h : zx_H) : Prop :=
  zb_N u s.1 ∧ zb_L u s.1.length ls s.2.1 ∧ zb_S u s.1.length st s.2.2.1 ∧ zb_F u s.1.length h s.2.2.2.1 ∧ zb_C P d u s.1.length h s.2.2.2.2
/-- behind a call by contract -/
theorem zb_by {P : zx_P} {HT : List za_D} {KT : List za_K} {W : List (Nat × Nat)} (hK : ∀ k ∈ KT, zb_K P HT k) {d cj : Nat} {q : zx_M} (hq : (zx_pm P)[cj]? = some q) {u : Nat → Int} {n : za_N} {al : za_L} {f : za_F} {cf : za_C} {ls : zx_L} {vs rest : List Value} {as ar : List za_V} {h : zx_H} (hN : zb_N u n) (hL : zb_L u n.length ls al) (hs : zb_S u n.length vs as) (hr : zb_S u n.length rest ar) (hF : zb_F u n.length h f) (hC : zb_C P d u n.length h cf) (hI : zb_I HT h) {l : List za_S}
    (hc : (match za_cf cf cj as with
      | some v => some [(n, al, v :: ar, f, cf)]
      | none => (match za_con n (d + 1) cj as KT with
        | some k => if k.2.2.2.2.all (fun z => za_in W z.1 z.2) then some (za_cs k cj as ar al f cf n k.2.2.2.1) else none
        | none => none)) = some l) :
    ∃ n1 r1 h1, zx_x P n1 d q 0 (lv_args 0 vs) [] h = some (r1, h1) ∧ zb_I HT h1 ∧ zb_W W h h1 ∧ (W = [] → h1 = h) ∧ ∃ s' ∈ l, ∃ u', zb_X u u' n.length s'.1.length ∧ zb_Q P d u' s' ls (r1.toList ++ rest) h1 := by
  split at hc
  · next v e =>
    cases hc
    obtain ⟨ex, q', vs', m, w, h2, h3, h4, h5⟩ := hC _ (za_cf_mem e)
    cases h2.symm.trans hq
    have := zb_ex ex h3 hs
    subst this
    exact ⟨m, some w, h, h4, hI, zb_W.rf, fun _ => rfl, _, List.mem_cons_self, u, zb_X.rf, hN, hL, ⟨h5, hr⟩, hF, hC⟩
  · split at hc
    · next k e =>
      obtain ⟨k1, k2, k3, k4⟩ := zb_con e
      split at hc
      · next hw =>
        cases hc
        obtain ⟨m, r1, h1, t1, t2, t3, t4, c, t5, t6, t7⟩ := hK k k1 q (by rw [k2]; exact hq) vs h (zb_mts hN hs k4) hI
        have hsub : ∀ x y, za_in k.2.2.2.2 x y = true → za_in W x y = true := fun x y hx => List.all_eq_true.mp hw (x, y) (za_in_iff.mp hx)
        obtain ⟨n1, e1, N1, l1⟩ := zb_ref hN hs t7
        obtain ⟨u', hX, N2, S2⟩ := zb_psh (rest := rest) (ar := ar) N1 t6 (by rw [l1]; exact hr)
        rw [l1] at hX
        have hW0 : W = [] → k.2.2.2.2 = [] := by
          intro hw0
          cases hk : k.2.2.2.2 with
          | nil => rfl
          | cons z zs =>
            have := hsub z.1 z.2 (za_in_iff.mpr (by rw [hk]; exact List.mem_cons_self))
            rw [hw0] at this
            simp [za_in] at this
        have hrun : zx_x P m d q 0 (lv_args 0 vs) [] h = some (r1, h1) := zx_mono m m _ d _ _ _ _ _ _ (Nat.le_refl _) (by omega) t1
        refine ⟨m, r1, h1, hrun, t2, t3.sub hsub, fun z => t4 (hW0 z), _, zb_cs t5 e1, u', hX, N2, hL.mo hX, S2, (zb_fdrop hF t3).mo hX, ?_⟩
        show zb_C P d u' _ h1 (za_cfx k cj as c.1 _ cf)
        unfold za_cfx
        split
        · intro z hz; exact absurd hz List.not_mem_nil
        · next hk =>
          have hh := t4 hk
          subst hh
          split
          · next t v st9 ex e7 e8 =>
            intro z hz
            rcases List.mem_cons.mp hz with rfl | hz
            · rw [e7] at t6
              cases r1 with
              | none => exact t6.elim
              | some w =>
                rw [e8] at S2
                exact ⟨ex, q, vs, m, w, hq, hs.mo hX, hrun, S2.1⟩
            · exact (hC.mo hX) z hz
          · exact hC.mo hX
      · cases hc
    · cases hc
end
section
/-! ===== 16: one abstract step is right ===== -/
def zb_Rv (u : Nat → Int) (n : Nat) (r : Option Value) (v : Option za_V) : Prop := match r, v with
  | none, none => True
  | some w, some a => zb_V u n w a
  | _, _ => False
theorem zb_r {P : zx_P} {o : Nat} {u : Nat → Int} {n : za_N} {i : Instr} {len pc nL : Nat} {ret : Option FieldType} {st : List Value} {as : List za_V} {v : Option za_V} (ls : zx_L) (h0 : zx_H) (hN : zb_N u n) (hs : zb_S u n.length st as) (h : za_r i len ret n as = some v) : zx_s i st = none ∧ zx_l i ls = none ∧ zx_t i nL ls st = none ∧ zx_j i len pc st = none ∧ zx_g P o i st h0 = none ∧ ∃ r, zx_r i len ret st = some r ∧ zb_Rv u n.length r v := by
  unfold za_r at h
  split at h
  · next x ty =>
    obtain ⟨v1, s1, rfl, h1, hs1⟩ := hs.c
    have := hs1.n
    subst this
    split at h
    · next hc =>
      obtain ⟨hc, c3⟩ := zb_and hc
      obtain ⟨c1, c2⟩ := zb_and hc
      obtain ⟨y, rfl, y1, y2⟩ := zb_iv hN h1 c2
      cases h
      exact ⟨rfl, rfl, rfl, rfl, rfl, some (.int y), by rw [zx_r, if_pos ⟨Nat.eq_of_beq_eq_true c1, (zb_fty c3 y1 y2).1⟩], h1⟩
    · cases h
  · next x =>
    obtain ⟨v1, s1, rfl, h1, hs1⟩ := hs.c
    have := hs1.n
    subst this
    split at h
    · next hc =>
      obtain ⟨c1, c2⟩ := zb_and hc
      obtain ⟨y, rfl⟩ := zb_isL h1 c2
      cases h
      exact ⟨rfl, rfl, rfl, rfl, rfl, some (.long y), by rw [zx_r, if_pos (Nat.eq_of_beq_eq_true c1)], h1⟩
    · cases h
  · have := hs.n
    subst this
    split at h
    · next hc =>
      cases h
      exact ⟨rfl, rfl, rfl, rfl, rfl, none, by rw [zx_r, if_pos (Nat.eq_of_beq_eq_true hc)], trivial⟩
    · cases h
  · cases h
theorem za_min_bd {a b : Int} : za_min a b ≤ a ∧ za_min a b ≤ b := za_min_le.mp (Int.le_refl _)
theorem zb_n {P : zx_P} {o : Nat} {u : Nat → Int} {n n' : za_N} {i : Instr} {len pc nL : Nat} {ret : Option FieldType} {st : List Value} {as as' : List za_V} (ls : zx_L) (h0 : zx_H) (hN : zb_N u n) (hs : zb_S u n.length st as) (h : za_n P o i len n as = some (n', as')) : zx_s i st = none ∧ zx_l i ls = none ∧ zx_t i nL ls st = none ∧ zx_j i len pc st = none ∧ zx_g P o i st h0 = none ∧ zx_r i len ret st = none ∧ ∃ st', zx_n P o i len st = some st' ∧ zb_G u n n' st' as' := by
  unfold za_n at h
  split at h
  · next idx y x r =>
    obtain ⟨v1, s1, rfl, h1, hs1⟩ := hs.c
    obtain ⟨v2, s2, rfl, h2, hs2⟩ := hs1.c
    split at h
    · next hc =>
      obtain ⟨hc, c4⟩ := zb_and hc
      obtain ⟨hc, c3⟩ := zb_and hc
      obtain ⟨c1, c2⟩ := zb_and hc
      obtain ⟨i1, i2⟩ := zb_and c4
      obtain ⟨cy, rfl, y1, y2⟩ := zb_iv hN h1 i2
      obtain ⟨cx, rfl, x1, x2⟩ := zb_iv hN h2 i1
      cases h
      refine ⟨rfl, rfl, rfl, rfl, rfl, rfl, _, by rw [zx_n, if_pos ⟨c1, Nat.eq_of_beq_eq_true c2, by rw [zb_cats hs2]; exact Nat.le_of_ble_eq_true c3⟩], zb_G.nw hN hs2 _ _ ?_ ?_⟩
      · have hm := za_min_bd (a := (za_iv n x).1) (b := (za_iv n y).1)
        simp only
        split
        · omega
        · omega
      · refine za_min_le.mpr ?_
        split
        · next e => rw [Int32.lt_iff_toInt_lt] at e; omega
        · next e => rw [Int32.lt_iff_toInt_lt] at e; omega
    · cases h
  · cases h
theorem zx_n_no {P : zx_P} {o idx len : Nat} {st : List Value} (h : zx_pn P o idx = false) : zx_n P o (.invokestatic idx) len st = none := by
  unfold zx_n
  split
  · rename_i e
    injection e with e
    subst e
    rw [if_neg]
    rintro ⟨z, _⟩
    rw [z] at h; cases h
  · rfl
set_option maxHeartbeats 4000000 in
theorem zb_call {P : zx_P} {HT : List za_D} {KT : List za_K} {W : List (Nat × Nat)} (hK : ∀ k ∈ KT, zb_K P HT k) {D o : Nat} {i : Instr} {len pc nL : Nat} {ret : Option FieldType} {s : za_S} {l : List za_S} {u : Nat → Int} {ls : zx_L} {st : List Value} {h : zx_H} (hQ : zb_Q P (D - 1) u s ls st h) (hI : zb_I HT h) (hl : za_call P HT KT W D o i len s = some l) :
    zx_s i st = none ∧ zx_l i ls = none ∧ zx_t i nL ls st = none ∧ zx_j i len pc st = none ∧ zx_g P o i st h = none ∧ zx_r i len ret st = none ∧ zx_n P o i len st = none ∧ 1 ≤ D ∧ ∃ cj vs rest q' n1 r1 h1, zx_k P o i len st h = some (cj, vs, rest) ∧ (zx_pm P)[cj]? = some q' ∧ zx_x P n1 (D - 1) q' 0 (lv_args 0 vs) [] h = some (r1, h1) ∧ zb_I HT h1 ∧ zb_W W h h1 ∧ (W = [] → h1 = h) ∧ ∃ s' ∈ l, ∃ u', zb_X u u' s.1.length s'.1.length ∧ zb_Q P (D - 1) u' s' ls (r1.toList ++ rest) h1 := by
  obtain ⟨n, al, as, f, cf⟩ := s
  obtain ⟨hN, hL, hs, hF, hC⟩ := hQ
  dsimp only at hN hL hs hF hC
  unfold za_call at hl
  dsimp only at hl
  split at hl
  · next idx =>
    split at hl
    · next cj hpc =>
      split at hl
      · next q hq =>
        split at hl
        · next ci a ar hmc hdr =>
          split at hl
          · next hc =>
            obtain ⟨hc, c5⟩ := zb_and hc
            obtain ⟨hc, c4⟩ := zb_and hc
            obtain ⟨hc, c3⟩ := zb_and hc
            obtain ⟨hc, c2⟩ := zb_and hc
            obtain ⟨hc, c1⟩ := zb_and hc
            obtain ⟨c6, c0⟩ := zb_and hc
            have c0 := Nat.le_of_ble_eq_true c0
            have htk := zb_A.take (zx_mp q) hs
            have hdp := zb_A.drop (zx_mp q) hs
            rw [hdr] at hdp
            obtain ⟨w, rest, hdr2, hb, hrest⟩ := hdp.c
            have hargs : zb_S u n.length (w :: (st.take (zx_mp q)).reverse) (.inr (.inr (.inl a)) :: (as.take (zx_mp q)).reverse) := ⟨hb, htk.rev⟩
            obtain ⟨D', rfl⟩ : ∃ k, D = k + 1 := ⟨D - 1, by omega⟩
            have hw : w = .ref a := hb
            subst hw
            obtain ⟨fs, hfs⟩ : ∃ fs, h[a]? = some (.inr (ci, fs)) := by
              unfold za_oc at c6
              split at c6
              · next cj9 fd9 e9 =>
                obtain ⟨fs, e8, _⟩ := hI.obj e9
                rw [← Nat.eq_of_beq_eq_true c6]
                exact ⟨fs, e8⟩
              · cases c6
            obtain ⟨n1, r1, h1, t1, t2, t3, t4, s', t5, t6⟩ := zb_by hK hq hN hL hargs hrest hF hC hI hl
            refine ⟨rfl, rfl, rfl, rfl, rfl, rfl, rfl, by omega, cj, _, rest, q, n1, r1, h1, ?_, hq, t1, t2, t3, t4, s', t5, t6⟩
            unfold zx_k
            simp only [hpc, hq, hdr2, hfs]
            rw [if_pos]
            exact ⟨Nat.eq_of_beq_eq_true c1, hmc, by rw [zb_A.len htk]; exact Nat.eq_of_beq_eq_true c2, by rw [zb_cats hrest]; exact Nat.le_of_ble_eq_true c3, Nat.le_of_ble_eq_true c4, by rw [zb_sl, zb_cats hargs]; exact Nat.le_of_ble_eq_true c5⟩
          · cases hl
        · cases hl
      · cases hl
    · cases hl
  · next idx =>
    split at hl
    · next cj hpc =>
      split at hl
      · next q hq =>
        split at hl
        · next hmc =>
          split at hl
          · next hc =>
            obtain ⟨hc, c5⟩ := zb_and hc
            obtain ⟨hc, c4⟩ := zb_and hc
            obtain ⟨hc, c3⟩ := zb_and hc
            obtain ⟨hc, c2⟩ := zb_and hc
            obtain ⟨hc, c1⟩ := zb_and hc
            obtain ⟨c7, c0⟩ := zb_and hc
            have c0 := Nat.le_of_ble_eq_true c0
            have htk := zb_A.take (zx_mp q) hs
            have hdp := zb_A.drop (zx_mp q) hs
            obtain ⟨D', rfl⟩ : ∃ k, D = k + 1 := ⟨D - 1, by omega⟩
            obtain ⟨n1, r1, h1, t1, t2, t3, t4, s', t5, t6⟩ := zb_by hK hq hN hL htk.rev hdp hF hC hI hl
            refine ⟨rfl, rfl, rfl, rfl, rfl, rfl, ?_, by omega, cj, _, _, q, n1, r1, h1, ?_, hq, t1, t2, t3, t4, s', t5, t6⟩
            · exact zx_n_no (by simpa using c7)
            · unfold zx_k
              simp only [hpc, hq]
              rw [if_pos]
              exact ⟨Nat.eq_of_beq_eq_true c1, hmc, by rw [zb_A.len htk]; exact Nat.eq_of_beq_eq_true c2, by rw [zb_cats hdp]; exact Nat.le_of_ble_eq_true c3, Nat.le_of_ble_eq_true c4, by rw [zb_sl, zb_cats htk.rev]; exact Nat.le_of_ble_eq_true c5⟩
          · cases hl
        · cases hl
      · cases hl
    · cases hl
  · cases hl
/-- nothing written: the same heap -/
theorem zb_same {HT : List za_D} {h h' : zx_H} (hI : zb_I HT h) (hI' : zb_I HT h') (hW : zb_W [] h h') : h' = h := by
  refine List.ext_getElem? fun a => ?_
  cases hd : HT[a]? with
  | none => rw [hI.len hd, hI'.len hd]
  | some d =>
    obtain ⟨c, h1, h2⟩ := hI.at1 a hd
    obtain ⟨c', h1', h2'⟩ := hI'.at1 a hd
    rw [h1, h1']
    have f1 := hW.1 a
    have f2 := hW.2 a rfl
    unfold zx_arr at f2
    rw [h1, h1'] at f2
    cases d with
    | inl d =>
      cases c with
      | inr c => exact h2.elim
      | inl c =>
        cases c' with
        | inr c' => exact h2'.elim
        | inl c' => dsimp only at f2; rw [Option.some.inj f2]
    | inr d =>
      cases c with
      | inl c => exact False.elim (by obtain ⟨_, _, x⟩ := c; cases x <;> exact h2)
      | inr c =>
        cases c' with
        | inl c' => exact False.elim (by obtain ⟨_, _, x⟩ := c'; cases x <;> exact h2')
        | inr c' =>
          obtain ⟨ci, fs⟩ := c
          obtain ⟨cj, fs'⟩ := c'
          obtain ⟨e1, _⟩ := h2
          obtain ⟨e2, _⟩ := h2'
          have : fs' = fs := List.ext_getElem? fun k => by
            have := f1 k rfl
            unfold zx_fld at this
            rw [h1, h1'] at this
            exact this
          rw [this, e1, e2]
set_option maxHeartbeats 4000000 in
theorem zb_one {P : zx_P} {HT : List za_D} {KT : List za_K} {q : zx_M} {k : za_K} {ent : Bool} (hK : ∀ k ∈ KT, zb_K P HT k) {s : za_S} {pc : Nat} {l : List (za_S × Nat)} (hl : za_one P HT KT q k ent s pc = some l) {u : Nat → Int} {ls : zx_L} {st : List Value} {h : zx_H} (hQ : zb_Q P (k.2.1 - 1) u s ls st h) (hI : zb_I HT h) {F : Option Value → zx_H → Prop}
    (hret : ∀ r v, za_ret ent k s.1 v = true → zb_Rv u s.1.length r v → F r h)
    (hgo : ∀ (s' : za_S) (pc' : Nat) (u' : Nat → Int) (ls' : zx_L) (st' : List Value) (h' : zx_H), (s', pc') ∈ l → zb_X u u' s.1.length s'.1.length → zb_Q P (k.2.1 - 1) u' s' ls' st' h' → zb_I HT h' → zb_W k.2.2.2.2 h h' → (k.2.2.2.2 = [] → h' = h) → zx_T P k.2.1 q pc' ls' st' h' F) : zx_T P k.2.1 q pc ls st h F := by
  have hQ0 := hQ
  obtain ⟨n, al, as, f, cf⟩ := s
  obtain ⟨hN, hL, hs, hF, hC⟩ := hQ
  dsimp only at hN hL hs hF hC hret
  unfold za_one at hl
  dsimp only at hl
  split at hl
  · cases hl
  · next i len hat =>
    split at hl
    · next k9 n' as' e =>
      split at hl
      · next hk =>
        cases hl
        obtain ⟨st', e1, u', hX, hN', hs'⟩ := zb_s hN hs e
        refine zx_T.go (pc' := pc + k9) (ls' := ls) (st' := st') (h' := h) ?_ (hgo _ _ u' ls st' h List.mem_cons_self hX ⟨hN', hL.mo hX, hs', hF.mo hX, hC.mo hX⟩ hI zb_W.rf (fun _ => rfl))
        unfold zx_o
        simp only [hat, e1]
        rw [if_pos (Nat.eq_of_beq_eq_true hk)]
      · cases hl
    · split at hl
      · next k9 v e =>
        split at hl
        · next hk =>
          cases hl
          obtain ⟨e1, w, e2, e3⟩ := zb_l st hN hL e
          refine zx_T.go (pc' := pc + k9) (ls' := ls) (st' := w :: st) (h' := h) ?_ (hgo _ _ u ls (w :: st) h List.mem_cons_self zb_X.rf ⟨hN, hL, ⟨e3, hs⟩, hF, hC⟩ hI zb_W.rf (fun _ => rfl))
          unfold zx_o
          simp only [hat, e1, e2]
          rw [if_pos (Nat.eq_of_beq_eq_true hk)]
        · cases hl
      · split at hl
        · next k9 al' as' e =>
          split at hl
          · next hk =>
            cases hl
            obtain ⟨e1, e2, ls', st', e3, e4, e5⟩ := zb_t hN hL hs e
            refine zx_T.go (pc' := pc + k9) (ls' := ls') (st' := st') (h' := h) ?_ (hgo _ _ u ls' st' h List.mem_cons_self zb_X.rf ⟨hN, e4, e5, hF, hC⟩ hI zb_W.rf (fun _ => rfl))
            unfold zx_o
            simp only [hat, e1, e2, e3]
            rw [if_pos (Nat.eq_of_beq_eq_true hk)]
          · cases hl
        · split at hl
          · next n' al' e =>
            split at hl
            · next hk =>
              cases hl
              obtain ⟨e1, e2, ls', u', e3, hX, hN', e4⟩ := zb_inc st hN hL e
              refine zx_T.go (pc' := pc + 3) (ls' := ls') (st' := st) (h' := h) ?_ (hgo _ _ u' ls' st h List.mem_cons_self hX ⟨hN', e4, hs.mo hX, hF.mo hX, hC.mo hX⟩ hI zb_W.rf (fun _ => rfl))
              unfold zx_o
              simp only [hat, e1, e2, e3]
              rw [if_pos (Nat.eq_of_beq_eq_true hk)]
            · cases hl
          · split at hl
            · next l9 e =>
              cases hl
              obtain ⟨e1, e2, e3, pc', st', n', as', e4, e5, hN', hn, hs'⟩ := zb_j (nL := zx_ml q) ls hN hs e
              refine zx_T.go (pc' := pc') (ls' := ls) (st' := st') (h' := h) ?_ (hgo (n', al, as', f, cf) pc' u ls st' h (List.mem_map.mpr ⟨_, e5, rfl⟩) (by show zb_X u u n.length n'.length; rw [hn]; exact zb_X.rf) (by
                refine ⟨hN', ?_, ?_, ?_, ?_⟩
                · show zb_L u n'.length ls al; rw [hn]; exact hL
                · show zb_S u n'.length st' as'; rw [hn]; exact hs'
                · show zb_F u n'.length h f; rw [hn]; exact hF
                · show zb_C P _ u n'.length h cf; rw [hn]; exact hC) hI zb_W.rf (fun _ => rfl))
              unfold zx_o
              simp only [hat, e1, e2, e3, e4]
            · split at hl
              · next k9 n' as' f' w e =>
                split at hl
                · next hk =>
                  cases hl
                  obtain ⟨e1, e2, e3, e4, st', h', e5, u', hX, hN', hs', hI', hF', hW, hw⟩ := zb_g (len := len) (pc := pc) (nL := zx_ml q) ls hN hs hI hF e
                  refine zx_T.go (pc' := pc + k9) (ls' := ls) (st' := st') (h' := h') ?_ (hgo _ _ u' ls st' h' List.mem_cons_self hX ⟨hN', hL.mo hX, hs', hF', ?_⟩ hI' hW ?_)
                  · unfold zx_o
                    simp only [hat, e1, e2, e3, e4, e5]
                    rw [if_pos (Nat.eq_of_beq_eq_true hk)]
                  · cases w with
                    | true => intro z hz; exact absurd hz List.not_mem_nil
                    | false => rw [hw rfl]; exact hC.mo hX
                  · intro hk0
                    rw [hk0] at hW
                    exact zb_same hI hI' hW
                · cases hl
              · split at hl
                · next v e =>
                  split at hl
                  · next hr =>
                    obtain ⟨e1, e2, e3, e4, e5, r, e6, e7⟩ := zb_r (P := P) (o := zx_mo q) (pc := pc) (nL := zx_ml q) ls h hN hs e
                    refine zx_T.rt (r := r) ?_ (hret r v hr e7)
                    unfold zx_o
                    simp only [hat, e1, e2, e3, e4, e5, e6]
                  · cases hl
                · split at hl
                  · next n' as' e =>
                    split at hl
                    · next hk =>
                      cases hl
                      obtain ⟨e1, e2, e3, e4, e5, e6, st', e7, u', hX, hN', hs'⟩ := zb_n (pc := pc) (nL := zx_ml q) (ret := zx_mr q) ls h hN hs e
                      have hg := hgo _ _ u' ls st' h List.mem_cons_self hX ⟨hN', hL.mo hX, hs', hF.mo hX, hC.mo hX⟩ hI zb_W.rf (fun _ => rfl)
                      have hk := Nat.le_of_ble_eq_true hk
                      obtain ⟨D, hD⟩ : ∃ D, k.2.1 = D + 1 := ⟨k.2.1 - 1, by omega⟩
                      rw [hD] at hg ⊢
                      refine zx_T.mn (st' := st') ?_ hg
                      unfold zx_o
                      simp only [hat, e1, e2, e3, e4, e5, e6, e7]
                    · cases hl
                  · obtain ⟨l9, e, e9⟩ := Option.map_eq_some_iff.mp hl
                    cases e9
                    obtain ⟨e1, e2, e3, e4, e5, e6, e7, hD1, cj, vs, rest, q', n1, r1, h1, e8, t1, t2, t3, t4, t5, s', t6, u', hX, t7⟩ := zb_call (pc := pc) (nL := zx_ml q) (ret := zx_mr q) hK hQ0 hI e
                    have hg := hgo s' (pc + 3) u' ls (r1.toList ++ rest) h1 (List.mem_map.mpr ⟨_, t6, rfl⟩) hX t7 t3 t4 t5
                    obtain ⟨D, hD⟩ : ∃ D, k.2.1 = D + 1 := ⟨k.2.1 - 1, by omega⟩
                    rw [hD] at hg t2 ⊢
                    refine zx_T.cl (cj := cj) (as := vs) (rest := rest) (q' := q') ?_ t1 t2 hg
                    unfold zx_o
                    simp only [hat, e1, e2, e3, e4, e5, e6, e7, e8]
end
section
/-! ===== 17: measures; places ===== -/
def zb_ev (u : Nat → Int) : List (Nat × Int) → Int
  | [] => 0
  | q :: r => q.2 * u q.1 + zb_ev u r
def zb_sm (t : List (Nat × Int)) (u : Nat → Int) : Nat → za_N → Int
  | _, [] => 0
  | b, _ :: r => za_co t b * u b + zb_sm t u (b + 1) r
theorem zb_sm_nil (u : Nat → Int) : ∀ (n : za_N) (b : Nat), zb_sm [] u b n = 0
  | [], _ => rfl
  | _ :: r, b => by rw [zb_sm, zb_sm_nil u r, za_co]; simp
theorem zb_sm_cons (q : Nat × Int) (t : List (Nat × Int)) (u : Nat → Int) : ∀ (n : za_N) (b : Nat), zb_sm (q :: t) u b n = zb_sm t u b n + (if b ≤ q.1 ∧ q.1 < b + n.length then q.2 * u q.1 else 0)
  | [], b => by rw [zb_sm, zb_sm, if_neg (by rw [List.length_nil]; omega)]; rfl
  | z :: r, b => by
    rw [zb_sm, zb_sm, zb_sm_cons q t u r (b + 1), za_co, List.length_cons]
    split
    · next e =>
      have e := Nat.eq_of_beq_eq_true e
      subst e
      rw [if_neg (by omega), if_pos (by omega), Int.add_mul]
      omega
    · next e =>
      have e := Nat.ne_of_beq_eq_false e
      by_cases c : q.1 = b
      · exact absurd c e
      · by_cases c2 : b + 1 ≤ q.1 ∧ q.1 < b + 1 + r.length
        · rw [if_pos c2, if_pos (by omega)]; omega
        · rw [if_neg c2, if_neg (by omega)]; omega
theorem zb_ev_sm (u : Nat → Int) (n : za_N) : ∀ (t : List (Nat × Int)), (∀ q ∈ t, q.1 < n.length) → zb_ev u t = zb_sm t u 0 n
  | [], _ => (zb_sm_nil u n 0).symm
  | q :: t, h => by
    have h1 := h q List.mem_cons_self
    rw [zb_sm_cons, zb_ev, zb_ev_sm u n t (fun z hz => h z (List.mem_cons_of_mem _ hz)), if_pos ⟨Nat.zero_le _, by omega⟩]
    omega
theorem zb_sm_ub (t : List (Nat × Int)) (u : Nat → Int) : ∀ (n : za_N) (b : Nat), (∀ (j : Nat) (q : Int × Int), n[j]? = some q → q.1 ≤ u (b + j) ∧ u (b + j) ≤ q.2) → zb_sm t u b n ≤ za_ub t b n
  | [], b, _ => by rw [zb_sm, za_ub]; exact Int.le_refl _
  | z :: r, b, h => by
    have h1 := h 0 z rfl
    rw [Nat.add_zero] at h1
    have h2 := zb_sm_ub t u r (b + 1) (fun j q e => by rw [show b + 1 + j = b + (j + 1) by omega]; exact h (j + 1) q e)
    rw [zb_sm, za_ub]
    split
    · next e =>
      have e := za_le_iff.mp e
      have := Int.mul_le_mul_of_nonneg_left h1.2 e
      omega
    · next e =>
      have e : ¬ 0 ≤ za_co t b := fun z => Bool.noConfusion (e.symm.trans (za_le_iff.mpr z))
      have := Int.mul_le_mul_of_nonpos_left (a := za_co t b) (by omega) h1.1
      omega
def zb_dot : List Int → List Int → Int
  | w :: ws, x :: xs => w * x + zb_dot ws xs
  | _, _ => 0
theorem zb_lin {u : Nat → Int} {n : Nat} : ∀ {ws xs : List Int} {vs : List za_V}, zb_A (zb_VI u n) xs vs → zb_dot ws xs = (za_lin ws vs).1 + zb_ev u (za_lin ws vs).2 ∧ ∀ q ∈ (za_lin ws vs).2, q.1 < n
  | [], [], [], _ => ⟨rfl, fun q h => absurd h List.not_mem_nil⟩
  | [], _ :: _, [], h => h.elim
  | [], [], _ :: _, h => h.elim
  | [], _ :: _, v :: _, _ => ⟨rfl, fun q h => absurd h List.not_mem_nil⟩
  | w :: ws, [], [], _ => ⟨rfl, fun q h => absurd h List.not_mem_nil⟩
  | w :: ws, [], _ :: _, h => h.elim
  | w :: ws, _ :: _, [], h => h.elim
  | w :: ws, x :: xs, .inl (b, c) :: vs, h => by
    obtain ⟨⟨h1, h2⟩, h3⟩ := h
    obtain ⟨a1, a2⟩ := zb_lin (ws := ws) h3
    rw [zb_dot, za_lin]
    dsimp only
    rw [zb_ev, a1, h2, Int.mul_add]
    dsimp only
    refine ⟨by omega, fun q hq => ?_⟩
    rcases List.mem_cons.mp hq with rfl | hq
    · exact h1
    · exact a2 q hq
  | w :: ws, x :: xs, .inr (.inl k) :: vs, h => by
    obtain ⟨h1, h3⟩ := h
    have h1 : x = k := h1
    obtain ⟨a1, a2⟩ := zb_lin (ws := ws) h3
    rw [zb_dot, za_lin]
    dsimp only
    rw [a1, h1]
    exact ⟨by omega, a2⟩
  | w :: ws, x :: xs, .inr (.inr _) :: vs, h => h.1.elim
theorem zb_neg_lt : ∀ (ws : List Int) (b : Nat), ∀ q ∈ za_neg b ws, q.1 < b + ws.length
  | [], b, q, h => absurd h List.not_mem_nil
  | w :: ws, b, q, h => by
    rw [za_neg] at h
    rcases List.mem_cons.mp h with rfl | h
    · simp
    · have := zb_neg_lt ws (b + 1) q h; simp; omega
theorem zb_neg_ev (u : Nat → Int) : ∀ (ws xs : List Int) (b : Nat), ws.length ≤ xs.length → (∀ (j : Nat) (x : Int), xs[j]? = some x → x = u (b + j)) → zb_ev u (za_neg b ws) = - zb_dot ws xs
  | [], xs, b, _, _ => by cases xs <;> rfl
  | w :: ws, [], b, h, _ => by simp at h
  | w :: ws, x :: xs, b, h, hx => by
    rw [za_neg, zb_ev, zb_dot, zb_neg_ev u ws xs (b + 1) (by simpa using h) (fun j y e => by rw [show b + 1 + j = b + (j + 1) by omega]; exact hx (j + 1) y e), hx 0 x rfl, Nat.add_zero]
    dsimp only
    rw [Int.neg_mul]
    omega
theorem zb_ev_app (u : Nat → Int) : ∀ (s t : List (Nat × Int)), zb_ev u (s ++ t) = zb_ev u s + zb_ev u t
  | [], t => by rw [List.nil_append, zb_ev]; omega
  | q :: s, t => by rw [List.cons_append, zb_ev, zb_ev, zb_ev_app u s t]; omega
theorem zb_ev_eq {u u' : Nat → Int} : ∀ {t : List (Nat × Int)}, (∀ q ∈ t, u q.1 = u' q.1) → zb_ev u t = zb_ev u' t
  | [], _ => rfl
  | q :: t, h => by rw [zb_ev, zb_ev, h q List.mem_cons_self, zb_ev_eq (fun z hz => h z (List.mem_cons_of_mem _ hz))]
/-- the ints of a list of values -/
def zb_toI (v : Option Value) : Int := match v with
  | some (.int x) => x.toInt
  | _ => 0
def zb_xs : List za_T → List Value → List Int
  | .inl _ :: ts, v :: vs => zb_toI (some v) :: zb_xs ts vs
  | .inr _ :: ts, _ :: vs => zb_xs ts vs
  | _, _ => []
/-- new bases for values of kinds -/
theorem zb_ini : ∀ {ts : List za_T} {xs : List Value} {n : za_N} {u : Nat → Int}, zb_A zb_T xs ts → zb_N u n → ∃ u', zb_X u u' n.length (za_ini ts n).1.length ∧ zb_N u' (za_ini ts n).1 ∧ zb_S u' (za_ini ts n).1.length xs (za_ini ts n).2 ∧ (za_ini ts n).1.length = n.length + (zb_xs ts xs).length ∧ ∀ (j : Nat) (x : Int), (zb_xs ts xs)[j]? = some x → x = u' (n.length + j)
  | [], [], n, u, _, hN => ⟨u, zb_X.rf, hN, trivial, rfl, fun j x h => by simp [zb_xs] at h⟩
  | [], _ :: _, _, _, h, _ => h.elim
  | _ :: _, [], _, _, h, _ => h.elim
  | .inl q :: ts, v :: vs, n, u, h, hN => by
    obtain ⟨⟨x, rfl, x1, x2⟩, h2⟩ := h
    have hX : zb_X u (zb_up u n.length x.toInt) n.length (n ++ [q]).length := by rw [zb_len]; exact zb_up_X _ _ _
    obtain ⟨u', hX', hN', hs', hl, hj⟩ := zb_ini (ts := ts) h2 (zb_up_N (z := x.toInt) hN x1 x2)
    have hb : u' n.length = x.toInt := by
      rw [hX'.2 n.length (by rw [zb_len]; omega)]; unfold zb_up; rw [if_pos rfl]
    rw [za_ini, zb_xs]
    dsimp only
    rw [zb_len] at hl hj
    refine ⟨u', hX.tr hX', hN', ⟨⟨by rw [hl]; omega, x, rfl, by rw [hb]; omega⟩, hs'⟩, by rw [hl, List.length_cons]; omega, fun j y e => ?_⟩
    cases j with
    | zero => rw [List.getElem?_cons_zero] at e; rw [Nat.add_zero, hb, ← Option.some.inj e]; rfl
    | succ j => rw [List.getElem?_cons_succ] at e; rw [hj j y e]; congr 1; omega
  | .inr (.inl _) :: ts, v :: vs, n, u, h, hN => by
    obtain ⟨u', hX', hN', hs', hl, hj⟩ := zb_ini (ts := ts) h.2 hN
    rw [za_ini, zb_xs]
    exact ⟨u', hX', hN', ⟨h.1, hs'⟩, hl, hj⟩
  | .inr (.inr a) :: ts, v :: vs, n, u, h, hN => by
    obtain ⟨u', hX', hN', hs', hl, hj⟩ := zb_ini (ts := ts) h.2 hN
    rw [za_ini, zb_xs]
    exact ⟨u', hX', hN', ⟨h.1, hs'⟩, hl, hj⟩
/-- a place's words, of locals, stack and heap -/
def zb_P (c : za_Q) (ls : zx_L) (st : List Value) (h : zx_H) : Prop :=
  (∀ z ∈ c.1, ∃ v, zx_lk ls z.1 = some v ∧ zb_T v z.2) ∧ zb_A zb_T st c.2.1 ∧ ∀ z ∈ c.2.2.1, ∃ v, zx_fld h z.1.1 z.1.2 = some v ∧ zb_T v (.inl z.2)
/-- a place's values, its measure -/
def zb_vl (c : za_Q) (ls : zx_L) (st : List Value) (h : zx_H) : List Value := c.1.map (fun z => (zx_lk ls z.1).getD .null) ++ (st ++ c.2.2.1.map (fun z => (zx_fld h z.1.1 z.1.2).getD .null))
def zb_tl (c : za_Q) : List za_T := c.1.map (fun z => z.2) ++ (c.2.1 ++ c.2.2.1.map (fun z => .inl z.2))
def zb_mu (c : za_Q) (ls : zx_L) (st : List Value) (h : zx_H) : Int := c.2.2.2.1 + zb_dot c.2.2.2.2 (zb_xs (zb_tl c) (zb_vl c ls st h))
theorem zb_A.mapL {γ : Type} {α β : Type} {R : α → β → Prop} {f : γ → α} {g : γ → β} : ∀ {l : List γ}, (∀ z ∈ l, R (f z) (g z)) → zb_A R (l.map f) (l.map g)
  | [], _ => trivial
  | z :: l, h => ⟨h z List.mem_cons_self, zb_A.mapL (fun y hy => h y (List.mem_cons_of_mem _ hy))⟩
theorem zb_P.tl {c : za_Q} {ls : zx_L} {st : List Value} {h : zx_H} (hp : zb_P c ls st h) : zb_A zb_T (zb_vl c ls st h) (zb_tl c) := by
  refine zb_A.app (zb_A.mapL fun z hz => ?_) (zb_A.app hp.2.1 (zb_A.mapL fun z hz => ?_))
  · obtain ⟨v, h1, h2⟩ := hp.1 z hz; rw [h1]; exact h2
  · obtain ⟨v, h1, h2⟩ := hp.2.2 z hz; rw [h1]; exact h2
theorem zb_A.splitL {α β : Type} {R : α → β → Prop} : ∀ {l l' : List α} {m : List β}, zb_A R (l ++ l') m → zb_A R l (m.take l.length) ∧ zb_A R l' (m.drop l.length)
  | [], l', m, h => ⟨by rw [List.length_nil, List.take_zero]; trivial, h⟩
  | a :: l, l', [], h => h.elim
  | a :: l, l', b :: m, h => by
    obtain ⟨h1, h2⟩ := zb_A.splitL (l := l) (l' := l') (m := m) h.2
    exact ⟨⟨h.1, h1⟩, h2⟩
theorem zb_zipL {u : Nat → Int} {n : Nat} {ls : zx_L} : ∀ {l : List (Nat × za_T)} {vs : List za_V}, (∀ z ∈ l, ∃ v, zx_lk ls z.1 = some v ∧ zb_T v z.2) → zb_S u n (l.map (fun z => (zx_lk ls z.1).getD .null)) vs → zb_L u n ls ((l.map (fun z => z.1)).zip vs)
  | [], _, _, _ => fun q hq => by simp at hq
  | z :: l, [], _, h => h.elim
  | z :: l, v :: vs, hz, h => by
    intro q hq
    rw [List.map_cons, List.zip_cons_cons] at hq
    rcases List.mem_cons.mp hq with rfl | hq
    · obtain ⟨w, h1, _⟩ := hz z List.mem_cons_self
      have := h.1
      dsimp only at this
      rw [h1] at this
      exact ⟨w, h1, this⟩
    · exact zb_zipL (fun y hy => hz y (List.mem_cons_of_mem _ hy)) h.2 q hq
theorem zb_zipF {u : Nat → Int} {n : Nat} {hp : zx_H} : ∀ {l : List ((Nat × Nat) × (Int × Int))} {vs : List za_V}, (∀ z ∈ l, ∃ v, zx_fld hp z.1.1 z.1.2 = some v ∧ zb_T v (.inl z.2)) → zb_S u n (l.map (fun z => (zx_fld hp z.1.1 z.1.2).getD .null)) vs → zb_F u n hp ((l.map (fun z => z.1)).zip vs)
  | [], _, _, _ => fun q hq => by simp at hq
  | z :: l, [], _, h => h.elim
  | z :: l, v :: vs, hz, h => by
    intro q hq
    rw [List.map_cons, List.zip_cons_cons] at hq
    rcases List.mem_cons.mp hq with rfl | hq
    · obtain ⟨w, h1, _⟩ := hz z List.mem_cons_self
      have := h.1
      dsimp only at this
      rw [h1] at this
      exact ⟨w, h1, this⟩
    · exact zb_zipF (fun y hy => hz y (List.mem_cons_of_mem _ hy)) h.2 q hq
theorem zb_start (P : zx_P) (d : Nat) {c : za_Q} {ls : zx_L} {st : List Value} {h : zx_H} (hp : zb_P c ls st h) : ∃ u, zb_Q P d u (za_start c) ls st h ∧ (za_start c).1.length = (zb_xs (zb_tl c) (zb_vl c ls st h)).length ∧ ∀ (j : Nat) (x : Int), (zb_xs (zb_tl c) (zb_vl c ls st h))[j]? = some x → x = u j := by
  obtain ⟨u, hX, hN, hs, hl, hj⟩ := zb_ini (n := []) (u := fun _ => 0) hp.tl (fun b q e => by simp at e)
  have e0 : za_start c = ((za_ini (zb_tl c) []).1, (c.1.map (fun z => z.1)).zip ((za_ini (zb_tl c) []).2.take c.1.length), ((za_ini (zb_tl c) []).2.drop c.1.length).take c.2.1.length, (c.2.2.1.map (fun z => z.1)).zip ((za_ini (zb_tl c) []).2.drop (c.1.length + c.2.1.length)), []) := rfl
  have hs0 : zb_S u (za_ini (zb_tl c) []).1.length (zb_vl c ls st h) (za_ini (zb_tl c) []).2 := hs
  obtain ⟨s1, s2⟩ := zb_A.splitL hs0
  rw [List.length_map] at s1 s2
  obtain ⟨s3, s4⟩ := zb_A.splitL s2
  rw [zb_A.len hp.2.1, List.drop_drop] at s4
  rw [zb_A.len hp.2.1] at s3
  refine ⟨u, ?_, ?_, fun j x e => by have := hj j x e; rw [this]; congr 1; simp⟩
  · rw [e0]
    exact ⟨hN, zb_zipL hp.1 s1, s3, zb_zipF hp.2.2 s4, fun z hz => absurd hz List.not_mem_nil⟩
  · rw [e0]; dsimp only; rw [hl]; simp
end
section
/-! ===== 18: a contract that the abstract interpreter finds kept is kept ===== -/
theorem zb_need {HT : List za_D} {h : zx_H} (hI : zb_I HT h) : ∀ {l : List ((Nat × Nat) × (Int × Int))} {n n' : za_N} {f f' : za_F} {u : Nat → Int}, za_need HT l n f = some (n', f') → zb_N u n → zb_F u n.length h f → ∃ u', zb_X u u' n.length n'.length ∧ zb_N u' n' ∧ zb_F u' n'.length h f'
  | [], n, n', f, f', u, e, hN, hF => by rw [za_need] at e; cases e; exact ⟨u, zb_X.rf, hN, hF⟩
  | z :: l, n, n', f, f', u, e, hN, hF => by
    rw [za_need] at e
    split at e
    · exact zb_need hI e hN hF
    · split at e
      · next ci fd hd =>
        split at e
        · next q hq =>
          obtain ⟨fs, e4, e5⟩ := hI.obj hd
          obtain ⟨v, e6, x, rfl, x1, x2⟩ := e5.at1 _ hq
          have hX : zb_X u (zb_up u n.length x.toInt) n.length (n ++ [q]).length := by rw [zb_len]; exact zb_up_X _ _ _
          obtain ⟨u', hX', a, b⟩ := zb_need hI e (zb_up_N (z := x.toInt) hN x1 x2) (fun y hy => by
            rcases List.mem_cons.mp hy with rfl | hy
            · exact ⟨.int x, by unfold zx_fld; rw [e4]; exact e6, by rw [zb_len]; exact zb_up_V _ _ _⟩
            · exact (hF.mo hX) y hy)
          exact ⟨u', hX.tr hX', a, b⟩
        · cases e
      · cases e
theorem zb_xs_app : ∀ {ts : List za_T} {vs : List Value} {ts' : List za_T} {vs' : List Value}, ts.length = vs.length → zb_xs (ts ++ ts') (vs ++ vs') = zb_xs ts vs ++ zb_xs ts' vs'
  | [], [], _, _, _ => rfl
  | .inl _ :: ts, v :: vs, ts', vs', h => by
    rw [List.cons_append, List.cons_append, zb_xs, zb_xs, zb_xs_app (by simpa using h), List.cons_append]
  | .inr _ :: ts, v :: vs, ts', vs', h => by
    rw [List.cons_append, List.cons_append, zb_xs, zb_xs, zb_xs_app (by simpa using h)]
  | [], _ :: _, _, _, h => by simp at h
  | _ :: _, [], _, _, h => by simp at h
theorem zb_mtI {u : Nat → Int} {n : za_N} {v : Value} {a : za_V} {q : Int × Int} (hN : zb_N u n) (hv : zb_V u n.length v a) (h : za_isI a = true) : zb_VI u n.length (zb_toI (some v)) a := by
  obtain ⟨x, rfl, _⟩ := zb_iv hN hv h
  exact zb_VI.of hv
theorem zb_xl {u : Nat → Int} {n : za_N} {ls : zx_L} {al : za_L} (hN : zb_N u n) (hL : zb_L u n.length ls al) : ∀ {l : List (Nat × za_T)}, za_lok n al l = true → (∀ z ∈ l, ∃ v, zx_lk ls z.1 = some v ∧ zb_T v z.2) ∧ zb_A (zb_VI u n.length) (zb_xs (l.map (fun z => z.2)) (l.map (fun z => (zx_lk ls z.1).getD .null))) (za_xl al l)
  | [], _ => ⟨fun z hz => absurd hz List.not_mem_nil, trivial⟩
  | (i, t) :: l, h => by
    unfold za_lok at h
    rw [List.all_cons] at h
    obtain ⟨h1, h2⟩ := zb_and h
    obtain ⟨a1, a2⟩ := zb_xl hN hL (l := l) h2
    dsimp only at h1
    split at h1
    · next v e =>
      obtain ⟨w, e1, e2⟩ := hL _ (za_lk_mem e)
      have e1 : zx_lk ls i = some w := e1
      have ht := zb_mt hN e2 h1
      refine ⟨fun z hz => ?_, ?_⟩
      · rcases List.mem_cons.mp hz with rfl | hz
        · exact ⟨w, e1, ht⟩
        · exact a1 z hz
      · rw [List.map_cons, List.map_cons]
        dsimp only
        rw [e1]
        cases t with
        | inl q =>
          rw [zb_xs, za_xl, e]
          exact ⟨zb_mtI (q := q) hN e2 (zb_and h1).1, a2⟩
        | inr t =>
          rw [zb_xs, za_xl]
          · exact a2
          · exact nofun
    · cases h1
theorem zb_xst {u : Nat → Int} {n : za_N} (hN : zb_N u n) : ∀ {ts : List za_T} {st : List Value} {as : List za_V}, zb_S u n.length st as → za_mts n ts as = true → zb_A (zb_VI u n.length) (zb_xs ts st) (za_xs ts as)
  | [], [], [], _, _ => trivial
  | [], [], _ :: _, h, _ => h.elim
  | [], _ :: _, [], h, _ => h.elim
  | [], _ :: _, _ :: _, _, e => by simp [za_mts] at e
  | .inl q :: ts, v :: st, a :: as, h, e => by
    rw [za_mts] at e
    obtain ⟨e1, e2⟩ := zb_and e
    exact ⟨zb_mtI (q := q) hN h.1 (zb_and e1).1, zb_xst hN h.2 e2⟩
  | .inr t :: ts, v :: st, a :: as, h, e => by
    rw [za_mts] at e
    obtain ⟨e1, e2⟩ := zb_and e
    rw [zb_xs, za_xs]
    · exact zb_xst hN h.2 e2
    · exact nofun
  | _ :: _, [], [], _, e => by simp [za_mts] at e
  | _ :: _, [], _ :: _, h, _ => h.elim
  | _ :: _, _ :: _, [], h, _ => h.elim
theorem zb_xf {u : Nat → Int} {n : za_N} {hp : zx_H} {f : za_F} (hN : zb_N u n) (hF : zb_F u n.length hp f) : ∀ {l : List ((Nat × Nat) × (Int × Int))}, za_fok n f l = true → (∀ z ∈ l, ∃ v, zx_fld hp z.1.1 z.1.2 = some v ∧ zb_T v (.inl z.2)) ∧ zb_A (zb_VI u n.length) (zb_xs (l.map (fun z => .inl z.2)) (l.map (fun z => (zx_fld hp z.1.1 z.1.2).getD .null))) (za_xf f l)
  | [], _ => ⟨fun z hz => absurd hz List.not_mem_nil, trivial⟩
  | z0 :: l, h => by
    unfold za_fok at h
    rw [List.all_cons] at h
    obtain ⟨h1, h2⟩ := zb_and h
    obtain ⟨a1, a2⟩ := zb_xf hN hF (l := l) h2
    split at h1
    · next v e =>
      obtain ⟨w, e1, e2⟩ := hF _ (za_fk_mem e)
      obtain ⟨c1, c2⟩ := zb_and h1
      obtain ⟨x, hx, x1, x2⟩ := zb_iv hN e2 c1
      have c3 := zb_sub2 c2
      have x1 : (za_iv n v).1 ≤ x.toInt := x1
      have x2 : x.toInt ≤ (za_iv n v).2 := x2
      refine ⟨fun z hz => ?_, ?_⟩
      · rcases List.mem_cons.mp hz with rfl | hz
        · exact ⟨w, e1, x, hx, by omega, by omega⟩
        · exact a1 z hz
      · rw [List.map_cons, List.map_cons]
        have e1' : zx_fld hp z0.1.1 z0.1.2 = some w := e1
        rw [e1', zb_xs, za_xf, e]
        exact ⟨zb_mtI (q := z0.2) hN e2 c1, a2⟩
    · cases h1
theorem zb_arr {P : zx_P} {d : Nat} {HT : List za_D} {ent : Bool} {mu : Int × List Int} {s : za_S} {c : za_Q} {u u0 : Nat → Int} {n0 : Nat} {ls : zx_L} {st : List Value} {h : zx_H} (ha : za_arr HT ent mu s c = true) (hQ : zb_Q P d u s ls st h) (hI : zb_I HT h) (hX0 : zb_X u0 u n0 s.1.length) (hmu : mu.2.length ≤ n0) : zb_P c ls st h ∧ (ent = false → zb_mu c ls st h < mu.1 - zb_ev u0 (za_neg 0 mu.2)) := by
  obtain ⟨n, al, as, f, cf⟩ := s
  obtain ⟨hN, hL, hs, hF, hC⟩ := hQ
  dsimp only at hN hL hs hF hC hX0
  unfold za_arr at ha
  dsimp only at ha
  split at ha
  · cases ha
  · next n' f' e =>
    obtain ⟨u', hX, hN', hF'⟩ := zb_need hI e hN hF
    obtain ⟨ha, h4⟩ := zb_and ha
    obtain ⟨ha, h3⟩ := zb_and ha
    obtain ⟨h1, h2⟩ := zb_and ha
    obtain ⟨p1, q1⟩ := zb_xl hN' (hL.mo hX) h1
    obtain ⟨p3, q3⟩ := zb_xf hN' hF' h3
    have hs' := hs.mo hX
    have p2 := zb_mts hN' hs' h2
    have q2 := zb_xst hN' hs' h2
    refine ⟨⟨p1, p2, p3⟩, fun he => ?_⟩
    subst he
    dsimp only at h4
    have hxs : zb_A (zb_VI u' n'.length) (zb_xs (zb_tl c) (zb_vl c ls st h)) (za_xl al c.1 ++ (za_xs c.2.1 as ++ za_xf f' c.2.2.1)) := by
      unfold zb_tl zb_vl
      rw [zb_xs_app (by rw [List.length_map, List.length_map]), zb_xs_app (zb_A.len p2).symm]
      exact zb_A.app q1 (zb_A.app q2 q3)
    obtain ⟨l1, l2⟩ := zb_lin (ws := c.2.2.2.2) hxs
    have hneg : ∀ q ∈ za_neg 0 mu.2, q.1 < n'.length := fun q hq => by
      have h5 := zb_neg_lt mu.2 0 q hq
      have h6 := hX0.1
      have h7 := hX.1
      omega
    have hev : zb_ev u' (za_neg 0 mu.2) = zb_ev u0 (za_neg 0 mu.2) := zb_ev_eq fun q hq => by
      have h5 := zb_neg_lt mu.2 0 q hq
      have h6 := hX0.1
      rw [hX.2 q.1 (by omega), hX0.2 q.1 (by omega)]
    have hub := zb_ev_sm u' n' ((za_lin c.2.2.2.2 (za_xl al c.1 ++ (za_xs c.2.1 as ++ za_xf f' c.2.2.1))).2 ++ za_neg 0 mu.2) (fun q hq => by
      rcases List.mem_append.mp hq with hq | hq
      · exact l2 q hq
      · exact hneg q hq)
    have hub2 := zb_sm_ub ((za_lin c.2.2.2.2 (za_xl al c.1 ++ (za_xs c.2.1 as ++ za_xf f' c.2.2.1))).2 ++ za_neg 0 mu.2) u' n' 0 (fun j q hq => by rw [Nat.zero_add]; exact hN' j q hq)
    rw [zb_ev_app, hev] at hub
    rw [za_le_iff] at h4
    unfold zb_mu
    omega
section ZBC
variable {P : zx_P} {HT : List za_D} {KT : List za_K} {q : zx_M} {k : za_K} {CT : List (Nat × za_Q)} {ent : Bool} {mu : Int × List Int}
theorem zb_ck (hK : ∀ k ∈ KT, zb_K P HT k) {u0 : Nat → Int} {n0 : Nat} (hmu : mu.2.length ≤ n0) {h0 : zx_H} {F : Option Value → zx_H → Prop}
    (hcert : ∀ (pc : Nat) (c : za_Q), za_ct CT pc = some c → ∀ (ls : zx_L) (st : List Value) (h : zx_H), zb_P c ls st h → zb_I HT h → zb_W k.2.2.2.2 h0 h → (k.2.2.2.2 = [] → h = h0) → (ent = false → zb_mu c ls st h < mu.1 - zb_ev u0 (za_neg 0 mu.2)) → zx_T P k.2.1 q pc ls st h F)
    (hret : ∀ (r : Option Value) (v : Option za_V) (n : za_N) (u : Nat → Int) (h : zx_H), za_ret ent k n v = true → zb_N u n → zb_X u0 u n0 n.length → zb_Rv u n.length r v → zb_I HT h → zb_W k.2.2.2.2 h0 h → (k.2.2.2.2 = [] → h = h0) → F r h) :
    ∀ (g : Nat) (b : Bool) (s : za_S) (pc : Nat) (u : Nat → Int) (ls : zx_L) (st : List Value) (h : zx_H), za_ck P HT KT q k CT ent mu g b s pc = true → zb_Q P (k.2.1 - 1) u s ls st h → zb_X u0 u n0 s.1.length → zb_I HT h → zb_W k.2.2.2.2 h0 h → (k.2.2.2.2 = [] → h = h0) → zx_T P k.2.1 q pc ls st h F := by
  intro g
  induction g with
  | zero => intro b s pc u ls st h hc; simp [za_ck] at hc
  | succ g ih =>
    intro b s pc u ls st h hc hQ hX hI hW hw
    unfold za_ck at hc
    split at hc
    · next c e =>
      cases b with
      | false => cases e
      | true =>
        obtain ⟨p1, p2⟩ := zb_arr hc hQ hI hX hmu
        exact hcert pc c e ls st h p1 hI hW hw p2
    · split at hc
      · cases hc
      · next l hl =>
        have hall := List.all_eq_true.mp hc
        refine zb_one hK hl hQ hI (fun r v h1 h2 => hret r v s.1 u h h1 hQ.1 hX h2 hI hW hw) (fun s' pc' u' ls' st' h' hm hX' hQ' hI' hW' hw' => ?_)
        exact ih true s' pc' u' ls' st' h' (hall _ hm) hQ' (hX.tr hX') hI' (hW.tr hW') (fun z => (hw' z).trans (hw z))
end ZBC
theorem zb_args {u : Nat → Int} {n : Nat} : ∀ {vs : List Value} {as : List za_V} (i : Nat), zb_S u n vs as → ∀ q ∈ za_args i as, i ≤ q.1 ∧ ∃ v, zx_lk (lv_args i vs) q.1 = some v ∧ zb_V u n v q.2
  | [], [], i, _ => fun q hq => absurd hq List.not_mem_nil
  | [], _ :: _, _, h => h.elim
  | _ :: _, [], _, h => h.elim
  | v :: vs, a :: as, i, h => by
    intro q hq
    rw [za_args] at hq
    rw [lv_args]
    rcases List.mem_cons.mp hq with rfl | hq
    · exact ⟨Nat.le_refl _, v, zx_lk_hd, h.1⟩
    · have e : (if v.category = 2 then i + 2 else i + 1) = if za_isL a then i + 2 else i + 1 := by
        rw [zb_cat h.1]
        cases za_isL a <;> rfl
      obtain ⟨h1, w, h2, h3⟩ := zb_args (if za_isL a then i + 2 else i + 1) h.2 q hq
      have h4 : i + 1 ≤ q.1 := by
        split at h1 <;> omega
      exact ⟨by omega, w, by rw [zx_lk_tl (by omega), e]; exact h2, h3⟩
theorem zb_caF : ∀ {ts : List za_T} {vs : List Value} {cs : List (Int × Int)} {n : za_N} {b : Nat}, zb_A zb_T vs ts → za_ca false n b ts cs = true → zb_ca vs ts cs
  | [], [], _, _, _, _, _ => trivial
  | [], _ :: _, _, _, _, h, _ => h.elim
  | _ :: _, [], _, _, _, h, _ => h.elim
  | .inl q :: ts, v :: vs, [], _, _, _, e => by simp [za_ca] at e
  | .inl q :: ts, v :: vs, c :: cs, n, b, h, e => by
    rw [za_ca] at e
    obtain ⟨e1, e2⟩ := zb_and e
    obtain ⟨x, rfl, x1, x2⟩ := h.1
    have := zb_sub2 e1
    exact ⟨⟨x, rfl, by omega, by omega⟩, zb_caF h.2 e2⟩
  | .inr _ :: ts, v :: vs, cs, n, b, h, e => by
    rw [za_ca] at e
    · rw [zb_ca]; exact zb_caF (b := b) h.2 e
    · exact nofun
    · exact nofun
theorem zb_caT {u : Nat → Int} {n : za_N} (hN : zb_N u n) : ∀ {ts : List za_T} {vs : List Value} {cs : List (Int × Int)} {b : Nat}, zb_A zb_T vs ts → (∀ (j : Nat) (x : Int), (zb_xs ts vs)[j]? = some x → x = u (b + j)) → za_ca true n b ts cs = true → zb_ca vs ts cs
  | [], [], _, _, _, _, _ => trivial
  | [], _ :: _, _, _, h, _, _ => h.elim
  | _ :: _, [], _, _, h, _, _ => h.elim
  | .inl q :: ts, v :: vs, [], _, _, _, e => by simp [za_ca] at e
  | .inl q :: ts, v :: vs, c :: cs, b, h, hj, e => by
    rw [za_ca] at e
    obtain ⟨e1, e2⟩ := zb_and e
    obtain ⟨x, rfl, x1, x2⟩ := h.1
    have hx : x.toInt = u b := hj 0 x.toInt rfl
    have := zb_sub2 e1
    refine ⟨⟨x, rfl, ?_⟩, zb_caT hN (b := b + 1) h.2 (fun j y z => by rw [show b + 1 + j = b + (j + 1) by omega]; exact hj (j + 1) y z) e2⟩
    split at this
    · next z hz => have := hN b z hz; omega
    · omega
  | .inr _ :: ts, v :: vs, cs, b, h, hj, e => by
    rw [za_ca] at e
    · rw [zb_ca]; exact zb_caT hN (b := b) h.2 hj e
    · exact nofun
    · exact nofun
theorem zb_rm {u : Nat → Int} {n : za_N} {r : Option Value} {v : Option za_V} {t : Option za_T} (hN : zb_N u n) (h : zb_Rv u n.length r v) (e : za_rm n t v = true) : zb_R r t := by
  unfold za_rm at e
  split at e
  · cases r with
    | none => trivial
    | some w => exact h.elim
  · cases r with
    | none => exact h.elim
    | some w => exact zb_mt hN h e
  · cases e
theorem zb_mlo : ∀ {ws : List Int} {n : za_N} {u : Nat → Int} {xs : List Int} {b : Nat}, (∀ (j : Nat) (q : Int × Int), n[j]? = some q → q.1 ≤ u (b + j) ∧ u (b + j) ≤ q.2) → n.length = xs.length → (∀ (j : Nat) (x : Int), xs[j]? = some x → x = u (b + j)) → za_mlo ws n ≤ zb_dot ws xs
  | [], [], _, _, _, _, _, _ => by simp [za_mlo, zb_dot]
  | [], _ :: _, _, _, _, _, _, _ => by simp [za_mlo, zb_dot]
  | w :: ws, [], _, xs, _, _, h, _ => by
    cases xs with
    | nil => simp [za_mlo, zb_dot]
    | cons _ _ => simp at h
  | w :: ws, q :: n, u, [], _, _, h, _ => by simp at h
  | w :: ws, q :: n, u, x :: xs, b, h, hl, hx => by
    have h1 := h 0 q rfl
    have h2 := hx 0 x rfl
    rw [Nat.add_zero] at h1 h2
    have h3 := zb_mlo (ws := ws) (n := n) (xs := xs) (u := u) (b := b + 1) (fun j q e => by rw [show b + 1 + j = b + (j + 1) by omega]; exact h (j + 1) q e) (by simpa using hl) (fun j y e => by rw [show b + 1 + j = b + (j + 1) by omega]; exact hx (j + 1) y e)
    rw [za_mlo, zb_dot, h2]
    split
    · next e =>
      have e := za_le_iff.mp e
      have := Int.mul_le_mul_of_nonneg_left h1.1 e
      omega
    · next e =>
      have e : ¬ 0 ≤ w := fun z => Bool.noConfusion (e.symm.trans (za_le_iff.mpr z))
      have := Int.mul_le_mul_of_nonpos_left (a := w) (by omega) h1.2
      omega
theorem za_ct_mem {CT : List (Nat × za_Q)} {pc : Nat} {c : za_Q} (h : za_ct CT pc = some c) : (pc, c) ∈ CT := by
  induction CT with
  | nil => simp [za_ct] at h
  | cons z r ih =>
    rw [za_ct] at h
    split at h
    · next e =>
      have : z = (pc, c) := by rw [← Nat.eq_of_beq_eq_true e, ← Option.some.inj h]
      rw [this]; exact List.mem_cons_self
    · exact List.mem_cons_of_mem _ (ih h)
set_option maxHeartbeats 2000000 in
theorem zb_okK {P : zx_P} {HT : List za_D} {KT : List za_K} {k : za_K} {CT : List (Nat × za_Q)} {g : Nat} (hK : ∀ k ∈ KT, zb_K P HT k) (hk : za_okK P HT KT k CT g = true) : zb_K P HT k := by
  intro q hq vs h0 hv hI0
  unfold za_okK at hk
  rw [hq] at hk
  dsimp only at hk
  obtain ⟨hk1, hk2⟩ := zb_and hk
  have hk2 := List.all_eq_true.mp hk2
  -- places, by their measures
  have hcert : ∀ (m : Nat) (pc : Nat) (c : za_Q), za_ct CT pc = some c → ∀ (ls : zx_L) (st : List Value) (h : zx_H), zb_P c ls st h → zb_I HT h → zb_W k.2.2.2.2 h0 h → (k.2.2.2.2 = [] → h = h0) → zb_mu c ls st h ≤ m → zx_T P k.2.1 q pc ls st h (fun r h' => zb_I HT h' ∧ zb_W k.2.2.2.2 h0 h' ∧ (k.2.2.2.2 = [] → h' = h0) ∧ ∃ c ∈ k.2.2.2.1, zb_R r c.1 ∧ zb_ca vs k.2.2.1 c.2) := by
    intro m
    induction m with
    | zero =>
      intro pc c hc ls st h hp hI hW hw hm
      have h9 := hk2 _ (za_ct_mem hc)
      obtain ⟨h9, h8⟩ := zb_and h9
      obtain ⟨h9, h7⟩ := zb_and h9
      obtain ⟨u, hQ, hl, hj⟩ := zb_start P (k.2.1 - 1) hp
      have h7 := Nat.le_of_ble_eq_true h7
      have hmu : zb_mu c ls st h = c.2.2.2.1 - zb_ev u (za_neg 0 c.2.2.2.2) := by
        rw [zb_neg_ev u c.2.2.2.2 (zb_xs (zb_tl c) (zb_vl c ls st h)) 0 (by rw [← hl]; exact h7) (fun j x e => by rw [Nat.zero_add]; exact hj j x e)]
        unfold zb_mu; omega
      refine zb_ck (ent := false) hK (u0 := u) (n0 := (za_start c).1.length) h7 (fun pc' c' hc' ls' st' h' hp' hI' hW' hw' hm' => ?_) (fun r v n9 u9 h9 hr hN9 hX9 hv9 hI9 hW9 hw9 => ?_) g false (za_start c) pc u ls st h h9 hQ zb_X.rf hI hW hw
      · exfalso
        have h6 := hk2 _ (za_ct_mem hc')
        obtain ⟨_, h5⟩ := zb_and h6
        rw [za_le_iff] at h5
        obtain ⟨u2, hQ2, hl2, hj2⟩ := zb_start P (k.2.1 - 1) hp'
        have h4 := zb_mlo (ws := c'.2.2.2.2) (b := 0) (u := u2) (fun j q e => by rw [Nat.zero_add]; exact hQ2.1 j q e) hl2 (fun j x e => by rw [Nat.zero_add]; exact hj2 j x e)
        have h3 := hm' rfl
        unfold zb_mu at h3 hm hmu
        dsimp only at h5 h3
        omega
      · obtain ⟨c9, hc9, e9⟩ := List.any_eq_true.mp hr
        obtain ⟨e1, e2⟩ := zb_and e9
        exact ⟨hI9, hW9, hw9, c9, hc9, zb_rm hN9 hv9 e1, zb_caF hv e2⟩
    | succ m ih =>
      intro pc c hc ls st h hp hI hW hw hm
      have h9 := hk2 _ (za_ct_mem hc)
      obtain ⟨h9, h8⟩ := zb_and h9
      obtain ⟨h9, h7⟩ := zb_and h9
      obtain ⟨u, hQ, hl, hj⟩ := zb_start P (k.2.1 - 1) hp
      have h7 := Nat.le_of_ble_eq_true h7
      have hmu : zb_mu c ls st h = c.2.2.2.1 - zb_ev u (za_neg 0 c.2.2.2.2) := by
        rw [zb_neg_ev u c.2.2.2.2 (zb_xs (zb_tl c) (zb_vl c ls st h)) 0 (by rw [← hl]; exact h7) (fun j x e => by rw [Nat.zero_add]; exact hj j x e)]
        unfold zb_mu; omega
      refine zb_ck (ent := false) hK (u0 := u) (n0 := (za_start c).1.length) h7 (fun pc' c' hc' ls' st' h' hp' hI' hW' hw' hm' => ?_) (fun r v n9 u9 h9 hr hN9 hX9 hv9 hI9 hW9 hw9 => ?_) g false (za_start c) pc u ls st h h9 hQ zb_X.rf hI hW hw
      · refine ih pc' c' hc' ls' st' h' hp' hI' hW' hw' ?_
        have h3 := hm' rfl
        dsimp only at h3
        omega
      · obtain ⟨c9, hc9, e9⟩ := List.any_eq_true.mp hr
        obtain ⟨e1, e2⟩ := zb_and e9
        exact ⟨hI9, hW9, hw9, c9, hc9, zb_rm hN9 hv9 e1, zb_caF hv e2⟩
  -- from the start
  obtain ⟨u, hX, hN, hs, hl, hj⟩ := zb_ini (n := []) (u := fun _ => 0) hv (fun b q e => by simp at e)
  refine zb_ck (ent := true) (mu := (0, [])) hK (u0 := u) (n0 := (za_ini k.2.2.1 []).1.length) (Nat.zero_le _) (fun pc' c' hc' ls' st' h' hp' hI' hW' hw' hm' => ?_) (fun r v n9 u9 h9 hr hN9 hX9 hv9 hI9 hW9 hw9 => ?_) g true _ 0 u _ [] h0 hk1 ⟨hN, fun z hz => (zb_args 0 hs z hz).2, trivial, fun z hz => absurd hz List.not_mem_nil, fun z hz => absurd hz List.not_mem_nil⟩ zb_X.rf hI0 zb_W.rf (fun _ => rfl)
  · exact hcert (zb_mu c' ls' st' h').toNat pc' c' hc' ls' st' h' hp' hI' hW' hw' (by omega)
  · obtain ⟨c9, hc9, e9⟩ := List.any_eq_true.mp hr
    obtain ⟨e1, e2⟩ := zb_and e9
    refine ⟨hI9, hW9, hw9, c9, hc9, zb_rm hN9 hv9 e1, zb_caT hN9 (b := 0) hv (fun j x e => ?_) e2⟩
    have h1 := hj j x e
    have h2 : j < (zb_xs k.2.2.1 vs).length := (List.getElem?_eq_some_iff.mp e).1
    rw [h1]
    have : ([] : za_N).length + j = 0 + j := by simp
    rw [this]
    exact (hX9.2 _ (by rw [hl]; simp; exact h2)).symm
end
section
/-! ===== 20: the cells of class and reference, and what they may hold (by program) ===== -/
def zc_H : List za_D := [.inr (9, [.inr (.inr 1), .inr (.inr 10), .inr (.inr 16), .inr (.inr 22), .inr (.inr 27), .inr (.inr 34), .inl ((-2147483648), 2147483647)]), .inr (0, [.inr (.inr 2), .inr (.inr 3), .inr (.inr 4), .inl (0, 60), .inr (.inr 5), .inr (.inr 6), .inr (.inr 7), .inr (.inr 8), .inl (0, 6), .inr (.inr 9), .inl (0, 8)]), .inl (0, 60, (-2147483648), 2147483647), .inl (0, 60, (-2147483648), 2147483647), .inl (0, 60, (-2147483648), 2147483647), .inl (0, 6, (-2147483648), 2147483647), .inl (0, 6, (-2147483648), 2147483647), .inl (0, 6, (-2147483648), 2147483647), .inl (0, 6, (-2147483648), 2147483647), .inl (0, 8, (-2147483648), 2147483647), .inr (1, [.inr (.inr 11), .inr (.inr 14), .inr (.inr 15), .inl (0, 60)]), .inr (8, [.inr (.inr 12), .inr (.inr 13)]), .inl (0, 840, (-2147483648), 2147483647), .inl (0, 60, (-2147483648), 2147483647), .inl (0, 60, (-2147483648), 2147483647), .inl (0, 60, (-2147483648), 2147483647), .inr (4, [.inr (.inr 1), .inr (.inr 10), .inr (.inr 17), .inr (.inr 20), .inl (0, 1), .inl (0, 1), .inl (0, 3421), .inl ((-2147483648), 2147483647)]), .inr (8, [.inr (.inr 18), .inr (.inr 19)]), .inl (0, 840, (-2147483648), 2147483647), .inl (0, 60, (-2147483648), 2147483647), .inr (7, [.inr (.inr 21), .inl (0, 6)]), .inl (0, 14, (-2147483648), 2147483647), .inr (2, [.inr (.inr 1), .inr (.inr 16), .inr (.inr 10), .inr (.inr 23), .inr (.inr 25)]), .inr (7, [.inr (.inr 24), .inl (0, 6)]), .inl (0, 14, (-2147483648), 2147483647), .inr (7, [.inr (.inr 26), .inl (0, 6)]), .inl (0, 14, (-2147483648), 2147483647), .inr (5, [.inr (.inr 1), .inr (.inr 10), .inr (.inr 28), .inr (.inr 30), .inl (0, 2940), .inr (.inr 31), .inl (0, 8), .inr (.inr 32), .inl (0, 8), .inr (.inr 33), .inl (0, 6)]), .inr (7, [.inr (.inr 29), .inl (0, 6)]), .inl (0, 14, (-2147483648), 2147483647), .inl (0, 2940, (-2147483648), 2147483647), .inl (0, 8, (-2147483648), 2147483647), .inl (0, 8, (-2147483648), 2147483647), .inl (0, 6, (-2147483648), 2147483647), .inr (3, [.inr (.inr 1), .inr (.inr 35), .inr (.inr 36), .inr (.inr 38), .inr (.inr 39), .inr (.inr 40), .inr (.inr 41), .inl (0, 1), .inl (0, 1), .inl ((-2147483648), 2147483647), .inl (0, 300), .inl ((-2147483648), 2147483647), .inl ((-2147483648), 2147483647), .inr (.inl ()), .inl ((-2147483648), 2147483647)]), .inl (1, 8, (-2147483648), 2147483647), .inr (7, [.inr (.inr 37), .inl (0, 6)]), .inl (0, 14, (-2147483648), 2147483647), .inl (1, 14, (-2147483648), 2147483647), .inl (1, 3, (-2147483648), 2147483647), .inl (0, 3, (-2147483648), 2147483647), .inr (6, [.inr (.inr 42), .inr (.inr 43), .inl (0, 158)]), .inl (0, 158, 0, 20), .inl (0, 3160, (-2147483648), 2147483647), .inr (10, [.inl ((-2147483648), 2147483647), .inl (0, 60), .inr (.inr 45), .inr (.inr 46), .inr (.inr 47), .inl (0, 6), .inr (.inr 48), .inr (.inr 49), .inr (.inr 50), .inr (.inr 51), .inl (0, 8), .inr (.inr 52), .inr (.inr 53), .inl (0, 1), .inl ((-2147483648), 2147483647), .inl ((-2147483648), 2147483647), .inr (.inr 54), .inr (.inr 55), .inr (.inr 56), .inl (0, 60), .inr (.inr 57), .inr (.inr 58), .inr (.inr 59), .inr (.inr 60), .inr (.inr 61), .inl (0, 6), .inl (0, 7), .inl (0, 1), .inr (.inr 62), .inr (.inr 63), .inl (0, 4000), .inr (.inr 64), .inr (.inr 65), .inr (.inr 66), .inr (.inr 67), .inr (.inr 68), .inr (.inr 69), .inr (.inr 70), .inl (0, 400), .inr (.inr 71), .inr (.inr 72), .inl ((-2147483648), 2147483647), .inl (0, 1), .inl ((-2147483648), 2147483647), .inl (0, 1), .inl ((-2147483648), 2147483647), .inr (.inl ()), .inl ((-2147483648), 2147483647), .inl ((-2147483648), 2147483647), .inl ((-2147483648), 2147483647), .inl ((-1), 59)]), .inl (0, 60, 0, 28), .inl (0, 60, (-2147483648), 2147483647), .inl (0, 60, (-2147483648), 2147483647), .inl (0, 6, 0, 60), .inl (0, 6, 0, 60), .inl (0, 6, 0, 60), .inl (0, 6, 0, 8), .inl (0, 8, 0, 8), .inl (1, 8, (-2147483648), 2147483647), .inl (2, 60, 0, 1), .inl (0, 840, 0, 8), .inl (0, 60, 0, 6), .inl (0, 60, 0, 59), .inl (0, 60, 0, 8), .inl (0, 60, 0, 6), .inl (0, 840, 0, 8), .inl (0, 14, 0, 8), .inl (0, 14, 0, 8), .inl (0, 14, 0, 8), .inl (0, 4000, (-2147483648), 2147483647), .inl (0, 14, 0, 8), .inl (0, 14, 0, 8), .inl (0, 14, 0, 8), .inl (0, 14, 0, 8), .inl (1, 14, (-2147483648), 2147483647), .inl (0, 14, 0, 8), .inl (0, 400, (-2147483648), 2147483647), .inl (0, 8000, (-2147483648), 2147483647), .inl (1, 1, (-2147483648), 2147483647)]
end
section
/-! ===== 21: contracts, found kept (by program) ===== -/
/-- ClassFrames$Code.addParameter .inr (.inr 1) .inl (1, 8) -/
def zc_a0 : za_K := (0, 0, [.inr (.inr 1), .inl (1, 8)], [(some (.inl ((-4), 7)), [(1, 8)])], [(1, 10), (9, 0)])
set_option maxRecDepth 100000 in
theorem zc_ao0 : zb_K zp_P zc_H zc_a0 := zb_okK (KT := []) (CT := []) (g := 45) (fun _ h => absurd h List.not_mem_nil) (by decide +kernel)
/-- ClassFrames$Maker.undo .inr (.inr 16) -/
def zc_a1 : za_K := (78, 0, [.inr (.inr 16)], [(none, [])], [(16, 4)])
set_option maxRecDepth 100000 in
theorem zc_ao1 : zb_K zp_P zc_H zc_a1 := zb_okK (KT := []) (CT := []) (g := 11) (fun _ h => absurd h List.not_mem_nil) (by decide +kernel)
/-- ClassFrames.parameter .inr (.inr 0) .inl ((-2147483648), 2147483647) -/
def zc_a2 : za_K := (136, 1, [.inr (.inr 0), .inl ((-2147483648), 2147483647)], [(some (.inl ((-4), 7)), [((-2147483648), 2147483647)])], [(1, 10), (9, 0), (16, 4)])
set_option maxRecDepth 100000 in
theorem zc_ao2 : zb_K zp_P zc_H zc_a2 := zb_okK (KT := [zc_a1, zc_a0]) (CT := []) (g := 32) (List.forall_mem_cons.mpr ⟨zc_ao1, List.forall_mem_cons.mpr ⟨zc_ao0, fun _ h => absurd h List.not_mem_nil⟩⟩) (by decide +kernel)
/-- ClassFrames$Code.addInstruction .inr (.inr 1) .inl (0, 28) .inl ((-2147483648), 2147483647) .inl ((-2147483648), 2147483647) -/
def zc_a3 : za_K := (1, 0, [.inr (.inr 1), .inl (0, 28), .inl ((-2147483648), 2147483647), .inl ((-2147483648), 2147483647)], [(some (.inl ((-4), 59)), [(0, 28), ((-2147483648), 2147483647), ((-2147483648), 2147483647)])], [(1, 3), (2, 0), (3, 0), (4, 0)])
set_option maxRecDepth 100000 in
theorem zc_ao3 : zb_K zp_P zc_H zc_a3 := zb_okK (KT := []) (CT := []) (g := 37) (fun _ h => absurd h List.not_mem_nil) (by decide +kernel)
/-- ClassFrames.operation .inr (.inr 0) .inl ((-2147483648), 2147483647) .inl ((-2147483648), 2147483647) .inl ((-2147483648), 2147483647) -/
def zc_a4 : za_K := (137, 1, [.inr (.inr 0), .inl ((-2147483648), 2147483647), .inl ((-2147483648), 2147483647), .inl ((-2147483648), 2147483647)], [(some (.inl ((-4), 59)), [((-2147483648), 2147483647), ((-2147483648), 2147483647), ((-2147483648), 2147483647)])], [(1, 3), (2, 0), (3, 0), (4, 0), (16, 4)])
set_option maxRecDepth 100000 in
theorem zc_ao4 : zb_K zp_P zc_H zc_a4 := zb_okK (KT := [zc_a1, zc_a3]) (CT := []) (g := 36) (List.forall_mem_cons.mpr ⟨zc_ao1, List.forall_mem_cons.mpr ⟨zc_ao3, fun _ h => absurd h List.not_mem_nil⟩⟩) (by decide +kernel)
/-- ClassFrames.isBound .inl ((-2147483648), 2147483647) -/
def zc_a5 : za_K := (153, 0, [.inl ((-2147483648), 2147483647)], [(some (.inl (0, 0)), [((-2147483648), 2147483647)]), (some (.inl (1, 1)), [(0, 60)])], [])
set_option maxRecDepth 100000 in
theorem zc_ao5 : zb_K zp_P zc_H zc_a5 := zb_okK (KT := []) (CT := []) (g := 15) (fun _ h => absurd h List.not_mem_nil) (by decide +kernel)
/-- ClassFrames$Code.addHandler .inr (.inr 1) .inl (0, 60) .inl (0, 60) .inl (0, 60) .inl (7, 8) -/
def zc_a6 : za_K := (2, 0, [.inr (.inr 1), .inl (0, 60), .inl (0, 60), .inl (0, 60), .inl (7, 8)], [(some (.inl ((-4), 5)), [(0, 60), (0, 60), (0, 60), (7, 8)])], [(1, 8), (5, 0), (6, 0), (7, 0), (8, 0)])
set_option maxRecDepth 100000 in
theorem zc_ao6 : zb_K zp_P zc_H zc_a6 := zb_okK (KT := []) (CT := []) (g := 43) (fun _ h => absurd h List.not_mem_nil) (by decide +kernel)
/-- ClassFrames.handler .inr (.inr 0) .inl ((-2147483648), 2147483647) .inl ((-2147483648), 2147483647) .inl ((-2147483648), 2147483647) .inl ((-2147483648), 2147483647) -/
def zc_a7 : za_K := (138, 1, [.inr (.inr 0), .inl ((-2147483648), 2147483647), .inl ((-2147483648), 2147483647), .inl ((-2147483648), 2147483647), .inl ((-2147483648), 2147483647)], [(some (.inl ((-4), 5)), [((-2147483648), 2147483647), ((-2147483648), 2147483647), ((-2147483648), 2147483647), ((-2147483648), 2147483647)])], [(1, 8), (5, 0), (6, 0), (7, 0), (8, 0), (16, 4)])
set_option maxRecDepth 100000 in
theorem zc_ao7 : zb_K zp_P zc_H zc_a7 := zb_okK (KT := [zc_a1, zc_a6, zc_a5]) (CT := []) (g := 38) (List.forall_mem_cons.mpr ⟨zc_ao1, List.forall_mem_cons.mpr ⟨zc_ao6, List.forall_mem_cons.mpr ⟨zc_ao5, fun _ h => absurd h List.not_mem_nil⟩⟩⟩) (by decide +kernel)
/-- ClassFrames.refusedAt .inl ((-2147483648), 2147483647) -/
def zc_a8 : za_K := (154, 0, [.inl ((-2147483648), 2147483647)], [(some (.inl ((-2147483648), 2147483647)), [((-2147483648), 2147483647)])], [])
set_option maxRecDepth 100000 in
theorem zc_ao8 : zb_K zp_P zc_H zc_a8 := zb_okK (KT := []) (CT := []) (g := 11) (fun _ h => absurd h List.not_mem_nil) (by decide +kernel)
/-- ClassFrames$Frames.howMany .inr (.inr 10) -/
def zc_a9 : za_K := (30, 0, [.inr (.inr 10)], [(some (.inl (0, 60)), [])], [])
set_option maxRecDepth 100000 in
theorem zc_ao9 : zb_K zp_P zc_H zc_a9 := zb_okK (KT := []) (CT := []) (g := 10) (fun _ h => absurd h List.not_mem_nil) (by decide +kernel)
/-- ClassFrames$Maker.faultPlace .inr (.inr 16) -/
def zc_a10 : za_K := (80, 0, [.inr (.inr 16)], [(some (.inl ((-2147483648), 2147483647)), [])], [])
set_option maxRecDepth 100000 in
theorem zc_ao10 : zb_K zp_P zc_H zc_a10 := zb_okK (KT := []) (CT := []) (g := 10) (fun _ h => absurd h List.not_mem_nil) (by decide +kernel)
/-- ClassFrames$Code.places .inr (.inr 1) -/
def zc_a11 : za_K := (4, 0, [.inr (.inr 1)], [(some (.inl (0, 60)), [])], [])
set_option maxRecDepth 100000 in
theorem zc_ao11 : zb_K zp_P zc_H zc_a11 := zb_okK (KT := []) (CT := []) (g := 10) (fun _ h => absurd h List.not_mem_nil) (by decide +kernel)
/-- ClassFrames$Code.parameterKind .inr (.inr 1) .inl (0, 7) -/
def zc_a12 : za_K := (19, 0, [.inr (.inr 1), .inl (0, 7)], [(some (.inl ((-2147483648), 2147483647)), [(0, 7)])], [])
set_option maxRecDepth 100000 in
theorem zc_ao12 : zb_K zp_P zc_H zc_a12 := zb_okK (KT := []) (CT := []) (g := 19) (fun _ h => absurd h List.not_mem_nil) (by decide +kernel)
/-- ClassFrames$State.begin .inr (.inr 20) .inr (.inr 1) -/
def zc_a13 : za_K := (115, 1, [.inr (.inr 20), .inr (.inr 1)], [(none, [])], [(20, 1), (21, 0)])
set_option maxRecDepth 100000 in
theorem zc_ao13 : zb_K zp_P zc_H zc_a13 := zb_okK (KT := [zc_a12]) (CT := [(2, [(0, .inr (.inr 20)), (1, .inr (.inr 1)), (2, .inl (0, 8))], [], [], 17, [(-2)])]) (g := 20) (List.forall_mem_cons.mpr ⟨zc_ao12, fun _ h => absurd h List.not_mem_nil⟩) (by decide +kernel)
/-- J7.fill .inr (.inr 19) .inl ((-1), (-1)) -/
def zc_a14 : za_K := (221, 0, [.inr (.inr 19), .inl ((-1), (-1))], [(none, [((-1), (-1))])], [(19, 0)])
set_option maxRecDepth 100000 in
theorem zc_ao14 : zb_K zp_P zc_H zc_a14 := zb_okK (KT := []) (CT := [(5, [(0, .inr (.inr 19)), (1, .inl ((-1), (-1))), (2, .inl (0, 60)), (3, .inl (60, 60))], [], [], 121, [0, (-2)])]) (g := 17) (fun _ h => absurd h List.not_mem_nil) (by decide +kernel)
/-- ClassFrames$Table.forget .inr (.inr 17) -/
def zc_a15 : za_K := (129, 1, [.inr (.inr 17)], [(none, [])], [(19, 0)])
set_option maxRecDepth 100000 in
theorem zc_ao15 : zb_K zp_P zc_H zc_a15 := zb_okK (KT := [zc_a14]) (CT := []) (g := 12) (List.forall_mem_cons.mpr ⟨zc_ao14, fun _ h => absurd h List.not_mem_nil⟩) (by decide +kernel)
/-- ClassFrames$State.depth .inr (.inr 20) -/
def zc_a16 : za_K := (116, 0, [.inr (.inr 20)], [(some (.inl (0, 6)), [])], [])
set_option maxRecDepth 100000 in
theorem zc_ao16 : zb_K zp_P zc_H zc_a16 := zb_okK (KT := []) (CT := []) (g := 10) (fun _ h => absurd h List.not_mem_nil) (by decide +kernel)
/-- ClassFrames$State.kindOf .inr (.inr 20) .inl (0, 13) -/
def zc_a17 : za_K := (118, 0, [.inr (.inr 20), .inl (0, 13)], [(some (.inl ((-2147483648), 2147483647)), [(0, 13)])], [])
set_option maxRecDepth 100000 in
theorem zc_ao17 : zb_K zp_P zc_H zc_a17 := zb_okK (KT := []) (CT := []) (g := 18) (fun _ h => absurd h List.not_mem_nil) (by decide +kernel)
/-- ClassFrames$Table.write .inr (.inr 17) .inl (0, 59) .inr (.inr 20) -/
def zc_a18 : za_K := (134, 1, [.inr (.inr 17), .inl (0, 59), .inr (.inr 20)], [(none, [(0, 59)])], [(18, 0), (19, 0)])
set_option maxRecDepth 100000 in
theorem zc_ao18 : zb_K zp_P zc_H zc_a18 := zb_okK (KT := [zc_a16, zc_a17]) (CT := [(23, [(0, .inr (.inr 17)), (1, .inl (0, 59)), (2, .inr (.inr 20)), (3, .inl (0, 14))], [], [], 29, [0, (-2)])]) (g := 24) (List.forall_mem_cons.mpr ⟨zc_ao16, List.forall_mem_cons.mpr ⟨zc_ao17, fun _ h => absurd h List.not_mem_nil⟩⟩) (by decide +kernel)
/-- ClassFrames$Frames.forget .inr (.inr 10) -/
def zc_a19 : za_K := (27, 0, [.inr (.inr 10)], [(none, [])], [(10, 3)])
set_option maxRecDepth 100000 in
theorem zc_ao19 : zb_K zp_P zc_H zc_a19 := zb_okK (KT := []) (CT := []) (g := 11) (fun _ h => absurd h List.not_mem_nil) (by decide +kernel)
/-- ClassFrames$Maker.begin .inr (.inr 16) -/
def zc_a20 : za_K := (86, 2, [.inr (.inr 16)], [(none, [])], [(10, 3), (16, 4), (16, 5), (16, 6), (18, 0), (19, 0), (20, 1), (21, 0)])
set_option maxRecDepth 100000 in
theorem zc_ao20 : zb_K zp_P zc_H zc_a20 := zb_okK (KT := [zc_a13, zc_a15, zc_a19, zc_a18]) (CT := []) (g := 34) (List.forall_mem_cons.mpr ⟨zc_ao13, List.forall_mem_cons.mpr ⟨zc_ao15, List.forall_mem_cons.mpr ⟨zc_ao19, List.forall_mem_cons.mpr ⟨zc_ao18, fun _ h => absurd h List.not_mem_nil⟩⟩⟩⟩) (by decide +kernel)
/-- ClassFrames$Table.depthOf .inr (.inr 17) .inl (0, 59) -/
def zc_a21 : za_K := (130, 0, [.inr (.inr 17), .inl (0, 59)], [(some (.inl ((-2147483648), 2147483647)), [(0, 59)])], [])
set_option maxRecDepth 100000 in
theorem zc_ao21 : zb_K zp_P zc_H zc_a21 := zb_okK (KT := []) (CT := []) (g := 18) (fun _ h => absurd h List.not_mem_nil) (by decide +kernel)
/-- ClassFrames$Maker.isDead .inr (.inr 16) .inl (0, 59) -/
def zc_a22 : za_K := (83, 1, [.inr (.inr 16), .inl (0, 59)], [(some (.inl (0, 0)), [(0, 59)]), (some (.inl (1, 1)), [(0, 59)])], [])
set_option maxRecDepth 100000 in
theorem zc_ao22 : zb_K zp_P zc_H zc_a22 := zb_okK (KT := [zc_a21]) (CT := []) (g := 16) (List.forall_mem_cons.mpr ⟨zc_ao21, fun _ h => absurd h List.not_mem_nil⟩) (by decide +kernel)
/-- ClassFrames$State.setDepth .inr (.inr 20) .inl ((-2147483648), 2147483647) -/
def zc_a23 : za_K := (117, 1, [.inr (.inr 20), .inl ((-2147483648), 2147483647)], [(none, [((-2147483648), 2147483647)])], [(20, 1)])
set_option maxRecDepth 100000 in
theorem zc_ao23 : zb_K zp_P zc_H zc_a23 := zb_okK (KT := []) (CT := []) (g := 15) (fun _ h => absurd h List.not_mem_nil) (by decide +kernel)
/-- ClassFrames$State.setKind .inr (.inr 20) .inl (0, 13) .inl ((-2147483648), 2147483647) -/
def zc_a24 : za_K := (119, 0, [.inr (.inr 20), .inl (0, 13), .inl ((-2147483648), 2147483647)], [(none, [(0, 13), ((-2147483648), 2147483647)])], [(21, 0)])
set_option maxRecDepth 100000 in
theorem zc_ao24 : zb_K zp_P zc_H zc_a24 := zb_okK (KT := []) (CT := []) (g := 18) (fun _ h => absurd h List.not_mem_nil) (by decide +kernel)
/-- ClassFrames$Table.read .inr (.inr 17) .inl (0, 59) .inr (.inr 20) -/
def zc_a25 : za_K := (135, 2, [.inr (.inr 17), .inl (0, 59), .inr (.inr 20)], [(none, [(0, 59)])], [(20, 1), (21, 0)])
set_option maxRecDepth 100000 in
theorem zc_ao25 : zb_K zp_P zc_H zc_a25 := zb_okK (KT := [zc_a23, zc_a24]) (CT := [(23, [(0, .inr (.inr 17)), (1, .inl (0, 59)), (2, .inr (.inr 20)), (3, .inl (0, 14))], [], [], 29, [0, (-2)])]) (g := 24) (List.forall_mem_cons.mpr ⟨zc_ao23, List.forall_mem_cons.mpr ⟨zc_ao24, fun _ h => absurd h List.not_mem_nil⟩⟩) (by decide +kernel)
/-- ClassFrames$State.kindDown .inr (.inr 20) .inl (0, 1) -/
def zc_a26 : za_K := (120, 0, [.inr (.inr 20), .inl (0, 1)], [(some (.inl ((-2147483648), 2147483647)), [(0, 1)])], [])
set_option maxRecDepth 100000 in
theorem zc_ao26 : zb_K zp_P zc_H zc_a26 := zb_okK (KT := []) (CT := []) (g := 26) (fun _ h => absurd h List.not_mem_nil) (by decide +kernel)
/-- ClassFrames$State.drop .inr (.inr 20) .inl (1, 2) -/
def zc_a27 : za_K := (122, 0, [.inr (.inr 20), .inl (1, 2)], [(none, [(1, 2)])], [(20, 1)])
set_option maxRecDepth 100000 in
theorem zc_ao27 : zb_K zp_P zc_H zc_a27 := zb_okK (KT := []) (CT := []) (g := 19) (fun _ h => absurd h List.not_mem_nil) (by decide +kernel)
/-- ClassFrames$State.push .inr (.inr 20) .inl ((-2147483648), 2147483647) -/
def zc_a28 : za_K := (123, 1, [.inr (.inr 20), .inl ((-2147483648), 2147483647)], [(some (.inl (0, 3)), [((-2147483648), 2147483647)])], [(20, 1), (21, 0)])
set_option maxRecDepth 100000 in
theorem zc_ao28 : zb_K zp_P zc_H zc_a28 := zb_okK (KT := [zc_a24]) (CT := []) (g := 46) (List.forall_mem_cons.mpr ⟨zc_ao24, fun _ h => absurd h List.not_mem_nil⟩) (by decide +kernel)
/-- X4.goesAs .inl ((-2147483648), 2147483647) .inl ((-2147483648), 2147483647) -/
def zc_a29 : za_K := (49, 0, [.inl ((-2147483648), 2147483647), .inl ((-2147483648), 2147483647)], [(some (.inl (0, 0)), [((-2147483648), 2147483647), ((-2147483648), 2147483647)]), (some (.inl (1, 1)), [((-2147483648), 2147483647), ((-2147483648), 2147483647)])], [])
set_option maxRecDepth 100000 in
theorem zc_ao29 : zb_K zp_P zc_H zc_a29 := zb_okK (KT := []) (CT := []) (g := 23) (fun _ h => absurd h List.not_mem_nil) (by decide +kernel)
/-- X1.exchange .inr (.inr 20) .inl ((-2147483648), 2147483647) .inl ((-2147483648), 2147483647) -/
def zc_a30 : za_K := (21, 2, [.inr (.inr 20), .inl ((-2147483648), 2147483647), .inl ((-2147483648), 2147483647)], [(some (.inl (0, 3)), [((-2147483648), 2147483647), ((-2147483648), 2147483647)])], [(20, 1), (21, 0)])
set_option maxRecDepth 100000 in
theorem zc_ao30 : zb_K zp_P zc_H zc_a30 := zb_okK (KT := [zc_a26, zc_a27, zc_a28, zc_a29]) (CT := [(31, [(0, .inr (.inr 20)), (1, .inl (0, 28)), (2, .inl ((-2147483648), 2147483647)), (3, .inl ((-2147483648), 2147483647)), (4, .inl (0, 4))], [], [], 9, [0, 0, 0, (-2)])]) (g := 44) (List.forall_mem_cons.mpr ⟨zc_ao26, List.forall_mem_cons.mpr ⟨zc_ao27, List.forall_mem_cons.mpr ⟨zc_ao28, List.forall_mem_cons.mpr ⟨zc_ao29, fun _ h => absurd h List.not_mem_nil⟩⟩⟩⟩) (by decide +kernel)
/-- X1.load .inr (.inr 20) .inl ((-2147483648), 2147483647) -/
def zc_a31 : za_K := (22, 2, [.inr (.inr 20), .inl ((-2147483648), 2147483647)], [(some (.inl (0, 4)), [((-2147483648), 2147483647)])], [(20, 1), (21, 0)])
set_option maxRecDepth 100000 in
theorem zc_ao31 : zb_K zp_P zc_H zc_a31 := zb_okK (KT := [zc_a17, zc_a28]) (CT := []) (g := 25) (List.forall_mem_cons.mpr ⟨zc_ao17, List.forall_mem_cons.mpr ⟨zc_ao28, fun _ h => absurd h List.not_mem_nil⟩⟩) (by decide +kernel)
/-- ClassFrames$State.store .inr (.inr 20) .inl ((-2147483648), 2147483647) .inl ((-2147483648), 2147483647) -/
def zc_a32 : za_K := (124, 0, [.inr (.inr 20), .inl ((-2147483648), 2147483647), .inl ((-2147483648), 2147483647)], [(some (.inl (0, 4)), [((-2147483648), 2147483647), ((-2147483648), 2147483647)])], [(21, 0)])
set_option maxRecDepth 100000 in
theorem zc_ao32 : zb_K zp_P zc_H zc_a32 := zb_okK (KT := []) (CT := []) (g := 72) (fun _ h => absurd h List.not_mem_nil) (by decide +kernel)
/-- X1.store .inr (.inr 20) .inl ((-2147483648), 2147483647) -/
def zc_a33 : za_K := (23, 1, [.inr (.inr 20), .inl ((-2147483648), 2147483647)], [(some (.inl (0, 4)), [((-2147483648), 2147483647)])], [(20, 1), (21, 0)])
set_option maxRecDepth 100000 in
theorem zc_ao33 : zb_K zp_P zc_H zc_a33 := zb_okK (KT := [zc_a26, zc_a27, zc_a32]) (CT := []) (g := 32) (List.forall_mem_cons.mpr ⟨zc_ao26, List.forall_mem_cons.mpr ⟨zc_ao27, List.forall_mem_cons.mpr ⟨zc_ao32, fun _ h => absurd h List.not_mem_nil⟩⟩⟩) (by decide +kernel)
/-- X1.pop .inr (.inr 20) -/
def zc_a34 : za_K := (24, 1, [.inr (.inr 20)], [(some (.inl (0, 2)), [])], [(20, 1)])
set_option maxRecDepth 100000 in
theorem zc_ao34 : zb_K zp_P zc_H zc_a34 := zb_okK (KT := [zc_a26, zc_a27]) (CT := []) (g := 22) (List.forall_mem_cons.mpr ⟨zc_ao26, List.forall_mem_cons.mpr ⟨zc_ao27, fun _ h => absurd h List.not_mem_nil⟩⟩) (by decide +kernel)
/-- X1.popTwo .inr (.inr 20) -/
def zc_a35 : za_K := (25, 1, [.inr (.inr 20)], [(some (.inl (0, 2)), [])], [(20, 1)])
set_option maxRecDepth 100000 in
theorem zc_ao35 : zb_K zp_P zc_H zc_a35 := zb_okK (KT := [zc_a26, zc_a27]) (CT := []) (g := 22) (List.forall_mem_cons.mpr ⟨zc_ao26, List.forall_mem_cons.mpr ⟨zc_ao27, fun _ h => absurd h List.not_mem_nil⟩⟩) (by decide +kernel)
/-- X1.increase .inr (.inr 20) .inl ((-2147483648), 2147483647) -/
def zc_a36 : za_K := (26, 1, [.inr (.inr 20), .inl ((-2147483648), 2147483647)], [(some (.inl (0, 4)), [((-2147483648), 2147483647)])], [])
set_option maxRecDepth 100000 in
theorem zc_ao36 : zb_K zp_P zc_H zc_a36 := zb_okK (KT := [zc_a17]) (CT := []) (g := 20) (List.forall_mem_cons.mpr ⟨zc_ao17, fun _ h => absurd h List.not_mem_nil⟩) (by decide +kernel)
/-- X1.apply .inr (.inr 20) .inl ((-2147483648), 2147483647) .inl ((-2147483648), 2147483647) -/
def zc_a37 : za_K := (20, 3, [.inr (.inr 20), .inl ((-2147483648), 2147483647), .inl ((-2147483648), 2147483647)], [(some (.inl (0, 4)), [((-2147483648), 2147483647), ((-2147483648), 2147483647)])], [(20, 1), (21, 0)])
set_option maxRecDepth 100000 in
theorem zc_ao37 : zb_K zp_P zc_H zc_a37 := zb_okK (KT := [zc_a34, zc_a35, zc_a31, zc_a33, zc_a36, zc_a30]) (CT := []) (g := 14) (List.forall_mem_cons.mpr ⟨zc_ao34, List.forall_mem_cons.mpr ⟨zc_ao35, List.forall_mem_cons.mpr ⟨zc_ao31, List.forall_mem_cons.mpr ⟨zc_ao33, List.forall_mem_cons.mpr ⟨zc_ao36, List.forall_mem_cons.mpr ⟨zc_ao30, fun _ h => absurd h List.not_mem_nil⟩⟩⟩⟩⟩⟩) (by decide +kernel)
/-- ClassFrames$Code.hasPlace .inr (.inr 1) .inl ((-2147483648), 2147483647) -/
def zc_a38 : za_K := (7, 0, [.inr (.inr 1), .inl ((-2147483648), 2147483647)], [(some (.inl (0, 0)), [((-2147483648), 2147483647)]), (some (.inl (1, 1)), [(0, 59)])], [])
set_option maxRecDepth 100000 in
theorem zc_ao38 : zb_K zp_P zc_H zc_a38 := zb_okK (KT := []) (CT := []) (g := 16) (fun _ h => absurd h List.not_mem_nil) (by decide +kernel)
/-- ClassFrames$Code.opAt .inr (.inr 1) .inl ((-2147483648), 2147483647) -/
def zc_a39 : za_K := (8, 1, [.inr (.inr 1), .inl ((-2147483648), 2147483647)], [(some (.inl ((-2147483648), 2147483647)), [((-2147483648), 2147483647)])], [])
set_option maxRecDepth 100000 in
theorem zc_ao39 : zb_K zp_P zc_H zc_a39 := zb_okK (KT := [zc_a38]) (CT := []) (g := 17) (List.forall_mem_cons.mpr ⟨zc_ao38, fun _ h => absurd h List.not_mem_nil⟩) (by decide +kernel)
end
section
/-! ===== 21: contracts, found kept (by program) ===== -/
/-- ClassFrames$Code.firstAt .inr (.inr 1) .inl ((-2147483648), 2147483647) -/
def zc_a40 : za_K := (9, 1, [.inr (.inr 1), .inl ((-2147483648), 2147483647)], [(some (.inl ((-2147483648), 2147483647)), [((-2147483648), 2147483647)])], [])
set_option maxRecDepth 100000 in
theorem zc_ao40 : zb_K zp_P zc_H zc_a40 := zb_okK (KT := [zc_a38]) (CT := []) (g := 17) (List.forall_mem_cons.mpr ⟨zc_ao38, fun _ h => absurd h List.not_mem_nil⟩) (by decide +kernel)
/-- ClassFrames$Maker.workOp .inr (.inr 16) .inl (0, 59) -/
def zc_a41 : za_K := (88, 4, [.inr (.inr 16), .inl (0, 59)], [(some (.inl (0, 4)), [(0, 59)])], [(20, 1), (21, 0)])
set_option maxRecDepth 100000 in
theorem zc_ao41 : zb_K zp_P zc_H zc_a41 := zb_okK (KT := [zc_a25, zc_a39, zc_a40, zc_a37]) (CT := []) (g := 25) (List.forall_mem_cons.mpr ⟨zc_ao25, List.forall_mem_cons.mpr ⟨zc_ao39, List.forall_mem_cons.mpr ⟨zc_ao40, List.forall_mem_cons.mpr ⟨zc_ao37, fun _ h => absurd h List.not_mem_nil⟩⟩⟩⟩) (by decide +kernel)
/-- ClassFrames$State.leaveAlone .inr (.inr 20) .inl ((-2147483648), 2147483647) -/
def zc_a42 : za_K := (121, 0, [.inr (.inr 20), .inl ((-2147483648), 2147483647)], [(none, [((-2147483648), 2147483647)])], [(20, 1), (21, 0)])
set_option maxRecDepth 100000 in
theorem zc_ao42 : zb_K zp_P zc_H zc_a42 := zb_okK (KT := []) (CT := []) (g := 16) (fun _ h => absurd h List.not_mem_nil) (by decide +kernel)
/-- ClassFrames$Code.hasHandler .inr (.inr 1) .inl (0, 5) -/
def zc_a43 : za_K := (14, 0, [.inr (.inr 1), .inl (0, 5)], [(some (.inl (0, 0)), [(0, 5)]), (some (.inl (1, 1)), [(0, 5)])], [])
set_option maxRecDepth 100000 in
theorem zc_ao43 : zb_K zp_P zc_H zc_a43 := zb_okK (KT := []) (CT := []) (g := 16) (fun _ h => absurd h List.not_mem_nil) (by decide +kernel)
/-- ClassFrames$Code.handles .inr (.inr 1) .inl (0, 5) .inl ((-2147483648), 2147483647) -/
def zc_a44 : za_K := (15, 1, [.inr (.inr 1), .inl (0, 5), .inl ((-2147483648), 2147483647)], [(some (.inl (0, 0)), [(0, 5), ((-2147483648), 2147483647)]), (some (.inl (1, 1)), [(0, 5), ((-2147483648), 2147483646)])], [])
set_option maxRecDepth 100000 in
theorem zc_ao44 : zb_K zp_P zc_H zc_a44 := zb_okK (KT := [zc_a43]) (CT := []) (g := 26) (List.forall_mem_cons.mpr ⟨zc_ao43, fun _ h => absurd h List.not_mem_nil⟩) (by decide +kernel)
/-- ClassFrames$Code.handlerAt .inr (.inr 1) .inl (0, 5) -/
def zc_a45 : za_K := (16, 1, [.inr (.inr 1), .inl (0, 5)], [(some (.inl ((-2147483648), 2147483647)), [(0, 5)])], [])
set_option maxRecDepth 100000 in
theorem zc_ao45 : zb_K zp_P zc_H zc_a45 := zb_okK (KT := [zc_a43]) (CT := []) (g := 17) (List.forall_mem_cons.mpr ⟨zc_ao43, fun _ h => absurd h List.not_mem_nil⟩) (by decide +kernel)
/-- ClassFrames$Code.handlerKind .inr (.inr 1) .inl (0, 5) -/
def zc_a46 : za_K := (17, 1, [.inr (.inr 1), .inl (0, 5)], [(some (.inl ((-2147483648), 2147483647)), [(0, 5)])], [])
set_option maxRecDepth 100000 in
theorem zc_ao46 : zb_K zp_P zc_H zc_a46 := zb_okK (KT := [zc_a43]) (CT := []) (g := 17) (List.forall_mem_cons.mpr ⟨zc_ao43, fun _ h => absurd h List.not_mem_nil⟩) (by decide +kernel)
/-- ClassFrames$Code.handlers .inr (.inr 1) -/
def zc_a47 : za_K := (5, 0, [.inr (.inr 1)], [(some (.inl (0, 6)), [])], [])
set_option maxRecDepth 100000 in
theorem zc_ao47 : zb_K zp_P zc_H zc_a47 := zb_okK (KT := []) (CT := []) (g := 10) (fun _ h => absurd h List.not_mem_nil) (by decide +kernel)
/-- ClassFrames$Table.isCell .inr (.inr 17) .inl (0, 59) .inl (0, 2147483647) -/
def zc_a48 : za_K := (133, 0, [.inr (.inr 17), .inl (0, 59), .inl (0, 2147483647)], [(some (.inl (0, 0)), [(0, 59), (14, 2147483647)]), (some (.inl (1, 1)), [(0, 59), (0, 13)])], [])
set_option maxRecDepth 100000 in
theorem zc_ao48 : zb_K zp_P zc_H zc_a48 := zb_okK (KT := []) (CT := []) (g := 20) (fun _ h => absurd h List.not_mem_nil) (by decide +kernel)
/-- ClassFrames$Table.kindOf .inr (.inr 17) .inl (0, 59) .inl (0, 2147483647) -/
def zc_a49 : za_K := (131, 1, [.inr (.inr 17), .inl (0, 59), .inl (0, 2147483647)], [(some (.inl ((-2147483648), 2147483647)), [(0, 59), (0, 2147483647)])], [])
set_option maxRecDepth 100000 in
theorem zc_ao49 : zb_K zp_P zc_H zc_a49 := zb_okK (KT := [zc_a48]) (CT := []) (g := 22) (List.forall_mem_cons.mpr ⟨zc_ao48, fun _ h => absurd h List.not_mem_nil⟩) (by decide +kernel)
/-- ClassFrames$Table.setKind .inr (.inr 17) .inl (0, 59) .inl (0, 13) .inl ((-2147483648), 2147483647) -/
def zc_a50 : za_K := (132, 1, [.inr (.inr 17), .inl (0, 59), .inl (0, 13), .inl ((-2147483648), 2147483647)], [(none, [(0, 59), (0, 13), ((-2147483648), 2147483647)])], [(18, 0)])
set_option maxRecDepth 100000 in
theorem zc_ao50 : zb_K zp_P zc_H zc_a50 := zb_okK (KT := [zc_a48]) (CT := []) (g := 22) (List.forall_mem_cons.mpr ⟨zc_ao48, fun _ h => absurd h List.not_mem_nil⟩) (by decide +kernel)
/-- X4.joined .inl ((-2147483648), 2147483647) .inl ((-2147483648), 2147483647) -/
def zc_a51 : za_K := (50, 1, [.inl ((-2147483648), 2147483647), .inl ((-2147483648), 2147483647)], [(some (.inl ((-2147483648), 2147483647)), [((-2147483648), 2147483647), ((-2147483648), 2147483647)])], [])
set_option maxRecDepth 100000 in
theorem zc_ao51 : zb_K zp_P zc_H zc_a51 := zb_okK (KT := [zc_a29]) (CT := []) (g := 24) (List.forall_mem_cons.mpr ⟨zc_ao29, fun _ h => absurd h List.not_mem_nil⟩) (by decide +kernel)
/-- ClassFrames$Maker.joinAt .inr (.inr 16) .inl ((-2147483648), 2147483647) -/
def zc_a52 : za_K := (91, 2, [.inr (.inr 16), .inl ((-2147483648), 2147483647)], [(some (.inl (0, 7)), [((-2147483648), 2147483647)])], [(16, 5), (18, 0), (19, 0)])
set_option maxRecDepth 100000 in
theorem zc_ao52 : zb_K zp_P zc_H zc_a52 := zb_okK (KT := [zc_a16, zc_a17, zc_a18, zc_a21, zc_a22, zc_a49, zc_a38, zc_a50, zc_a51]) (CT := [(63, [(0, .inr (.inr 16)), (1, .inl (0, 59)), (2, .inl (0, 14))], [], [], 29, [0, (-2)])]) (g := 42) (List.forall_mem_cons.mpr ⟨zc_ao16, List.forall_mem_cons.mpr ⟨zc_ao17, List.forall_mem_cons.mpr ⟨zc_ao18, List.forall_mem_cons.mpr ⟨zc_ao21, List.forall_mem_cons.mpr ⟨zc_ao22, List.forall_mem_cons.mpr ⟨zc_ao49, List.forall_mem_cons.mpr ⟨zc_ao38, List.forall_mem_cons.mpr ⟨zc_ao50, List.forall_mem_cons.mpr ⟨zc_ao51, fun _ h => absurd h List.not_mem_nil⟩⟩⟩⟩⟩⟩⟩⟩⟩) (by decide +kernel)
/-- ClassFrames$Maker.workHandlers .inr (.inr 16) .inl (0, 59) -/
def zc_a53 : za_K := (89, 3, [.inr (.inr 16), .inl (0, 59)], [(some (.inl (0, 7)), [(0, 59)])], [(16, 5), (18, 0), (19, 0), (20, 1), (21, 0)])
set_option maxRecDepth 100000 in
theorem zc_ao53 : zb_K zp_P zc_H zc_a53 := zb_okK (KT := [zc_a47, zc_a45, zc_a46, zc_a25, zc_a42, zc_a52, zc_a44]) (CT := [(2, [(0, .inr (.inr 16)), (1, .inl (0, 59)), (2, .inl (0, 6))], [], [], 13, [0, (-2)])]) (g := 43) (List.forall_mem_cons.mpr ⟨zc_ao47, List.forall_mem_cons.mpr ⟨zc_ao45, List.forall_mem_cons.mpr ⟨zc_ao46, List.forall_mem_cons.mpr ⟨zc_ao25, List.forall_mem_cons.mpr ⟨zc_ao42, List.forall_mem_cons.mpr ⟨zc_ao52, List.forall_mem_cons.mpr ⟨zc_ao44, fun _ h => absurd h List.not_mem_nil⟩⟩⟩⟩⟩⟩⟩) (by decide +kernel)
/-- ClassFrames$Code.goesOn .inr (.inr 1) .inl (0, 59) -/
def zc_a54 : za_K := (11, 2, [.inr (.inr 1), .inl (0, 59)], [(some (.inl (0, 0)), [(0, 59)]), (some (.inl (1, 1)), [(0, 59)])], [])
set_option maxRecDepth 100000 in
theorem zc_ao54 : zb_K zp_P zc_H zc_a54 := zb_okK (KT := [zc_a39]) (CT := []) (g := 20) (List.forall_mem_cons.mpr ⟨zc_ao39, fun _ h => absurd h List.not_mem_nil⟩) (by decide +kernel)
/-- ClassFrames$Code.ways .inr (.inr 1) .inl (0, 59) -/
def zc_a55 : za_K := (12, 2, [.inr (.inr 1), .inl (0, 59)], [(some (.inl (0, 2)), [(0, 59)])], [])
set_option maxRecDepth 100000 in
theorem zc_ao55 : zb_K zp_P zc_H zc_a55 := zb_okK (KT := [zc_a39]) (CT := []) (g := 23) (List.forall_mem_cons.mpr ⟨zc_ao39, fun _ h => absurd h List.not_mem_nil⟩) (by decide +kernel)
/-- ClassFrames$Code.secondAt .inr (.inr 1) .inl ((-2147483648), 2147483647) -/
def zc_a56 : za_K := (10, 1, [.inr (.inr 1), .inl ((-2147483648), 2147483647)], [(some (.inl ((-2147483648), 2147483647)), [((-2147483648), 2147483647)])], [])
set_option maxRecDepth 100000 in
theorem zc_ao56 : zb_K zp_P zc_H zc_a56 := zb_okK (KT := [zc_a38]) (CT := []) (g := 17) (List.forall_mem_cons.mpr ⟨zc_ao38, fun _ h => absurd h List.not_mem_nil⟩) (by decide +kernel)
/-- ClassFrames$Code.way .inr (.inr 1) .inl (0, 59) .inl (0, 1) -/
def zc_a57 : za_K := (13, 2, [.inr (.inr 1), .inl (0, 59), .inl (0, 1)], [(some (.inl ((-2147483648), 2147483647)), [(0, 59), (0, 1)])], [])
set_option maxRecDepth 100000 in
theorem zc_ao57 : zb_K zp_P zc_H zc_a57 := zb_okK (KT := [zc_a40, zc_a56]) (CT := []) (g := 14) (List.forall_mem_cons.mpr ⟨zc_ao40, List.forall_mem_cons.mpr ⟨zc_ao56, fun _ h => absurd h List.not_mem_nil⟩⟩) (by decide +kernel)
/-- ClassFrames$Maker.workWays .inr (.inr 16) .inl (0, 59) -/
def zc_a58 : za_K := (90, 3, [.inr (.inr 16), .inl (0, 59)], [(some (.inl (0, 7)), [(0, 59)])], [(16, 5), (18, 0), (19, 0)])
set_option maxRecDepth 100000 in
theorem zc_ao58 : zb_K zp_P zc_H zc_a58 := zb_okK (KT := [zc_a54, zc_a55, zc_a57, zc_a38, zc_a52]) (CT := [(2, [(0, .inr (.inr 16)), (1, .inl (0, 59)), (2, .inl (0, 2))], [], [], 5, [0, (-2)])]) (g := 32) (List.forall_mem_cons.mpr ⟨zc_ao54, List.forall_mem_cons.mpr ⟨zc_ao55, List.forall_mem_cons.mpr ⟨zc_ao57, List.forall_mem_cons.mpr ⟨zc_ao38, List.forall_mem_cons.mpr ⟨zc_ao52, fun _ h => absurd h List.not_mem_nil⟩⟩⟩⟩⟩) (by decide +kernel)
/-- ClassFrames$Maker.goRound .inr (.inr 16) -/
def zc_a59 : za_K := (87, 5, [.inr (.inr 16)], [(some (.inl (0, 7)), [])], [(16, 5), (16, 7), (18, 0), (19, 0), (20, 1), (21, 0)])
set_option maxRecDepth 100000 in
theorem zc_ao59 : zb_K zp_P zc_H zc_a59 := zb_okK (KT := [zc_a11, zc_a22, zc_a41, zc_a53, zc_a58]) (CT := [(2, [(0, .inr (.inr 16)), (1, .inl (0, 60))], [], [], 121, [(-2)])]) (g := 39) (List.forall_mem_cons.mpr ⟨zc_ao11, List.forall_mem_cons.mpr ⟨zc_ao22, List.forall_mem_cons.mpr ⟨zc_ao41, List.forall_mem_cons.mpr ⟨zc_ao53, List.forall_mem_cons.mpr ⟨zc_ao58, fun _ h => absurd h List.not_mem_nil⟩⟩⟩⟩⟩) (by decide +kernel)
/-- ClassFrames$Table.write .inr (.inr 11) .inl (0, 59) .inr (.inr 20) -/
def zc_a60 : za_K := (134, 1, [.inr (.inr 11), .inl (0, 59), .inr (.inr 20)], [(none, [(0, 59)])], [(12, 0), (13, 0)])
set_option maxRecDepth 100000 in
theorem zc_ao60 : zb_K zp_P zc_H zc_a60 := zb_okK (KT := [zc_a16, zc_a17]) (CT := [(23, [(0, .inr (.inr 11)), (1, .inl (0, 59)), (2, .inr (.inr 20)), (3, .inl (0, 14))], [], [], 29, [0, (-2)])]) (g := 24) (List.forall_mem_cons.mpr ⟨zc_ao16, List.forall_mem_cons.mpr ⟨zc_ao17, fun _ h => absurd h List.not_mem_nil⟩⟩) (by decide +kernel)
/-- ClassFrames$Frames.usedLocals .inr (.inr 20) -/
def zc_a61 : za_K := (29, 1, [.inr (.inr 20)], [(some (.inl (0, 8)), [])], [])
set_option maxRecDepth 100000 in
theorem zc_ao61 : zb_K zp_P zc_H zc_a61 := zb_okK (KT := [zc_a17]) (CT := [(3, [(0, .inr (.inr 20)), (1, .inl (0, 8))], [], [], 1, [2])]) (g := 18) (List.forall_mem_cons.mpr ⟨zc_ao17, fun _ h => absurd h List.not_mem_nil⟩) (by decide +kernel)
/-- ClassFrames$Frames.add .inr (.inr 10) .inl (0, 59) .inr (.inr 20) -/
def zc_a62 : za_K := (28, 2, [.inr (.inr 10), .inl (0, 59), .inr (.inr 20)], [(none, [(0, 59)])], [(10, 3), (12, 0), (13, 0), (14, 0), (15, 0)])
set_option maxRecDepth 100000 in
theorem zc_ao62 : zb_K zp_P zc_H zc_a62 := zb_okK (KT := [zc_a61, zc_a60]) (CT := []) (g := 37) (List.forall_mem_cons.mpr ⟨zc_ao61, List.forall_mem_cons.mpr ⟨zc_ao60, fun _ h => absurd h List.not_mem_nil⟩⟩) (by decide +kernel)
/-- ClassFrames$Maker.isHandlers .inr (.inr 16) .inl (0, 59) -/
def zc_a63 : za_K := (93, 2, [.inr (.inr 16), .inl (0, 59)], [(some (.inl (0, 0)), [(0, 59)]), (some (.inl (1, 1)), [(0, 59)])], [])
set_option maxRecDepth 100000 in
theorem zc_ao63 : zb_K zp_P zc_H zc_a63 := zb_okK (KT := [zc_a47, zc_a45]) (CT := [(2, [(0, .inr (.inr 16)), (1, .inl (0, 59)), (2, .inl (0, 6))], [], [], 13, [0, (-2)])]) (g := 21) (List.forall_mem_cons.mpr ⟨zc_ao47, List.forall_mem_cons.mpr ⟨zc_ao45, fun _ h => absurd h List.not_mem_nil⟩⟩) (by decide +kernel)
/-- ClassFrames$Maker.isGoneTo .inr (.inr 16) .inl (0, 59) -/
def zc_a64 : za_K := (94, 3, [.inr (.inr 16), .inl (0, 59)], [(some (.inl (0, 0)), [(0, 59)]), (some (.inl (1, 1)), [(0, 59)])], [])
set_option maxRecDepth 100000 in
theorem zc_ao64 : zb_K zp_P zc_H zc_a64 := zb_okK (KT := [zc_a11, zc_a22, zc_a55, zc_a57]) (CT := [(2, [(0, .inr (.inr 16)), (1, .inl (0, 59)), (2, .inl (0, 60))], [], [], 426, [0, (-7)]), (15, [(0, .inr (.inr 16)), (1, .inl (0, 59)), (2, .inl (0, 59)), (3, .inl (0, 2))], [], [], 425, [0, (-7), (-2)])]) (g := 27) (List.forall_mem_cons.mpr ⟨zc_ao11, List.forall_mem_cons.mpr ⟨zc_ao22, List.forall_mem_cons.mpr ⟨zc_ao55, List.forall_mem_cons.mpr ⟨zc_ao57, fun _ h => absurd h List.not_mem_nil⟩⟩⟩⟩) (by decide +kernel)
/-- ClassFrames$Maker.isBehindGap .inr (.inr 16) .inl (0, 59) -/
def zc_a65 : za_K := (95, 3, [.inr (.inr 16), .inl (0, 59)], [(some (.inl (0, 0)), [(0, 59)]), (some (.inl (1, 1)), [(1, 59)])], [])
set_option maxRecDepth 100000 in
theorem zc_ao65 : zb_K zp_P zc_H zc_a65 := zb_okK (KT := [zc_a22, zc_a54]) (CT := []) (g := 25) (List.forall_mem_cons.mpr ⟨zc_ao22, List.forall_mem_cons.mpr ⟨zc_ao54, fun _ h => absurd h List.not_mem_nil⟩⟩) (by decide +kernel)
/-- ClassFrames$Maker.gatherFrames .inr (.inr 16) -/
def zc_a66 : za_K := (92, 4, [.inr (.inr 16)], [(none, [])], [(10, 3), (12, 0), (13, 0), (14, 0), (15, 0), (20, 1), (21, 0)])
set_option maxRecDepth 100000 in
theorem zc_ao66 : zb_K zp_P zc_H zc_a66 := zb_okK (KT := [zc_a11, zc_a22, zc_a25, zc_a62, zc_a63, zc_a64, zc_a65]) (CT := [(2, [(0, .inr (.inr 16)), (1, .inl (0, 60))], [], [], 121, [(-2)])]) (g := 43) (List.forall_mem_cons.mpr ⟨zc_ao11, List.forall_mem_cons.mpr ⟨zc_ao22, List.forall_mem_cons.mpr ⟨zc_ao25, List.forall_mem_cons.mpr ⟨zc_ao62, List.forall_mem_cons.mpr ⟨zc_ao63, List.forall_mem_cons.mpr ⟨zc_ao64, List.forall_mem_cons.mpr ⟨zc_ao65, fun _ h => absurd h List.not_mem_nil⟩⟩⟩⟩⟩⟩⟩) (by decide +kernel)
/-- ClassFrames$Maker.workOut .inr (.inr 16) -/
def zc_a67 : za_K := (85, 6, [.inr (.inr 16)], [(some (.inl (0, 7)), [])], [(10, 3), (12, 0), (13, 0), (14, 0), (15, 0), (16, 4), (16, 5), (16, 6), (16, 7), (18, 0), (19, 0), (20, 1), (21, 0)])
set_option maxRecDepth 100000 in
theorem zc_ao67 : zb_K zp_P zc_H zc_a67 := zb_okK (KT := [zc_a11, zc_a20, zc_a59, zc_a66]) (CT := [(24, [(0, .inr (.inr 16)), (1, .inl (0, 7))], [], [((16, 6), 0, 3421)], 6843, [0, (-2)])]) (g := 30) (List.forall_mem_cons.mpr ⟨zc_ao11, List.forall_mem_cons.mpr ⟨zc_ao20, List.forall_mem_cons.mpr ⟨zc_ao59, List.forall_mem_cons.mpr ⟨zc_ao66, fun _ h => absurd h List.not_mem_nil⟩⟩⟩⟩) (by decide +kernel)
/-- ClassFrames.make .inr (.inr 0) -/
def zc_a68 : za_K := (139, 7, [.inr (.inr 0)], [(some (.inl ((-2147483648), 2147483647)), [])], [(0, 6), (10, 3), (12, 0), (13, 0), (14, 0), (15, 0), (16, 4), (16, 5), (16, 6), (16, 7), (18, 0), (19, 0), (20, 1), (21, 0)])
set_option maxRecDepth 100000 in
theorem zc_ao68 : zb_K zp_P zc_H zc_a68 := zb_okK (KT := [zc_a9, zc_a10, zc_a67, zc_a8]) (CT := []) (g := 20) (List.forall_mem_cons.mpr ⟨zc_ao9, List.forall_mem_cons.mpr ⟨zc_ao10, List.forall_mem_cons.mpr ⟨zc_ao67, List.forall_mem_cons.mpr ⟨zc_ao8, fun _ h => absurd h List.not_mem_nil⟩⟩⟩⟩) (by decide +kernel)
/-- ClassFrames.fault .inr (.inr 0) -/
def zc_a69 : za_K := (140, 0, [.inr (.inr 0)], [(some (.inl ((-2147483648), 2147483647)), [])], [])
set_option maxRecDepth 100000 in
theorem zc_ao69 : zb_K zp_P zc_H zc_a69 := zb_okK (KT := []) (CT := []) (g := 10) (fun _ h => absurd h List.not_mem_nil) (by decide +kernel)
/-- ClassFrames$Maker.isMade .inr (.inr 16) -/
def zc_a70 : za_K := (77, 0, [.inr (.inr 16)], [(some (.inl (0, 1)), [])], [])
set_option maxRecDepth 100000 in
theorem zc_ao70 : zb_K zp_P zc_H zc_a70 := zb_okK (KT := []) (CT := []) (g := 10) (fun _ h => absurd h List.not_mem_nil) (by decide +kernel)
/-- ClassFrames$Maker.depthAt .inr (.inr 16) .inl (0, 59) -/
def zc_a71 : za_K := (81, 1, [.inr (.inr 16), .inl (0, 59)], [(some (.inl ((-2147483648), 2147483647)), [(0, 59)])], [])
set_option maxRecDepth 100000 in
theorem zc_ao71 : zb_K zp_P zc_H zc_a71 := zb_okK (KT := [zc_a21]) (CT := []) (g := 12) (List.forall_mem_cons.mpr ⟨zc_ao21, fun _ h => absurd h List.not_mem_nil⟩) (by decide +kernel)
/-- ClassFrames$Maker.kindAt .inr (.inr 16) .inl (0, 59) .inl (0, 2147483646) -/
def zc_a72 : za_K := (82, 2, [.inr (.inr 16), .inl (0, 59), .inl (0, 2147483646)], [(some (.inl ((-2147483648), 2147483647)), [(0, 59), (0, 2147483646)])], [])
set_option maxRecDepth 100000 in
theorem zc_ao72 : zb_K zp_P zc_H zc_a72 := zb_okK (KT := [zc_a22, zc_a49]) (CT := []) (g := 17) (List.forall_mem_cons.mpr ⟨zc_ao22, List.forall_mem_cons.mpr ⟨zc_ao49, fun _ h => absurd h List.not_mem_nil⟩⟩) (by decide +kernel)
/-- ClassFrames.kind .inr (.inr 0) .inl ((-2147483648), 2147483647) .inl ((-2147483648), 2147483647) -/
def zc_a73 : za_K := (141, 3, [.inr (.inr 0), .inl ((-2147483648), 2147483647), .inl ((-2147483648), 2147483647)], [(some (.inl ((-2147483648), 2147483647)), [((-2147483648), 2147483647), ((-2147483648), 2147483647)])], [])
set_option maxRecDepth 100000 in
theorem zc_ao73 : zb_K zp_P zc_H zc_a73 := zb_okK (KT := [zc_a70, zc_a71, zc_a72, zc_a38]) (CT := []) (g := 33) (List.forall_mem_cons.mpr ⟨zc_ao70, List.forall_mem_cons.mpr ⟨zc_ao71, List.forall_mem_cons.mpr ⟨zc_ao72, List.forall_mem_cons.mpr ⟨zc_ao38, fun _ h => absurd h List.not_mem_nil⟩⟩⟩⟩) (by decide +kernel)
/-- ClassFrames.size .inr (.inr 0) .inl ((-2147483648), 2147483647) -/
def zc_a74 : za_K := (142, 2, [.inr (.inr 0), .inl ((-2147483648), 2147483647)], [(some (.inl ((-2147483648), 2147483647)), [((-2147483648), 2147483647)])], [])
set_option maxRecDepth 100000 in
theorem zc_ao74 : zb_K zp_P zc_H zc_a74 := zb_okK (KT := [zc_a70, zc_a71, zc_a38]) (CT := []) (g := 22) (List.forall_mem_cons.mpr ⟨zc_ao70, List.forall_mem_cons.mpr ⟨zc_ao71, List.forall_mem_cons.mpr ⟨zc_ao38, fun _ h => absurd h List.not_mem_nil⟩⟩⟩) (by decide +kernel)
/-- ClassFrames$Frames.has .inr (.inr 10) .inl (0, 2147483647) -/
def zc_a75 : za_K := (31, 0, [.inr (.inr 10), .inl (0, 2147483647)], [(some (.inl (0, 0)), [(0, 2147483647)]), (some (.inl (1, 1)), [(0, 59)])], [])
set_option maxRecDepth 100000 in
theorem zc_ao75 : zb_K zp_P zc_H zc_a75 := zb_okK (KT := []) (CT := []) (g := 16) (fun _ h => absurd h List.not_mem_nil) (by decide +kernel)
/-- ClassFrames$Frames.placeOf .inr (.inr 10) .inl (0, 59) -/
def zc_a76 : za_K := (32, 1, [.inr (.inr 10), .inl (0, 59)], [(some (.inl ((-2147483648), 2147483647)), [(0, 59)])], [])
set_option maxRecDepth 100000 in
theorem zc_ao76 : zb_K zp_P zc_H zc_a76 := zb_okK (KT := [zc_a75]) (CT := []) (g := 17) (List.forall_mem_cons.mpr ⟨zc_ao75, fun _ h => absurd h List.not_mem_nil⟩) (by decide +kernel)
/-- ClassFrames$Frames.localsOf .inr (.inr 10) .inl (0, 2147483647) -/
def zc_a77 : za_K := (33, 1, [.inr (.inr 10), .inl (0, 2147483647)], [(some (.inl ((-2147483648), 2147483647)), [(0, 2147483647)])], [])
set_option maxRecDepth 100000 in
theorem zc_ao77 : zb_K zp_P zc_H zc_a77 := zb_okK (KT := [zc_a75]) (CT := []) (g := 17) (List.forall_mem_cons.mpr ⟨zc_ao75, fun _ h => absurd h List.not_mem_nil⟩) (by decide +kernel)
/-- ClassFrames$Table.depthOf .inr (.inr 11) .inl (0, 59) -/
def zc_a78 : za_K := (130, 0, [.inr (.inr 11), .inl (0, 59)], [(some (.inl ((-2147483648), 2147483647)), [(0, 59)])], [])
set_option maxRecDepth 100000 in
theorem zc_ao78 : zb_K zp_P zc_H zc_a78 := zb_okK (KT := []) (CT := []) (g := 18) (fun _ h => absurd h List.not_mem_nil) (by decide +kernel)
/-- ClassFrames$Frames.stackOf .inr (.inr 10) .inl (0, 59) -/
def zc_a79 : za_K := (34, 1, [.inr (.inr 10), .inl (0, 59)], [(some (.inl ((-2147483648), 2147483647)), [(0, 59)])], [])
set_option maxRecDepth 100000 in
theorem zc_ao79 : zb_K zp_P zc_H zc_a79 := zb_okK (KT := [zc_a78, zc_a75]) (CT := []) (g := 17) (List.forall_mem_cons.mpr ⟨zc_ao78, List.forall_mem_cons.mpr ⟨zc_ao75, fun _ h => absurd h List.not_mem_nil⟩⟩) (by decide +kernel)
end
section
/-! ===== 21: contracts, found kept (by program) ===== -/
/-- ClassFrames$Table.isCell .inr (.inr 11) .inl (0, 2147483647) .inl ((-2147483648), 2147483647) -/
def zc_a80 : za_K := (133, 0, [.inr (.inr 11), .inl (0, 2147483647), .inl ((-2147483648), 2147483647)], [(some (.inl (0, 0)), [(0, 2147483647), ((-2147483648), 2147483647)]), (some (.inl (1, 1)), [(0, 59), (0, 13)])], [])
set_option maxRecDepth 100000 in
theorem zc_ao80 : zb_K zp_P zc_H zc_a80 := zb_okK (KT := []) (CT := []) (g := 20) (fun _ h => absurd h List.not_mem_nil) (by decide +kernel)
/-- ClassFrames$Table.kindOf .inr (.inr 11) .inl (0, 59) .inl ((-2147483648), 2147483647) -/
def zc_a81 : za_K := (131, 1, [.inr (.inr 11), .inl (0, 59), .inl ((-2147483648), 2147483647)], [(some (.inl ((-2147483648), 2147483647)), [(0, 59), ((-2147483648), 2147483647)])], [])
set_option maxRecDepth 100000 in
theorem zc_ao81 : zb_K zp_P zc_H zc_a81 := zb_okK (KT := [zc_a80]) (CT := []) (g := 22) (List.forall_mem_cons.mpr ⟨zc_ao80, fun _ h => absurd h List.not_mem_nil⟩) (by decide +kernel)
/-- ClassFrames$Frames.hasEntry .inr (.inr 10) .inl (0, 2147483647) .inl (0, 2147483647) -/
def zc_a82 : za_K := (40, 2, [.inr (.inr 10), .inl (0, 2147483647), .inl (0, 2147483647)], [(some (.inl (0, 0)), [(0, 2147483647), (0, 2147483647)]), (some (.inl (1, 1)), [(0, 59), (0, 2147483646)])], [])
set_option maxRecDepth 100000 in
theorem zc_ao82 : zb_K zp_P zc_H zc_a82 := zb_okK (KT := [zc_a79, zc_a75, zc_a77]) (CT := []) (g := 25) (List.forall_mem_cons.mpr ⟨zc_ao79, List.forall_mem_cons.mpr ⟨zc_ao75, List.forall_mem_cons.mpr ⟨zc_ao77, fun _ h => absurd h List.not_mem_nil⟩⟩⟩) (by decide +kernel)
/-- ClassFrames$Frames.column .inr (.inr 10) .inl (0, 2147483647) .inl (0, 2147483647) -/
def zc_a83 : za_K := (41, 2, [.inr (.inr 10), .inl (0, 2147483647), .inl (0, 2147483647)], [(some (.inl ((-2147483648), 2147483647)), [(0, 2147483647), (0, 2147483647)])], [])
set_option maxRecDepth 100000 in
theorem zc_ao83 : zb_K zp_P zc_H zc_a83 := zb_okK (KT := [zc_a77]) (CT := []) (g := 20) (List.forall_mem_cons.mpr ⟨zc_ao77, fun _ h => absurd h List.not_mem_nil⟩) (by decide +kernel)
/-- ClassFrames$Frames.entry .inr (.inr 10) .inl (0, 2147483647) .inl (0, 2147483647) -/
def zc_a84 : za_K := (38, 3, [.inr (.inr 10), .inl (0, 2147483647), .inl (0, 2147483647)], [(some (.inl ((-2147483648), 2147483647)), [(0, 2147483647), (0, 2147483647)])], [])
set_option maxRecDepth 100000 in
theorem zc_ao84 : zb_K zp_P zc_H zc_a84 := zb_okK (KT := [zc_a82, zc_a83, zc_a81]) (CT := []) (g := 22) (List.forall_mem_cons.mpr ⟨zc_ao82, List.forall_mem_cons.mpr ⟨zc_ao83, List.forall_mem_cons.mpr ⟨zc_ao81, fun _ h => absurd h List.not_mem_nil⟩⟩⟩) (by decide +kernel)
/-- ClassFrames$Frames.tell .inr (.inr 10) .inl (0, 2147483647) .inl (0, 2147483647) -/
def zc_a85 : za_K := (37, 4, [.inr (.inr 10), .inl (0, 2147483647), .inl (0, 2147483647)], [(some (.inl ((-2147483648), 2147483647)), [(0, 2147483647), (0, 2147483647)])], [])
set_option maxRecDepth 100000 in
theorem zc_ao85 : zb_K zp_P zc_H zc_a85 := zb_okK (KT := [zc_a76, zc_a79, zc_a75, zc_a77, zc_a84]) (CT := []) (g := 20) (List.forall_mem_cons.mpr ⟨zc_ao76, List.forall_mem_cons.mpr ⟨zc_ao79, List.forall_mem_cons.mpr ⟨zc_ao75, List.forall_mem_cons.mpr ⟨zc_ao77, List.forall_mem_cons.mpr ⟨zc_ao84, fun _ h => absurd h List.not_mem_nil⟩⟩⟩⟩⟩) (by decide +kernel)
/-- ClassFrames.frame .inr (.inr 0) .inl ((-2147483648), 2147483647) .inl ((-2147483648), 2147483647) -/
def zc_a86 : za_K := (143, 5, [.inr (.inr 0), .inl ((-2147483648), 2147483647), .inl ((-2147483648), 2147483647)], [(some (.inl ((-2147483648), 2147483647)), [((-2147483648), 2147483647), ((-2147483648), 2147483647)])], [])
set_option maxRecDepth 100000 in
theorem zc_ao86 : zb_K zp_P zc_H zc_a86 := zb_okK (KT := [zc_a70, zc_a85]) (CT := []) (g := 21) (List.forall_mem_cons.mpr ⟨zc_ao70, List.forall_mem_cons.mpr ⟨zc_ao85, fun _ h => absurd h List.not_mem_nil⟩⟩) (by decide +kernel)
/-- ClassFrames$Table.setKind .inr (.inr 11) .inl (0, 2147483647) .inl ((-2147483648), 2147483647) .inl (0, 8) -/
def zc_a87 : za_K := (132, 1, [.inr (.inr 11), .inl (0, 2147483647), .inl ((-2147483648), 2147483647), .inl (0, 8)], [(none, [(0, 2147483647), ((-2147483648), 2147483647), (0, 8)])], [(12, 0)])
set_option maxRecDepth 100000 in
theorem zc_ao87 : zb_K zp_P zc_H zc_a87 := zb_okK (KT := [zc_a80]) (CT := []) (g := 22) (List.forall_mem_cons.mpr ⟨zc_ao80, fun _ h => absurd h List.not_mem_nil⟩) (by decide +kernel)
/-- ClassFrames$Frames.change .inr (.inr 10) .inl (0, 2147483647) .inl (0, 2147483647) .inl (0, 8) -/
def zc_a88 : za_K := (39, 4, [.inr (.inr 10), .inl (0, 2147483647), .inl (0, 2147483647), .inl (0, 8)], [(some (.inl ((-2147483648), 2147483647)), [(0, 2147483647), (0, 2147483647), (0, 8)])], [(12, 0)])
set_option maxRecDepth 100000 in
theorem zc_ao88 : zb_K zp_P zc_H zc_a88 := zb_okK (KT := [zc_a83, zc_a84, zc_a87]) (CT := []) (g := 26) (List.forall_mem_cons.mpr ⟨zc_ao83, List.forall_mem_cons.mpr ⟨zc_ao84, List.forall_mem_cons.mpr ⟨zc_ao87, fun _ h => absurd h List.not_mem_nil⟩⟩⟩) (by decide +kernel)
/-- ClassFrames.plant .inr (.inr 0) .inl ((-2147483648), 2147483647) .inl ((-2147483648), 2147483647) .inl ((-2147483648), 2147483647) -/
def zc_a89 : za_K := (144, 5, [.inr (.inr 0), .inl ((-2147483648), 2147483647), .inl ((-2147483648), 2147483647), .inl ((-2147483648), 2147483647)], [(some (.inl ((-2147483648), 2147483647)), [((-2147483648), 2147483647), ((-2147483648), 2147483647), ((-2147483648), 2147483647)])], [(12, 0)])
set_option maxRecDepth 100000 in
theorem zc_ao89 : zb_K zp_P zc_H zc_a89 := zb_okK (KT := [zc_a70, zc_a88]) (CT := []) (g := 27) (List.forall_mem_cons.mpr ⟨zc_ao70, List.forall_mem_cons.mpr ⟨zc_ao88, fun _ h => absurd h List.not_mem_nil⟩⟩) (by decide +kernel)
/-- ClassFrames$State.begin .inr (.inr 23) .inr (.inr 1) -/
def zc_a90 : za_K := (115, 1, [.inr (.inr 23), .inr (.inr 1)], [(none, [])], [(23, 1), (24, 0)])
set_option maxRecDepth 100000 in
theorem zc_ao90 : zb_K zp_P zc_H zc_a90 := zb_okK (KT := [zc_a12]) (CT := [(2, [(0, .inr (.inr 23)), (1, .inr (.inr 1)), (2, .inl (0, 8))], [], [], 17, [(-2)])]) (g := 20) (List.forall_mem_cons.mpr ⟨zc_ao12, fun _ h => absurd h List.not_mem_nil⟩) (by decide +kernel)
/-- ClassFrames$State.kindOf .inr (.inr 25) .inl (0, 13) -/
def zc_a91 : za_K := (118, 0, [.inr (.inr 25), .inl (0, 13)], [(some (.inl ((-2147483648), 2147483647)), [(0, 13)])], [])
set_option maxRecDepth 100000 in
theorem zc_ao91 : zb_K zp_P zc_H zc_a91 := zb_okK (KT := []) (CT := []) (g := 18) (fun _ h => absurd h List.not_mem_nil) (by decide +kernel)
/-- ClassFrames$State.isLone .inr (.inr 25) .inl (0, 13) .inl (0, 8) .inl (8, 14) -/
def zc_a92 : za_K := (126, 1, [.inr (.inr 25), .inl (0, 13), .inl (0, 8), .inl (8, 14)], [(some (.inl (0, 0)), [(0, 13), (0, 8), (8, 14)]), (some (.inl (1, 1)), [(0, 13), (0, 8), (8, 14)])], [])
set_option maxRecDepth 100000 in
theorem zc_ao92 : zb_K zp_P zc_H zc_a92 := zb_okK (KT := [zc_a91]) (CT := []) (g := 32) (List.forall_mem_cons.mpr ⟨zc_ao91, fun _ h => absurd h List.not_mem_nil⟩) (by decide +kernel)
/-- ClassFrames$State.hasLone .inr (.inr 25) -/
def zc_a93 : za_K := (125, 2, [.inr (.inr 25)], [(some (.inl (0, 0)), []), (some (.inl (1, 1)), [])], [])
set_option maxRecDepth 100000 in
theorem zc_ao93 : zb_K zp_P zc_H zc_a93 := zb_okK (KT := [zc_a92]) (CT := [(2, [(0, .inr (.inr 25)), (1, .inl (0, 8))], [], [], 134, [(-15)]), (30, [(0, .inr (.inr 25)), (1, .inl (8, 14))], [], [], 29, [(-2)])]) (g := 25) (List.forall_mem_cons.mpr ⟨zc_ao92, fun _ h => absurd h List.not_mem_nil⟩) (by decide +kernel)
/-- ClassFrames$State.setDepth .inr (.inr 25) .inl ((-2147483648), 2147483647) -/
def zc_a94 : za_K := (117, 1, [.inr (.inr 25), .inl ((-2147483648), 2147483647)], [(none, [((-2147483648), 2147483647)])], [(25, 1)])
set_option maxRecDepth 100000 in
theorem zc_ao94 : zb_K zp_P zc_H zc_a94 := zb_okK (KT := []) (CT := []) (g := 15) (fun _ h => absurd h List.not_mem_nil) (by decide +kernel)
/-- ClassFrames$State.setKind .inr (.inr 25) .inl (0, 13) .inl ((-2147483648), 2147483647) -/
def zc_a95 : za_K := (119, 0, [.inr (.inr 25), .inl (0, 13), .inl ((-2147483648), 2147483647)], [(none, [(0, 13), ((-2147483648), 2147483647)])], [(26, 0)])
set_option maxRecDepth 100000 in
theorem zc_ao95 : zb_K zp_P zc_H zc_a95 := zb_okK (KT := []) (CT := []) (g := 18) (fun _ h => absurd h List.not_mem_nil) (by decide +kernel)
/-- ClassFrames$Table.read .inr (.inr 11) .inl (0, 59) .inr (.inr 25) -/
def zc_a96 : za_K := (135, 2, [.inr (.inr 11), .inl (0, 59), .inr (.inr 25)], [(none, [(0, 59)])], [(25, 1), (26, 0)])
set_option maxRecDepth 100000 in
theorem zc_ao96 : zb_K zp_P zc_H zc_a96 := zb_okK (KT := [zc_a94, zc_a95]) (CT := [(23, [(0, .inr (.inr 11)), (1, .inl (0, 59)), (2, .inr (.inr 25)), (3, .inl (0, 14))], [], [], 29, [0, (-2)])]) (g := 24) (List.forall_mem_cons.mpr ⟨zc_ao94, List.forall_mem_cons.mpr ⟨zc_ao95, fun _ h => absurd h List.not_mem_nil⟩⟩) (by decide +kernel)
/-- ClassFrames$Frames.read .inr (.inr 10) .inl (0, 59) .inr (.inr 25) -/
def zc_a97 : za_K := (36, 3, [.inr (.inr 10), .inl (0, 59), .inr (.inr 25)], [(none, [(0, 59)])], [(25, 1), (26, 0)])
set_option maxRecDepth 100000 in
theorem zc_ao97 : zb_K zp_P zc_H zc_a97 := zb_okK (KT := [zc_a96]) (CT := []) (g := 13) (List.forall_mem_cons.mpr ⟨zc_ao96, fun _ h => absurd h List.not_mem_nil⟩) (by decide +kernel)
/-- ClassFrames$Judge.firstTorn .inr (.inr 22) -/
def zc_a98 : za_K := (43, 4, [.inr (.inr 22)], [(some (.inl ((-2147483648), 2147483647)), [])], [(25, 1), (26, 0)])
set_option maxRecDepth 100000 in
theorem zc_ao98 : zb_K zp_P zc_H zc_a98 := zb_okK (KT := [zc_a9, zc_a93, zc_a76, zc_a97]) (CT := [(2, [(0, .inr (.inr 22)), (1, .inl (0, 60))], [], [], 121, [(-2)])]) (g := 27) (List.forall_mem_cons.mpr ⟨zc_ao9, List.forall_mem_cons.mpr ⟨zc_ao93, List.forall_mem_cons.mpr ⟨zc_ao76, List.forall_mem_cons.mpr ⟨zc_ao97, fun _ h => absurd h List.not_mem_nil⟩⟩⟩⟩) (by decide +kernel)
/-- ClassFrames$State.kindOf .inr (.inr 23) .inl (0, 13) -/
def zc_a99 : za_K := (118, 0, [.inr (.inr 23), .inl (0, 13)], [(some (.inl ((-2147483648), 2147483647)), [(0, 13)])], [])
set_option maxRecDepth 100000 in
theorem zc_ao99 : zb_K zp_P zc_H zc_a99 := zb_okK (KT := []) (CT := []) (g := 18) (fun _ h => absurd h List.not_mem_nil) (by decide +kernel)
/-- ClassFrames$State.localsGoAs .inr (.inr 23) .inr (.inr 25) -/
def zc_a100 : za_K := (127, 1, [.inr (.inr 23), .inr (.inr 25)], [(some (.inl (0, 0)), []), (some (.inl (1, 1)), [])], [])
set_option maxRecDepth 100000 in
theorem zc_ao100 : zb_K zp_P zc_H zc_a100 := zb_okK (KT := [zc_a91, zc_a99, zc_a29]) (CT := [(2, [(0, .inr (.inr 23)), (1, .inr (.inr 25)), (2, .inl (0, 8))], [], [], 17, [(-2)])]) (g := 21) (List.forall_mem_cons.mpr ⟨zc_ao91, List.forall_mem_cons.mpr ⟨zc_ao99, List.forall_mem_cons.mpr ⟨zc_ao29, fun _ h => absurd h List.not_mem_nil⟩⟩⟩) (by decide +kernel)
/-- ClassFrames$State.allGoesAs .inr (.inr 23) .inr (.inr 25) -/
def zc_a101 : za_K := (128, 2, [.inr (.inr 23), .inr (.inr 25)], [(some (.inl (0, 0)), []), (some (.inl (1, 1)), [])], [])
set_option maxRecDepth 100000 in
theorem zc_ao101 : zb_K zp_P zc_H zc_a101 := zb_okK (KT := [zc_a100, zc_a91, zc_a99, zc_a29]) (CT := [(24, [(0, .inr (.inr 23)), (1, .inr (.inr 25)), (2, .inl (8, 14))], [], [((25, 1), 0, 6), ((23, 1), 0, 6)], 29, [(-2)])]) (g := 24) (List.forall_mem_cons.mpr ⟨zc_ao100, List.forall_mem_cons.mpr ⟨zc_ao91, List.forall_mem_cons.mpr ⟨zc_ao99, List.forall_mem_cons.mpr ⟨zc_ao29, fun _ h => absurd h List.not_mem_nil⟩⟩⟩⟩) (by decide +kernel)
/-- ClassFrames$Frames.frameAt .inr (.inr 10) .inl ((-2147483648), 2147483647) -/
def zc_a102 : za_K := (35, 0, [.inr (.inr 10), .inl ((-2147483648), 2147483647)], [(some (.inl ((-1), 59)), [((-2147483648), 2147483647)])], [])
set_option maxRecDepth 100000 in
theorem zc_ao102 : zb_K zp_P zc_H zc_a102 := zb_okK (KT := []) (CT := [(2, [(0, .inr (.inr 10)), (1, .inl ((-2147483648), 2147483647)), (2, .inl (0, 60))], [], [], 121, [0, (-2)])]) (g := 20) (fun _ h => absurd h List.not_mem_nil) (by decide +kernel)
/-- ClassFrames$State.setDepth .inr (.inr 23) .inl ((-2147483648), 2147483647) -/
def zc_a103 : za_K := (117, 1, [.inr (.inr 23), .inl ((-2147483648), 2147483647)], [(none, [((-2147483648), 2147483647)])], [(23, 1)])
set_option maxRecDepth 100000 in
theorem zc_ao103 : zb_K zp_P zc_H zc_a103 := zb_okK (KT := []) (CT := []) (g := 15) (fun _ h => absurd h List.not_mem_nil) (by decide +kernel)
/-- ClassFrames$State.setKind .inr (.inr 23) .inl (0, 13) .inl ((-2147483648), 2147483647) -/
def zc_a104 : za_K := (119, 0, [.inr (.inr 23), .inl (0, 13), .inl ((-2147483648), 2147483647)], [(none, [(0, 13), ((-2147483648), 2147483647)])], [(24, 0)])
set_option maxRecDepth 100000 in
theorem zc_ao104 : zb_K zp_P zc_H zc_a104 := zb_okK (KT := []) (CT := []) (g := 18) (fun _ h => absurd h List.not_mem_nil) (by decide +kernel)
/-- ClassFrames$Table.read .inr (.inr 11) .inl (0, 59) .inr (.inr 23) -/
def zc_a105 : za_K := (135, 2, [.inr (.inr 11), .inl (0, 59), .inr (.inr 23)], [(none, [(0, 59)])], [(23, 1), (24, 0)])
set_option maxRecDepth 100000 in
theorem zc_ao105 : zb_K zp_P zc_H zc_a105 := zb_okK (KT := [zc_a103, zc_a104]) (CT := [(23, [(0, .inr (.inr 11)), (1, .inl (0, 59)), (2, .inr (.inr 23)), (3, .inl (0, 14))], [], [], 29, [0, (-2)])]) (g := 24) (List.forall_mem_cons.mpr ⟨zc_ao103, List.forall_mem_cons.mpr ⟨zc_ao104, fun _ h => absurd h List.not_mem_nil⟩⟩) (by decide +kernel)
/-- ClassFrames$Frames.read .inr (.inr 10) .inl (0, 59) .inr (.inr 23) -/
def zc_a106 : za_K := (36, 3, [.inr (.inr 10), .inl (0, 59), .inr (.inr 23)], [(none, [(0, 59)])], [(23, 1), (24, 0)])
set_option maxRecDepth 100000 in
theorem zc_ao106 : zb_K zp_P zc_H zc_a106 := zb_okK (KT := [zc_a105]) (CT := []) (g := 13) (List.forall_mem_cons.mpr ⟨zc_ao105, fun _ h => absurd h List.not_mem_nil⟩) (by decide +kernel)
/-- ClassFrames$Judge.readFrame .inr (.inr 22) .inl (0, 59) .inr (.inr 23) -/
def zc_a107 : za_K := (45, 4, [.inr (.inr 22), .inl (0, 59), .inr (.inr 23)], [(some (.inl (0, 0)), [(0, 59)]), (some (.inl (1, 1)), [(0, 59)])], [(23, 1), (24, 0)])
set_option maxRecDepth 100000 in
theorem zc_ao107 : zb_K zp_P zc_H zc_a107 := zb_okK (KT := [zc_a106, zc_a102]) (CT := []) (g := 22) (List.forall_mem_cons.mpr ⟨zc_ao106, List.forall_mem_cons.mpr ⟨zc_ao102, fun _ h => absurd h List.not_mem_nil⟩⟩) (by decide +kernel)
/-- ClassFrames$Judge.readFrame .inr (.inr 22) .inl ((-2147483648), 2147483647) .inr (.inr 25) -/
def zc_a108 : za_K := (45, 4, [.inr (.inr 22), .inl ((-2147483648), 2147483647), .inr (.inr 25)], [(some (.inl (0, 0)), [((-2147483648), 2147483647)]), (some (.inl (1, 1)), [((-2147483648), 2147483647)])], [(25, 1), (26, 0)])
set_option maxRecDepth 100000 in
theorem zc_ao108 : zb_K zp_P zc_H zc_a108 := zb_okK (KT := [zc_a97, zc_a102]) (CT := []) (g := 22) (List.forall_mem_cons.mpr ⟨zc_ao97, List.forall_mem_cons.mpr ⟨zc_ao102, fun _ h => absurd h List.not_mem_nil⟩⟩) (by decide +kernel)
/-- ClassFrames$Judge.enters .inr (.inr 22) .inl (0, 59) .inl (0, 1) -/
def zc_a109 : za_K := (44, 5, [.inr (.inr 22), .inl (0, 59), .inl (0, 1)], [(some (.inl (0, 0)), [(0, 59), (0, 1)]), (some (.inl (1, 1)), [(0, 59), (0, 1)]), (some (.inl (0, 1)), [(0, 59), (0, 1)])], [(23, 1), (24, 0), (25, 1), (26, 0)])
set_option maxRecDepth 100000 in
theorem zc_ao109 : zb_K zp_P zc_H zc_a109 := zb_okK (KT := [zc_a101, zc_a107, zc_a108]) (CT := []) (g := 30) (List.forall_mem_cons.mpr ⟨zc_ao101, List.forall_mem_cons.mpr ⟨zc_ao107, List.forall_mem_cons.mpr ⟨zc_ao108, fun _ h => absurd h List.not_mem_nil⟩⟩⟩) (by decide +kernel)
/-- ClassFrames$State.depth .inr (.inr 25) -/
def zc_a110 : za_K := (116, 0, [.inr (.inr 25)], [(some (.inl (0, 6)), [])], [])
set_option maxRecDepth 100000 in
theorem zc_ao110 : zb_K zp_P zc_H zc_a110 := zb_okK (KT := []) (CT := []) (g := 10) (fun _ h => absurd h List.not_mem_nil) (by decide +kernel)
/-- ClassFrames$State.kindDown .inr (.inr 25) .inl (0, 0) -/
def zc_a111 : za_K := (120, 0, [.inr (.inr 25), .inl (0, 0)], [(some (.inl ((-2147483648), 2147483647)), [(0, 0)])], [])
set_option maxRecDepth 100000 in
theorem zc_ao111 : zb_K zp_P zc_H zc_a111 := zb_okK (KT := []) (CT := []) (g := 26) (fun _ h => absurd h List.not_mem_nil) (by decide +kernel)
/-- ClassFrames$Judge.isTaken .inr (.inr 22) .inl ((-2147483648), 2147483647) -/
def zc_a112 : za_K := (47, 2, [.inr (.inr 22), .inl ((-2147483648), 2147483647)], [(some (.inl (0, 0)), [((-2147483648), 2147483647)]), (some (.inl (1, 1)), [((-2147483648), 2147483647)])], [])
set_option maxRecDepth 100000 in
theorem zc_ao112 : zb_K zp_P zc_H zc_a112 := zb_okK (KT := [zc_a100, zc_a110, zc_a111, zc_a29]) (CT := []) (g := 28) (List.forall_mem_cons.mpr ⟨zc_ao100, List.forall_mem_cons.mpr ⟨zc_ao110, List.forall_mem_cons.mpr ⟨zc_ao111, List.forall_mem_cons.mpr ⟨zc_ao29, fun _ h => absurd h List.not_mem_nil⟩⟩⟩⟩) (by decide +kernel)
/-- ClassFrames$Judge.handlersHold .inr (.inr 22) .inl (0, 59) -/
def zc_a113 : za_K := (46, 5, [.inr (.inr 22), .inl (0, 59)], [(some (.inl (0, 0)), [(0, 59)]), (some (.inl (1, 1)), [(0, 59)])], [(25, 1), (26, 0)])
set_option maxRecDepth 100000 in
theorem zc_ao113 : zb_K zp_P zc_H zc_a113 := zb_okK (KT := [zc_a47, zc_a45, zc_a46, zc_a108, zc_a112, zc_a44]) (CT := [(2, [(0, .inr (.inr 22)), (1, .inl (0, 59)), (2, .inl (0, 6))], [], [], 13, [0, (-2)])]) (g := 37) (List.forall_mem_cons.mpr ⟨zc_ao47, List.forall_mem_cons.mpr ⟨zc_ao45, List.forall_mem_cons.mpr ⟨zc_ao46, List.forall_mem_cons.mpr ⟨zc_ao108, List.forall_mem_cons.mpr ⟨zc_ao112, List.forall_mem_cons.mpr ⟨zc_ao44, fun _ h => absurd h List.not_mem_nil⟩⟩⟩⟩⟩⟩) (by decide +kernel)
/-- ClassFrames$State.kindDown .inr (.inr 23) .inl (0, 1) -/
def zc_a114 : za_K := (120, 0, [.inr (.inr 23), .inl (0, 1)], [(some (.inl ((-2147483648), 2147483647)), [(0, 1)])], [])
set_option maxRecDepth 100000 in
theorem zc_ao114 : zb_K zp_P zc_H zc_a114 := zb_okK (KT := []) (CT := []) (g := 26) (fun _ h => absurd h List.not_mem_nil) (by decide +kernel)
/-- ClassFrames$State.drop .inr (.inr 23) .inl (1, 2) -/
def zc_a115 : za_K := (122, 0, [.inr (.inr 23), .inl (1, 2)], [(none, [(1, 2)])], [(23, 1)])
set_option maxRecDepth 100000 in
theorem zc_ao115 : zb_K zp_P zc_H zc_a115 := zb_okK (KT := []) (CT := []) (g := 19) (fun _ h => absurd h List.not_mem_nil) (by decide +kernel)
/-- ClassFrames$State.push .inr (.inr 23) .inl ((-2147483648), 2147483647) -/
def zc_a116 : za_K := (123, 1, [.inr (.inr 23), .inl ((-2147483648), 2147483647)], [(some (.inl (0, 3)), [((-2147483648), 2147483647)])], [(23, 1), (24, 0)])
set_option maxRecDepth 100000 in
theorem zc_ao116 : zb_K zp_P zc_H zc_a116 := zb_okK (KT := [zc_a104]) (CT := []) (g := 46) (List.forall_mem_cons.mpr ⟨zc_ao104, fun _ h => absurd h List.not_mem_nil⟩) (by decide +kernel)
/-- X1.exchange .inr (.inr 23) .inl ((-2147483648), 2147483647) .inl ((-2147483648), 2147483647) -/
def zc_a117 : za_K := (21, 2, [.inr (.inr 23), .inl ((-2147483648), 2147483647), .inl ((-2147483648), 2147483647)], [(some (.inl (0, 3)), [((-2147483648), 2147483647), ((-2147483648), 2147483647)])], [(23, 1), (24, 0)])
set_option maxRecDepth 100000 in
theorem zc_ao117 : zb_K zp_P zc_H zc_a117 := zb_okK (KT := [zc_a114, zc_a115, zc_a116, zc_a29]) (CT := [(31, [(0, .inr (.inr 23)), (1, .inl (0, 28)), (2, .inl ((-2147483648), 2147483647)), (3, .inl ((-2147483648), 2147483647)), (4, .inl (0, 4))], [], [], 9, [0, 0, 0, (-2)])]) (g := 44) (List.forall_mem_cons.mpr ⟨zc_ao114, List.forall_mem_cons.mpr ⟨zc_ao115, List.forall_mem_cons.mpr ⟨zc_ao116, List.forall_mem_cons.mpr ⟨zc_ao29, fun _ h => absurd h List.not_mem_nil⟩⟩⟩⟩) (by decide +kernel)
/-- X1.load .inr (.inr 23) .inl ((-2147483648), 2147483647) -/
def zc_a118 : za_K := (22, 2, [.inr (.inr 23), .inl ((-2147483648), 2147483647)], [(some (.inl (0, 4)), [((-2147483648), 2147483647)])], [(23, 1), (24, 0)])
set_option maxRecDepth 100000 in
theorem zc_ao118 : zb_K zp_P zc_H zc_a118 := zb_okK (KT := [zc_a99, zc_a116]) (CT := []) (g := 25) (List.forall_mem_cons.mpr ⟨zc_ao99, List.forall_mem_cons.mpr ⟨zc_ao116, fun _ h => absurd h List.not_mem_nil⟩⟩) (by decide +kernel)
/-- ClassFrames$State.store .inr (.inr 23) .inl ((-2147483648), 2147483647) .inl ((-2147483648), 2147483647) -/
def zc_a119 : za_K := (124, 0, [.inr (.inr 23), .inl ((-2147483648), 2147483647), .inl ((-2147483648), 2147483647)], [(some (.inl (0, 4)), [((-2147483648), 2147483647), ((-2147483648), 2147483647)])], [(24, 0)])
set_option maxRecDepth 100000 in
theorem zc_ao119 : zb_K zp_P zc_H zc_a119 := zb_okK (KT := []) (CT := []) (g := 72) (fun _ h => absurd h List.not_mem_nil) (by decide +kernel)
end
section
/-! ===== 21: contracts, found kept (by program) ===== -/
/-- X1.store .inr (.inr 23) .inl ((-2147483648), 2147483647) -/
def zc_a120 : za_K := (23, 1, [.inr (.inr 23), .inl ((-2147483648), 2147483647)], [(some (.inl (0, 4)), [((-2147483648), 2147483647)])], [(23, 1), (24, 0)])
set_option maxRecDepth 100000 in
theorem zc_ao120 : zb_K zp_P zc_H zc_a120 := zb_okK (KT := [zc_a114, zc_a115, zc_a119]) (CT := []) (g := 32) (List.forall_mem_cons.mpr ⟨zc_ao114, List.forall_mem_cons.mpr ⟨zc_ao115, List.forall_mem_cons.mpr ⟨zc_ao119, fun _ h => absurd h List.not_mem_nil⟩⟩⟩) (by decide +kernel)
/-- X1.pop .inr (.inr 23) -/
def zc_a121 : za_K := (24, 1, [.inr (.inr 23)], [(some (.inl (0, 2)), [])], [(23, 1)])
set_option maxRecDepth 100000 in
theorem zc_ao121 : zb_K zp_P zc_H zc_a121 := zb_okK (KT := [zc_a114, zc_a115]) (CT := []) (g := 22) (List.forall_mem_cons.mpr ⟨zc_ao114, List.forall_mem_cons.mpr ⟨zc_ao115, fun _ h => absurd h List.not_mem_nil⟩⟩) (by decide +kernel)
/-- X1.popTwo .inr (.inr 23) -/
def zc_a122 : za_K := (25, 1, [.inr (.inr 23)], [(some (.inl (0, 2)), [])], [(23, 1)])
set_option maxRecDepth 100000 in
theorem zc_ao122 : zb_K zp_P zc_H zc_a122 := zb_okK (KT := [zc_a114, zc_a115]) (CT := []) (g := 22) (List.forall_mem_cons.mpr ⟨zc_ao114, List.forall_mem_cons.mpr ⟨zc_ao115, fun _ h => absurd h List.not_mem_nil⟩⟩) (by decide +kernel)
/-- X1.increase .inr (.inr 23) .inl ((-2147483648), 2147483647) -/
def zc_a123 : za_K := (26, 1, [.inr (.inr 23), .inl ((-2147483648), 2147483647)], [(some (.inl (0, 4)), [((-2147483648), 2147483647)])], [])
set_option maxRecDepth 100000 in
theorem zc_ao123 : zb_K zp_P zc_H zc_a123 := zb_okK (KT := [zc_a99]) (CT := []) (g := 20) (List.forall_mem_cons.mpr ⟨zc_ao99, fun _ h => absurd h List.not_mem_nil⟩) (by decide +kernel)
/-- X1.apply .inr (.inr 23) .inl ((-2147483648), 2147483647) .inl ((-2147483648), 2147483647) -/
def zc_a124 : za_K := (20, 3, [.inr (.inr 23), .inl ((-2147483648), 2147483647), .inl ((-2147483648), 2147483647)], [(some (.inl (0, 4)), [((-2147483648), 2147483647), ((-2147483648), 2147483647)])], [(23, 1), (24, 0)])
set_option maxRecDepth 100000 in
theorem zc_ao124 : zb_K zp_P zc_H zc_a124 := zb_okK (KT := [zc_a121, zc_a122, zc_a118, zc_a120, zc_a123, zc_a117]) (CT := []) (g := 14) (List.forall_mem_cons.mpr ⟨zc_ao121, List.forall_mem_cons.mpr ⟨zc_ao122, List.forall_mem_cons.mpr ⟨zc_ao118, List.forall_mem_cons.mpr ⟨zc_ao120, List.forall_mem_cons.mpr ⟨zc_ao123, List.forall_mem_cons.mpr ⟨zc_ao117, fun _ h => absurd h List.not_mem_nil⟩⟩⟩⟩⟩⟩) (by decide +kernel)
/-- ClassFrames$Judge.leaves .inr (.inr 22) .inl (0, 59) -/
def zc_a125 : za_K := (48, 5, [.inr (.inr 22), .inl (0, 59)], [(some (.inl (0, 0)), [(0, 59)]), (some (.inl (1, 1)), [(0, 59)])], [(23, 1), (24, 0), (25, 1), (26, 0)])
set_option maxRecDepth 100000 in
theorem zc_ao125 : zb_K zp_P zc_H zc_a125 := zb_okK (KT := [zc_a101, zc_a55, zc_a57, zc_a39, zc_a40, zc_a108, zc_a124]) (CT := [(30, [(0, .inr (.inr 22)), (1, .inl (0, 59)), (2, .inl (0, 2))], [], [], 5, [0, (-2)])]) (g := 32) (List.forall_mem_cons.mpr ⟨zc_ao101, List.forall_mem_cons.mpr ⟨zc_ao55, List.forall_mem_cons.mpr ⟨zc_ao57, List.forall_mem_cons.mpr ⟨zc_ao39, List.forall_mem_cons.mpr ⟨zc_ao40, List.forall_mem_cons.mpr ⟨zc_ao108, List.forall_mem_cons.mpr ⟨zc_ao124, fun _ h => absurd h List.not_mem_nil⟩⟩⟩⟩⟩⟩⟩) (by decide +kernel)
/-- ClassFrames$Judge.firstRefused .inr (.inr 22) -/
def zc_a126 : za_K := (42, 6, [.inr (.inr 22)], [(some (.inl ((-2147483648), 2147483647)), [])], [(23, 1), (24, 0), (25, 1), (26, 0)])
set_option maxRecDepth 100000 in
theorem zc_ao126 : zb_K zp_P zc_H zc_a126 := zb_okK (KT := [zc_a11, zc_a90, zc_a98, zc_a22, zc_a54, zc_a113, zc_a125, zc_a109]) (CT := [(27, [(0, .inr (.inr 22)), (1, .inl ((-1), (-1))), (2, .inl (0, 1)), (3, .inl (0, 60))], [], [], 121, [0, 0, (-2)])]) (g := 45) (List.forall_mem_cons.mpr ⟨zc_ao11, List.forall_mem_cons.mpr ⟨zc_ao90, List.forall_mem_cons.mpr ⟨zc_ao98, List.forall_mem_cons.mpr ⟨zc_ao22, List.forall_mem_cons.mpr ⟨zc_ao54, List.forall_mem_cons.mpr ⟨zc_ao113, List.forall_mem_cons.mpr ⟨zc_ao125, List.forall_mem_cons.mpr ⟨zc_ao109, fun _ h => absurd h List.not_mem_nil⟩⟩⟩⟩⟩⟩⟩⟩) (by decide +kernel)
/-- ClassFrames.judge .inr (.inr 0) -/
def zc_a127 : za_K := (145, 7, [.inr (.inr 0)], [(some (.inl ((-2147483648), 2147483647)), [])], [(23, 1), (24, 0), (25, 1), (26, 0)])
set_option maxRecDepth 100000 in
theorem zc_ao127 : zb_K zp_P zc_H zc_a127 := zb_okK (KT := [zc_a70, zc_a126, zc_a8]) (CT := []) (g := 21) (List.forall_mem_cons.mpr ⟨zc_ao70, List.forall_mem_cons.mpr ⟨zc_ao126, List.forall_mem_cons.mpr ⟨zc_ao8, fun _ h => absurd h List.not_mem_nil⟩⟩⟩) (by decide +kernel)
/-- ClassFrames$State.kindOf .inr (.inr 28) .inl (0, 2147483647) -/
def zc_a128 : za_K := (118, 0, [.inr (.inr 28), .inl (0, 2147483647)], [(some (.inl ((-2147483648), 2147483647)), [(0, 2147483647)])], [])
set_option maxRecDepth 100000 in
theorem zc_ao128 : zb_K zp_P zc_H zc_a128 := zb_okK (KT := []) (CT := []) (g := 18) (fun _ h => absurd h List.not_mem_nil) (by decide +kernel)
/-- ClassFrames$Packer.gather .inr (.inr 27) .inl (0, 0) .inl ((-2147483648), 2147483647) .inr (.inr 32) -/
def zc_a129 : za_K := (101, 1, [.inr (.inr 27), .inl (0, 0), .inl ((-2147483648), 2147483647), .inr (.inr 32)], [(some (.inl (0, 8)), [(0, 0), ((-2147483648), 2147483647)])], [(32, 0)])
set_option maxRecDepth 100000 in
theorem zc_ao129 : zb_K zp_P zc_H zc_a129 := zb_okK (KT := [zc_a128]) (CT := [(6, [(0, .inr (.inr 27)), (1, .inl (0, 0)), (2, .inl ((-2147483648), 2147483647)), (3, .inr (.inr 32)), (4, .inl (0, 8)), (5, .inl (0, 2147483647))], [], [], 4294967295, [0, 0, 0, (-2)])]) (g := 48) (List.forall_mem_cons.mpr ⟨zc_ao128, fun _ h => absurd h List.not_mem_nil⟩) (by decide +kernel)
/-- ClassFrames$Packer.gather .inr (.inr 27) .inl (8, 8) .inl (0, 6) .inr (.inr 33) -/
def zc_a130 : za_K := (101, 1, [.inr (.inr 27), .inl (8, 8), .inl (0, 6), .inr (.inr 33)], [(some (.inl (0, 6)), [(8, 8), (0, 6)])], [(33, 0)])
set_option maxRecDepth 100000 in
theorem zc_ao130 : zb_K zp_P zc_H zc_a130 := zb_okK (KT := [zc_a128]) (CT := [(6, [(0, .inr (.inr 27)), (1, .inl (8, 8)), (2, .inl (0, 6)), (3, .inr (.inr 33)), (4, .inl (0, 6)), (5, .inl (8, 14))], [], [], 29, [0, 0, 0, (-2)])]) (g := 48) (List.forall_mem_cons.mpr ⟨zc_ao128, fun _ h => absurd h List.not_mem_nil⟩) (by decide +kernel)
/-- ClassFrames$State.depth .inr (.inr 28) -/
def zc_a131 : za_K := (116, 0, [.inr (.inr 28)], [(some (.inl (0, 6)), [])], [])
set_option maxRecDepth 100000 in
theorem zc_ao131 : zb_K zp_P zc_H zc_a131 := zb_okK (KT := []) (CT := []) (g := 10) (fun _ h => absurd h List.not_mem_nil) (by decide +kernel)
/-- ClassFrames$State.setDepth .inr (.inr 28) .inl ((-2147483648), 2147483647) -/
def zc_a132 : za_K := (117, 1, [.inr (.inr 28), .inl ((-2147483648), 2147483647)], [(none, [((-2147483648), 2147483647)])], [(28, 1)])
set_option maxRecDepth 100000 in
theorem zc_ao132 : zb_K zp_P zc_H zc_a132 := zb_okK (KT := []) (CT := []) (g := 15) (fun _ h => absurd h List.not_mem_nil) (by decide +kernel)
/-- ClassFrames$State.setKind .inr (.inr 28) .inl (0, 13) .inl ((-2147483648), 2147483647) -/
def zc_a133 : za_K := (119, 0, [.inr (.inr 28), .inl (0, 13), .inl ((-2147483648), 2147483647)], [(none, [(0, 13), ((-2147483648), 2147483647)])], [(29, 0)])
set_option maxRecDepth 100000 in
theorem zc_ao133 : zb_K zp_P zc_H zc_a133 := zb_okK (KT := []) (CT := []) (g := 18) (fun _ h => absurd h List.not_mem_nil) (by decide +kernel)
/-- ClassFrames$Table.read .inr (.inr 11) .inl (0, 59) .inr (.inr 28) -/
def zc_a134 : za_K := (135, 2, [.inr (.inr 11), .inl (0, 59), .inr (.inr 28)], [(none, [(0, 59)])], [(28, 1), (29, 0)])
set_option maxRecDepth 100000 in
theorem zc_ao134 : zb_K zp_P zc_H zc_a134 := zb_okK (KT := [zc_a132, zc_a133]) (CT := [(23, [(0, .inr (.inr 11)), (1, .inl (0, 59)), (2, .inr (.inr 28)), (3, .inl (0, 14))], [], [], 29, [0, (-2)])]) (g := 24) (List.forall_mem_cons.mpr ⟨zc_ao132, List.forall_mem_cons.mpr ⟨zc_ao133, fun _ h => absurd h List.not_mem_nil⟩⟩) (by decide +kernel)
/-- ClassFrames$Frames.read .inr (.inr 10) .inl (0, 59) .inr (.inr 28) -/
def zc_a135 : za_K := (36, 3, [.inr (.inr 10), .inl (0, 59), .inr (.inr 28)], [(none, [(0, 59)])], [(28, 1), (29, 0)])
set_option maxRecDepth 100000 in
theorem zc_ao135 : zb_K zp_P zc_H zc_a135 := zb_okK (KT := [zc_a134]) (CT := []) (g := 13) (List.forall_mem_cons.mpr ⟨zc_ao134, fun _ h => absurd h List.not_mem_nil⟩) (by decide +kernel)
/-- ClassFrames$Packer.gatherFrame .inr (.inr 27) .inl (0, 59) -/
def zc_a136 : za_K := (100, 4, [.inr (.inr 27), .inl (0, 59)], [(none, [(0, 59)])], [(27, 8), (27, 10), (28, 1), (29, 0), (32, 0), (33, 0)])
set_option maxRecDepth 100000 in
theorem zc_ao136 : zb_K zp_P zc_H zc_a136 := zb_okK (KT := [zc_a131, zc_a130, zc_a135, zc_a77, zc_a129]) (CT := []) (g := 35) (List.forall_mem_cons.mpr ⟨zc_ao131, List.forall_mem_cons.mpr ⟨zc_ao130, List.forall_mem_cons.mpr ⟨zc_ao135, List.forall_mem_cons.mpr ⟨zc_ao77, List.forall_mem_cons.mpr ⟨zc_ao129, fun _ h => absurd h List.not_mem_nil⟩⟩⟩⟩⟩) (by decide +kernel)
/-- ClassFrames$Packer.keepAhead .inr (.inr 27) -/
def zc_a137 : za_K := (102, 0, [.inr (.inr 27)], [(none, [])], [(27, 6), (31, 0)])
set_option maxRecDepth 100000 in
theorem zc_ao137 : zb_K zp_P zc_H zc_a137 := zb_okK (KT := []) (CT := [(10, [(0, .inr (.inr 27)), (1, .inl (0, 8))], [], [((27, 6), 0, 8), ((27, 8), 0, 8)], 17, [(-2)])]) (g := 21) (fun _ h => absurd h List.not_mem_nil) (by decide +kernel)
/-- ClassFrames$Packer.startsAlike .inr (.inr 27) -/
def zc_a138 : za_K := (104, 0, [.inr (.inr 27)], [(some (.inl (0, 0)), []), (some (.inl (1, 1)), [])], [])
set_option maxRecDepth 100000 in
theorem zc_ao138 : zb_K zp_P zc_H zc_a138 := zb_okK (KT := []) (CT := [(2, [(0, .inr (.inr 27)), (1, .inl (0, 8))], [], [], 17, [(-2)])]) (g := 30) (fun _ h => absurd h List.not_mem_nil) (by decide +kernel)
/-- ClassFrames$Packer.write .inr (.inr 27) .inl ((-2147483648), 2147483647) -/
def zc_a139 : za_K := (108, 0, [.inr (.inr 27), .inl ((-2147483648), 2147483647)], [(none, [((-2147483648), 2147483647)])], [(27, 4), (30, 0)])
set_option maxRecDepth 100000 in
theorem zc_ao139 : zb_K zp_P zc_H zc_a139 := zb_okK (KT := []) (CT := []) (g := 23) (fun _ h => absurd h List.not_mem_nil) (by decide +kernel)
/-- ClassFrames$Packer.writeEntry .inr (.inr 27) .inl ((-2147483648), 2147483647) -/
def zc_a140 : za_K := (107, 1, [.inr (.inr 27), .inl ((-2147483648), 2147483647)], [(none, [((-2147483648), 2147483647)])], [(27, 4), (30, 0)])
set_option maxRecDepth 100000 in
theorem zc_ao140 : zb_K zp_P zc_H zc_a140 := zb_okK (KT := [zc_a139]) (CT := []) (g := 19) (List.forall_mem_cons.mpr ⟨zc_ao139, fun _ h => absurd h List.not_mem_nil⟩) (by decide +kernel)
/-- ClassFrames$Packer.writeEntries .inr (.inr 27) .inr (.inr 32) .inl (0, 8) .inl (0, 8) -/
def zc_a141 : za_K := (106, 2, [.inr (.inr 27), .inr (.inr 32), .inl (0, 8), .inl (0, 8)], [(none, [(0, 8), (0, 8)])], [(27, 4), (30, 0)])
set_option maxRecDepth 100000 in
theorem zc_ao141 : zb_K zp_P zc_H zc_a141 := zb_okK (KT := [zc_a140]) (CT := [(3, [(0, .inr (.inr 27)), (1, .inr (.inr 32)), (2, .inl (0, 8)), (3, .inl (0, 8)), (4, .inl (0, 8))], [], [], 17, [0, 0, (-2)])]) (g := 24) (List.forall_mem_cons.mpr ⟨zc_ao140, fun _ h => absurd h List.not_mem_nil⟩) (by decide +kernel)
/-- ClassFrames$Packer.writeEntries .inr (.inr 27) .inr (.inr 33) .inl (0, 0) .inl (0, 6) -/
def zc_a142 : za_K := (106, 2, [.inr (.inr 27), .inr (.inr 33), .inl (0, 0), .inl (0, 6)], [(none, [(0, 0), (0, 6)])], [(27, 4), (30, 0)])
set_option maxRecDepth 100000 in
theorem zc_ao142 : zb_K zp_P zc_H zc_a142 := zb_okK (KT := [zc_a140]) (CT := [(3, [(0, .inr (.inr 27)), (1, .inr (.inr 33)), (2, .inl (0, 0)), (3, .inl (0, 6)), (4, .inl (0, 6))], [], [], 13, [0, 0, (-2)])]) (g := 24) (List.forall_mem_cons.mpr ⟨zc_ao140, fun _ h => absurd h List.not_mem_nil⟩) (by decide +kernel)
/-- ClassFrames$Packer.packWhole .inr (.inr 27) .inl ((-2147483648), 2147483647) -/
def zc_a143 : za_K := (105, 3, [.inr (.inr 27), .inl ((-2147483648), 2147483647)], [(none, [((-2147483648), 2147483647)])], [(27, 4), (30, 0)])
set_option maxRecDepth 100000 in
theorem zc_ao143 : zb_K zp_P zc_H zc_a143 := zb_okK (KT := [zc_a142, zc_a141, zc_a139]) (CT := []) (g := 45) (List.forall_mem_cons.mpr ⟨zc_ao142, List.forall_mem_cons.mpr ⟨zc_ao141, List.forall_mem_cons.mpr ⟨zc_ao139, fun _ h => absurd h List.not_mem_nil⟩⟩⟩) (by decide +kernel)
/-- ClassFrames$Packer.packFrame .inr (.inr 27) .inl ((-2147483648), 2147483647) -/
def zc_a144 : za_K := (103, 4, [.inr (.inr 27), .inl ((-2147483648), 2147483647)], [(none, [((-2147483648), 2147483647)])], [(27, 4), (30, 0)])
set_option maxRecDepth 100000 in
theorem zc_ao144 : zb_K zp_P zc_H zc_a144 := zb_okK (KT := [zc_a138, zc_a142, zc_a141, zc_a139, zc_a143]) (CT := []) (g := 56) (List.forall_mem_cons.mpr ⟨zc_ao138, List.forall_mem_cons.mpr ⟨zc_ao142, List.forall_mem_cons.mpr ⟨zc_ao141, List.forall_mem_cons.mpr ⟨zc_ao139, List.forall_mem_cons.mpr ⟨zc_ao143, fun _ h => absurd h List.not_mem_nil⟩⟩⟩⟩⟩) (by decide +kernel)
/-- ClassFrames$Code.filledLocals .inr (.inr 1) -/
def zc_a145 : za_K := (6, 0, [.inr (.inr 1)], [(some (.inl (0, 8)), [])], [])
set_option maxRecDepth 100000 in
theorem zc_ao145 : zb_K zp_P zc_H zc_a145 := zb_okK (KT := []) (CT := []) (g := 10) (fun _ h => absurd h List.not_mem_nil) (by decide +kernel)
/-- ClassFrames$Packer.gatherParameters .inr (.inr 27) -/
def zc_a146 : za_K := (99, 1, [.inr (.inr 27)], [(none, [])], [(27, 6), (31, 0)])
set_option maxRecDepth 100000 in
theorem zc_ao146 : zb_K zp_P zc_H zc_a146 := zb_okK (KT := [zc_a145, zc_a12]) (CT := [(7, [(0, .inr (.inr 27)), (1, .inl (0, 8))], [], [((27, 6), 0, 8)], 17, [(-2)])]) (g := 39) (List.forall_mem_cons.mpr ⟨zc_ao145, List.forall_mem_cons.mpr ⟨zc_ao12, fun _ h => absurd h List.not_mem_nil⟩⟩) (by decide +kernel)
/-- ClassFrames$Packer.pack .inr (.inr 27) -/
def zc_a147 : za_K := (98, 5, [.inr (.inr 27)], [(some (.inl (0, 2940)), [])], [(27, 4), (27, 6), (27, 8), (27, 10), (28, 1), (29, 0), (30, 0), (31, 0), (32, 0), (33, 0)])
set_option maxRecDepth 100000 in
theorem zc_ao147 : zb_K zp_P zc_H zc_a147 := zb_okK (KT := [zc_a9, zc_a137, zc_a146, zc_a76, zc_a136, zc_a144]) (CT := [(13, [(0, .inr (.inr 27)), (1, .inl ((-2147483648), 2147483647)), (2, .inl (0, 60))], [], [], 121, [0, (-2)])]) (g := 35) (List.forall_mem_cons.mpr ⟨zc_ao9, List.forall_mem_cons.mpr ⟨zc_ao137, List.forall_mem_cons.mpr ⟨zc_ao146, List.forall_mem_cons.mpr ⟨zc_ao76, List.forall_mem_cons.mpr ⟨zc_ao136, List.forall_mem_cons.mpr ⟨zc_ao144, fun _ h => absurd h List.not_mem_nil⟩⟩⟩⟩⟩⟩) (by decide +kernel)
/-- ClassFrames.packed .inr (.inr 0) -/
def zc_a148 : za_K := (146, 6, [.inr (.inr 0)], [(some (.inl ((-3), 2940)), [])], [(27, 4), (27, 6), (27, 8), (27, 10), (28, 1), (29, 0), (30, 0), (31, 0), (32, 0), (33, 0)])
set_option maxRecDepth 100000 in
theorem zc_ao148 : zb_K zp_P zc_H zc_a148 := zb_okK (KT := [zc_a70, zc_a147]) (CT := []) (g := 16) (List.forall_mem_cons.mpr ⟨zc_ao70, List.forall_mem_cons.mpr ⟨zc_ao147, fun _ h => absurd h List.not_mem_nil⟩⟩) (by decide +kernel)
/-- ClassFrames$Machine.changeArgument .inr (.inr 34) .inl ((-2147483648), 2147483647) .inr (.inl ()) -/
def zc_a149 : za_K := (51, 0, [.inr (.inr 34), .inl ((-2147483648), 2147483647), .inr (.inl ())], [(some (.inr (.inl ())), [((-2147483648), 2147483647)])], [(35, 0)])
set_option maxRecDepth 100000 in
theorem zc_ao149 : zb_K zp_P zc_H zc_a149 := zb_okK (KT := []) (CT := []) (g := 24) (fun _ h => absurd h List.not_mem_nil) (by decide +kernel)
/-- ClassFrames.argument .inr (.inr 0) .inl ((-2147483648), 2147483647) .inr (.inl ()) -/
def zc_a150 : za_K := (148, 1, [.inr (.inr 0), .inl ((-2147483648), 2147483647), .inr (.inl ())], [(some (.inr (.inl ())), [((-2147483648), 2147483647)])], [(35, 0)])
set_option maxRecDepth 100000 in
theorem zc_ao150 : zb_K zp_P zc_H zc_a150 := zb_okK (KT := [zc_a149]) (CT := []) (g := 13) (List.forall_mem_cons.mpr ⟨zc_ao149, fun _ h => absurd h List.not_mem_nil⟩) (by decide +kernel)
/-- ClassFrames$Machine.isFull .inr (.inr 34) -/
def zc_a151 : za_K := (52, 0, [.inr (.inr 34)], [(some (.inl (0, 0)), []), (some (.inl (1, 1)), [])], [])
set_option maxRecDepth 100000 in
theorem zc_ao151 : zb_K zp_P zc_H zc_a151 := zb_okK (KT := []) (CT := []) (g := 14) (fun _ h => absurd h List.not_mem_nil) (by decide +kernel)
/-- ClassFrames$Machine.outcome .inr (.inr 34) -/
def zc_a152 : za_K := (53, 0, [.inr (.inr 34)], [(some (.inl ((-2147483648), 2147483647)), [])], [])
set_option maxRecDepth 100000 in
theorem zc_ao152 : zb_K zp_P zc_H zc_a152 := zb_okK (KT := []) (CT := []) (g := 10) (fun _ h => absurd h List.not_mem_nil) (by decide +kernel)
/-- ClassFrames$Machine.codeFault .inr (.inr 34) -/
def zc_a153 : za_K := (54, 0, [.inr (.inr 34)], [(some (.inl ((-2147483648), 2147483647)), [])], [])
set_option maxRecDepth 100000 in
theorem zc_ao153 : zb_K zp_P zc_H zc_a153 := zb_okK (KT := []) (CT := []) (g := 10) (fun _ h => absurd h List.not_mem_nil) (by decide +kernel)
/-- ClassFrames$Machine.endPlace .inr (.inr 34) -/
def zc_a154 : za_K := (55, 0, [.inr (.inr 34)], [(some (.inl ((-2147483648), 2147483647)), [])], [])
set_option maxRecDepth 100000 in
theorem zc_ao154 : zb_K zp_P zc_H zc_a154 := zb_okK (KT := []) (CT := []) (g := 10) (fun _ h => absurd h List.not_mem_nil) (by decide +kernel)
/-- ClassFrames$Rows.forget .inr (.inr 41) -/
def zc_a155 : za_K := (109, 0, [.inr (.inr 41)], [(none, [])], [(41, 2)])
set_option maxRecDepth 100000 in
theorem zc_ao155 : zb_K zp_P zc_H zc_a155 := zb_okK (KT := []) (CT := []) (g := 11) (fun _ h => absurd h List.not_mem_nil) (by decide +kernel)
/-- ClassFrames$State.begin .inr (.inr 36) .inr (.inr 1) -/
def zc_a156 : za_K := (115, 1, [.inr (.inr 36), .inr (.inr 1)], [(none, [])], [(36, 1), (37, 0)])
set_option maxRecDepth 100000 in
theorem zc_ao156 : zb_K zp_P zc_H zc_a156 := zb_okK (KT := [zc_a12]) (CT := [(2, [(0, .inr (.inr 36)), (1, .inr (.inr 1)), (2, .inl (0, 8))], [], [], 17, [(-2)])]) (g := 20) (List.forall_mem_cons.mpr ⟨zc_ao12, fun _ h => absurd h List.not_mem_nil⟩) (by decide +kernel)
/-- ClassFrames$Rows.add .inr (.inr 41) .inl ((-2147483648), 2147483647) -/
def zc_a157 : za_K := (110, 0, [.inr (.inr 41), .inl ((-2147483648), 2147483647)], [(some (.inl ((-1), 157)), [((-2147483648), 2147483647)])], [(41, 2), (42, 0), (43, 0)])
set_option maxRecDepth 100000 in
theorem zc_ao157 : zb_K zp_P zc_H zc_a157 := zb_okK (KT := []) (CT := [(34, [(0, .inr (.inr 41)), (1, .inl (0, 20)), (2, .inl (0, 20))], [], [((41, 2), 0, 157)], 41, [0, (-2)])]) (g := 25) (fun _ h => absurd h List.not_mem_nil) (by decide +kernel)
/-- ClassFrames$State.kindOf .inr (.inr 36) .inl (0, 7) -/
def zc_a158 : za_K := (118, 0, [.inr (.inr 36), .inl (0, 7)], [(some (.inl ((-2147483648), 2147483647)), [(0, 7)])], [])
set_option maxRecDepth 100000 in
theorem zc_ao158 : zb_K zp_P zc_H zc_a158 := zb_okK (KT := []) (CT := []) (g := 18) (fun _ h => absurd h List.not_mem_nil) (by decide +kernel)
/-- ClassFrames$State.setKind .inr (.inr 36) .inl (0, 13) .inl ((-2147483648), 2147483647) -/
def zc_a159 : za_K := (119, 0, [.inr (.inr 36), .inl (0, 13), .inl ((-2147483648), 2147483647)], [(none, [(0, 13), ((-2147483648), 2147483647)])], [(37, 0)])
set_option maxRecDepth 100000 in
theorem zc_ao159 : zb_K zp_P zc_H zc_a159 := zb_okK (KT := []) (CT := []) (g := 18) (fun _ h => absurd h List.not_mem_nil) (by decide +kernel)
end
section
/-! ===== 21: contracts, found kept (by program) ===== -/
/-- ClassFrames$Machine.setValue .inr (.inr 34) .inl ((-2147483648), 2147483647) .inr (.inl ()) -/
def zc_a160 : za_K := (72, 0, [.inr (.inr 34), .inl ((-2147483648), 2147483647), .inr (.inl ())], [(none, [((-2147483648), 2147483647)])], [(38, 0)])
set_option maxRecDepth 100000 in
theorem zc_ao160 : zb_K zp_P zc_H zc_a160 := zb_okK (KT := []) (CT := []) (g := 18) (fun _ h => absurd h List.not_mem_nil) (by decide +kernel)
/-- ClassFrames$Machine.beginLocal .inr (.inr 34) .inl (0, 7) -/
def zc_a161 : za_K := (58, 1, [.inr (.inr 34), .inl (0, 7)], [(none, [(0, 7)])], [(37, 0), (38, 0), (41, 2), (42, 0), (43, 0)])
set_option maxRecDepth 100000 in
theorem zc_ao161 : zb_K zp_P zc_H zc_a161 := zb_okK (KT := [zc_a158, zc_a157, zc_a160, zc_a159]) (CT := []) (g := 52) (List.forall_mem_cons.mpr ⟨zc_ao158, List.forall_mem_cons.mpr ⟨zc_ao157, List.forall_mem_cons.mpr ⟨zc_ao160, List.forall_mem_cons.mpr ⟨zc_ao159, fun _ h => absurd h List.not_mem_nil⟩⟩⟩⟩) (by decide +kernel)
/-- ClassFrames$Machine.refuse .inr (.inr 34) .inl (1, 7) -/
def zc_a162 : za_K := (59, 0, [.inr (.inr 34), .inl (1, 7)], [(none, [(1, 7)])], [(34, 8), (34, 12)])
set_option maxRecDepth 100000 in
theorem zc_ao162 : zb_K zp_P zc_H zc_a162 := zb_okK (KT := []) (CT := []) (g := 14) (fun _ h => absurd h List.not_mem_nil) (by decide +kernel)
/-- ClassFrames$Machine.begin .inr (.inr 34) -/
def zc_a163 : za_K := (57, 2, [.inr (.inr 34)], [(none, [])], [(34, 7), (34, 8), (34, 9), (34, 10), (34, 11), (34, 12), (34, 13), (36, 1), (37, 0), (38, 0), (41, 2), (42, 0), (43, 0)])
set_option maxRecDepth 100000 in
theorem zc_ao163 : zb_K zp_P zc_H zc_a163 := zb_okK (KT := [zc_a11, zc_a155, zc_a156, zc_a162, zc_a161]) (CT := [(55, [(0, .inr (.inr 34)), (1, .inl (0, 8))], [], [((34, 12), 0, 0), ((34, 11), 2, 2), ((34, 10), 0, 0), ((34, 9), 0, 0), ((34, 8), 0, 0), ((34, 7), 1, 1)], 17, [(-2)])]) (g := 39) (List.forall_mem_cons.mpr ⟨zc_ao11, List.forall_mem_cons.mpr ⟨zc_ao155, List.forall_mem_cons.mpr ⟨zc_ao156, List.forall_mem_cons.mpr ⟨zc_ao162, List.forall_mem_cons.mpr ⟨zc_ao161, fun _ h => absurd h List.not_mem_nil⟩⟩⟩⟩⟩) (by decide +kernel)
/-- ClassFrames$State.kindDown .inr (.inr 36) .inl (0, 2) -/
def zc_a164 : za_K := (120, 0, [.inr (.inr 36), .inl (0, 2)], [(some (.inl ((-2147483648), 2147483647)), [(0, 2)])], [])
set_option maxRecDepth 100000 in
theorem zc_ao164 : zb_K zp_P zc_H zc_a164 := zb_okK (KT := []) (CT := []) (g := 26) (fun _ h => absurd h List.not_mem_nil) (by decide +kernel)
/-- ClassFrames$State.drop .inr (.inr 36) .inl (1, 2) -/
def zc_a165 : za_K := (122, 0, [.inr (.inr 36), .inl (1, 2)], [(none, [(1, 2)])], [(36, 1)])
set_option maxRecDepth 100000 in
theorem zc_ao165 : zb_K zp_P zc_H zc_a165 := zb_okK (KT := []) (CT := []) (g := 19) (fun _ h => absurd h List.not_mem_nil) (by decide +kernel)
/-- ClassFrames$State.push .inr (.inr 36) .inl ((-2147483648), 2147483647) -/
def zc_a166 : za_K := (123, 1, [.inr (.inr 36), .inl ((-2147483648), 2147483647)], [(some (.inl (0, 3)), [((-2147483648), 2147483647)])], [(36, 1), (37, 0)])
set_option maxRecDepth 100000 in
theorem zc_ao166 : zb_K zp_P zc_H zc_a166 := zb_okK (KT := [zc_a159]) (CT := []) (g := 46) (List.forall_mem_cons.mpr ⟨zc_ao159, fun _ h => absurd h List.not_mem_nil⟩) (by decide +kernel)
/-- X1.exchange .inr (.inr 36) .inl ((-2147483648), 2147483647) .inl ((-2147483648), 2147483647) -/
def zc_a167 : za_K := (21, 2, [.inr (.inr 36), .inl ((-2147483648), 2147483647), .inl ((-2147483648), 2147483647)], [(some (.inl (0, 3)), [((-2147483648), 2147483647), ((-2147483648), 2147483647)])], [(36, 1), (37, 0)])
set_option maxRecDepth 100000 in
theorem zc_ao167 : zb_K zp_P zc_H zc_a167 := zb_okK (KT := [zc_a165, zc_a164, zc_a166, zc_a29]) (CT := [(31, [(0, .inr (.inr 36)), (1, .inl (0, 28)), (2, .inl ((-2147483648), 2147483647)), (3, .inl ((-2147483648), 2147483647)), (4, .inl (0, 4))], [], [], 9, [0, 0, 0, (-2)])]) (g := 44) (List.forall_mem_cons.mpr ⟨zc_ao165, List.forall_mem_cons.mpr ⟨zc_ao164, List.forall_mem_cons.mpr ⟨zc_ao166, List.forall_mem_cons.mpr ⟨zc_ao29, fun _ h => absurd h List.not_mem_nil⟩⟩⟩⟩) (by decide +kernel)
/-- X1.load .inr (.inr 36) .inl ((-2147483648), 2147483647) -/
def zc_a168 : za_K := (22, 2, [.inr (.inr 36), .inl ((-2147483648), 2147483647)], [(some (.inl (0, 4)), [((-2147483648), 2147483647)])], [(36, 1), (37, 0)])
set_option maxRecDepth 100000 in
theorem zc_ao168 : zb_K zp_P zc_H zc_a168 := zb_okK (KT := [zc_a158, zc_a166]) (CT := []) (g := 25) (List.forall_mem_cons.mpr ⟨zc_ao158, List.forall_mem_cons.mpr ⟨zc_ao166, fun _ h => absurd h List.not_mem_nil⟩⟩) (by decide +kernel)
/-- ClassFrames$State.store .inr (.inr 36) .inl ((-2147483648), 2147483647) .inl ((-2147483648), 2147483647) -/
def zc_a169 : za_K := (124, 0, [.inr (.inr 36), .inl ((-2147483648), 2147483647), .inl ((-2147483648), 2147483647)], [(some (.inl (0, 4)), [((-2147483648), 2147483647), ((-2147483648), 2147483647)])], [(37, 0)])
set_option maxRecDepth 100000 in
theorem zc_ao169 : zb_K zp_P zc_H zc_a169 := zb_okK (KT := []) (CT := []) (g := 72) (fun _ h => absurd h List.not_mem_nil) (by decide +kernel)
/-- X1.store .inr (.inr 36) .inl ((-2147483648), 2147483647) -/
def zc_a170 : za_K := (23, 1, [.inr (.inr 36), .inl ((-2147483648), 2147483647)], [(some (.inl (0, 4)), [((-2147483648), 2147483647)])], [(36, 1), (37, 0)])
set_option maxRecDepth 100000 in
theorem zc_ao170 : zb_K zp_P zc_H zc_a170 := zb_okK (KT := [zc_a165, zc_a164, zc_a169]) (CT := []) (g := 32) (List.forall_mem_cons.mpr ⟨zc_ao165, List.forall_mem_cons.mpr ⟨zc_ao164, List.forall_mem_cons.mpr ⟨zc_ao169, fun _ h => absurd h List.not_mem_nil⟩⟩⟩) (by decide +kernel)
/-- X1.pop .inr (.inr 36) -/
def zc_a171 : za_K := (24, 1, [.inr (.inr 36)], [(some (.inl (0, 2)), [])], [(36, 1)])
set_option maxRecDepth 100000 in
theorem zc_ao171 : zb_K zp_P zc_H zc_a171 := zb_okK (KT := [zc_a165, zc_a164]) (CT := []) (g := 22) (List.forall_mem_cons.mpr ⟨zc_ao165, List.forall_mem_cons.mpr ⟨zc_ao164, fun _ h => absurd h List.not_mem_nil⟩⟩) (by decide +kernel)
/-- X1.popTwo .inr (.inr 36) -/
def zc_a172 : za_K := (25, 1, [.inr (.inr 36)], [(some (.inl (0, 2)), [])], [(36, 1)])
set_option maxRecDepth 100000 in
theorem zc_ao172 : zb_K zp_P zc_H zc_a172 := zb_okK (KT := [zc_a165, zc_a164]) (CT := []) (g := 22) (List.forall_mem_cons.mpr ⟨zc_ao165, List.forall_mem_cons.mpr ⟨zc_ao164, fun _ h => absurd h List.not_mem_nil⟩⟩) (by decide +kernel)
/-- X1.increase .inr (.inr 36) .inl ((-2147483648), 2147483647) -/
def zc_a173 : za_K := (26, 1, [.inr (.inr 36), .inl ((-2147483648), 2147483647)], [(some (.inl (0, 4)), [((-2147483648), 2147483647)])], [])
set_option maxRecDepth 100000 in
theorem zc_ao173 : zb_K zp_P zc_H zc_a173 := zb_okK (KT := [zc_a158]) (CT := []) (g := 20) (List.forall_mem_cons.mpr ⟨zc_ao158, fun _ h => absurd h List.not_mem_nil⟩) (by decide +kernel)
/-- X1.apply .inr (.inr 36) .inl ((-2147483648), 2147483647) .inl ((-2147483648), 2147483647) -/
def zc_a174 : za_K := (20, 3, [.inr (.inr 36), .inl ((-2147483648), 2147483647), .inl ((-2147483648), 2147483647)], [(some (.inl (0, 4)), [((-2147483648), 2147483647), ((-2147483648), 2147483647)])], [(36, 1), (37, 0)])
set_option maxRecDepth 100000 in
theorem zc_ao174 : zb_K zp_P zc_H zc_a174 := zb_okK (KT := [zc_a171, zc_a172, zc_a168, zc_a170, zc_a173, zc_a167]) (CT := []) (g := 14) (List.forall_mem_cons.mpr ⟨zc_ao171, List.forall_mem_cons.mpr ⟨zc_ao172, List.forall_mem_cons.mpr ⟨zc_ao168, List.forall_mem_cons.mpr ⟨zc_ao170, List.forall_mem_cons.mpr ⟨zc_ao173, List.forall_mem_cons.mpr ⟨zc_ao167, fun _ h => absurd h List.not_mem_nil⟩⟩⟩⟩⟩⟩) (by decide +kernel)
/-- ClassFrames$Machine.finish .inr (.inr 34) .inl (0, 1) -/
def zc_a175 : za_K := (60, 0, [.inr (.inr 34), .inl (0, 1)], [(none, [(0, 1)])], [(34, 8), (34, 11)])
set_option maxRecDepth 100000 in
theorem zc_ao175 : zb_K zp_P zc_H zc_a175 := zb_okK (KT := []) (CT := []) (g := 14) (fun _ h => absurd h List.not_mem_nil) (by decide +kernel)
/-- ClassFrames$State.depth .inr (.inr 36) -/
def zc_a176 : za_K := (116, 0, [.inr (.inr 36)], [(some (.inl (0, 6)), [])], [])
set_option maxRecDepth 100000 in
theorem zc_ao176 : zb_K zp_P zc_H zc_a176 := zb_okK (KT := []) (CT := []) (g := 10) (fun _ h => absurd h List.not_mem_nil) (by decide +kernel)
/-- ClassFrames$Machine.value .inr (.inr 34) .inl ((-2147483648), 2147483647) -/
def zc_a177 : za_K := (71, 0, [.inr (.inr 34), .inl ((-2147483648), 2147483647)], [(some (.inr (.inl ())), [((-2147483648), 2147483647)])], [])
set_option maxRecDepth 100000 in
theorem zc_ao177 : zb_K zp_P zc_H zc_a177 := zb_okK (KT := []) (CT := []) (g := 18) (fun _ h => absurd h List.not_mem_nil) (by decide +kernel)
/-- ClassFrames$Machine.look .inr (.inr 34) -/
def zc_a178 : za_K := (62, 1, [.inr (.inr 34)], [(none, [])], [(39, 0), (40, 0)])
set_option maxRecDepth 100000 in
theorem zc_ao178 : zb_K zp_P zc_H zc_a178 := zb_okK (KT := [zc_a176, zc_a164, zc_a177]) (CT := [(2, [(0, .inr (.inr 34)), (1, .inl (0, 3))], [], [], 7, [(-2)])]) (g := 36) (List.forall_mem_cons.mpr ⟨zc_ao176, List.forall_mem_cons.mpr ⟨zc_ao164, List.forall_mem_cons.mpr ⟨zc_ao177, fun _ h => absurd h List.not_mem_nil⟩⟩⟩) (by decide +kernel)
/-- ClassFrames$Rows.hasCell .inr (.inr 41) .inl ((-2147483648), 2147483647) .inl ((-2147483648), 2147483647) -/
def zc_a179 : za_K := (112, 0, [.inr (.inr 41), .inl ((-2147483648), 2147483647), .inl ((-2147483648), 2147483647)], [(some (.inl (0, 0)), [((-2147483648), 2147483647), ((-2147483648), 2147483647)]), (some (.inl (1, 1)), [(0, 157), (0, 19)])], [])
set_option maxRecDepth 100000 in
theorem zc_ao179 : zb_K zp_P zc_H zc_a179 := zb_okK (KT := []) (CT := []) (g := 24) (fun _ h => absurd h List.not_mem_nil) (by decide +kernel)
/-- ClassFrames$Machine.takenInt .inr (.inr 34) .inl (0, 2) -/
def zc_a180 : za_K := (63, 0, [.inr (.inr 34), .inl (0, 2)], [(some (.inl ((-2147483648), 2147483647)), [(0, 2)])], [])
set_option maxRecDepth 100000 in
theorem zc_ao180 : zb_K zp_P zc_H zc_a180 := zb_okK (KT := []) (CT := []) (g := 19) (fun _ h => absurd h List.not_mem_nil) (by decide +kernel)
/-- ClassFrames$Machine.refusalOf .inr (.inr 34) .inl ((-2147483648), 2147483647) .inl ((-2147483648), 2147483647) -/
def zc_a181 : za_K := (64, 1, [.inr (.inr 34), .inl ((-2147483648), 2147483647), .inl ((-2147483648), 2147483647)], [(some (.inl (0, 6)), [((-2147483648), 2147483647), ((-2147483648), 2147483647)])], [])
set_option maxRecDepth 100000 in
theorem zc_ao181 : zb_K zp_P zc_H zc_a181 := zb_okK (KT := [zc_a180, zc_a29, zc_a179]) (CT := []) (g := 28) (List.forall_mem_cons.mpr ⟨zc_ao180, List.forall_mem_cons.mpr ⟨zc_ao29, List.forall_mem_cons.mpr ⟨zc_ao179, fun _ h => absurd h List.not_mem_nil⟩⟩⟩) (by decide +kernel)
/-- ClassFrames$State.leaveAlone .inr (.inr 36) .inl ((-2147483648), 2147483647) -/
def zc_a182 : za_K := (121, 0, [.inr (.inr 36), .inl ((-2147483648), 2147483647)], [(none, [((-2147483648), 2147483647)])], [(36, 1), (37, 0)])
set_option maxRecDepth 100000 in
theorem zc_ao182 : zb_K zp_P zc_H zc_a182 := zb_okK (KT := []) (CT := []) (g := 16) (fun _ h => absurd h List.not_mem_nil) (by decide +kernel)
/-- ClassFrames$Code.taker .inr (.inr 1) .inl ((-2147483648), 2147483647) .inl ((-2147483648), 2147483647) -/
def zc_a183 : za_K := (18, 2, [.inr (.inr 1), .inl ((-2147483648), 2147483647), .inl ((-2147483648), 2147483647)], [(some (.inl ((-1), 5)), [((-2147483648), 2147483647), ((-2147483648), 2147483647)])], [])
set_option maxRecDepth 100000 in
theorem zc_ao183 : zb_K zp_P zc_H zc_a183 := zb_okK (KT := [zc_a46, zc_a44, zc_a29]) (CT := [(2, [(0, .inr (.inr 1)), (1, .inl ((-2147483648), 2147483647)), (2, .inl ((-2147483648), 2147483647)), (3, .inl (0, 6))], [], [], 13, [0, 0, (-2)])]) (g := 25) (List.forall_mem_cons.mpr ⟨zc_ao46, List.forall_mem_cons.mpr ⟨zc_ao44, List.forall_mem_cons.mpr ⟨zc_ao29, fun _ h => absurd h List.not_mem_nil⟩⟩⟩) (by decide +kernel)
/-- ClassFrames$Machine.goTo .inr (.inr 34) .inl ((-2147483648), 2147483647) -/
def zc_a184 : za_K := (70, 1, [.inr (.inr 34), .inl ((-2147483648), 2147483647)], [(none, [((-2147483648), 2147483647)])], [(34, 8), (34, 9), (34, 12)])
set_option maxRecDepth 100000 in
theorem zc_ao184 : zb_K zp_P zc_H zc_a184 := zb_okK (KT := [zc_a162, zc_a38]) (CT := []) (g := 17) (List.forall_mem_cons.mpr ⟨zc_ao162, List.forall_mem_cons.mpr ⟨zc_ao38, fun _ h => absurd h List.not_mem_nil⟩⟩) (by decide +kernel)
/-- ClassFrames$Machine.raise .inr (.inr 34) .inl ((-2147483648), 2147483647) .inr (.inl ()) -/
def zc_a185 : za_K := (65, 3, [.inr (.inr 34), .inl ((-2147483648), 2147483647), .inr (.inl ())], [(none, [((-2147483648), 2147483647)])], [(34, 8), (34, 9), (34, 11), (34, 12), (34, 13), (36, 1), (37, 0), (38, 0)])
set_option maxRecDepth 100000 in
theorem zc_ao185 : zb_K zp_P zc_H zc_a185 := zb_okK (KT := [zc_a175, zc_a45, zc_a160, zc_a182, zc_a184, zc_a183]) (CT := []) (g := 32) (List.forall_mem_cons.mpr ⟨zc_ao175, List.forall_mem_cons.mpr ⟨zc_ao45, List.forall_mem_cons.mpr ⟨zc_ao160, List.forall_mem_cons.mpr ⟨zc_ao182, List.forall_mem_cons.mpr ⟨zc_ao184, List.forall_mem_cons.mpr ⟨zc_ao183, fun _ h => absurd h List.not_mem_nil⟩⟩⟩⟩⟩⟩) (by decide +kernel)
/-- ClassFrames$Rows.lengthOf .inr (.inr 41) .inl ((-2147483648), 2147483647) -/
def zc_a186 : za_K := (111, 0, [.inr (.inr 41), .inl ((-2147483648), 2147483647)], [(some (.inl (0, 20)), [((-2147483648), 2147483647)])], [])
set_option maxRecDepth 100000 in
theorem zc_ao186 : zb_K zp_P zc_H zc_a186 := zb_okK (KT := []) (CT := []) (g := 19) (fun _ h => absurd h List.not_mem_nil) (by decide +kernel)
/-- ClassFrames$Rows.cell .inr (.inr 41) .inl ((-2147483648), 2147483647) .inl ((-2147483648), 2147483647) -/
def zc_a187 : za_K := (113, 1, [.inr (.inr 41), .inl ((-2147483648), 2147483647), .inl ((-2147483648), 2147483647)], [(some (.inl ((-2147483648), 2147483647)), [((-2147483648), 2147483647), ((-2147483648), 2147483647)])], [])
set_option maxRecDepth 100000 in
theorem zc_ao187 : zb_K zp_P zc_H zc_a187 := zb_okK (KT := [zc_a179]) (CT := []) (g := 22) (List.forall_mem_cons.mpr ⟨zc_ao179, fun _ h => absurd h List.not_mem_nil⟩) (by decide +kernel)
/-- ClassFrames$Rows.setCell .inr (.inr 41) .inl ((-2147483648), 2147483647) .inl ((-2147483648), 2147483647) .inl ((-2147483648), 2147483647) -/
def zc_a188 : za_K := (114, 1, [.inr (.inr 41), .inl ((-2147483648), 2147483647), .inl ((-2147483648), 2147483647), .inl ((-2147483648), 2147483647)], [(none, [((-2147483648), 2147483647), ((-2147483648), 2147483647), ((-2147483648), 2147483647)])], [(43, 0)])
set_option maxRecDepth 100000 in
theorem zc_ao188 : zb_K zp_P zc_H zc_a188 := zb_okK (KT := [zc_a179]) (CT := []) (g := 22) (List.forall_mem_cons.mpr ⟨zc_ao179, fun _ h => absurd h List.not_mem_nil⟩) (by decide +kernel)
/-- ClassFrames$Machine.leave .inr (.inr 34) .inr (.inl ()) -/
def zc_a189 : za_K := (68, 1, [.inr (.inr 34), .inr (.inl ())], [(none, [])], [(38, 0)])
set_option maxRecDepth 100000 in
theorem zc_ao189 : zb_K zp_P zc_H zc_a189 := zb_okK (KT := [zc_a176, zc_a160]) (CT := []) (g := 18) (List.forall_mem_cons.mpr ⟨zc_ao176, List.forall_mem_cons.mpr ⟨zc_ao160, fun _ h => absurd h List.not_mem_nil⟩⟩) (by decide +kernel)
/-- ClassFrames$Machine.reckon .inr (.inr 34) .inl ((-2147483648), 2147483647) -/
def zc_a190 : za_K := (67, 2, [.inr (.inr 34), .inl ((-2147483648), 2147483647)], [(none, [((-2147483648), 2147483647)])], [(38, 0), (43, 0)])
set_option maxRecDepth 100000 in
theorem zc_ao190 : zb_K zp_P zc_H zc_a190 := zb_okK (KT := [zc_a189, zc_a180, zc_a186, zc_a187, zc_a188]) (CT := []) (g := 25) (List.forall_mem_cons.mpr ⟨zc_ao189, List.forall_mem_cons.mpr ⟨zc_ao180, List.forall_mem_cons.mpr ⟨zc_ao186, List.forall_mem_cons.mpr ⟨zc_ao187, List.forall_mem_cons.mpr ⟨zc_ao188, fun _ h => absurd h List.not_mem_nil⟩⟩⟩⟩⟩) (by decide +kernel)
/-- ClassFrames$Machine.work .inr (.inr 34) .inl ((-2147483648), 2147483647) .inl ((-2147483648), 2147483647) -/
def zc_a191 : za_K := (66, 3, [.inr (.inr 34), .inl ((-2147483648), 2147483647), .inl ((-2147483648), 2147483647)], [(none, [((-2147483648), 2147483647), ((-2147483648), 2147483647)])], [(37, 0), (38, 0), (41, 2), (42, 0), (43, 0)])
set_option maxRecDepth 100000 in
theorem zc_ao191 : zb_K zp_P zc_H zc_a191 := zb_okK (KT := [zc_a176, zc_a189, zc_a180, zc_a56, zc_a157, zc_a160, zc_a177, zc_a190, zc_a159]) (CT := []) (g := 25) (List.forall_mem_cons.mpr ⟨zc_ao176, List.forall_mem_cons.mpr ⟨zc_ao189, List.forall_mem_cons.mpr ⟨zc_ao180, List.forall_mem_cons.mpr ⟨zc_ao56, List.forall_mem_cons.mpr ⟨zc_ao157, List.forall_mem_cons.mpr ⟨zc_ao160, List.forall_mem_cons.mpr ⟨zc_ao177, List.forall_mem_cons.mpr ⟨zc_ao190, List.forall_mem_cons.mpr ⟨zc_ao159, fun _ h => absurd h List.not_mem_nil⟩⟩⟩⟩⟩⟩⟩⟩⟩) (by decide +kernel)
/-- ClassFrames$Machine.goFrom .inr (.inr 34) .inl ((-2147483648), 2147483647) .inl ((-2147483648), 2147483647) -/
def zc_a192 : za_K := (69, 2, [.inr (.inr 34), .inl ((-2147483648), 2147483647), .inl ((-2147483648), 2147483647)], [(none, [((-2147483648), 2147483647), ((-2147483648), 2147483647)])], [(34, 8), (34, 9), (34, 12)])
set_option maxRecDepth 100000 in
theorem zc_ao192 : zb_K zp_P zc_H zc_a192 := zb_okK (KT := [zc_a180, zc_a162, zc_a38, zc_a56, zc_a184]) (CT := []) (g := 55) (List.forall_mem_cons.mpr ⟨zc_ao180, List.forall_mem_cons.mpr ⟨zc_ao162, List.forall_mem_cons.mpr ⟨zc_ao38, List.forall_mem_cons.mpr ⟨zc_ao56, List.forall_mem_cons.mpr ⟨zc_ao184, fun _ h => absurd h List.not_mem_nil⟩⟩⟩⟩⟩) (by decide +kernel)
/-- ClassFrames$Machine.step .inr (.inr 34) -/
def zc_a193 : za_K := (61, 4, [.inr (.inr 34)], [(none, [])], [(34, 8), (34, 9), (34, 11), (34, 12), (34, 13), (34, 14), (36, 1), (37, 0), (38, 0), (39, 0), (40, 0), (41, 2), (42, 0), (43, 0)])
set_option maxRecDepth 100000 in
theorem zc_ao193 : zb_K zp_P zc_H zc_a193 := zb_okK (KT := [zc_a178, zc_a175, zc_a162, zc_a39, zc_a40, zc_a185, zc_a174, zc_a181, zc_a191, zc_a192]) (CT := []) (g := 51) (List.forall_mem_cons.mpr ⟨zc_ao178, List.forall_mem_cons.mpr ⟨zc_ao175, List.forall_mem_cons.mpr ⟨zc_ao162, List.forall_mem_cons.mpr ⟨zc_ao39, List.forall_mem_cons.mpr ⟨zc_ao40, List.forall_mem_cons.mpr ⟨zc_ao185, List.forall_mem_cons.mpr ⟨zc_ao174, List.forall_mem_cons.mpr ⟨zc_ao181, List.forall_mem_cons.mpr ⟨zc_ao191, List.forall_mem_cons.mpr ⟨zc_ao192, fun _ h => absurd h List.not_mem_nil⟩⟩⟩⟩⟩⟩⟩⟩⟩⟩) (by decide +kernel)
/-- ClassFrames$Machine.go .inr (.inr 34) .inl (0, 300) -/
def zc_a194 : za_K := (56, 5, [.inr (.inr 34), .inl (0, 300)], [(none, [(0, 300)])], [(34, 7), (34, 8), (34, 9), (34, 10), (34, 11), (34, 12), (34, 13), (34, 14), (36, 1), (37, 0), (38, 0), (39, 0), (40, 0), (41, 2), (42, 0), (43, 0)])
set_option maxRecDepth 100000 in
theorem zc_ao194 : zb_K zp_P zc_H zc_a194 := zb_okK (KT := [zc_a163, zc_a193]) (CT := [(4, [(0, .inr (.inr 34)), (1, .inl (0, 300))], [], [((34, 10), 0, 300)], 601, [0, (-2)])]) (g := 24) (List.forall_mem_cons.mpr ⟨zc_ao163, List.forall_mem_cons.mpr ⟨zc_ao193, fun _ h => absurd h List.not_mem_nil⟩⟩) (by decide +kernel)
/-- ClassFrames.run .inr (.inr 0) .inl ((-2147483648), 2147483647) -/
def zc_a195 : za_K := (149, 6, [.inr (.inr 0), .inl ((-2147483648), 2147483647)], [(some (.inl ((-2147483648), 2147483647)), [((-2147483648), 2147483647)])], [(0, 6), (34, 7), (34, 8), (34, 9), (34, 10), (34, 11), (34, 12), (34, 13), (34, 14), (36, 1), (37, 0), (38, 0), (39, 0), (40, 0), (41, 2), (42, 0), (43, 0)])
set_option maxRecDepth 100000 in
theorem zc_ao195 : zb_K zp_P zc_H zc_a195 := zb_okK (KT := [zc_a151, zc_a152, zc_a153, zc_a154, zc_a194, zc_a8]) (CT := []) (g := 33) (List.forall_mem_cons.mpr ⟨zc_ao151, List.forall_mem_cons.mpr ⟨zc_ao152, List.forall_mem_cons.mpr ⟨zc_ao153, List.forall_mem_cons.mpr ⟨zc_ao154, List.forall_mem_cons.mpr ⟨zc_ao194, List.forall_mem_cons.mpr ⟨zc_ao8, fun _ h => absurd h List.not_mem_nil⟩⟩⟩⟩⟩⟩) (by decide +kernel)
/-- ClassFrames$Machine.hasReturned .inr (.inr 34) -/
def zc_a196 : za_K := (74, 0, [.inr (.inr 34)], [(some (.inl (0, 0)), []), (some (.inl (1, 1)), [])], [])
set_option maxRecDepth 100000 in
theorem zc_ao196 : zb_K zp_P zc_H zc_a196 := zb_okK (KT := []) (CT := []) (g := 16) (fun _ h => absurd h List.not_mem_nil) (by decide +kernel)
/-- ClassFrames$Machine.topmostKind .inr (.inr 34) -/
def zc_a197 : za_K := (75, 1, [.inr (.inr 34)], [(some (.inl ((-2147483648), 2147483647)), [])], [])
set_option maxRecDepth 100000 in
theorem zc_ao197 : zb_K zp_P zc_H zc_a197 := zb_okK (KT := [zc_a196, zc_a164]) (CT := []) (g := 22) (List.forall_mem_cons.mpr ⟨zc_ao196, List.forall_mem_cons.mpr ⟨zc_ao164, fun _ h => absurd h List.not_mem_nil⟩⟩) (by decide +kernel)
/-- ClassFrames$Machine.topmostNumber .inr (.inr 34) -/
def zc_a198 : za_K := (76, 2, [.inr (.inr 34)], [(some (.inr (.inl ())), [])], [])
set_option maxRecDepth 100000 in
theorem zc_ao198 : zb_K zp_P zc_H zc_a198 := zb_okK (KT := [zc_a176, zc_a197, zc_a177, zc_a186]) (CT := []) (g := 27) (List.forall_mem_cons.mpr ⟨zc_ao176, List.forall_mem_cons.mpr ⟨zc_ao197, List.forall_mem_cons.mpr ⟨zc_ao177, List.forall_mem_cons.mpr ⟨zc_ao186, fun _ h => absurd h List.not_mem_nil⟩⟩⟩⟩) (by decide +kernel)
/-- ClassFrames$Machine.tell .inr (.inr 34) .inl ((-2147483648), 2147483647) -/
def zc_a199 : za_K := (73, 3, [.inr (.inr 34), .inl ((-2147483648), 2147483647)], [(some (.inr (.inl ())), [((-2147483648), 2147483647)])], [])
set_option maxRecDepth 100000 in
theorem zc_ao199 : zb_K zp_P zc_H zc_a199 := zb_okK (KT := [zc_a197, zc_a198]) (CT := []) (g := 16) (List.forall_mem_cons.mpr ⟨zc_ao197, List.forall_mem_cons.mpr ⟨zc_ao198, fun _ h => absurd h List.not_mem_nil⟩⟩) (by decide +kernel)
end
section
/-! ===== 21: contracts, found kept (by program) ===== -/
/-- ClassFrames.told .inr (.inr 0) .inl ((-2147483648), 2147483647) -/
def zc_a200 : za_K := (150, 4, [.inr (.inr 0), .inl ((-2147483648), 2147483647)], [(some (.inr (.inl ())), [((-2147483648), 2147483647)])], [])
set_option maxRecDepth 100000 in
theorem zc_ao200 : zb_K zp_P zc_H zc_a200 := zb_okK (KT := [zc_a199]) (CT := []) (g := 12) (List.forall_mem_cons.mpr ⟨zc_ao199, fun _ h => absurd h List.not_mem_nil⟩) (by decide +kernel)
/-- ClassFrames$Maker.rounds .inr (.inr 16) -/
def zc_a201 : za_K := (79, 0, [.inr (.inr 16)], [(some (.inl (0, 3421)), [])], [])
set_option maxRecDepth 100000 in
theorem zc_ao201 : zb_K zp_P zc_H zc_a201 := zb_okK (KT := []) (CT := []) (g := 10) (fun _ h => absurd h List.not_mem_nil) (by decide +kernel)
/-- ClassFrames$Maker.deadPlaces .inr (.inr 16) -/
def zc_a202 : za_K := (84, 2, [.inr (.inr 16)], [(some (.inl ((-2147483648), 2147483647)), [])], [])
set_option maxRecDepth 100000 in
theorem zc_ao202 : zb_K zp_P zc_H zc_a202 := zb_okK (KT := [zc_a11, zc_a22]) (CT := [(4, [(0, .inr (.inr 16)), (1, .inl ((-2147483648), 2147483647)), (2, .inl (0, 60))], [], [], 121, [0, (-2)])]) (g := 20) (List.forall_mem_cons.mpr ⟨zc_ao11, List.forall_mem_cons.mpr ⟨zc_ao22, fun _ h => absurd h List.not_mem_nil⟩⟩) (by decide +kernel)
/-- ClassFrames.count .inr (.inr 0) .inl ((-2147483648), 2147483647) -/
def zc_a203 : za_K := (151, 3, [.inr (.inr 0), .inl ((-2147483648), 2147483647)], [(some (.inl ((-2147483648), 2147483647)), [((-2147483648), 2147483647)])], [])
set_option maxRecDepth 100000 in
theorem zc_ao203 : zb_K zp_P zc_H zc_a203 := zb_okK (KT := [zc_a9, zc_a11, zc_a47, zc_a70, zc_a145, zc_a201, zc_a202]) (CT := []) (g := 18) (List.forall_mem_cons.mpr ⟨zc_ao9, List.forall_mem_cons.mpr ⟨zc_ao11, List.forall_mem_cons.mpr ⟨zc_ao47, List.forall_mem_cons.mpr ⟨zc_ao70, List.forall_mem_cons.mpr ⟨zc_ao145, List.forall_mem_cons.mpr ⟨zc_ao201, List.forall_mem_cons.mpr ⟨zc_ao202, fun _ h => absurd h List.not_mem_nil⟩⟩⟩⟩⟩⟩⟩) (by decide +kernel)
/-- ClassFrames$Code.forget .inr (.inr 1) -/
def zc_a204 : za_K := (3, 0, [.inr (.inr 1)], [(none, [])], [(1, 3), (1, 8), (1, 10)])
set_option maxRecDepth 100000 in
theorem zc_ao204 : zb_K zp_P zc_H zc_a204 := zb_okK (KT := []) (CT := []) (g := 17) (fun _ h => absurd h List.not_mem_nil) (by decide +kernel)
/-- ClassFrames.clear .inr (.inr 0) -/
def zc_a205 : za_K := (152, 1, [.inr (.inr 0)], [(some (.inl (0, 60)), [])], [(1, 3), (1, 8), (1, 10), (16, 4)])
set_option maxRecDepth 100000 in
theorem zc_ao205 : zb_K zp_P zc_H zc_a205 := zb_okK (KT := [zc_a1, zc_a11, zc_a204]) (CT := []) (g := 19) (List.forall_mem_cons.mpr ⟨zc_ao1, List.forall_mem_cons.mpr ⟨zc_ao11, List.forall_mem_cons.mpr ⟨zc_ao204, fun _ h => absurd h List.not_mem_nil⟩⟩⟩) (by decide +kernel)
end
section
/-! ===== 21: contracts, found kept (by program) ===== -/
/-- ClassFramesModel.in .inl ((-2147483648), 2147483647) .inl ((-2147483648), 2147483647) .inl ((-2147483648), 2147483647) -/
def zc_b0 : za_K := (155, 0, [.inl ((-2147483648), 2147483647), .inl ((-2147483648), 2147483647), .inl ((-2147483648), 2147483647)], [(some (.inl (0, 0)), [((-2147483648), 2147483647), ((-2147483648), 2147483647), ((-2147483648), 2147483647)]), (some (.inl (1, 1)), [((-2147483648), 2147483647), ((-2147483648), 2147483647), ((-2147483648), 2147483647)])], [])
set_option maxRecDepth 100000 in
theorem zc_bo0 : zb_K zp_P zc_H zc_b0 := zb_okK (KT := []) (CT := []) (g := 16) (fun _ h => absurd h List.not_mem_nil) (by decide +kernel)
/-- ClassFramesModel.goesAs .inl (0, 8) .inl (0, 8) -/
def zc_b1 : za_K := (156, 0, [.inl (0, 8), .inl (0, 8)], [(some (.inl (0, 0)), [(0, 8), (1, 8)]), (some (.inl (1, 1)), [(0, 8), (0, 8)])], [])
set_option maxRecDepth 100000 in
theorem zc_bo1 : zb_K zp_P zc_H zc_b1 := zb_okK (KT := []) (CT := []) (g := 33) (fun _ h => absurd h List.not_mem_nil) (by decide +kernel)
/-- ClassFramesModel.top .inr (.inr 44) -/
def zc_b2 : za_K := (160, 0, [.inr (.inr 44)], [(some (.inl (0, 8)), [])], [])
set_option maxRecDepth 100000 in
theorem zc_bo2 : zb_K zp_P zc_H zc_b2 := zb_okK (KT := []) (CT := []) (g := 17) (fun _ h => absurd h List.not_mem_nil) (by decide +kernel)
/-- ClassFramesModel.goesOn .inr (.inr 44) .inl (0, 59) -/
def zc_b3 : za_K := (168, 0, [.inr (.inr 44), .inl (0, 59)], [(some (.inl (0, 0)), [(0, 59)]), (some (.inl (1, 1)), [(0, 59)])], [])
set_option maxRecDepth 100000 in
theorem zc_bo3 : zb_K zp_P zc_H zc_b3 := zb_okK (KT := []) (CT := []) (g := 22) (fun _ h => absurd h List.not_mem_nil) (by decide +kernel)
/-- ClassFramesModel.frameLocal .inr (.inr 44) .inl (0, 59) .inl (0, 7) -/
def zc_b4 : za_K := (181, 0, [.inr (.inr 44), .inl (0, 59), .inl (0, 7)], [(some (.inl (0, 8)), [(0, 59), (0, 7)])], [])
set_option maxRecDepth 100000 in
theorem zc_bo4 : zb_K zp_P zc_H zc_b4 := zb_okK (KT := []) (CT := []) (g := 23) (fun _ h => absurd h List.not_mem_nil) (by decide +kernel)
/-- ClassFramesModel.localsGo .inr (.inr 44) .inl (0, 59) -/
def zc_b5 : za_K := (182, 1, [.inr (.inr 44), .inl (0, 59)], [(some (.inl (0, 0)), [(0, 59)]), (some (.inl (1, 1)), [(0, 59)])], [])
set_option maxRecDepth 100000 in
theorem zc_bo5 : zb_K zp_P zc_H zc_b5 := zb_okK (KT := [zc_b1, zc_b4]) (CT := [(2, [(0, .inr (.inr 44)), (1, .inl (0, 59)), (2, .inl (0, 8))], [], [], 17, [0, (-2)])]) (g := 23) (List.forall_mem_cons.mpr ⟨zc_bo1, List.forall_mem_cons.mpr ⟨zc_bo4, fun _ h => absurd h List.not_mem_nil⟩⟩) (by decide +kernel)
/-- ClassFramesModel.goes .inr (.inr 44) .inl (0, 59) -/
def zc_b6 : za_K := (183, 2, [.inr (.inr 44), .inl (0, 59)], [(some (.inl (0, 0)), [(0, 59)]), (some (.inl (1, 1)), [(0, 59)])], [])
set_option maxRecDepth 100000 in
theorem zc_bo6 : zb_K zp_P zc_H zc_b6 := zb_okK (KT := [zc_b1, zc_b5]) (CT := [(25, [(0, .inr (.inr 44)), (1, .inl (0, 59)), (2, .inl (0, 6))], [], [((44, 25), 0, 6)], 13, [0, (-2)])]) (g := 35) (List.forall_mem_cons.mpr ⟨zc_bo1, List.forall_mem_cons.mpr ⟨zc_bo5, fun _ h => absurd h List.not_mem_nil⟩⟩) (by decide +kernel)
/-- ClassFramesModel.wide .inr (.inr 66) .inl (0, 13) .inl (0, 14) -/
def zc_b7 : za_K := (188, 0, [.inr (.inr 66), .inl (0, 13), .inl (0, 14)], [(some (.inl (1, 2)), [(0, 13), (0, 14)])], [])
set_option maxRecDepth 100000 in
theorem zc_bo7 : zb_K zp_P zc_H zc_b7 := zb_okK (KT := []) (CT := []) (g := 27) (fun _ h => absurd h List.not_mem_nil) (by decide +kernel)
/-- ClassFramesModel.alike .inr (.inr 44) .inl (0, 8) -/
def zc_b8 : za_K := (192, 0, [.inr (.inr 44), .inl (0, 8)], [(some (.inl (0, 0)), [(0, 8)]), (some (.inl (1, 1)), [(0, 8)])], [])
set_option maxRecDepth 100000 in
theorem zc_bo8 : zb_K zp_P zc_H zc_b8 := zb_okK (KT := []) (CT := [(2, [(0, .inr (.inr 44)), (1, .inl (0, 8)), (2, .inl (0, 8))], [], [], 17, [0, (-2)])]) (g := 22) (fun _ h => absurd h List.not_mem_nil) (by decide +kernel)
/-- ClassFramesModel.out .inr (.inr 44) .inl ((-2147483648), 2147483647) -/
def zc_b9 : za_K := (195, 0, [.inr (.inr 44), .inl ((-2147483648), 2147483647)], [(some (.inl ((-2147483648), 2147483647)), [((-2147483648), 2147483647)])], [(44, 0)])
set_option maxRecDepth 100000 in
theorem zc_bo9 : zb_K zp_P zc_H zc_b9 := zb_okK (KT := []) (CT := []) (g := 25) (fun _ h => absurd h List.not_mem_nil) (by decide +kernel)
/-- ClassFramesModel.in .inl ((-2147483648), 2147483647) .inl (5, 5) .inl (8, 8) -/
def zc_b10 : za_K := (155, 0, [.inl ((-2147483648), 2147483647), .inl (5, 5), .inl (8, 8)], [(some (.inl (0, 0)), [((-2147483648), 2147483647), (5, 5), (8, 8)]), (some (.inl (1, 1)), [(5, 8), (5, 5), (8, 8)])], [])
set_option maxRecDepth 100000 in
theorem zc_bo10 : zb_K zp_P zc_H zc_b10 := zb_okK (KT := []) (CT := []) (g := 16) (fun _ h => absurd h List.not_mem_nil) (by decide +kernel)
/-- ClassFramesModel.parameter .inr (.inr 44) .inl ((-2147483648), 2147483647) -/
def zc_b11 : za_K := (196, 1, [.inr (.inr 44), .inl ((-2147483648), 2147483647)], [(some (.inl ((-4), 7)), [((-2147483648), 2147483647)])], [(44, 0), (44, 10), (44, 13), (52, 0)])
set_option maxRecDepth 100000 in
theorem zc_bo11 : zb_K zp_P zc_H zc_b11 := zb_okK (KT := [zc_b10]) (CT := []) (g := 59) (List.forall_mem_cons.mpr ⟨zc_bo10, fun _ h => absurd h List.not_mem_nil⟩) (by decide +kernel)
/-- ClassFramesModel.in .inl ((-2147483648), 2147483647) .inl (0, 0) .inl (28, 28) -/
def zc_b12 : za_K := (155, 0, [.inl ((-2147483648), 2147483647), .inl (0, 0), .inl (28, 28)], [(some (.inl (0, 0)), [((-2147483648), 2147483647), (0, 0), (28, 28)]), (some (.inl (1, 1)), [(0, 28), (0, 0), (28, 28)])], [])
set_option maxRecDepth 100000 in
theorem zc_bo12 : zb_K zp_P zc_H zc_b12 := zb_okK (KT := []) (CT := []) (g := 16) (fun _ h => absurd h List.not_mem_nil) (by decide +kernel)
/-- ClassFramesModel.operation .inr (.inr 44) .inl ((-2147483648), 2147483647) .inl ((-2147483648), 2147483647) .inl ((-2147483648), 2147483647) -/
def zc_b13 : za_K := (197, 1, [.inr (.inr 44), .inl ((-2147483648), 2147483647), .inl ((-2147483648), 2147483647), .inl ((-2147483648), 2147483647)], [(some (.inl ((-4), 59)), [((-2147483648), 2147483647), ((-2147483648), 2147483647), ((-2147483648), 2147483647)])], [(44, 0), (44, 1), (44, 13), (45, 0), (46, 0), (47, 0)])
set_option maxRecDepth 100000 in
theorem zc_bo13 : zb_K zp_P zc_H zc_b13 := zb_okK (KT := [zc_b10, zc_b12]) (CT := []) (g := 59) (List.forall_mem_cons.mpr ⟨zc_bo10, List.forall_mem_cons.mpr ⟨zc_bo12, fun _ h => absurd h List.not_mem_nil⟩⟩) (by decide +kernel)
/-- ClassFramesModel.in .inl ((-2147483648), 2147483647) .inl (0, 0) .inl (60, 60) -/
def zc_b14 : za_K := (155, 0, [.inl ((-2147483648), 2147483647), .inl (0, 0), .inl (60, 60)], [(some (.inl (0, 0)), [((-2147483648), 2147483647), (0, 0), (60, 60)]), (some (.inl (1, 1)), [(0, 60), (0, 0), (60, 60)])], [])
set_option maxRecDepth 100000 in
theorem zc_bo14 : zb_K zp_P zc_H zc_b14 := zb_okK (KT := []) (CT := []) (g := 16) (fun _ h => absurd h List.not_mem_nil) (by decide +kernel)
/-- ClassFramesModel.in .inl ((-2147483648), 2147483647) .inl (7, 7) .inl (8, 8) -/
def zc_b15 : za_K := (155, 0, [.inl ((-2147483648), 2147483647), .inl (7, 7), .inl (8, 8)], [(some (.inl (0, 0)), [((-2147483648), 2147483647), (7, 7), (8, 8)]), (some (.inl (1, 1)), [(7, 8), (7, 7), (8, 8)])], [])
set_option maxRecDepth 100000 in
theorem zc_bo15 : zb_K zp_P zc_H zc_b15 := zb_okK (KT := []) (CT := []) (g := 16) (fun _ h => absurd h List.not_mem_nil) (by decide +kernel)
/-- ClassFramesModel.handler .inr (.inr 44) .inl ((-2147483648), 2147483647) .inl ((-2147483648), 2147483647) .inl ((-2147483648), 2147483647) .inl ((-2147483648), 2147483647) -/
def zc_b16 : za_K := (198, 1, [.inr (.inr 44), .inl ((-2147483648), 2147483647), .inl ((-2147483648), 2147483647), .inl ((-2147483648), 2147483647), .inl ((-2147483648), 2147483647)], [(some (.inl ((-4), 5)), [((-2147483648), 2147483647), ((-2147483648), 2147483647), ((-2147483648), 2147483647), ((-2147483648), 2147483647)])], [(44, 0), (44, 5), (44, 13), (48, 0), (49, 0), (50, 0), (51, 0)])
set_option maxRecDepth 100000 in
theorem zc_bo16 : zb_K zp_P zc_H zc_b16 := zb_okK (KT := [zc_b14, zc_b15]) (CT := []) (g := 72) (List.forall_mem_cons.mpr ⟨zc_bo14, List.forall_mem_cons.mpr ⟨zc_bo15, fun _ h => absurd h List.not_mem_nil⟩⟩) (by decide +kernel)
/-- ClassFramesModel.fault .inr (.inr 44) -/
def zc_b17 : za_K := (199, 0, [.inr (.inr 44)], [(some (.inl ((-2147483648), 2147483647)), [])], [(44, 0)])
set_option maxRecDepth 100000 in
theorem zc_bo17 : zb_K zp_P zc_H zc_b17 := zb_okK (KT := []) (CT := []) (g := 13) (fun _ h => absurd h List.not_mem_nil) (by decide +kernel)
/-- ClassFramesModel.in .inl ((-2147483648), 2147483647) .inl (0, 0) .inl ((-1), 59) -/
def zc_b18 : za_K := (155, 0, [.inl ((-2147483648), 2147483647), .inl (0, 0), .inl ((-1), 59)], [(some (.inl (0, 0)), [((-2147483648), 2147483647), (0, 0), ((-1), 59)]), (some (.inl (1, 1)), [(0, 59), (0, 0), (0, 59)])], [])
set_option maxRecDepth 100000 in
theorem zc_bo18 : zb_K zp_P zc_H zc_b18 := zb_okK (KT := []) (CT := []) (g := 16) (fun _ h => absurd h List.not_mem_nil) (by decide +kernel)
/-- ClassFramesModel.in .inl ((-2147483648), 2147483647) .inl (0, 0) .inl (7, 13) -/
def zc_b19 : za_K := (155, 0, [.inl ((-2147483648), 2147483647), .inl (0, 0), .inl (7, 13)], [(some (.inl (0, 0)), [((-2147483648), 2147483647), (0, 0), (7, 13)]), (some (.inl (1, 1)), [(0, 13), (0, 0), (7, 13)])], [])
set_option maxRecDepth 100000 in
theorem zc_bo19 : zb_K zp_P zc_H zc_b19 := zb_okK (KT := []) (CT := []) (g := 16) (fun _ h => absurd h List.not_mem_nil) (by decide +kernel)
/-- ClassFramesModel.kind .inr (.inr 44) .inl ((-2147483648), 2147483647) .inl ((-2147483648), 2147483647) -/
def zc_b20 : za_K := (200, 1, [.inr (.inr 44), .inl ((-2147483648), 2147483647), .inl ((-2147483648), 2147483647)], [(some (.inl ((-3), 8)), [((-2147483648), 2147483647), ((-2147483648), 2147483647)])], [(44, 0)])
set_option maxRecDepth 100000 in
theorem zc_bo20 : zb_K zp_P zc_H zc_b20 := zb_okK (KT := [zc_b19, zc_b18]) (CT := []) (g := 47) (List.forall_mem_cons.mpr ⟨zc_bo19, List.forall_mem_cons.mpr ⟨zc_bo18, fun _ h => absurd h List.not_mem_nil⟩⟩) (by decide +kernel)
/-- ClassFramesModel.size .inr (.inr 44) .inl ((-2147483648), 2147483647) -/
def zc_b21 : za_K := (201, 1, [.inr (.inr 44), .inl ((-2147483648), 2147483647)], [(some (.inl ((-3), 6)), [((-2147483648), 2147483647)])], [(44, 0)])
set_option maxRecDepth 100000 in
theorem zc_bo21 : zb_K zp_P zc_H zc_b21 := zb_okK (KT := [zc_b18]) (CT := []) (g := 32) (List.forall_mem_cons.mpr ⟨zc_bo18, fun _ h => absurd h List.not_mem_nil⟩) (by decide +kernel)
/-- ClassFramesModel.frame .inr (.inr 44) .inl ((-2147483648), 2147483647) .inl ((-2147483648), 2147483647) -/
def zc_b22 : za_K := (202, 1, [.inr (.inr 44), .inl ((-2147483648), 2147483647), .inl ((-2147483648), 2147483647)], [(some (.inl ((-3), 59)), [((-2147483648), 2147483647), ((-2147483648), 2147483647)])], [(44, 0)])
set_option maxRecDepth 100000 in
theorem zc_bo22 : zb_K zp_P zc_H zc_b22 := zb_okK (KT := [zc_b18]) (CT := []) (g := 58) (List.forall_mem_cons.mpr ⟨zc_bo18, fun _ h => absurd h List.not_mem_nil⟩) (by decide +kernel)
/-- ClassFramesModel.in .inl ((-2147483648), 2147483647) .inl (0, 0) .inl ((-1), 13) -/
def zc_b23 : za_K := (155, 0, [.inl ((-2147483648), 2147483647), .inl (0, 0), .inl ((-1), 13)], [(some (.inl (0, 0)), [((-2147483648), 2147483647), (0, 0), ((-1), 13)]), (some (.inl (1, 1)), [(0, 13), (0, 0), (0, 13)])], [])
set_option maxRecDepth 100000 in
theorem zc_bo23 : zb_K zp_P zc_H zc_b23 := zb_okK (KT := []) (CT := []) (g := 16) (fun _ h => absurd h List.not_mem_nil) (by decide +kernel)
/-- ClassFramesModel.in .inl ((-2147483648), 2147483647) .inl (0, 0) .inl (8, 8) -/
def zc_b24 : za_K := (155, 0, [.inl ((-2147483648), 2147483647), .inl (0, 0), .inl (8, 8)], [(some (.inl (0, 0)), [((-2147483648), 2147483647), (0, 0), (8, 8)]), (some (.inl (1, 1)), [(0, 8), (0, 0), (8, 8)])], [])
set_option maxRecDepth 100000 in
theorem zc_bo24 : zb_K zp_P zc_H zc_b24 := zb_okK (KT := []) (CT := []) (g := 16) (fun _ h => absurd h List.not_mem_nil) (by decide +kernel)
/-- ClassFramesModel.plant .inr (.inr 44) .inl ((-2147483648), 2147483647) .inl ((-2147483648), 2147483647) .inl ((-2147483648), 2147483647) -/
def zc_b25 : za_K := (203, 1, [.inr (.inr 44), .inl ((-2147483648), 2147483647), .inl ((-2147483648), 2147483647), .inl ((-2147483648), 2147483647)], [(some (.inl ((-3), 8)), [((-2147483648), 2147483647), ((-2147483648), 2147483647), ((-2147483648), 2147483647)])], [(44, 0), (60, 0)])
set_option maxRecDepth 100000 in
theorem zc_bo25 : zb_K zp_P zc_H zc_b25 := zb_okK (KT := [zc_b24, zc_b23, zc_b18]) (CT := []) (g := 61) (List.forall_mem_cons.mpr ⟨zc_bo24, List.forall_mem_cons.mpr ⟨zc_bo23, List.forall_mem_cons.mpr ⟨zc_bo18, fun _ h => absurd h List.not_mem_nil⟩⟩⟩) (by decide +kernel)
/-- ClassFramesModel.in .inl ((-2147483648), 2147483647) .inl (0, 0) .inl (7, 7) -/
def zc_b26 : za_K := (155, 0, [.inl ((-2147483648), 2147483647), .inl (0, 0), .inl (7, 7)], [(some (.inl (0, 0)), [((-2147483648), 2147483647), (0, 0), (7, 7)]), (some (.inl (1, 1)), [(0, 7), (0, 0), (7, 7)])], [])
set_option maxRecDepth 100000 in
theorem zc_bo26 : zb_K zp_P zc_H zc_b26 := zb_okK (KT := []) (CT := []) (g := 16) (fun _ h => absurd h List.not_mem_nil) (by decide +kernel)
/-- ClassFramesModel.argument .inr (.inr 44) .inl ((-2147483648), 2147483647) .inr (.inl ()) -/
def zc_b27 : za_K := (204, 1, [.inr (.inr 44), .inl ((-2147483648), 2147483647), .inr (.inl ())], [(some (.inr (.inl ())), [((-2147483648), 2147483647)])], [(44, 0), (53, 0)])
set_option maxRecDepth 100000 in
theorem zc_bo27 : zb_K zp_P zc_H zc_b27 := zb_okK (KT := [zc_b26]) (CT := []) (g := 27) (List.forall_mem_cons.mpr ⟨zc_bo26, fun _ h => absurd h List.not_mem_nil⟩) (by decide +kernel)
/-- ClassFramesModel.told .inr (.inr 44) .inl ((-2147483648), 2147483647) -/
def zc_b28 : za_K := (218, 0, [.inr (.inr 44), .inl ((-2147483648), 2147483647)], [(some (.inr (.inl ())), [((-2147483648), 2147483647)])], [(44, 0)])
set_option maxRecDepth 100000 in
theorem zc_bo28 : zb_K zp_P zc_H zc_b28 := zb_okK (KT := []) (CT := []) (g := 32) (fun _ h => absurd h List.not_mem_nil) (by decide +kernel)
/-- ClassFramesModel.count .inr (.inr 44) .inl ((-2147483648), 2147483647) -/
def zc_b29 : za_K := (219, 0, [.inr (.inr 44), .inl ((-2147483648), 2147483647)], [(some (.inl ((-2147483648), 2147483647)), [((-2147483648), 2147483647)])], [(44, 0)])
set_option maxRecDepth 100000 in
theorem zc_bo29 : zb_K zp_P zc_H zc_b29 := zb_okK (KT := []) (CT := [(9, [(0, .inr (.inr 44)), (1, .inl ((-2147483648), 2147483647)), (2, .inl ((-2147483648), 2147483647)), (3, .inl (0, 60))], [], [((44, 0), 0, 0)], 121, [0, 0, (-2)])]) (g := 24) (fun _ h => absurd h List.not_mem_nil) (by decide +kernel)
/-- ClassFramesModel.clear .inr (.inr 44) -/
def zc_b30 : za_K := (220, 0, [.inr (.inr 44)], [(some (.inl (0, 60)), [])], [(44, 0), (44, 1), (44, 5), (44, 10), (44, 13)])
set_option maxRecDepth 100000 in
theorem zc_bo30 : zb_K zp_P zc_H zc_b30 := zb_okK (KT := []) (CT := []) (g := 27) (fun _ h => absurd h List.not_mem_nil) (by decide +kernel)
/-- ClassFramesModel.over .inr (.inr 44) .inl ((-2147483648), 2147483647) -/
def zc_b31 : za_K := (207, 0, [.inr (.inr 44), .inl ((-2147483648), 2147483647)], [(none, [((-2147483648), 2147483647)])], [(44, 42), (44, 43)])
set_option maxRecDepth 100000 in
theorem zc_bo31 : zb_K zp_P zc_H zc_b31 := zb_okK (KT := []) (CT := []) (g := 14) (fun _ h => absurd h List.not_mem_nil) (by decide +kernel)
/-- ClassFramesModel.bad .inr (.inr 44) .inl ((-2147483648), 2147483647) .inl (0, 59) -/
def zc_b32 : za_K := (208, 1, [.inr (.inr 44), .inl ((-2147483648), 2147483647), .inl (0, 59)], [(none, [((-2147483648), 2147483647), (0, 59)])], [(44, 14), (44, 42), (44, 43)])
set_option maxRecDepth 100000 in
theorem zc_bo32 : zb_K zp_P zc_H zc_b32 := zb_okK (KT := [zc_b31]) (CT := []) (g := 16) (List.forall_mem_cons.mpr ⟨zc_bo31, fun _ h => absurd h List.not_mem_nil⟩) (by decide +kernel)
/-- ClassFramesModel.go .inr (.inr 44) .inl ((-2147483648), 2147483647) .inl (0, 59) -/
def zc_b33 : za_K := (209, 2, [.inr (.inr 44), .inl ((-2147483648), 2147483647), .inl (0, 59)], [(none, [((-2147483648), 2147483647), (0, 59)])], [(44, 14), (44, 42), (44, 43), (44, 50)])
set_option maxRecDepth 100000 in
theorem zc_bo33 : zb_K zp_P zc_H zc_b33 := zb_okK (KT := [zc_b32, zc_b18]) (CT := []) (g := 20) (List.forall_mem_cons.mpr ⟨zc_bo32, List.forall_mem_cons.mpr ⟨zc_bo18, fun _ h => absurd h List.not_mem_nil⟩⟩) (by decide +kernel)
end
section
/-! ===== 30: an interpreter of constructors: cells are made; a run of it is a contract of the machine ===== -/
/-- constructors; (own class, entry) to the class that is made; .. to a constructor (and the nest's host); .. whether it is Object's; default fields; whether a field is the own class's -/
abbrev zy_P : Type := List zx_M × (Nat → Nat → Option Nat) × (Nat → Nat → Option (Nat × Option String)) × (Nat → Nat → Bool) × (Nat → List Value) × (Nat → Nat → Bool)
abbrev zy_pm (X : zy_P) : List zx_M := X.1
abbrev zy_pk (X : zy_P) : Nat → Nat → Option Nat := X.2.1
abbrev zy_pc (X : zy_P) : Nat → Nat → Option (Nat × Option String) := X.2.2.1
abbrev zy_pi (X : zy_P) : Nat → Nat → Bool := X.2.2.2.1
abbrev zy_pd (X : zy_P) : Nat → List Value := X.2.2.2.2.1
abbrev zy_pw (X : zy_P) : Nat → Nat → Bool := X.2.2.2.2.2
def zy_wfv (n : Nat) (v : Value) : Bool := match v with
  | .ref i => Nat.blt i n
  | _ => true
def zy_wfc (n : Nat) (c : zx_E) : Bool := match c with
  | .inl _ => true
  | .inr (_, fs) => fs.all (zy_wfv n)
def zy_wf (h : zx_H) (ls : zx_L) (st : List Value) : Bool := h.all (zy_wfc h.length) && ls.all (fun q => zy_wfv h.length q.2) && st.all (zy_wfv h.length)
def zy_ar (t : ArrayType) (n : Nat) : Option (Nat × vp_A) := match t with
  | .int => some (0, n, .inl (fun _ => 0))
  | .long => some (1, n, .inr (.inl (fun _ => 0)))
  | .boolean => some (2, n, .inl (fun _ => 0))
  | _ => none
def zy_pu (P : zx_P) (X : zy_P) (o idx a : Nat) (v : Value) (h : zx_H) : Option zx_H := match zx_pf P o idx with
  | some (ci, k) => (match h[a]? with
    | some (.inr (cj, fs)) => if cj = ci ∧ k < fs.length ∧ zy_pw X o idx = true ∧ narrow (zx_pt P ci k).1 v = v ∧ fits (zx_pt P ci k).1 v = true then some (h.set a (.inr (cj, fs.set k v))) else none
    | _ => none)
  | none => none
/-- fuel, depth, constructor, pc, locals, stack, heap, cells and slots made so far -/
def zy_x (P : zx_P) (X : zy_P) : Nat → Nat → zx_M → Nat → zx_L → List Value → zx_H → Nat → Nat → Option (zx_H × Nat × Nat)
  | 0, _, _, _, _, _, _, _, _ => none
  | n + 1, d, q, pc, ls, st, h, c, s =>
    match zx_at (zx_mi q) pc with
    | none => none
    | some (i, len) =>
      match zx_s i st with
      | some (k, st') => if len = k then zy_x P X n d q (pc + k) ls st' h c s else none
      | none =>
      match zx_l i ls with
      | some (k, v) => if len = k then zy_x P X n d q (pc + k) ls (v :: st) h c s else none
      | none =>
      match i, st with
      | .getfield idx, .ref a :: r => (match zx_gf P (zx_mo q) idx a h with
        | some v => if len = 3 then zy_x P X n d q (pc + 3) ls (v :: r) h c s else none
        | none => none)
      | .putfield idx, v :: .ref a :: r => (match zy_pu P X (zx_mo q) idx a v h with
        | some h' => if len = 3 then zy_x P X n d q (pc + 3) ls r h' c s else none
        | none => none)
      | .newarray t, .int m :: r => (match zy_ar t m.toNatClampNeg with
        | some z => if len = 2 ∧ ¬ m < 0 ∧ m.toNatClampNeg ≤ 60000000 ∧ zy_wf h ls r = true then zy_x P X n d q (pc + 2) ls (.ref h.length :: r) (h ++ [.inl z]) (c + 1) (s + m.toNatClampNeg) else none
        | none => none)
      | .new idx, r => (match zy_pk X (zx_mo q) idx with
        | some ci => if len = 3 ∧ zy_wf h ls r = true ∧ (zy_pd X ci).all (fun v => match v with
            | .ref _ => false
            | _ => true) = true then zy_x P X n d q (pc + 3) ls (.ref h.length :: r) (h ++ [.inr (ci, zy_pd X ci)]) (c + 1) (s + (zy_pd X ci).length) else none
        | none => none)
      | .invokespecial idx, st => if zy_pi X (zx_mo q) idx = true then (match st, d with
          | .ref _ :: r, _ + 1 => if len = 3 ∧ (r.map fun v => v.category).sum ≤ 8 then zy_x P X n d q (pc + 3) ls r h c s else none
          | _, _ => none)
        else (match zy_pc X (zx_mo q) idx, d with
          | some (j, _), d' + 1 => (match (zy_pm X)[j]? with
            | some q' => (match st.drop (zx_mp q') with
              | .ref b :: rest => if len = 3 ∧ (st.take (zx_mp q')).length = zx_mp q' ∧ (rest.map fun v => v.category).sum ≤ 8 ∧ zx_ml q' ≤ 21 ∧ (lg_sl (.ref b :: (st.take (zx_mp q')).reverse)).length ≤ zx_ml q' ∧ zy_wf h ls rest = true then
                  (match zy_x P X n d' q' 0 (lv_args 0 (.ref b :: (st.take (zx_mp q')).reverse)) [] h 0 0 with
                  | some (h', c', s') => if h.length ≤ h'.length then zy_x P X n d q (pc + 3) ls rest h' (c + c') (s + s') else none
                  | none => none) else none
              | _ => none)
            | none => none)
          | _, _ => none)
      | .return_, [] => if len = 1 then some (h, c, s) else none
      | _, _ => none
theorem zy_le {P : zx_P} {X : zy_P} : ∀ (n d : Nat) (q : zx_M) (pc : Nat) (ls : zx_L) (st : List Value) (h : zx_H) (c s : Nat) (h' : zx_H) (c' s' : Nat), zy_x P X n d q pc ls st h c s = some (h', c', s') → c ≤ c' ∧ s ≤ s' := by
  intro n
  induction n with
  | zero => intro d q pc ls st h c s h' c' s' e; simp [zy_x] at e
  | succ n ih =>
    intro d q pc ls st h c s h' c' s' e
    rw [zy_x] at e
    split at e
    · cases e
    · split at e
      · split at e
        · exact ih _ _ _ _ _ _ _ _ _ _ _ e
        · cases e
      · split at e
        · split at e
          · exact ih _ _ _ _ _ _ _ _ _ _ _ e
          · cases e
        · split at e
          · split at e
            · split at e
              · exact ih _ _ _ _ _ _ _ _ _ _ _ e
              · cases e
            · cases e
          · split at e
            · split at e
              · exact ih _ _ _ _ _ _ _ _ _ _ _ e
              · cases e
            · cases e
          · split at e
            · split at e
              · have := ih _ _ _ _ _ _ _ _ _ _ _ e; omega
              · cases e
            · cases e
          · split at e
            · split at e
              · have := ih _ _ _ _ _ _ _ _ _ _ _ e; omega
              · cases e
            · cases e
          · split at e
            · split at e
              · split at e
                · exact ih _ _ _ _ _ _ _ _ _ _ _ e
                · cases e
              · cases e
            · split at e
              · split at e
                · split at e
                  · split at e
                    · split at e
                      · split at e
                        · have := ih _ _ _ _ _ _ _ _ _ _ _ e; omega
                        · cases e
                      · cases e
                    · cases e
                  · cases e
                · cases e
              · cases e
          · split at e
            · cases e; exact ⟨Nat.le_refl _, Nat.le_refl _⟩
            · cases e
          · cases e
/-! the map of numbers to addresses grows -/
def zy_ex (ad ad' : Nat → Nat) (n : Nat) : Prop := ∀ i, i < n → ad' i = ad i
theorem zy_v {ad ad' : Nat → Nat} {n : Nat} (he : zy_ex ad ad' n) {v : Value} (h : zy_wfv n v = true) : zx_v ad' v = zx_v ad v := by
  unfold zy_wfv at h
  split at h
  · next i => show Value.ref (ad' i) = Value.ref (ad i); rw [he i (zb_blt h)]
  · next hn => cases v <;> first | rfl | exact absurd rfl (hn _)
theorem zy_vs {ad ad' : Nat → Nat} {n : Nat} (he : zy_ex ad ad' n) {vs : List Value} (h : vs.all (zy_wfv n) = true) : vs.map (zx_v ad') = vs.map (zx_v ad) :=
  List.map_congr_left fun v hv => zy_v he (List.all_eq_true.mp h v hv)
theorem zy_lm {ad ad' : Nat → Nat} {n : Nat} (he : zy_ex ad ad' n) {ls : zx_L} (h : ls.all (fun q => zy_wfv n q.2) = true) : zx_lm ad' ls = zx_lm ad ls :=
  List.map_congr_left fun q hq => by rw [zy_v he (List.all_eq_true.mp h q hq)]
theorem zy_w {ad ad' : Nat → Nat} {cA : Nat → ClassId} {h : zx_H} (he : zy_ex ad ad' h.length) (hw : h.all (zy_wfc h.length) = true) : zx_w ad' cA h = zx_w ad cA h := by
  refine List.ext_getElem? fun i => ?_
  rw [zx_w_get, zx_w_get]
  cases hc : h[i]? with
  | none => rfl
  | some c =>
    have hi : i < h.length := (List.getElem?_eq_some_iff.mp hc).1
    have hwc := List.all_eq_true.mp hw c (List.mem_of_getElem? hc)
    show some (ad' i, zx_e ad' cA c) = some (ad i, zx_e ad cA c)
    rw [he i hi]
    cases c with
    | inl x => rfl
    | inr x =>
      obtain ⟨ci, fs⟩ := x
      show some (ad i, Sum.inr (ci, fs.map (zx_v ad'))) = some (ad i, Sum.inr (ci, fs.map (zx_v ad)))
      rw [zy_vs he hwc]
def zy_up (ad : Nat → Nat) (n q : Nat) : Nat → Nat := fun i => if i = n then q else ad i
theorem zy_up_ex (ad : Nat → Nat) (n q : Nat) : zy_ex ad (zy_up ad n q) n := fun i hi => by unfold zy_up; rw [if_neg (by omega)]
theorem zy_w_app {ad : Nat → Nat} {cA : Nat → ClassId} {h : zx_H} {q : Nat} {c : zx_E} (hw : h.all (zy_wfc h.length) = true) : zx_w (zy_up ad h.length q) cA (h ++ [c]) = zx_w ad cA h ++ [(q, zx_e (zy_up ad h.length q) cA c)] := by
  rw [← zy_w (zy_up_ex ad h.length q) hw]
  refine List.ext_getElem? fun i => ?_
  have hlen : (zx_w (zy_up ad h.length q) cA h).length = h.length := by simp [zx_w]
  rw [zx_w_get, List.getElem?_append, List.getElem?_append, hlen]
  by_cases hi : i < h.length
  · rw [if_pos hi, if_pos hi, zx_w_get]
  · rw [if_neg hi, if_neg hi]
    by_cases hi2 : i = h.length
    · subst hi2
      rw [Nat.sub_self]
      show some (zy_up ad h.length q h.length, _) = some (q, _)
      unfold zy_up; rw [if_pos rfl]
    · have : ∃ k, i - h.length = k + 1 := ⟨i - h.length - 1, by omega⟩
      obtain ⟨k, hk⟩ := this
      rw [hk]; rfl
end
section
/-! ===== 31: a run of a constructor is a contract of the machine ===== -/
def zy_mok (P : zx_P) (G : List Cond) (q : zx_M) : Prop :=
  plainName (zx_my q).cls = true ∧ ((zx_my q).cls ≠ "java/lang/invoke/MethodHandle" ∧ (zx_my q).cls ≠ "java/lang/invoke/VarHandle") ∧ (parseMethodDescriptor (zx_my q).desc).map (fun d => d.parameters.length) = some (zx_mp q) ∧ zx_po P (zx_mo q) = (zx_my q).cls ∧
  Cond.code (zx_my q) (zx_mb q) (zx_ml q) none ∈ G ∧ Cond.initialized (zx_my q).cls ∈ G ∧ Cond.instanceMethod (zx_my q) ∈ G ∧ (zx_my q).name = "<init>" ∧ ∀ z ∈ zx_mi q, decode (zx_mb q) z.1 = .ok z.2
def zy_kok (P : zx_P) (X : zy_P) (G : List Cond) (cl : List vw_C) (o idx ci : Nat) : Prop :=
  ∃ (C : String) (T : u_T) (N : Nat) (ty0 : Nat → FieldType), cl[ci]? = some (C, T, N) ∧ Cond.classLink (zx_po P o) idx C ∈ G ∧ Cond.instantiable C N ∈ G ∧ Cond.initialized C ∈ G ∧ (∀ w ∈ u_ws C T N, w ∈ G) ∧ (∀ k, k < N → parseFieldDescriptor (T k).2.2.1 = some (ty0 k)) ∧ (zy_pd X ci).length = N ∧ ∀ j, j < N → defaultValue (ty0 j) = vp_V (zy_pd X ci) j
def zy_ok (P : zx_P) (X : zy_P) (G : List Cond) (cl : List vw_C) : Prop :=
  zx_ok P G cl ∧
  (∀ (j : Nat) (q : zx_M), (zy_pm X)[j]? = some q → zy_mok P G q) ∧
  (∀ (o idx ci : Nat), zy_pk X o idx = some ci → zy_kok P X G cl o idx ci) ∧
  (∀ (o idx j : Nat) (q : zx_M), zy_pc X o idx = some (j, none) → (zy_pm X)[j]? = some q → Cond.methodLink (zx_po P o) idx (zx_my q) ∈ G) ∧
  (∀ (o idx : Nat), zy_pi X o idx = true → Cond.methodLink (zx_po P o) idx Lib.objectInit ∈ G ∧ Cond.instanceMethod Lib.objectInit ∈ G ∧ Cond.code Lib.objectInit ⟨#[0xb1]⟩ 1 none ∈ G) ∧
  (Cond.arrayClass .int ∈ G ∧ Cond.arrayClass .long ∈ G ∧ Cond.arrayClass .boolean ∈ G) ∧
  (∀ (o idx ci k : Nat) (C : String) (T : u_T) (N : Nat), zy_pw X o idx = true → zx_pf P o idx = some (ci, k) → cl[ci]? = some (C, T, N) → (T k).1 = zx_po P o)
def zy_N (P : zx_P) (X : zy_P) (U : State) : Prop := ∀ (o idx j : Nat) (hst : String) (q : zx_M), zy_pc X o idx = some (j, some hst) → (zy_pm X)[j]? = some q → va_Nw (.methodLinkNest (zx_po P o) idx (zx_my q) hst) U
theorem zy_N.warm {P : zx_P} {X : zy_P} {s U : State} (hW : s.WarmedH U.vm) (h : zy_N P X s) : zy_N P X U := fun o idx j hst q e1 e2 => va_Nw.warmM hW (h o idx j hst q e1 e2)
theorem zy_N.same {P : zx_P} {X : zy_P} {u U : State} (e : u.vm = U.vm) (h : zy_N P X u) : zy_N P X U := fun o idx j hst q e1 e2 => va_Nw.same rfl e (h o idx j hst q e1 e2)
def zy_Q (D : va_G) (cl : List vw_C) (ad0 : Nat → Nat) (L0 : Nat) (cA : Nat → ClassId) (A : Nat → Prop) (h' : zx_H) : Array Value → State → Outcome → State → Prop := fun _ st oc t =>
  oc = .returned none ∧ (∃ ad', zy_ex ad0 ad' L0 ∧ va_P D cl (zx_w ad' cA h') t.heap ∧ va_D A (zx_w ad' cA h')) ∧ va_F A st t
def zy_pre (P : zx_P) (X : zy_P) (D : va_G) (cl : List vw_C) (ad : Nat → Nat) (cA : Nat → ClassId) (h : zx_H) (sz : Nat) : State → Prop := fun U =>
  U.heap.size = sz ∧ va_P D cl (zx_w ad cA h) U.heap ∧ va_K D cl (zx_ty cA) U ∧ va_D (fun _ => True) (zx_w ad cA h) ∧ zy_N P X U
def zy_room (d mc ms : Nat) : Room := { frames := d, cells := mc, slots := ms, locals := 40 * d }
def zy_sim (P : zx_P) (X : zy_P) (G : List Cond) (cl : List vw_C) (n : Nat) : Prop :=
  ∀ (d : Nat) (q : zx_M) (pc : Nat) (ls : zx_L) (st : List Value) (h : zx_H) (cc ss : Nat) (h' : zx_H) (c' s' : Nat), zy_mok P G q → zy_x P X n d q pc ls st h cc ss = some (h', c', s') →
  ∀ (p : Program) (l : Launch) (e : Env) (s : State) (m : MethodId) (args : Array Value) (below : List Frame) (meth : Method) (c : Code) (H : Heap) (locs : List Loc) (D : va_G) (ad : Nat → Nat) (cA : Nat → ClassId) (A : Nat → Prop) (lsA : Array Slot) (mc ms : Nat) (ad0 : Nat → Nat) (L0 : Nat),
  p.tables.exec = Jvm.exec → c.code = zx_mb q → c.maxLocals = zx_ml q → meth.sig.returnType = none → meth.locks = false → meth.name = "<init>" → s.vm.findClass (zx_my q).cls = some m.cls → (∀ w ∈ G, w.before args s = true) → va_K D cl (zx_ty cA) s → zy_N P X s → (∀ q : Nat, s.heap.size ≤ q → A q) →
  va_P D cl (zx_w ad cA h) H → va_D A (zx_w ad cA h) → va_S A s.heap H locs → lv_has lsA (zx_ml q) (zx_lm ad ls) → c' ≤ mc → s' ≤ ms → L0 ≤ h.length → zy_ex ad0 ad L0 →
  W p l e (zy_room d mc ms) s m args below meth c H locs cc ss (MQ below (zy_Q D cl ad0 L0 cA A h') args s c' s' A) (F0 m pc lsA (st.map (zx_v ad)))
theorem zy_blind (P : zx_P) (X : zy_P) (D : va_G) (cl : List vw_C) (ad : Nat → Nat) (cA : Nat → ClassId) (h : zx_H) (sz : Nat) (av : List Value) : FrameBlind (va_Pc av (zy_pre P X D cl ad cA h sz)) := by
  intro a U g mk q
  obtain ⟨q0, q1, qP, qK, qD, qZ⟩ := q
  exact ⟨q0, q1, qP, va_K.moved (u := U) (U := U.calling g mk a) (Vm.Alike.refl U.vm) qK, qD, zy_N.same (u := U) (U := U.calling g mk a) rfl qZ⟩
theorem zy_met_of {P : zx_P} {X : zy_P} {G : List Cond} {cl : List vw_C} {n : Nat} (hn : zy_sim P X G cl n) {d : Nat} {q : zx_M} {as : List Value} {h h' : zx_H} {c' s' : Nat} (hq : zy_mok P G q) (hl : (lg_sl as).length ≤ zx_ml q) (hx : zy_x P X n d q 0 (lv_args 0 as) [] h 0 0 = some (h', c', s')) (l : Launch) (D : va_G) (ad : Nat → Nat) (cA : Nat → ClassId) (sz : Nat) :
    Met l (zx_my q) (Cond.code (zx_my q) (zx_mb q) (zx_ml q) none :: G) (zy_room d c' s') (va_Pc (as.map (zx_v ad)) (zy_pre P X D cl ad cA h sz)) (zy_Q D cl ad h.length cA (va_A (zx_w ad cA h) sz) h') c' s' (va_A (zx_w ad cA h) sz) := by
  refine Met.ofW (cc := zx_mb q) (maxL := zx_ml q) (ret := none) hq.1 rfl ?_
  intro p e s m args below meth c s₁ B hml hv
  obtain ⟨rfl, hsz, hP, hK, hD, hZ⟩ := hv
  have hts := atoms_spec (ws := Cond.code (zx_my q) (zx_mb q) (zx_ml q) none :: G) B.pre
  subst hsz
  rw [lg_entry_eq]
  have hl9 := lv_entry (as.map (zx_v ad)) (n := zx_ml q) (by rw [zx_sl_len]; exact hl)
  rw [zx_lm_args] at hl9
  have hnm : meth.name = "<init>" := (name_of_methodNamed B.named B.method).1.trans hq.2.2.2.2.2.2.2.1
  exact hn d q 0 _ [] h 0 0 h' c' s' hq hx p l e s m _ below meth c s.heap [] D ad cA _ _ c' s' ad h.length B.exec B.bytes hml B.returns B.notSynchronized hnm (findClass_of_methodNamed B.named) (fun w hw => hts w (List.mem_cons_of_mem _ hw)) hK hZ (fun q h => Or.inr h) hP hD.self va_S.rf hl9 (Nat.le_refl _) (Nat.le_refl _) (Nat.le_refl _) (fun _ _ => rfl)
theorem zy_fit {ty : FieldType} {v : Value} {ad : Nat → Nat} (h1 : narrow ty v = v) (h2 : fits ty v = true) : narrow ty (zx_v ad v) = zx_v ad v ∧ fits ty (zx_v ad v) = true := by
  cases v <;> first | exact ⟨h1, h2⟩ | (cases ty <;> simp_all [fits, narrow, zx_v])
theorem zy_wfI {h : zx_H} {ls : zx_L} {st : List Value} (hw : zy_wf h ls st = true) : h.all (zy_wfc h.length) = true ∧ ls.all (fun q => zy_wfv h.length q.2) = true ∧ st.all (zy_wfv h.length) = true := by
  unfold zy_wf at hw
  obtain ⟨hw, c⟩ := zb_and hw
  obtain ⟨a, b⟩ := zb_and hw
  exact ⟨a, b, c⟩
theorem zy_nor {vs : List Value} {ad : Nat → Nat} (h : vs.all (fun v => match v with
    | .ref _ => false
    | _ => true) = true) : vs.map (zx_v ad) = vs := by
  have : vs.map (zx_v ad) = vs.map id := List.map_congr_left fun v hv => by
    have := List.all_eq_true.mp h v hv
    cases v <;> first | rfl | cases this
  rw [this, List.map_id]
section ZYC
variable {p : Program} {l : Launch} {e : Env} {R : Room} {s : State} {m : MethodId} {args : Array Value} {below : List Frame} {meth : Method} {c : Code} {H : Heap} {locs : List Loc} {cells slots mc ms : Nat} {Q : State → Prop}
variable {cc : ByteArray} {pc : Nat} {lsA : Array Slot} {ad : Nat → Nat} {cA : Nat → ClassId} {D : va_G} {cl : List vw_C} {A A1 : Nat → Prop}
theorem zy_call {L : Nat} {h' : zx_H} {a : Array Value} {st0 rest : List Value} (hr : va_Run p l e R s m args below meth c H locs cells slots mc ms (F0 m pc lsA st0) rest (zy_Q D cl ad L cA A1 h' a) A1) (hS : va_S A s.heap H locs) (hA : ∀ q, A1 q → A q)
    (kk : ∀ (ad' : Nat → Nat) (H1 : Heap) (locs1 : List Loc), zy_ex ad ad' L → va_P D cl (zx_w ad' cA h') H1 → va_D A (zx_w ad' cA h') → va_S A s.heap H1 locs1 → W p l e R s m args below meth c H1 locs1 (cells + mc) (slots + ms) Q (F0 m (pc + 3) lsA rest)) : W p l e R s m args below meth c H locs cells slots Q (F0 m pc lsA st0) := by
  intro T hT X
  obtain ⟨v, st₀, t, T', L9, h0, X', hL, e1, e2, ⟨hv, ⟨ad', hex, hp, hdd⟩, hz, hk⟩, st⟩ := hr T hT X
  have hv' : v = none := by cases hv; rfl
  subst hv'
  rw [h0] at hz hk
  obtain ⟨t2, a1, b1⟩ := kk ad' T'.heap (locs ++ L9) hex (by rw [e1]; exact hp) (hdd.weaken (fun _ _ _ z => hA _ z))
    ⟨Nat.le_trans hS.1 (by rw [e1]; exact hz), fun q h1 h2 => by rw [e1, hk q (Nat.lt_of_lt_of_le h1 hS.1) (fun z => h2 (hA q z))]; exact hS.2.1 q h1 h2, fun q hq => by
      rcases List.mem_append.mp hq with h | h
      · exact hS.2.2 q h
      · exact hA _ (hL q h)⟩ T' rfl X'
  exact ⟨t2, st t2 a1, b1⟩
end ZYC
theorem zy_cA {D : va_G} {cl : List vw_C} {cA : Nat → ClassId} {s : State} {cB : ClassId} {ty : FieldType} (t : Nat) (hK : va_K D cl (zx_ty cA) s) (ht : (zx_ty cA)[t]? = some (cA t, ty)) (hty : ty = .int ∨ ty = .long ∨ ty = .boolean) (hK' : va_K D cl (zx_ty cA ++ [(cB, ty)]) s) : cB = cA t := by
  have h1 := (hK.2 t _ ht).2
  have h2 := (hK'.2 3 (cB, ty) rfl).2
  rcases hty with rfl | rfl | rfl <;> exact Option.some.inj (h2.symm.trans h1)
end
section
/-! ===== 32: .. for every run ===== -/
set_option maxHeartbeats 8000000 in
theorem zy_sim_all {P : zx_P} {X : zy_P} {G : List Cond} {cl : List vw_C} (ok : zy_ok P X G cl) : ∀ n : Nat, zy_sim P X G cl n := by
  intro n
  induction n with
  | zero => intro d q pc ls st h cc ss h' c' s' hq hx; simp [zy_x] at hx
  | succ n ih =>
    intro d q pc ls st h cc ss h' c' s' hq hx p l e s m args below meth c H locs D ad cA A lsA mc ms ad0 L0 xe xb xm xr xl xn xo hts hK hZ hA hP hD hS hl hmc hms hL0 hex
    rw [zy_x] at hx
    have hown : s.vm.findClass (zx_po P (zx_mo q)) = some m.cls := by rw [hq.2.2.2.1]; exact xo
    split at hx
    · cases hx
    · next i len hat =>
      have hd : decode (zx_mb q) pc = .ok (i, len) := hq.2.2.2.2.2.2.2.2 (pc, (i, len)) (zx_at_mem hat)
      split at hx
      · next k st' hs =>
        split at hx
        · next hk => subst hk; exact zx_s_W xe xb hs hd (ih d q _ ls st' h cc ss h' c' s' hq hx p l e s m args below meth c H locs D ad cA A lsA mc ms ad0 L0 xe xb xm xr xl xn xo hts hK hZ hA hP hD hS hl hmc hms hL0 hex)
        · cases hx
      · split at hx
        · next k v hs =>
          split at hx
          · next hk => subst hk; exact zx_l_W xe xb hs hd hl (ih d q _ ls (v :: st) h cc ss h' c' s' hq hx p l e s m args below meth c H locs D ad cA A lsA mc ms ad0 L0 xe xb xm xr xl xn xo hts hK hZ hA hP hD hS hl hmc hms hL0 hex)
          · cases hx
        · split at hx
          · next idx a r _ _ =>
            split at hx
            · next v hv =>
              split at hx
              · next hk => subst hk; exact zx_gf_W ok.1 xe xb hts hown hK hP hv hd (ih d q _ ls (v :: r) h cc ss h' c' s' hq hx p l e s m args below meth c H locs D ad cA A lsA mc ms ad0 L0 xe xb xm xr xl xn xo hts hK hZ hA hP hD hS hl hmc hms hL0 hex)
              · cases hx
            · cases hx
          · next idx v a r _ _ =>
            split at hx
            · next h1 hv =>
              split at hx
              · next hk =>
                subst hk
                unfold zy_pu at hv
                split at hv
                · next ci k hf =>
                  split at hv
                  · next cj fs ha =>
                    split at hv
                    · next hc =>
                      obtain ⟨hc, hk, hw, hn, hfit⟩ := hc
                      subst hc
                      cases hv
                      obtain ⟨C, T, N, ty0, f1, f2, f3, f4, f5, f6, f7⟩ := ok.1.2.2.1 _ _ _ _ hf
                      rw [f7] at hn hfit
                      obtain ⟨hn, hfit⟩ := zy_fit (ad := ad) hn hfit
                      have hdecl : (T k).1 = zx_po P (zx_mo q) := ok.2.2.2.2.2.2 _ _ _ _ _ _ _ hw hf f1
                      have kk : ∀ (H1 : Heap) (locs1 : List Loc), va_P D cl ((zx_w ad cA h).set a (ad a, .inr (cj, (fs.map (zx_v ad)).set k (zx_v ad v)))) H1 → va_D A ((zx_w ad cA h).set a (ad a, .inr (cj, (fs.map (zx_v ad)).set k (zx_v ad v)))) → va_S A s.heap H1 locs1 → W p l e (zy_room d mc ms) s m args below meth c H1 locs1 cc ss (MQ below (zy_Q D cl ad0 L0 cA A h') args s c' s' A) (F0 m (pc + 3) lsA (r.map (zx_v ad))) := fun H1 locs1 a1 a2 a3 => by
                        rw [zx_w_put] at a1 a2
                        exact ih d q _ ls r _ cc ss h' c' s' hq hx p l e s m args below meth c H1 locs1 D ad cA A lsA mc ms ad0 L0 xe xb xm xr xl xn xo hts hK hZ hA a1 a2 a3 hl hmc hms (by rw [List.length_set]; exact hL0) hex
                      cases hfin : (T k).2.2.2 with
                      | false => exact va_put (D := D) (ci := cj) (v := zx_v ad v) (ty := ty0 k) (C := C) (T := T) (N := N) xe xb hts f4 ty0 f5 f6 hown hK hP hD hS a (zx_w_at ha) f1 k f2 (hts _ f3) (fun _ h9 => h9) hfin (f5 k f2) hn hfit (by rw [List.length_map]; exact hk) hd kk
                      | true => exact va_putF (D := D) (ci := cj) (v := zx_v ad v) (ty := ty0 k) (C := C) (T := T) (N := N) xe xb hts f4 ty0 f5 f6 hown hK hP hD hS a (zx_w_at ha) f1 k f2 (hts _ f3) (fun _ h9 => h9) hfin xn hdecl (f5 k f2) hn hfit (by rw [List.length_map]; exact hk) hd kk
                    · cases hv
                  · cases hv
                · cases hv
              · cases hx
            · cases hx
          · next t m9 r _ _ =>
            split at hx
            · next z hz =>
              split at hx
              · next hc =>
                obtain ⟨c1, c2, c3, c4⟩ := hc
                subst c1
                obtain ⟨w1, w2, w3⟩ := zy_wfI c4
                obtain ⟨g1, g2⟩ := zy_le _ _ _ _ _ _ _ _ _ _ _ _ hx
                have kk : ∀ (tt : Nat) (x : vp_A) (q9 : Nat) (H1 : Heap), z = (tt, x) → va_P D cl (zx_w ad cA h ++ [(q9, .inl (cA tt, x))]) H1 → va_D A (zx_w ad cA h ++ [(q9, .inl (cA tt, x))]) → va_S A s.heap H1 locs → W p l e (zy_room d mc ms) s m args below meth c H1 locs (cc + 1) (ss + m9.toNatClampNeg) (MQ below (zy_Q D cl ad0 L0 cA A h') args s c' s' A) (F0 m (pc + 2) lsA (.ref q9 :: r.map (zx_v ad))) := by
                  intro tt x q9 H1 hz9 a1 a2 a3
                  subst hz9
                  have e1 : zx_w (zy_up ad h.length q9) cA (h ++ [.inl (tt, x)]) = zx_w ad cA h ++ [(q9, .inl (cA tt, x))] := zy_w_app w1
                  rw [← e1] at a1 a2
                  have e2 : (.ref q9 :: r.map (zx_v ad) : List Value) = (.ref h.length :: r).map (zx_v (zy_up ad h.length q9)) := by
                    rw [List.map_cons, zy_vs (zy_up_ex ad h.length q9) w3]
                    congr 1
                    show Value.ref q9 = Value.ref (zy_up ad h.length q9 h.length)
                    unfold zy_up; rw [if_pos rfl]
                  rw [e2]
                  exact ih d q _ ls _ _ _ _ h' c' s' hq hx p l e s m args below meth c H1 locs D (zy_up ad h.length q9) cA A lsA mc ms ad0 L0 xe xb xm xr xl xn xo hts hK hZ hA a1 a2 a3 (by rw [zy_lm (zy_up_ex ad h.length q9) w2]; exact hl) hmc hms (by rw [List.length_append]; omega) (fun i hi => (zy_up_ex ad h.length q9 i (by omega)).trans (hex i hi))
                unfold zy_ar at hz
                split at hz
                · cases hz
                  exact va_newa (atype := .int) xe xb (hts _ ok.2.2.2.2.2.1.1) rfl hK hP hD hS hA (a0 := (m9.toNatClampNeg, .inl (fun _ => 0))) (fun _ => rfl) c2 rfl (by show _ * 4 ≤ _; omega) (by show cc + 1 ≤ mc; omega) (by show ss + _ ≤ ms; omega) hd (fun q9 cB H1 b1 b2 b3 b4 => by
                    have := zy_cA 0 hK rfl (Or.inl rfl) b1
                    subst this
                    exact kk 0 _ q9 H1 rfl b2 b3 b4)
                · cases hz
                  exact va_newa (atype := .long) xe xb (hts _ ok.2.2.2.2.2.1.2.1) rfl hK hP hD hS hA (a0 := (m9.toNatClampNeg, .inr (.inl (fun _ => 0)))) (fun _ => rfl) c2 rfl (by show _ * 8 ≤ _; omega) (by show cc + 1 ≤ mc; omega) (by show ss + _ ≤ ms; omega) hd (fun q9 cB H1 b1 b2 b3 b4 => by
                    have := zy_cA 1 hK rfl (Or.inr (Or.inl rfl)) b1
                    subst this
                    exact kk 1 _ q9 H1 rfl b2 b3 b4)
                · cases hz
                  exact va_newa (atype := .boolean) xe xb (hts _ ok.2.2.2.2.2.1.2.2) rfl hK hP hD hS hA (a0 := (m9.toNatClampNeg, .inl (fun _ => 0))) (fun _ => rfl) c2 rfl (by show _ * 1 ≤ _; omega) (by show cc + 1 ≤ mc; omega) (by show ss + _ ≤ ms; omega) hd (fun q9 cB H1 b1 b2 b3 b4 => by
                    have := zy_cA 2 hK rfl (Or.inr (Or.inr rfl)) b1
                    subst this
                    exact kk 2 _ q9 H1 rfl b2 b3 b4)
                · cases hz
              · cases hx
            · cases hx
          · next idx _ _ =>
            split at hx
            · next ci hpk =>
              split at hx
              · next hc =>
                obtain ⟨c1, c4, c5⟩ := hc
                subst c1
                obtain ⟨w1, w2, w3⟩ := zy_wfI c4
                obtain ⟨g1, g2⟩ := zy_le _ _ _ _ _ _ _ _ _ _ _ _ hx
                obtain ⟨C, T, N, ty0, f1, f2, f3, f4, f5, f6, f7, f8⟩ := ok.2.2.1 _ _ _ hpk
                rw [f7] at hx g2
                refine va_new (ci := ci) (fs := zy_pd X ci) (C := C) (T := T) (N := N) xe xb hts f5 ty0 f6 hown (hts _ f2) (hts _ f3) (hts _ f4) hK hP hD hS hA f1 f8 (by show cc + 1 ≤ mc; omega) (by show ss + N ≤ ms; omega) hd (fun q9 H1 a1 a2 a3 => ?_)
                have e1 : zx_w (zy_up ad h.length q9) cA (h ++ [.inr (ci, zy_pd X ci)]) = zx_w ad cA h ++ [(q9, .inr (ci, zy_pd X ci))] := by
                  rw [zy_w_app w1]
                  show _ ++ [(q9, Sum.inr (ci, (zy_pd X ci).map (zx_v (zy_up ad h.length q9))))] = _
                  rw [zy_nor c5]
                rw [← e1] at a1 a2
                have e2 : (.ref q9 :: st.map (zx_v ad) : List Value) = (.ref h.length :: st).map (zx_v (zy_up ad h.length q9)) := by
                  rw [List.map_cons, zy_vs (zy_up_ex ad h.length q9) w3]
                  congr 1
                  show Value.ref q9 = Value.ref (zy_up ad h.length q9 h.length)
                  unfold zy_up; rw [if_pos rfl]
                rw [e2]
                exact ih d q _ ls _ _ _ _ h' c' s' hq hx p l e s m args below meth c H1 locs D (zy_up ad h.length q9) cA A lsA mc ms ad0 L0 xe xb xm xr xl xn xo hts hK hZ hA a1 a2 a3 (by rw [zy_lm (zy_up_ex ad h.length q9) w2]; exact hl) hmc hms (by rw [List.length_append]; omega) (fun i hi => (zy_up_ex ad h.length q9 i (by omega)).trans (hex i hi))
              · cases hx
            · cases hx
          · next idx _ _ =>
            split at hx
            · next hpi =>
              split at hx
              · next a r d' _ =>
                split at hx
                · next hc =>
                  obtain ⟨c1, c2⟩ := hc
                  subst c1
                  obtain ⟨z1, z2, z3⟩ := ok.2.2.2.2.1 _ _ hpi
                  have hroom := lv_room (m := m) (pc := pc) (ls := lsA) (rest := ((.ref a :: r).map (zx_v ad))) (st := r.map (zx_v ad)) (by rw [zx_cat_sum]; exact c2)
                  exact W.objInit xe xb hown (hts _ z1) (hts _ z2) (hts _ z3) rfl (by rw [xm]; exact hl.1) rfl hd (Nat.le_add_left 1 _) (by show _ ≤ 40 * (d' + 1); omega) (ih (d' + 1) q _ ls r h cc ss h' c' s' hq hx p l e s m args below meth c H locs D ad cA A lsA mc ms ad0 L0 xe xb xm xr xl xn xo hts hK hZ hA hP hD hS hl hmc hms hL0 hex)
                · cases hx
              · cases hx
            · split at hx
              · next j hst d' hpc =>
                split at hx
                · next q' hq' =>
                  split at hx
                  · next b rest hdrop =>
                    split at hx
                    · next hc =>
                      obtain ⟨c1, c2, c3, c4, c5, c6⟩ := hc
                      subst c1
                      obtain ⟨w1, w2, w3⟩ := zy_wfI c6
                      split at hx
                      · next h1 c1 s1 hx1 =>
                        split at hx
                        · next hlen =>
                          obtain ⟨g1, g2⟩ := zy_le _ _ _ _ _ _ _ _ _ _ _ _ hx
                          obtain ⟨y1, y2, y3, y4, y5, y6, y7, y8, y9⟩ := ok.2.1 _ _ hq'
                          have hst9 : st = st.take (zx_mp q') ++ .ref b :: rest := by rw [← hdrop, List.take_append_drop]
                          have kk : ∀ (ad' : Nat → Nat) (H1 : Heap) (locs1 : List Loc), zy_ex ad ad' h.length → va_P D cl (zx_w ad' cA h1) H1 → va_D A (zx_w ad' cA h1) → va_S A s.heap H1 locs1 → W p l e (zy_room (d' + 1) mc ms) s m args below meth c H1 locs1 (cc + c1) (ss + s1) (MQ below (zy_Q D cl ad0 L0 cA A h') args s c' s' A) (F0 m (pc + 3) lsA (rest.map (zx_v ad))) := by
                            intro ad' H1 locs1 hx9 a1 a2 a3
                            rw [← zy_vs hx9 w3]
                            exact ih (d' + 1) q _ ls rest h1 _ _ h' c' s' hq hx p l e s m args below meth c H1 locs1 D ad' cA A lsA mc ms ad0 L0 xe xb xm xr xl xn xo hts hK hZ hA a1 a2 a3 (by rw [zy_lm hx9 w2]; exact hl) hmc hms (by omega) (fun i hi => (hx9 i (by omega)).trans (hex i hi))
                          have hM := zy_met_of ih (ok.2.1 _ _ hq') c5 hx1 l D ad cA H.size
                          have hpre : PreS s H (va_Pc ((.ref b :: (st.take (zx_mp q')).reverse).map (zx_v ad)) (zy_pre P X D cl ad cA h H.size)) (.ref (ad b) :: ((st.take (zx_mp q')).reverse).map (zx_v ad)) := ⟨zy_blind P X D cl ad cA h H.size _, fun U hU hW => ⟨rfl, by rw [hU], by rw [hU]; exact hP, va_K.moved hW.alike hK, hD.weaken (fun _ _ _ _ => trivial), zy_N.warm hW hZ⟩⟩
                          have hroom : 8 + (zx_ml q' + 11) + 40 * d' ≤ 40 * (d' + 1) := by omega
                          have hstk : st.map (zx_v ad) = (((st.take (zx_mp q')).reverse).map (zx_v ad)).reverse ++ .ref (ad b) :: rest.map (zx_v ad) := by
                            conv => lhs; rw [hst9]
                            rw [List.map_append, List.map_reverse, List.reverse_reverse]; rfl
                          cases hst with
                          | none =>
                            have hlk := ok.2.2.2.1 _ _ _ _ hpc hq'
                            exact zy_call (va_runI (b := ad b) (As := ((st.take (zx_mp q')).reverse).map (zx_v ad)) (nL := zx_ml q) ⟨xe, xb, xm, hown, hts⟩ hM ⟨callB_of (zx_mp q') hts (zx_good ok.1 y5) rfl rfl rfl (hts _ y6) (hts _ hlk) ⟨y2.1, y2.2, y3⟩ ⟨Nat.le_refl _, hroom⟩, y8, hts _ y7⟩ hpre rfl (by rw [List.length_map, List.length_reverse]; exact c2) hl.1 hstk (lv_room (by rw [zx_cat_sum]; exact c3)) hd ⟨by show cc + c1 ≤ mc; omega, by show ss + s1 ≤ ms; omega⟩) hS (zx_sub hD hS hA) kk
                          | some hst =>
                            exact zy_call (va_runIN (host := hst) (b := ad b) (As := ((st.take (zx_mp q')).reverse).map (zx_v ad)) (nL := zx_ml q) ⟨xe, xb, xm, hown, hts⟩ hM ⟨va_cnB (zx_mp q') hts (zx_good ok.1 y5) rfl rfl rfl (hZ _ _ _ _ _ hpc hq') (hts _ y6) ⟨y2.1, y2.2, y3⟩ ⟨Nat.le_refl _, hroom⟩, y8, hts _ y7⟩ hpre rfl (by rw [List.length_map, List.length_reverse]; exact c2) hl.1 hstk (lv_room (by rw [zx_cat_sum]; exact c3)) hd ⟨by show cc + c1 ≤ mc; omega, by show ss + s1 ≤ ms; omega⟩) hS (zx_sub hD hS hA) kk
                        · cases hx
                      · cases hx
                    · cases hx
                  · cases hx
                · cases hx
              · cases hx
          · split at hx
            · next hk =>
              subst hk
              cases hx
              exact W.vret xe xb xr (fun t ht hW => ⟨rfl, ⟨ad, hex, by rw [ht]; exact hP, hD⟩, hS.F ht⟩) hS.2.2 hd xl
            · cases hx
          · cases hx
end
section
/-! ===== 33: the constructors: tables, links, runs (by program) ===== -/
def zq_t0_0 : List (Nat × Instr × Nat) := [(0, .aload_n 0, 1), (1, .invokespecial 3, 3), (4, .aload_n 0, 1), (5, .bipush 60, 2), (7, .newarray .int, 2), (9, .putfield 9, 3), (12, .aload_n 0, 1), (13, .bipush 60, 2), (15, .newarray .int, 2), (17, .putfield 15, 3), (20, .aload_n 0, 1), (21, .bipush 60, 2), (23, .newarray .int, 2), (25, .putfield 18, 3), (28, .aload_n 0, 1), (29, .bipush 6, 2), (31, .newarray .int, 2), (33, .putfield 21, 3), (36, .aload_n 0, 1), (37, .bipush 6, 2), (39, .newarray .int, 2), (41, .putfield 24, 3), (44, .aload_n 0, 1), (45, .bipush 6, 2), (47, .newarray .int, 2), (49, .putfield 27, 3), (52, .aload_n 0, 1), (53, .bipush 6, 2), (55, .newarray .int, 2), (57, .putfield 30, 3), (60, .aload_n 0, 1), (61, .bipush 8, 2), (63, .newarray .int, 2), (65, .putfield 33, 3), (68, .return_, 1)]
/-- ClassFrames$Code -/
def zq_m0 : zx_M := (⟨RX0, "<init>", "()V"⟩, prog_2_method_1_code, 1, none, some 0, 0, 0, zq_t0_0)
set_option maxRecDepth 100000 in
theorem zq_d0_0 : zp_db prog_2_method_1_code zq_t0_0 = true := by decide +kernel
set_option maxRecDepth 100000 in
theorem zq_k0 : zy_mok zp_P zp_G zq_m0 := ⟨by decide +kernel, ⟨by decide +kernel, by decide +kernel⟩, by decide +kernel, by decide +kernel, zp_in_ok (i := 126) (by decide +kernel), zp_in_ok (i := 94) (by decide +kernel), zp_in_ok (i := 125) (by decide +kernel), rfl, zp_db_ok zq_d0_0⟩
def zq_t1_0 : List (Nat × Instr × Nat) := [(0, .aload_n 0, 1), (1, .invokespecial 3, 3), (4, .aload_n 0, 1), (5, .new 9, 3), (8, .dup, 1), (9, .invokespecial 11, 3), (12, .putfield 12, 3), (15, .aload_n 0, 1), (16, .bipush 60, 2), (18, .newarray .int, 2), (20, .putfield 18, 3), (23, .aload_n 0, 1), (24, .bipush 60, 2), (26, .newarray .int, 2), (28, .putfield 22, 3), (31, .return_, 1)]
/-- ClassFrames$Frames -/
def zq_m1 : zx_M := (⟨RX2, "<init>", "()V"⟩, prog_4_method_1_code, 1, none, some 1, 0, 2, zq_t1_0)
set_option maxRecDepth 100000 in
theorem zq_d1_0 : zp_db prog_4_method_1_code zq_t1_0 = true := by decide +kernel
set_option maxRecDepth 100000 in
theorem zq_k1 : zy_mok zp_P zp_G zq_m1 := ⟨by decide +kernel, ⟨by decide +kernel, by decide +kernel⟩, by decide +kernel, by decide +kernel, zp_in_ok (i := 167) (by decide +kernel), zp_in_ok (i := 95) (by decide +kernel), zp_in_ok (i := 166) (by decide +kernel), rfl, zp_db_ok zq_d1_0⟩
def zq_t2_0 : List (Nat × Instr × Nat) := [(0, .aload_n 0, 1), (1, .invokespecial 3, 3), (4, .aload_n 0, 1), (5, .new 9, 3), (8, .dup, 1), (9, .invokespecial 11, 3), (12, .putfield 12, 3), (15, .aload_n 0, 1), (16, .new 9, 3), (19, .dup, 1), (20, .invokespecial 11, 3), (23, .putfield 18, 3), (26, .aload_n 0, 1), (27, .aload_n 1, 1), (28, .putfield 21, 3), (31, .aload_n 0, 1), (32, .aload_n 2, 1), (33, .putfield 25, 3), (36, .aload_n 0, 1), (37, .aload_n 3, 1), (38, .putfield 29, 3), (41, .return_, 1)]
/-- ClassFrames$Judge -/
def zq_m2 : zx_M := (⟨RX3, "<init>", "(LClassFrames$Code;LClassFrames$Maker;LClassFrames$Frames;)V"⟩, prog_5_method_1_code, 4, none, some 2, 3, 3, zq_t2_0)
set_option maxRecDepth 100000 in
theorem zq_d2_0 : zp_db prog_5_method_1_code zq_t2_0 = true := by decide +kernel
set_option maxRecDepth 100000 in
theorem zq_k2 : zy_mok zp_P zp_G zq_m2 := ⟨by decide +kernel, ⟨by decide +kernel, by decide +kernel⟩, by decide +kernel, by decide +kernel, zp_in_ok (i := 245) (by decide +kernel), zp_in_ok (i := 99) (by decide +kernel), zp_in_ok (i := 244) (by decide +kernel), rfl, zp_db_ok zq_d2_0⟩
def zq_t3_0 : List (Nat × Instr × Nat) := [(0, .aload_n 0, 1), (1, .invokespecial 3, 3), (4, .aload_n 0, 1), (5, .bipush 8, 2), (7, .newarray .long, 2), (9, .putfield 9, 3), (12, .aload_n 0, 1), (13, .new 15, 3), (16, .dup, 1), (17, .invokespecial 17, 3), (20, .putfield 18, 3), (23, .aload_n 0, 1), (24, .bipush 14, 2), (26, .newarray .long, 2), (28, .putfield 22, 3), (31, .aload_n 0, 1), (32, .iconst 3, 1), (33, .newarray .long, 2), (35, .putfield 25, 3), (38, .aload_n 0, 1), (39, .iconst 3, 1), (40, .newarray .int, 2), (42, .putfield 28, 3), (45, .aload_n 0, 1), (46, .new 32, 3), (49, .dup, 1), (50, .invokespecial 34, 3), (53, .putfield 35, 3), (56, .aload_n 0, 1), (57, .aload_n 1, 1), (58, .putfield 39, 3), (61, .return_, 1)]
/-- ClassFrames$Machine -/
def zq_m3 : zx_M := (⟨RX5, "<init>", "(LClassFrames$Code;)V"⟩, prog_7_method_1_code, 2, none, some 3, 1, 5, zq_t3_0)
set_option maxRecDepth 100000 in
theorem zq_d3_0 : zp_db prog_7_method_1_code zq_t3_0 = true := by decide +kernel
set_option maxRecDepth 100000 in
theorem zq_k3 : zy_mok zp_P zp_G zq_m3 := ⟨by decide +kernel, ⟨by decide +kernel, by decide +kernel⟩, by decide +kernel, by decide +kernel, zp_in_ok (i := 311) (by decide +kernel), zp_in_ok (i := 101) (by decide +kernel), zp_in_ok (i := 310) (by decide +kernel), rfl, zp_db_ok zq_d3_0⟩
def zq_t4_0 : List (Nat × Instr × Nat) := [(0, .aload_n 0, 1), (1, .invokespecial 3, 3), (4, .aload_n 0, 1), (5, .new 9, 3), (8, .dup, 1), (9, .invokespecial 11, 3), (12, .putfield 12, 3), (15, .aload_n 0, 1), (16, .new 18, 3), (19, .dup, 1), (20, .invokespecial 20, 3), (23, .putfield 21, 3), (26, .aload_n 0, 1), (27, .aload_n 1, 1), (28, .putfield 25, 3), (31, .aload_n 0, 1), (32, .aload_n 2, 1), (33, .putfield 29, 3), (36, .return_, 1)]
/-- ClassFrames$Maker -/
def zq_m4 : zx_M := (⟨RX6, "<init>", "(LClassFrames$Code;LClassFrames$Frames;)V"⟩, prog_8_method_1_code, 3, none, some 4, 2, 6, zq_t4_0)
set_option maxRecDepth 100000 in
theorem zq_d4_0 : zp_db prog_8_method_1_code zq_t4_0 = true := by decide +kernel
set_option maxRecDepth 100000 in
theorem zq_k4 : zy_mok zp_P zp_G zq_m4 := ⟨by decide +kernel, ⟨by decide +kernel, by decide +kernel⟩, by decide +kernel, by decide +kernel, zp_in_ok (i := 199) (by decide +kernel), zp_in_ok (i := 97) (by decide +kernel), zp_in_ok (i := 198) (by decide +kernel), rfl, zp_db_ok zq_d4_0⟩
def zq_t5_0 : List (Nat × Instr × Nat) := [(0, .aload_n 0, 1), (1, .invokespecial 3, 3), (4, .aload_n 0, 1), (5, .new 9, 3), (8, .dup, 1), (9, .invokespecial 11, 3), (12, .putfield 12, 3), (15, .aload_n 0, 1), (16, .sipush 2940, 3), (19, .newarray .int, 2), (21, .putfield 18, 3), (24, .aload_n 0, 1), (25, .bipush 8, 2), (27, .newarray .int, 2), (29, .putfield 22, 3), (32, .aload_n 0, 1), (33, .bipush 8, 2), (35, .newarray .int, 2), (37, .putfield 25, 3), (40, .aload_n 0, 1), (41, .bipush 6, 2), (43, .newarray .int, 2), (45, .putfield 28, 3), (48, .aload_n 0, 1), (49, .aload_n 1, 1), (50, .putfield 31, 3), (53, .aload_n 0, 1), (54, .aload_n 2, 1), (55, .putfield 35, 3), (58, .return_, 1)]
/-- ClassFrames$Packer -/
def zq_m5 : zx_M := (⟨RX7, "<init>", "(LClassFrames$Code;LClassFrames$Frames;)V"⟩, prog_9_method_1_code, 3, none, some 5, 2, 7, zq_t5_0)
set_option maxRecDepth 100000 in
theorem zq_d5_0 : zp_db prog_9_method_1_code zq_t5_0 = true := by decide +kernel
set_option maxRecDepth 100000 in
theorem zq_k5 : zy_mok zp_P zp_G zq_m5 := ⟨by decide +kernel, ⟨by decide +kernel, by decide +kernel⟩, by decide +kernel, by decide +kernel, zp_in_ok (i := 269) (by decide +kernel), zp_in_ok (i := 100) (by decide +kernel), zp_in_ok (i := 268) (by decide +kernel), rfl, zp_db_ok zq_d5_0⟩
def zq_t6_0 : List (Nat × Instr × Nat) := [(0, .aload_n 0, 1), (1, .invokespecial 3, 3), (4, .aload_n 0, 1), (5, .sipush 158, 3), (8, .newarray .int, 2), (10, .putfield 11, 3), (13, .aload_n 0, 1), (14, .sipush 3160, 3), (17, .newarray .int, 2), (19, .putfield 15, 3), (22, .return_, 1)]
/-- ClassFrames$Rows -/
def zq_m6 : zx_M := (⟨RX8, "<init>", "()V"⟩, prog_10_method_1_code, 1, none, some 6, 0, 8, zq_t6_0)
set_option maxRecDepth 100000 in
theorem zq_d6_0 : zp_db prog_10_method_1_code zq_t6_0 = true := by decide +kernel
set_option maxRecDepth 100000 in
theorem zq_k6 : zy_mok zp_P zp_G zq_m6 := ⟨by decide +kernel, ⟨by decide +kernel, by decide +kernel⟩, by decide +kernel, by decide +kernel, zp_in_ok (i := 319) (by decide +kernel), zp_in_ok (i := 102) (by decide +kernel), zp_in_ok (i := 318) (by decide +kernel), rfl, zp_db_ok zq_d6_0⟩
def zq_t7_0 : List (Nat × Instr × Nat) := [(0, .aload_n 0, 1), (1, .invokespecial 3, 3), (4, .aload_n 0, 1), (5, .bipush 14, 2), (7, .newarray .int, 2), (9, .putfield 9, 3), (12, .return_, 1)]
/-- ClassFrames$State -/
def zq_m7 : zx_M := (⟨RX9, "<init>", "()V"⟩, prog_11_method_1_code, 1, none, some 7, 0, 9, zq_t7_0)
set_option maxRecDepth 100000 in
theorem zq_d7_0 : zp_db prog_11_method_1_code zq_t7_0 = true := by decide +kernel
set_option maxRecDepth 100000 in
theorem zq_k7 : zy_mok zp_P zp_G zq_m7 := ⟨by decide +kernel, ⟨by decide +kernel, by decide +kernel⟩, by decide +kernel, by decide +kernel, zp_in_ok (i := 207) (by decide +kernel), zp_in_ok (i := 98) (by decide +kernel), zp_in_ok (i := 206) (by decide +kernel), rfl, zp_db_ok zq_d7_0⟩
def zq_t8_0 : List (Nat × Instr × Nat) := [(0, .aload_n 0, 1), (1, .invokespecial 3, 3), (4, .aload_n 0, 1), (5, .sipush 840, 3), (8, .newarray .int, 2), (10, .putfield 9, 3), (13, .aload_n 0, 1), (14, .bipush 60, 2), (16, .newarray .int, 2), (18, .putfield 15, 3), (21, .return_, 1)]
/-- ClassFrames$Table -/
def zq_m8 : zx_M := (⟨RX10, "<init>", "()V"⟩, prog_12_method_1_code, 1, none, some 8, 0, 10, zq_t8_0)
set_option maxRecDepth 100000 in
theorem zq_d8_0 : zp_db prog_12_method_1_code zq_t8_0 = true := by decide +kernel
set_option maxRecDepth 100000 in
theorem zq_k8 : zy_mok zp_P zp_G zq_m8 := ⟨by decide +kernel, ⟨by decide +kernel, by decide +kernel⟩, by decide +kernel, by decide +kernel, zp_in_ok (i := 173) (by decide +kernel), zp_in_ok (i := 96) (by decide +kernel), zp_in_ok (i := 172) (by decide +kernel), rfl, zp_db_ok zq_d8_0⟩
def zq_t9_0 : List (Nat × Instr × Nat) := [(0, .aload_n 0, 1), (1, .invokespecial 3, 3), (4, .aload_n 0, 1), (5, .new 9, 3), (8, .dup, 1), (9, .invokespecial 11, 3), (12, .putfield 12, 3), (15, .aload_n 0, 1), (16, .new 16, 3), (19, .dup, 1), (20, .invokespecial 18, 3), (23, .putfield 19, 3), (26, .aload_n 0, 1), (27, .new 23, 3), (30, .dup, 1), (31, .aload_n 0, 1), (32, .getfield 12, 3), (35, .aload_n 0, 1), (36, .getfield 19, 3), (39, .invokespecial 25, 3), (42, .putfield 28, 3), (45, .aload_n 0, 1), (46, .new 32, 3), (49, .dup, 1), (50, .aload_n 0, 1), (51, .getfield 12, 3), (54, .aload_n 0, 1), (55, .getfield 28, 3), (58, .aload_n 0, 1), (59, .getfield 19, 3), (62, .invokespecial 34, 3), (65, .putfield 37, 3), (68, .aload_n 0, 1), (69, .new 41, 3), (72, .dup, 1), (73, .aload_n 0, 1), (74, .getfield 12, 3), (77, .aload_n 0, 1), (78, .getfield 19, 3), (81, .invokespecial 43, 3)]
def zq_t9_1 : List (Nat × Instr × Nat) := [(84, .putfield 44, 3), (87, .aload_n 0, 1), (88, .new 48, 3), (91, .dup, 1), (92, .aload_n 0, 1), (93, .getfield 12, 3), (96, .invokespecial 50, 3), (99, .putfield 53, 3), (102, .return_, 1)]
/-- ClassFrames -/
def zq_m9 : zx_M := (⟨RX11, "<init>", "()V"⟩, prog_1_method_1_code, 1, none, some 9, 0, 11, zq_t9_0 ++ (zq_t9_1))
set_option maxRecDepth 100000 in
theorem zq_d9_0 : zp_db prog_1_method_1_code zq_t9_0 = true := by decide +kernel
set_option maxRecDepth 100000 in
theorem zq_d9_1 : zp_db prog_1_method_1_code zq_t9_1 = true := by decide +kernel
set_option maxRecDepth 100000 in
theorem zq_k9 : zy_mok zp_P zp_G zq_m9 := ⟨by decide +kernel, ⟨by decide +kernel, by decide +kernel⟩, by decide +kernel, by decide +kernel, zp_in_ok (i := 118) (by decide +kernel), zp_in_ok (i := 93) (by decide +kernel), zp_in_ok (i := 117) (by decide +kernel), rfl, zp_db_app (zp_db_ok zq_d9_0) (zp_db_ok zq_d9_1)⟩
def zq_t10_0 : List (Nat × Instr × Nat) := [(0, .aload_n 0, 1), (1, .invokespecial 1, 3), (4, .aload_n 0, 1), (5, .bipush 60, 2), (7, .newarray .int, 2), (9, .putfield 7, 3), (12, .aload_n 0, 1), (13, .bipush 60, 2), (15, .newarray .int, 2), (17, .putfield 13, 3), (20, .aload_n 0, 1), (21, .bipush 60, 2), (23, .newarray .int, 2), (25, .putfield 16, 3), (28, .aload_n 0, 1), (29, .bipush 6, 2), (31, .newarray .int, 2), (33, .putfield 19, 3), (36, .aload_n 0, 1), (37, .bipush 6, 2), (39, .newarray .int, 2), (41, .putfield 22, 3), (44, .aload_n 0, 1), (45, .bipush 6, 2), (47, .newarray .int, 2), (49, .putfield 25, 3), (52, .aload_n 0, 1), (53, .bipush 6, 2), (55, .newarray .int, 2), (57, .putfield 28, 3), (60, .aload_n 0, 1), (61, .bipush 8, 2), (63, .newarray .int, 2), (65, .putfield 31, 3), (68, .aload_n 0, 1), (69, .bipush 8, 2), (71, .newarray .long, 2), (73, .putfield 34, 3), (76, .aload_n 0, 1), (77, .bipush 60, 2)]
def zq_t10_1 : List (Nat × Instr × Nat) := [(79, .newarray .boolean, 2), (81, .putfield 38, 3), (84, .aload_n 0, 1), (85, .sipush 840, 3), (88, .newarray .int, 2), (90, .putfield 42, 3), (93, .aload_n 0, 1), (94, .bipush 60, 2), (96, .newarray .int, 2), (98, .putfield 45, 3), (101, .aload_n 0, 1), (102, .bipush 60, 2), (104, .newarray .int, 2), (106, .putfield 48, 3), (109, .aload_n 0, 1), (110, .bipush 60, 2), (112, .newarray .int, 2), (114, .putfield 51, 3), (117, .aload_n 0, 1), (118, .bipush 60, 2), (120, .newarray .int, 2), (122, .putfield 54, 3), (125, .aload_n 0, 1), (126, .sipush 840, 3), (129, .newarray .int, 2), (131, .putfield 57, 3), (134, .aload_n 0, 1), (135, .bipush 14, 2), (137, .newarray .int, 2), (139, .putfield 60, 3), (142, .aload_n 0, 1), (143, .bipush 14, 2), (145, .newarray .int, 2), (147, .putfield 63, 3), (150, .aload_n 0, 1), (151, .bipush 14, 2), (153, .newarray .int, 2), (155, .putfield 66, 3), (158, .aload_n 0, 1), (159, .sipush 4000, 3)]
def zq_t10_2 : List (Nat × Instr × Nat) := [(162, .newarray .int, 2), (164, .putfield 69, 3), (167, .aload_n 0, 1), (168, .bipush 14, 2), (170, .newarray .int, 2), (172, .putfield 72, 3), (175, .aload_n 0, 1), (176, .bipush 14, 2), (178, .newarray .int, 2), (180, .putfield 75, 3), (183, .aload_n 0, 1), (184, .bipush 14, 2), (186, .newarray .int, 2), (188, .putfield 78, 3), (191, .aload_n 0, 1), (192, .bipush 14, 2), (194, .newarray .int, 2), (196, .putfield 81, 3), (199, .aload_n 0, 1), (200, .bipush 14, 2), (202, .newarray .long, 2), (204, .putfield 84, 3), (207, .aload_n 0, 1), (208, .bipush 14, 2), (210, .newarray .int, 2), (212, .putfield 87, 3), (215, .aload_n 0, 1), (216, .sipush 400, 3), (219, .newarray .int, 2), (221, .putfield 90, 3), (224, .aload_n 0, 1), (225, .sipush 8000, 3), (228, .newarray .int, 2), (230, .putfield 93, 3), (233, .aload_n 0, 1), (234, .iconst (-1), 1), (235, .putfield 96, 3), (238, .return_, 1)]
/-- ClassFramesModel -/
def zq_m10 : zx_M := (⟨RX12, "<init>", "()V"⟩, prog_14_method_1_code, 1, none, some 10, 0, 12, zq_t10_0 ++ (zq_t10_1 ++ (zq_t10_2)))
set_option maxRecDepth 100000 in
theorem zq_d10_0 : zp_db prog_14_method_1_code zq_t10_0 = true := by decide +kernel
set_option maxRecDepth 100000 in
theorem zq_d10_1 : zp_db prog_14_method_1_code zq_t10_1 = true := by decide +kernel
set_option maxRecDepth 100000 in
theorem zq_d10_2 : zp_db prog_14_method_1_code zq_t10_2 = true := by decide +kernel
set_option maxRecDepth 100000 in
theorem zq_k10 : zy_mok zp_P zp_G zq_m10 := ⟨by decide +kernel, ⟨by decide +kernel, by decide +kernel⟩, by decide +kernel, by decide +kernel, zp_in_ok (i := 1168) (by decide +kernel), zp_in_ok (i := 103) (by decide +kernel), zp_in_ok (i := 1167) (by decide +kernel), rfl, zp_db_app (zp_db_ok zq_d10_0) (zp_db_app (zp_db_ok zq_d10_1) (zp_db_ok zq_d10_2))⟩
def zq_ms : List zx_M := [zq_m0, zq_m1, zq_m2, zq_m3, zq_m4, zq_m5, zq_m6, zq_m7, zq_m8, zq_m9, zq_m10]
def zq_kt : List (List (Nat × Nat × Nat × Nat × Nat)) := [[], [], [(9, 8, 169, 170, 96)], [(9, 7, 247, 204, 98)], [], [(15, 7, 313, 204, 98), (32, 6, 315, 316, 102)], [(9, 8, 201, 170, 96), (18, 7, 203, 204, 98)], [(9, 7, 271, 204, 98)], [], [], [], [(9, 0, 122, 123, 94), (16, 1, 163, 164, 95), (23, 4, 195, 196, 97), (32, 2, 241, 242, 99), (41, 5, 265, 266, 100), (48, 3, 307, 308, 101), (120, 12, 1157, 1076, 112)], [], [], [], [(8, 9, 114, 115, 93), (13, 12, 1075, 1076, 112), (16, 10, 1164, 1165, 103)]]
def zq_ct : List (List (Nat × Nat × Option String × Nat)) := [[], [], [(11, 8, some "ClassFrames", 171)], [(11, 7, some "ClassFrames", 248)], [], [(17, 7, some "ClassFrames", 314), (34, 6, some "ClassFrames", 317)], [(11, 8, some "ClassFrames", 202), (20, 7, some "ClassFrames", 205)], [(11, 7, some "ClassFrames", 272)], [], [], [], [(11, 0, some "ClassFrames", 124), (18, 1, some "ClassFrames", 165), (25, 4, none, 197), (34, 2, none, 243), (43, 5, none, 267), (50, 3, none, 309)], [], [], [], [(15, 9, none, 116), (18, 10, none, 1166)]]
def zq_it : List (List (Nat × Nat)) := [[(3, 127)], [], [(3, 168)], [(3, 246)], [], [(3, 312)], [(3, 200)], [(3, 270)], [(3, 320)], [(3, 208)], [(3, 174)], [(3, 119)], [(1, 1169)], [], [], []]
def zq_wt : List (List (Nat × Nat)) := [[(9, 0), (15, 0), (18, 0), (40, 0), (21, 0), (24, 0), (27, 0), (30, 0), (43, 0), (33, 0), (36, 0)], [], [(12, 0), (18, 0), (22, 0), (25, 0)], [(21, 0), (25, 0), (29, 0), (12, 0), (18, 0)], [], [(39, 0), (9, 0), (18, 0), (22, 0), (25, 0), (28, 0), (35, 0), (71, 0), (61, 0), (55, 0), (65, 0), (49, 0), (52, 0), (74, 0), (45, 0)], [(25, 0), (29, 0), (12, 0), (21, 0), (33, 0), (65, 0), (37, 0), (41, 0)], [(31, 0), (35, 0), (12, 0), (18, 0), (39, 0), (22, 0), (66, 0), (25, 0), (88, 0), (28, 0), (94, 0)], [(11, 0), (15, 0), (18, 0)], [(9, 0), (21, 0)], [(9, 0), (15, 0)], [(12, 0), (19, 0), (28, 0), (37, 0), (44, 0), (53, 0), (80, 0)], [(100, 0), (151, 0), (7, 0), (13, 0), (16, 0), (165, 0), (19, 0), (22, 0), (25, 0), (28, 0), (148, 0), (31, 0), (34, 0), (189, 0), (192, 0), (195, 0), (38, 0), (42, 0), (45, 0), (198, 0), (48, 0), (51, 0), (54, 0), (57, 0), (60, 0), (110, 0), (107, 0), (154, 0), (63, 0), (66, 0), (236, 0), (69, 0), (72, 0), (75, 0), (78, 0), (81, 0), (84, 0), (87, 0), (264, 0), (90, 0), (93, 0), (294, 0), (272, 0), (275, 0), (318, 0), (96, 0), (321, 0), (328, 0), (325, 0), (291, 0), (281, 0)], [], [], []]
def zq_pd (ci : Nat) : List Value := match ci with
  | 0 => [Value.null, Value.null, Value.null, Value.int 0, Value.null, Value.null, Value.null, Value.null, Value.int 0, Value.null, Value.int 0]
  | 1 => [Value.null, Value.null, Value.null, Value.int 0]
  | 2 => [Value.null, Value.null, Value.null, Value.null, Value.null]
  | 3 => [Value.null, Value.null, Value.null, Value.null, Value.null, Value.null, Value.null, Value.int 0, Value.int 0, Value.int 0, Value.int 0, Value.int 0, Value.int 0, Value.long 0, Value.int 0]
  | 4 => [Value.null, Value.null, Value.null, Value.null, Value.int 0, Value.int 0, Value.int 0, Value.int 0]
  | 5 => [Value.null, Value.null, Value.null, Value.null, Value.int 0, Value.null, Value.int 0, Value.null, Value.int 0, Value.null, Value.int 0]
  | 6 => [Value.null, Value.null, Value.int 0]
  | 7 => [Value.null, Value.int 0]
  | 8 => [Value.null, Value.null]
  | 9 => [Value.null, Value.null, Value.null, Value.null, Value.null, Value.null, Value.int 0]
  | 10 => [Value.int 0, Value.int 0, Value.null, Value.null, Value.null, Value.int 0, Value.null, Value.null, Value.null, Value.null, Value.int 0, Value.null, Value.null, Value.int 0, Value.int 0, Value.int 0, Value.null, Value.null, Value.null, Value.int 0, Value.null, Value.null, Value.null, Value.null, Value.null, Value.int 0, Value.int 0, Value.int 0, Value.null, Value.null, Value.int 0, Value.null, Value.null, Value.null, Value.null, Value.null, Value.null, Value.null, Value.int 0, Value.null, Value.null, Value.int 0, Value.int 0, Value.int 0, Value.int 0, Value.int 0, Value.long 0, Value.int 0, Value.int 0, Value.int 0, Value.int 0]
  | 11 => [Value.null, Value.int 0]
  | _ => [Value.null, Value.null, Value.null, Value.null, Value.int 0, Value.null]
def zq_X : zy_P := (zq_ms, fun o i => (zp_lk zq_kt o i).map (fun q => q.1), fun o i => (zp_lk zq_ct o i).map (fun q => (q.1, q.2.1)), fun o i => (zp_lk zq_it o i).isSome, zq_pd, fun o i => (zp_lk zq_wt o i).isSome)
theorem zq_ms_ok : ∀ q ∈ zq_ms, zy_mok zp_P zp_G q := List.forall_mem_cons.mpr ⟨zq_k0, List.forall_mem_cons.mpr ⟨zq_k1, List.forall_mem_cons.mpr ⟨zq_k2, List.forall_mem_cons.mpr ⟨zq_k3, List.forall_mem_cons.mpr ⟨zq_k4, List.forall_mem_cons.mpr ⟨zq_k5, List.forall_mem_cons.mpr ⟨zq_k6, List.forall_mem_cons.mpr ⟨zq_k7, List.forall_mem_cons.mpr ⟨zq_k8, List.forall_mem_cons.mpr ⟨zq_k9, List.forall_mem_cons.mpr ⟨zq_k10, fun q h => absurd h List.not_mem_nil⟩⟩⟩⟩⟩⟩⟩⟩⟩⟩⟩
def zq_kb (o idx : Nat) (q : Nat × Nat × Nat × Nat) : Bool := decide (q.1 < 13) && zp_in q.2.1 (Cond.classLink (zp_po o) idx (zp_cR q.1)) && zp_in q.2.2.1 (Cond.instantiable (zp_cR q.1) (zp_cN q.1)) && zp_in q.2.2.2 (Cond.initialized (zp_cR q.1))
theorem zq_cls (ci : Nat) (hc : ci < 13) {o idx : Nat} (h1 : Cond.classLink (zp_po o) idx (zp_cR ci) ∈ zp_G) (h2 : Cond.instantiable (zp_cR ci) (zp_cN ci) ∈ zp_G) (h3 : Cond.initialized (zp_cR ci) ∈ zp_G) : zy_kok zp_P zq_X zp_G zp_cl o idx ci := by
  rcases (show ci = 0 ∨ ci = 1 ∨ ci = 2 ∨ ci = 3 ∨ ci = 4 ∨ ci = 5 ∨ ci = 6 ∨ ci = 7 ∨ ci = 8 ∨ ci = 9 ∨ ci = 10 ∨ ci = 11 ∨ ci = 12 by omega) with rfl | rfl | rfl | rfl | rfl | rfl | rfl | rfl | rfl | rfl | rfl | rfl | rfl
  · exact ⟨RX0, TX0, 11, tyX0, rfl, h1, h2, h3, zp_uX0, tyX0_ok, rfl, by decide +kernel⟩
  · exact ⟨RX2, TX2, 4, tyX2, rfl, h1, h2, h3, zp_uX2, tyX2_ok, rfl, by decide +kernel⟩
  · exact ⟨RX3, TX3, 5, tyX3, rfl, h1, h2, h3, zp_uX3, tyX3_ok, rfl, by decide +kernel⟩
  · exact ⟨RX5, TX5, 15, tyX5, rfl, h1, h2, h3, zp_uX5, tyX5_ok, rfl, by decide +kernel⟩
  · exact ⟨RX6, TX6, 8, tyX6, rfl, h1, h2, h3, zp_uX6, tyX6_ok, rfl, by decide +kernel⟩
  · exact ⟨RX7, TX7, 11, tyX7, rfl, h1, h2, h3, zp_uX7, tyX7_ok, rfl, by decide +kernel⟩
  · exact ⟨RX8, TX8, 3, tyX8, rfl, h1, h2, h3, zp_uX8, tyX8_ok, rfl, by decide +kernel⟩
  · exact ⟨RX9, TX9, 2, tyX9, rfl, h1, h2, h3, zp_uX9, tyX9_ok, rfl, by decide +kernel⟩
  · exact ⟨RX10, TX10, 2, tyX10, rfl, h1, h2, h3, zp_uX10, tyX10_ok, rfl, by decide +kernel⟩
  · exact ⟨RX11, TX11, 7, tyX11, rfl, h1, h2, h3, zp_uX11, tyX11_ok, rfl, by decide +kernel⟩
  · exact ⟨RX12, TX12, 51, tyX12, rfl, h1, h2, h3, zp_uX12, tyX12_ok, rfl, by decide +kernel⟩
  · exact ⟨RJ0, TJ0, 2, tyJ0, rfl, h1, h2, h3, zp_uJ0, tyJ0_ok, rfl, by decide +kernel⟩
  · exact ⟨RJx00060, TJx00060, 6, tyJx00060, rfl, h1, h2, h3, zp_uJx00060, tyJx00060_ok, rfl, by decide +kernel⟩
set_option maxRecDepth 100000 in
theorem zq_kt_ok : zp_all zq_kb 0 zq_kt = true := by decide +kernel
def zq_cb (o idx : Nat) (q : Nat × Option String × Nat) : Bool := match zq_ms[q.1]?, q.2.1 with
  | some r, none => zp_in q.2.2 (Cond.methodLink (zp_po o) idx (zx_my r))
  | some r, some hs => decide (lw_tbl[q.2.2]? = some (Cond.methodLinkNest (zp_po o) idx (zx_my r) hs))
  | none, _ => false
set_option maxRecDepth 100000 in
theorem zq_ct_ok : zp_all zq_cb 0 zq_ct = true := by decide +kernel
def zq_ib (o idx : Nat) (q : Nat) : Bool := zp_in q (Cond.methodLink (zp_po o) idx Lib.objectInit)
set_option maxRecDepth 100000 in
theorem zq_it_ok : zp_all zq_ib 0 zq_it = true := by decide +kernel
def zq_wb (o idx : Nat) (_ : Nat) : Bool := match zx_pf zp_P o idx with
  | some (ci, k) => decide (ci < 13) && decide ((zp_cT ci k).1 = zp_po o)
  | none => true
set_option maxRecDepth 100000 in
theorem zq_wt_ok : zp_all zq_wb 0 zq_wt = true := by decide +kernel
set_option maxRecDepth 100000 in
theorem zq_ok : zy_ok zp_P zq_X zp_G zp_cl := by
  refine ⟨zp_ok, fun j q hq => zq_ms_ok q (List.mem_of_getElem? hq), ?_, ?_, ?_, ⟨zp_in_ok (i := 162) (by decide +kernel), zp_in_ok (i := 331) (by decide +kernel), zp_in_ok (i := 1324) (by decide +kernel)⟩, ?_⟩
  · intro o idx ci h
    obtain ⟨q, hq, e⟩ := Option.map_eq_some_iff.mp h
    cases e
    have h1 := zp_all_ok _ 0 zq_kt_ok _ _ _ hq
    rw [Nat.zero_add, zq_kb, Bool.and_eq_true, Bool.and_eq_true, Bool.and_eq_true, decide_eq_true_eq] at h1
    exact zq_cls _ h1.1.1.1 (zp_in_ok h1.1.1.2) (zp_in_ok h1.1.2) (zp_in_ok h1.2)
  · intro o idx j r h hr
    obtain ⟨q, hq, e⟩ := Option.map_eq_some_iff.mp h
    obtain ⟨q1, q2, q3⟩ := q
    cases e
    have h1 := zp_all_ok _ 0 zq_ct_ok _ _ _ hq
    rw [Nat.zero_add] at h1
    unfold zq_cb at h1
    dsimp only at h1
    have hr2 : zq_ms[q1]? = some r := hr
    rw [hr2] at h1
    exact zp_in_ok h1
  · intro o idx h
    obtain ⟨q, hq⟩ := Option.isSome_iff_exists.mp h
    have h1 := zp_all_ok _ 0 zq_it_ok _ _ _ hq
    rw [Nat.zero_add, zq_ib] at h1
    exact ⟨zp_in_ok h1, zp_in_ok (i := 120) (by decide +kernel), zp_in_ok (i := 121) (by decide +kernel)⟩
  · intro o idx ci k C T N h hf hc
    obtain ⟨q, hq⟩ := Option.isSome_iff_exists.mp h
    have h1 := zp_all_ok _ 0 zq_wt_ok _ _ _ hq
    rw [Nat.zero_add] at h1
    unfold zq_wb at h1
    rw [hf] at h1
    dsimp only at h1
    rw [Bool.and_eq_true, decide_eq_true_eq, decide_eq_true_eq] at h1
    obtain ⟨h2, h3⟩ := h1
    have h4 : zp_cl[ci]? = some (zp_cR ci, zp_cT ci, zp_cN ci) := by
      rcases (show ci = 0 ∨ ci = 1 ∨ ci = 2 ∨ ci = 3 ∨ ci = 4 ∨ ci = 5 ∨ ci = 6 ∨ ci = 7 ∨ ci = 8 ∨ ci = 9 ∨ ci = 10 ∨ ci = 11 ∨ ci = 12 by omega) with rfl | rfl | rfl | rfl | rfl | rfl | rfl | rfl | rfl | rfl | rfl | rfl | rfl <;> rfl
    cases h4.symm.trans hc
    exact h3
/-- the heap behind new ClassFrames() and new ClassFramesModel() -/
def zq_h1 : zx_H := [.inr (9, [Value.ref 1, Value.ref 10, Value.ref 16, Value.ref 22, Value.ref 27, Value.ref 34, Value.int (0)]), .inr (0, [Value.ref 2, Value.ref 3, Value.ref 4, Value.int (0), Value.ref 5, Value.ref 6, Value.ref 7, Value.ref 8, Value.int (0), Value.ref 9, Value.int (0)]), .inl (0, 60, .inl (fun _ => 0)), .inl (0, 60, .inl (fun _ => 0)), .inl (0, 60, .inl (fun _ => 0)), .inl (0, 6, .inl (fun _ => 0)), .inl (0, 6, .inl (fun _ => 0)), .inl (0, 6, .inl (fun _ => 0)), .inl (0, 6, .inl (fun _ => 0)), .inl (0, 8, .inl (fun _ => 0)), .inr (1, [Value.ref 11, Value.ref 14, Value.ref 15, Value.int (0)]), .inr (8, [Value.ref 12, Value.ref 13]), .inl (0, 840, .inl (fun _ => 0)), .inl (0, 60, .inl (fun _ => 0)), .inl (0, 60, .inl (fun _ => 0)), .inl (0, 60, .inl (fun _ => 0)), .inr (4, [Value.ref 1, Value.ref 10, Value.ref 17, Value.ref 20, Value.int (0), Value.int (0), Value.int (0), Value.int (0)]), .inr (8, [Value.ref 18, Value.ref 19]), .inl (0, 840, .inl (fun _ => 0)), .inl (0, 60, .inl (fun _ => 0)), .inr (7, [Value.ref 21, Value.int (0)]), .inl (0, 14, .inl (fun _ => 0)), .inr (2, [Value.ref 1, Value.ref 16, Value.ref 10, Value.ref 23, Value.ref 25]), .inr (7, [Value.ref 24, Value.int (0)]), .inl (0, 14, .inl (fun _ => 0)), .inr (7, [Value.ref 26, Value.int (0)]), .inl (0, 14, .inl (fun _ => 0)), .inr (5, [Value.ref 1, Value.ref 10, Value.ref 28, Value.ref 30, Value.int (0), Value.ref 31, Value.int (0), Value.ref 32, Value.int (0), Value.ref 33, Value.int (0)]), .inr (7, [Value.ref 29, Value.int (0)]), .inl (0, 14, .inl (fun _ => 0)), .inl (0, 2940, .inl (fun _ => 0)), .inl (0, 8, .inl (fun _ => 0)), .inl (0, 8, .inl (fun _ => 0)), .inl (0, 6, .inl (fun _ => 0)), .inr (3, [Value.ref 1, Value.ref 35, Value.ref 36, Value.ref 38, Value.ref 39, Value.ref 40, Value.ref 41, Value.int (0), Value.int (0), Value.int (0), Value.int (0), Value.int (0), Value.int (0), Value.long 0, Value.int (0)]), .inl (1, 8, .inr (.inl (fun _ => 0))), .inr (7, [Value.ref 37, Value.int (0)]), .inl (0, 14, .inl (fun _ => 0)), .inl (1, 14, .inr (.inl (fun _ => 0))), .inl (1, 3, .inr (.inl (fun _ => 0))), .inl (0, 3, .inl (fun _ => 0)), .inr (6, [Value.ref 42, Value.ref 43, Value.int (0)]), .inl (0, 158, .inl (fun _ => 0)), .inl (0, 3160, .inl (fun _ => 0))]
def zq_h2 : zx_H := [.inr (10, [Value.int (0), Value.int (0), Value.ref 45, Value.ref 46, Value.ref 47, Value.int (0), Value.ref 48, Value.ref 49, Value.ref 50, Value.ref 51, Value.int (0), Value.ref 52, Value.ref 53, Value.int (0), Value.int (0), Value.int (0), Value.ref 54, Value.ref 55, Value.ref 56, Value.int (0), Value.ref 57, Value.ref 58, Value.ref 59, Value.ref 60, Value.ref 61, Value.int (0), Value.int (0), Value.int (0), Value.ref 62, Value.ref 63, Value.int (0), Value.ref 64, Value.ref 65, Value.ref 66, Value.ref 67, Value.ref 68, Value.ref 69, Value.ref 70, Value.int (0), Value.ref 71, Value.ref 72, Value.int (0), Value.int (0), Value.int (0), Value.int (0), Value.int (-1), Value.long 0, Value.int (0), Value.int (0), Value.int (0), Value.int (0)]), .inl (0, 60, .inl (fun _ => 0)), .inl (0, 60, .inl (fun _ => 0)), .inl (0, 60, .inl (fun _ => 0)), .inl (0, 6, .inl (fun _ => 0)), .inl (0, 6, .inl (fun _ => 0)), .inl (0, 6, .inl (fun _ => 0)), .inl (0, 6, .inl (fun _ => 0)), .inl (0, 8, .inl (fun _ => 0)), .inl (1, 8, .inr (.inl (fun _ => 0))), .inl (2, 60, .inl (fun _ => 0)), .inl (0, 840, .inl (fun _ => 0)), .inl (0, 60, .inl (fun _ => 0)), .inl (0, 60, .inl (fun _ => 0)), .inl (0, 60, .inl (fun _ => 0)), .inl (0, 60, .inl (fun _ => 0)), .inl (0, 840, .inl (fun _ => 0)), .inl (0, 14, .inl (fun _ => 0)), .inl (0, 14, .inl (fun _ => 0)), .inl (0, 14, .inl (fun _ => 0)), .inl (0, 4000, .inl (fun _ => 0)), .inl (0, 14, .inl (fun _ => 0)), .inl (0, 14, .inl (fun _ => 0)), .inl (0, 14, .inl (fun _ => 0)), .inl (0, 14, .inl (fun _ => 0)), .inl (1, 14, .inr (.inl (fun _ => 0))), .inl (0, 14, .inl (fun _ => 0)), .inl (0, 400, .inl (fun _ => 0)), .inl (0, 8000, .inl (fun _ => 0))]
set_option maxRecDepth 100000 in
set_option maxHeartbeats 4000000 in
theorem zq_run1 : zy_x zp_P zq_X 400 6 zq_m9 0 (lv_args 0 [.ref 0]) [] [.inr (9, zq_pd 9)] 0 0 = some (zq_h1, 43, 8581) := by rfl
set_option maxRecDepth 100000 in
set_option maxHeartbeats 4000000 in
theorem zq_run2 : zy_x zp_P zq_X 400 6 zq_m10 0 (lv_args 0 [.ref 44]) [] (zq_h1 ++ [.inr (10, zq_pd 10)]) 0 0 = some (zq_h1 ++ zq_h2, 28, 14726) := by rfl
end
section
/-! ===== 34: the heap behind both constructors is of its kinds (by program) ===== -/
theorem zq_z {lo hi : Int} (h1 : lo ≤ (0 : Int32).toInt) (h2 : (0 : Int32).toInt ≤ hi) : ∀ j : Nat, lo ≤ ((fun _ : Nat => (0 : Int32)) j).toInt ∧ ((fun _ : Nat => (0 : Int32)) j).toInt ≤ hi := fun _ => ⟨h1, h2⟩
set_option maxRecDepth 100000 in
theorem zq_I1 : zb_A zb_c zq_h1 (zc_H.take 44) := ⟨⟨rfl, rfl, rfl, rfl, rfl, rfl, rfl, ⟨0, rfl, by decide +kernel, by decide +kernel⟩, trivial⟩, ⟨⟨rfl, rfl, rfl, rfl, ⟨0, rfl, by decide +kernel, by decide +kernel⟩, rfl, rfl, rfl, rfl, ⟨0, rfl, by decide +kernel, by decide +kernel⟩, rfl, ⟨0, rfl, by decide +kernel, by decide +kernel⟩, trivial⟩, ⟨⟨rfl, rfl, by decide, zq_z (by decide +kernel) (by decide +kernel)⟩, ⟨⟨rfl, rfl, by decide, zq_z (by decide +kernel) (by decide +kernel)⟩, ⟨⟨rfl, rfl, by decide, zq_z (by decide +kernel) (by decide +kernel)⟩, ⟨⟨rfl, rfl, by decide, zq_z (by decide +kernel) (by decide +kernel)⟩, ⟨⟨rfl, rfl, by decide, zq_z (by decide +kernel) (by decide +kernel)⟩, ⟨⟨rfl, rfl, by decide, zq_z (by decide +kernel) (by decide +kernel)⟩, ⟨⟨rfl, rfl, by decide, zq_z (by decide +kernel) (by decide +kernel)⟩, ⟨⟨rfl, rfl, by decide, zq_z (by decide +kernel) (by decide +kernel)⟩, ⟨⟨rfl, rfl, rfl, rfl, ⟨0, rfl, by decide +kernel, by decide +kernel⟩, trivial⟩, ⟨⟨rfl, rfl, rfl, trivial⟩, ⟨⟨rfl, rfl, by decide, zq_z (by decide +kernel) (by decide +kernel)⟩, ⟨⟨rfl, rfl, by decide, zq_z (by decide +kernel) (by decide +kernel)⟩, ⟨⟨rfl, rfl, by decide, zq_z (by decide +kernel) (by decide +kernel)⟩, ⟨⟨rfl, rfl, by decide, zq_z (by decide +kernel) (by decide +kernel)⟩, ⟨⟨rfl, rfl, rfl, rfl, rfl, ⟨0, rfl, by decide +kernel, by decide +kernel⟩, ⟨0, rfl, by decide +kernel, by decide +kernel⟩, ⟨0, rfl, by decide +kernel, by decide +kernel⟩, ⟨0, rfl, by decide +kernel, by decide +kernel⟩, trivial⟩, ⟨⟨rfl, rfl, rfl, trivial⟩, ⟨⟨rfl, rfl, by decide, zq_z (by decide +kernel) (by decide +kernel)⟩, ⟨⟨rfl, rfl, by decide, zq_z (by decide +kernel) (by decide +kernel)⟩, ⟨⟨rfl, rfl, ⟨0, rfl, by decide +kernel, by decide +kernel⟩, trivial⟩, ⟨⟨rfl, rfl, by decide, zq_z (by decide +kernel) (by decide +kernel)⟩, ⟨⟨rfl, rfl, rfl, rfl, rfl, rfl, trivial⟩, ⟨⟨rfl, rfl, ⟨0, rfl, by decide +kernel, by decide +kernel⟩, trivial⟩, ⟨⟨rfl, rfl, by decide, zq_z (by decide +kernel) (by decide +kernel)⟩, ⟨⟨rfl, rfl, ⟨0, rfl, by decide +kernel, by decide +kernel⟩, trivial⟩, ⟨⟨rfl, rfl, by decide, zq_z (by decide +kernel) (by decide +kernel)⟩, ⟨⟨rfl, rfl, rfl, rfl, rfl, ⟨0, rfl, by decide +kernel, by decide +kernel⟩, rfl, ⟨0, rfl, by decide +kernel, by decide +kernel⟩, rfl, ⟨0, rfl, by decide +kernel, by decide +kernel⟩, rfl, ⟨0, rfl, by decide +kernel, by decide +kernel⟩, trivial⟩, ⟨⟨rfl, rfl, ⟨0, rfl, by decide +kernel, by decide +kernel⟩, trivial⟩, ⟨⟨rfl, rfl, by decide, zq_z (by decide +kernel) (by decide +kernel)⟩, ⟨⟨rfl, rfl, by decide, zq_z (by decide +kernel) (by decide +kernel)⟩, ⟨⟨rfl, rfl, by decide, zq_z (by decide +kernel) (by decide +kernel)⟩, ⟨⟨rfl, rfl, by decide, zq_z (by decide +kernel) (by decide +kernel)⟩, ⟨⟨rfl, rfl, by decide, zq_z (by decide +kernel) (by decide +kernel)⟩, ⟨⟨rfl, rfl, rfl, rfl, rfl, rfl, rfl, rfl, ⟨0, rfl, by decide +kernel, by decide +kernel⟩, ⟨0, rfl, by decide +kernel, by decide +kernel⟩, ⟨0, rfl, by decide +kernel, by decide +kernel⟩, ⟨0, rfl, by decide +kernel, by decide +kernel⟩, ⟨0, rfl, by decide +kernel, by decide +kernel⟩, ⟨0, rfl, by decide +kernel, by decide +kernel⟩, ⟨0, rfl⟩, ⟨0, rfl, by decide +kernel, by decide +kernel⟩, trivial⟩, ⟨⟨rfl, rfl, rfl⟩, ⟨⟨rfl, rfl, ⟨0, rfl, by decide +kernel, by decide +kernel⟩, trivial⟩, ⟨⟨rfl, rfl, by decide, zq_z (by decide +kernel) (by decide +kernel)⟩, ⟨⟨rfl, rfl, rfl⟩, ⟨⟨rfl, rfl, rfl⟩, ⟨⟨rfl, rfl, by decide, zq_z (by decide +kernel) (by decide +kernel)⟩, ⟨⟨rfl, rfl, rfl, ⟨0, rfl, by decide +kernel, by decide +kernel⟩, trivial⟩, ⟨⟨rfl, rfl, by decide, zq_z (by decide +kernel) (by decide +kernel)⟩, ⟨⟨rfl, rfl, by decide, zq_z (by decide +kernel) (by decide +kernel)⟩, trivial⟩⟩⟩⟩⟩⟩⟩⟩⟩⟩⟩⟩⟩⟩⟩⟩⟩⟩⟩⟩⟩⟩⟩⟩⟩⟩⟩⟩⟩⟩⟩⟩⟩⟩⟩⟩⟩⟩⟩⟩⟩⟩⟩⟩
set_option maxRecDepth 100000 in
theorem zq_I2 : zb_A zb_c (zq_h2 ++ [.inl (1, 1, .inr (.inl (fun _ => 0)))]) (zc_H.drop 44) := ⟨⟨rfl, ⟨0, rfl, by decide +kernel, by decide +kernel⟩, ⟨0, rfl, by decide +kernel, by decide +kernel⟩, rfl, rfl, rfl, ⟨0, rfl, by decide +kernel, by decide +kernel⟩, rfl, rfl, rfl, rfl, ⟨0, rfl, by decide +kernel, by decide +kernel⟩, rfl, rfl, ⟨0, rfl, by decide +kernel, by decide +kernel⟩, ⟨0, rfl, by decide +kernel, by decide +kernel⟩, ⟨0, rfl, by decide +kernel, by decide +kernel⟩, rfl, rfl, rfl, ⟨0, rfl, by decide +kernel, by decide +kernel⟩, rfl, rfl, rfl, rfl, rfl, ⟨0, rfl, by decide +kernel, by decide +kernel⟩, ⟨0, rfl, by decide +kernel, by decide +kernel⟩, ⟨0, rfl, by decide +kernel, by decide +kernel⟩, rfl, rfl, ⟨0, rfl, by decide +kernel, by decide +kernel⟩, rfl, rfl, rfl, rfl, rfl, rfl, rfl, ⟨0, rfl, by decide +kernel, by decide +kernel⟩, rfl, rfl, ⟨0, rfl, by decide +kernel, by decide +kernel⟩, ⟨0, rfl, by decide +kernel, by decide +kernel⟩, ⟨0, rfl, by decide +kernel, by decide +kernel⟩, ⟨0, rfl, by decide +kernel, by decide +kernel⟩, ⟨-1, rfl, by decide +kernel, by decide +kernel⟩, ⟨0, rfl⟩, ⟨0, rfl, by decide +kernel, by decide +kernel⟩, ⟨0, rfl, by decide +kernel, by decide +kernel⟩, ⟨0, rfl, by decide +kernel, by decide +kernel⟩, ⟨0, rfl, by decide +kernel, by decide +kernel⟩, trivial⟩, ⟨⟨rfl, rfl, by decide, zq_z (by decide +kernel) (by decide +kernel)⟩, ⟨⟨rfl, rfl, by decide, zq_z (by decide +kernel) (by decide +kernel)⟩, ⟨⟨rfl, rfl, by decide, zq_z (by decide +kernel) (by decide +kernel)⟩, ⟨⟨rfl, rfl, by decide, zq_z (by decide +kernel) (by decide +kernel)⟩, ⟨⟨rfl, rfl, by decide, zq_z (by decide +kernel) (by decide +kernel)⟩, ⟨⟨rfl, rfl, by decide, zq_z (by decide +kernel) (by decide +kernel)⟩, ⟨⟨rfl, rfl, by decide, zq_z (by decide +kernel) (by decide +kernel)⟩, ⟨⟨rfl, rfl, by decide, zq_z (by decide +kernel) (by decide +kernel)⟩, ⟨⟨rfl, rfl, rfl⟩, ⟨⟨rfl, rfl, by decide, zq_z (by decide +kernel) (by decide +kernel)⟩, ⟨⟨rfl, rfl, by decide, zq_z (by decide +kernel) (by decide +kernel)⟩, ⟨⟨rfl, rfl, by decide, zq_z (by decide +kernel) (by decide +kernel)⟩, ⟨⟨rfl, rfl, by decide, zq_z (by decide +kernel) (by decide +kernel)⟩, ⟨⟨rfl, rfl, by decide, zq_z (by decide +kernel) (by decide +kernel)⟩, ⟨⟨rfl, rfl, by decide, zq_z (by decide +kernel) (by decide +kernel)⟩, ⟨⟨rfl, rfl, by decide, zq_z (by decide +kernel) (by decide +kernel)⟩, ⟨⟨rfl, rfl, by decide, zq_z (by decide +kernel) (by decide +kernel)⟩, ⟨⟨rfl, rfl, by decide, zq_z (by decide +kernel) (by decide +kernel)⟩, ⟨⟨rfl, rfl, by decide, zq_z (by decide +kernel) (by decide +kernel)⟩, ⟨⟨rfl, rfl, by decide, zq_z (by decide +kernel) (by decide +kernel)⟩, ⟨⟨rfl, rfl, by decide, zq_z (by decide +kernel) (by decide +kernel)⟩, ⟨⟨rfl, rfl, by decide, zq_z (by decide +kernel) (by decide +kernel)⟩, ⟨⟨rfl, rfl, by decide, zq_z (by decide +kernel) (by decide +kernel)⟩, ⟨⟨rfl, rfl, by decide, zq_z (by decide +kernel) (by decide +kernel)⟩, ⟨⟨rfl, rfl, rfl⟩, ⟨⟨rfl, rfl, by decide, zq_z (by decide +kernel) (by decide +kernel)⟩, ⟨⟨rfl, rfl, by decide, zq_z (by decide +kernel) (by decide +kernel)⟩, ⟨⟨rfl, rfl, by decide, zq_z (by decide +kernel) (by decide +kernel)⟩, ⟨⟨rfl, rfl, rfl⟩, trivial⟩⟩⟩⟩⟩⟩⟩⟩⟩⟩⟩⟩⟩⟩⟩⟩⟩⟩⟩⟩⟩⟩⟩⟩⟩⟩⟩⟩⟩⟩
/-- the heap at the law's loop -/
def zq_h0 : zx_H := zq_h1 ++ (zq_h2 ++ [.inl (1, 1, .inr (.inl (fun _ => 0)))])
theorem zq_I : zb_I zc_H zq_h0 := by
  have h := zb_A.app zq_I1 zq_I2
  rw [List.take_append_drop] at h
  exact h
end
section
/-! ===== 40: stretches of the law's own body: the interpreter up to a place; calls by runs of the interpreter ===== -/
/-- P2 is the program with the script as a row; calls run in P -/
def zl_x (P P2 : zx_P) (stop : Nat) (q : zx_M) (d : Nat) : Nat → Nat → zx_L → List Value → zx_H → Option (zx_L × List Value × zx_H)
  | 0, _, _, _, _ => none
  | n + 1, pc, ls, st, h =>
    match zx_o P2 q pc ls st h with
    | some (.inl (pc', ls', st', h')) => if pc' = stop then some (ls', st', h') else zl_x P P2 stop q d n pc' ls' st' h'
    | some (.inr (.inr (.inr (cj, as, rest)))) => (match (zx_pm P)[cj]? with
      | none => none
      | some q' => (match zx_x P n d q' 0 (lv_args 0 as) [] h with
        | none => none
        | some (r, h') => zl_x P P2 stop q d n (pc + 3) ls (r.toList ++ rest) h'))
    | _ => none
def zl_mok (P : zx_P) (q : zx_M) : Prop := zx_po P (zx_mo q) = (zx_my q).cls ∧ ∀ z ∈ zx_mi q, decode (zx_mb q) z.1 = .ok z.2
/-- which of its ways a step of the interpreter takes -/
theorem zx_oI {P : zx_P} {q : zx_M} {pc : Nat} {ls : zx_L} {st : List Value} {h : zx_H} {o : zx_R} (ho : zx_o P q pc ls st h = some o) : ∃ i len, zx_at (zx_mi q) pc = some (i, len) ∧
    ((∃ st', zx_s i st = some (len, st') ∧ o = .inl (pc + len, ls, st', h)) ∨ (∃ v, zx_l i ls = some (len, v) ∧ o = .inl (pc + len, ls, v :: st, h)) ∨ (∃ ls' st', zx_t i (zx_ml q) ls st = some (len, ls', st') ∧ o = .inl (pc + len, ls', st', h)) ∨ (∃ pc' st', zx_j i len pc st = some (pc', st') ∧ o = .inl (pc', ls, st', h)) ∨ (∃ st' h', zx_g P (zx_mo q) i st h = some (len, st', h') ∧ o = .inl (pc + len, ls, st', h')) ∨ (∃ r, zx_r i len (zx_mr q) st = some r ∧ o = .inr (.inl r)) ∨ (∃ st', zx_n P (zx_mo q) i len st = some st' ∧ o = .inr (.inr (.inl st'))) ∨ ∃ z, zx_k P (zx_mo q) i len st h = some z ∧ o = .inr (.inr (.inr z))) := by
  unfold zx_o at ho
  split at ho
  · cases ho
  · next i len hat =>
    refine ⟨i, len, hat, ?_⟩
    split at ho
    · next k st' e =>
      split at ho
      · next hk => subst hk; cases ho; exact Or.inl ⟨st', e, rfl⟩
      · cases ho
    · split at ho
      · next k v e =>
        split at ho
        · next hk => subst hk; cases ho; exact Or.inr (Or.inl ⟨v, e, rfl⟩)
        · cases ho
      · split at ho
        · next k ls' st' e =>
          split at ho
          · next hk => subst hk; cases ho; exact Or.inr (Or.inr (Or.inl ⟨ls', st', e, rfl⟩))
          · cases ho
        · split at ho
          · next pc' st' e => cases ho; exact Or.inr (Or.inr (Or.inr (Or.inl ⟨pc', st', e, rfl⟩)))
          · split at ho
            · next k st' h' e =>
              split at ho
              · next hk => subst hk; cases ho; exact Or.inr (Or.inr (Or.inr (Or.inr (Or.inl ⟨st', h', e, rfl⟩))))
              · cases ho
            · split at ho
              · next r e => cases ho; exact Or.inr (Or.inr (Or.inr (Or.inr (Or.inr (Or.inl ⟨r, e, rfl⟩)))))
              · split at ho
                · next st' e => cases ho; exact Or.inr (Or.inr (Or.inr (Or.inr (Or.inr (Or.inr (Or.inl ⟨st', e, rfl⟩))))))
                · split at ho
                  · next z e => cases ho; exact Or.inr (Or.inr (Or.inr (Or.inr (Or.inr (Or.inr (Or.inr ⟨z, e, rfl⟩))))))
                  · cases ho
set_option maxHeartbeats 4000000 in
theorem zl_seg {P P2 : zx_P} {G : List Cond} {cl : List vw_C} (ok : zx_ok P G cl) (ok2 : zx_ok P2 G cl) (hpm : zx_pm P2 = zx_pm P) {stop d : Nat} {q : zx_M} (hq : zl_mok P2 q) {p : Program} {l : Launch} {e : Env} {R : Room} {s : State} {m : MethodId} {args : Array Value} {below : List Frame} {meth : Method} {c : Code} {cells slots : Nat} {Q : State → Prop} {D : va_G} {ad : Nat → Nat} {cA : Nat → ClassId} {A : Nat → Prop}
    (xe : p.tables.exec = Jvm.exec) (xb : c.code = zx_mb q) (xm : c.maxLocals = zx_ml q) (xo : s.vm.findClass (zx_my q).cls = some m.cls) (hts : ∀ w ∈ G, w.before args s = true) (hK : va_K D cl (zx_ty cA) s) (hZ : zx_Z P G ad A s s.heap) (hZ2 : zx_Z P2 G ad A s s.heap) (hA : ∀ q : Nat, s.heap.size ≤ q → A q) (hR1 : d + 1 ≤ R.frames) (hR2 : 40 * (d + 1) ≤ R.locals) (hR3 : cells ≤ R.cells) (hR4 : slots ≤ R.slots) :
    ∀ (n pc : Nat) (ls : zx_L) (st : List Value) (h : zx_H) (ls' : zx_L) (st' : List Value) (h' : zx_H), zl_x P P2 stop q d n pc ls st h = some (ls', st', h') → ∀ (H : Heap) (locs : List Loc) (lsA : Array Slot), va_P D cl (zx_w ad cA h) H → va_D A (zx_w ad cA h) → va_S A s.heap H locs → lv_has lsA (zx_ml q) (zx_lm ad ls) →
    (∀ (H1 : Heap) (locs1 : List Loc) (lsB : Array Slot), va_P D cl (zx_w ad cA h') H1 → va_D A (zx_w ad cA h') → va_S A s.heap H1 locs1 → lv_has lsB (zx_ml q) (zx_lm ad ls') → W p l e R s m args below meth c H1 locs1 cells slots Q (F0 m stop lsB (st'.map (zx_v ad)))) →
    W p l e R s m args below meth c H locs cells slots Q (F0 m pc lsA (st.map (zx_v ad))) := by
  intro n
  have hown : s.vm.findClass (zx_po P2 (zx_mo q)) = some m.cls := by rw [hq.1]; exact xo
  induction n with
  | zero => intro pc ls st h ls' st' h' hx; simp [zl_x] at hx
  | succ n ih =>
    intro pc ls st h ls' st' h' hx H locs lsA hP hD hS hl kk
    rw [zl_x] at hx
    split at hx
    · next pc1 ls1 st1 h1 ho =>
      obtain ⟨i, len, hat, hor⟩ := zx_oI ho
      have hd : decode (zx_mb q) pc = .ok (i, len) := hq.2 (pc, (i, len)) (zx_at_mem hat)
      have go : ∀ (H1 : Heap) (locs1 : List Loc) (lsB : Array Slot), va_P D cl (zx_w ad cA h1) H1 → va_D A (zx_w ad cA h1) → va_S A s.heap H1 locs1 → lv_has lsB (zx_ml q) (zx_lm ad ls1) → W p l e R s m args below meth c H1 locs1 cells slots Q (F0 m pc1 lsB (st1.map (zx_v ad))) := by
        intro H1 locs1 lsB a1 a2 a3 a4
        split at hx
        · next hs => subst hs; cases hx; exact kk H1 locs1 lsB a1 a2 a3 a4
        · exact ih _ _ _ _ _ _ _ hx H1 locs1 lsB a1 a2 a3 a4 kk
      rcases hor with ⟨st2, e1, e2⟩ | ⟨v, e1, e2⟩ | ⟨ls2, st2, e1, e2⟩ | ⟨pc2, st2, e1, e2⟩ | ⟨st2, h2, e1, e2⟩ | ⟨r, e1, e2⟩ | ⟨st2, e1, e2⟩ | ⟨z, e1, e2⟩
      · cases e2; exact zx_s_W xe xb e1 hd (go H locs lsA hP hD hS hl)
      · cases e2; exact zx_l_W xe xb e1 hd hl (go H locs lsA hP hD hS hl)
      · cases e2; exact zx_t_W xe xb e1 hd hl (fun lsB hlB => go H locs lsB hP hD hS hlB)
      · cases e2; exact zx_j_W xe xb e1 hd (go H locs lsA hP hD hS hl)
      · cases e2; exact zx_g_W ok2 xe xb hts hown hK hZ2 hP hD hS e1 hd (fun H1 locs1 a1 a2 a3 => go H1 locs1 lsA a1 a2 a3 hl)
      · cases e2
      · cases e2
      · cases e2
    · next cj as rest ho =>
      obtain ⟨i, len, hat, hor⟩ := zx_oI ho
      have hd : decode (zx_mb q) pc = .ok (i, len) := hq.2 (pc, (i, len)) (zx_at_mem hat)
      rcases hor with ⟨st2, e1, e2⟩ | ⟨v, e1, e2⟩ | ⟨ls2, st2, e1, e2⟩ | ⟨pc2, st2, e1, e2⟩ | ⟨st2, h2, e1, e2⟩ | ⟨r, e1, e2⟩ | ⟨st2, e1, e2⟩ | ⟨z, hk9, e2⟩
      · cases e2
      · cases e2
      · cases e2
      · cases e2
      · cases e2
      · cases e2
      · cases e2
      · cases e2
        split at hx
        · cases hx
        · next q' hq' =>
          split at hx
          · cases hx
          · next r1 h1 hx1 =>
            have go : ∀ (H1 : Heap) (locs1 : List Loc), va_P D cl (zx_w ad cA h1) H1 → va_D A (zx_w ad cA h1) → va_S A s.heap H1 locs1 → W p l e R s m args below meth c H1 locs1 cells slots Q (F0 m (pc + 3) lsA ((r1.toList ++ rest).map (zx_v ad))) := fun H1 locs1 a1 a2 a3 => ih _ _ _ _ _ _ _ hx H1 locs1 lsA a1 a2 a3 hl kk
            have hm' := ok.2.1 _ _ hq'
            obtain ⟨y1, y2, y3, y4, y5, y6, y7, y8⟩ := hm'
            unfold zx_k at hk9
            split at hk9
            · next idx =>
              split at hk9
              · next cj' hpc =>
                split at hk9
                · next q9 hq9 =>
                  split at hk9
                  · next b rest' hdrop =>
                    split at hk9
                    · next ci fs hbc =>
                      split at hk9
                      · next hc9 =>
                        obtain ⟨c1, c2, c3, c4, c5, c6⟩ := hc9
                        cases hk9
                        rw [hpm] at hq9
                        cases hq9.symm.trans hq'
                        subst c1
                        obtain ⟨q8, hq8, hlk⟩ := ok2.2.2.2.1 _ _ _ hpc
                        rw [hpm] at hq8
                        cases hq8.symm.trans hq'
                        rw [c2] at y7
                        obtain ⟨z1, z2, T9, N9, z3⟩ := y7
                        have hst : st = st.take (zx_mp q') ++ .ref b :: rest := by rw [← hdrop, List.take_append_drop]
                        exact zx_call (va_runV (As := ((st.take (zx_mp q')).reverse).map (zx_v ad)) (b := ad b) (C := (zx_my q').cls) (nL := zx_ml q) ⟨xe, xb, xm, hown, hts⟩ (zx_met_of (zx_sim_all ok n) (ok.2.1 _ _ hq') c6 hx1 l D ad cA H.size)
                          ⟨callB_of (zx_mp q') hts (zx_good ok y5) rfl rfl rfl (hts _ y6) (hts _ hlk) ⟨y2.1, y2.2, y3⟩ ⟨hR1, by show 8 + (zx_ml q' + 11) + 40 * d ≤ R.locals; omega⟩, hts _ z1, hts _ z2⟩
                          ⟨zx_blind P G D cl ad cA h H.size _, va_recv hK hP z3 (zx_w_at hbc), fun U hU hW => ⟨rfl, zx_preU hK hZ hA hP hD hS U hU hW⟩⟩ rfl (by rw [List.length_map, List.length_reverse]; exact c3) hl.1
                          (by show st.map (zx_v ad) = _; conv => lhs; rw [hst]
                              rw [List.map_append, List.map_reverse, List.reverse_reverse]; rfl)
                          (lv_room (by rw [zx_cat_sum]; exact c4)) hd ⟨hR3, hR4⟩) hS (zx_sub hD hS hA) go
                      · cases hk9
                    · cases hk9
                  · cases hk9
                · cases hk9
              · cases hk9
            · next idx =>
              split at hk9
              · next cj' hpc =>
                split at hk9
                · next q9 hq9 =>
                  split at hk9
                  · next hc9 =>
                    obtain ⟨c1, c2, c3, c4, c5, c6⟩ := hc9
                    cases hk9
                    rw [hpm] at hq9
                    cases hq9.symm.trans hq'
                    subst c1
                    obtain ⟨q8, hq8, hlk⟩ := ok2.2.2.2.1 _ _ _ hpc
                    rw [hpm] at hq8
                    cases hq8.symm.trans hq'
                    rw [c2] at y7
                    exact zx_call (va_runS (As := ((st.take (zx_mp q')).reverse).map (zx_v ad)) (nL := zx_ml q) ⟨xe, xb, xm, hown, hts⟩ (zx_met_of (zx_sim_all ok n) (ok.2.1 _ _ hq') c6 hx1 l D ad cA H.size)
                      ⟨callB_of (zx_mp q') hts (zx_good ok y5) rfl rfl rfl (hts _ y6) (hts _ hlk) ⟨y2.1, y2.2, y3⟩ ⟨hR1, by show 8 + (zx_ml q' + 11) + 40 * d ≤ R.locals; omega⟩, hts _ y7⟩
                      ⟨zx_blind P G D cl ad cA h H.size _, fun U hU hW => ⟨rfl, zx_preU hK hZ hA hP hD hS U hU hW⟩⟩ rfl (by rw [List.length_map, List.length_reverse]; exact c3) hl.1
                      (by show st.map (zx_v ad) = _
                          rw [List.map_reverse, List.reverse_reverse, ← List.map_append, List.take_append_drop])
                      (lv_room (by rw [zx_cat_sum]; exact c4)) hd ⟨hR3, hR4⟩) hS (zx_sub hD hS hA) go
                  · cases hk9
                · cases hk9
              · cases hk9
            · cases hk9
    · cases hx
end
section
/-! ===== 41: rules for stretches of the law ===== -/
theorem zl_mono {P P2 : zx_P} {stop d : Nat} {q : zx_M} : ∀ (n m pc : Nat) (ls : zx_L) (st : List Value) (h : zx_H) (R : zx_L × List Value × zx_H), n ≤ m → zl_x P P2 stop q d n pc ls st h = some R → zl_x P P2 stop q d m pc ls st h = some R := by
  intro n
  induction n with
  | zero => intro m pc ls st h R _ hx; simp [zl_x] at hx
  | succ n ih =>
    intro m pc ls st h R hm hx
    obtain ⟨m, rfl⟩ : ∃ k, m = k + 1 := ⟨m - 1, by omega⟩
    have hm : n ≤ m := by omega
    rw [zl_x] at hx ⊢
    split at hx
    · split at hx
      · next e => rw [if_pos e]; exact hx
      · next e => rw [if_neg e]; exact ih _ _ _ _ _ _ hm hx
    · split at hx
      · cases hx
      · next q' hq' =>
        split at hx
        · cases hx
        · next r h' hr =>
          rw [zx_mono n m d d _ _ _ _ _ _ hm (Nat.le_refl _) hr]
          exact ih _ _ _ _ _ _ hm hx
    · cases hx
def zl_T (P P2 : zx_P) (stop : Nat) (q : zx_M) (d pc : Nat) (ls : zx_L) (st : List Value) (h : zx_H) (F : zx_L → List Value → zx_H → Prop) : Prop := ∃ n ls' st' h', zl_x P P2 stop q d n pc ls st h = some (ls', st', h') ∧ F ls' st' h'
section ZLT
variable {P P2 : zx_P} {stop d pc : Nat} {q : zx_M} {ls : zx_L} {st : List Value} {h : zx_H} {F : zx_L → List Value → zx_H → Prop}
theorem zl_T.go {pc' : Nat} {ls' : zx_L} {st' : List Value} {h' : zx_H} (ho : zx_o P2 q pc ls st h = some (.inl (pc', ls', st', h'))) (hs : ¬ pc' = stop) (ht : zl_T P P2 stop q d pc' ls' st' h' F) : zl_T P P2 stop q d pc ls st h F := by
  obtain ⟨n, a, b, c, hx, hf⟩ := ht
  exact ⟨n + 1, a, b, c, by rw [zl_x, ho]; dsimp only; rw [if_neg hs]; exact hx, hf⟩
theorem zl_T.en {ls' : zx_L} {st' : List Value} {h' : zx_H} (ho : zx_o P2 q pc ls st h = some (.inl (stop, ls', st', h'))) (hf : F ls' st' h') : zl_T P P2 stop q d pc ls st h F :=
  ⟨1, ls', st', h', by rw [zl_x, ho]; dsimp only; rw [if_pos rfl], hf⟩
theorem zl_T.cl {cj : Nat} {as rest : List Value} {q' : zx_M} {Fc : Option Value → zx_H → Prop} (ho : zx_o P2 q pc ls st h = some (.inr (.inr (.inr (cj, as, rest))))) (hq : (zx_pm P)[cj]? = some q') (hc : zx_T P d q' 0 (lv_args 0 as) [] h Fc) (ht : ∀ r1 h1, Fc r1 h1 → zl_T P P2 stop q d (pc + 3) ls (r1.toList ++ rest) h1 F) : zl_T P P2 stop q d pc ls st h F := by
  obtain ⟨n1, r1, h1, hc, hf⟩ := hc
  obtain ⟨n, a, b, c, hx, hF⟩ := ht r1 h1 hf
  refine ⟨max n n1 + 1, a, b, c, ?_, hF⟩
  rw [zl_x, ho]
  dsimp only
  rw [hq]
  dsimp only
  rw [zx_mono n1 (max n n1) d d _ _ _ _ _ _ (Nat.le_max_right _ _) (Nat.le_refl _) hc]
  exact zl_mono n (max n n1) _ _ _ _ _ (Nat.le_max_left _ _) hx
/-- an instruction on the stack; a load; a store; a jump; the heap -/
theorem zl_T.s {i : Instr} {k : Nat} {st' : List Value} (ha : zx_at (zx_mi q) pc = some (i, k)) (e : zx_s i st = some (k, st')) (hs : ¬ pc + k = stop) (ht : zl_T P P2 stop q d (pc + k) ls st' h F) : zl_T P P2 stop q d pc ls st h F :=
  zl_T.go (by unfold zx_o; simp only [ha, e]; rw [if_pos trivial]) hs ht
theorem zl_T.l {i : Instr} {k : Nat} {v : Value} (ha : zx_at (zx_mi q) pc = some (i, k)) (e0 : zx_s i st = none) (e : zx_l i ls = some (k, v)) (hs : ¬ pc + k = stop) (ht : zl_T P P2 stop q d (pc + k) ls (v :: st) h F) : zl_T P P2 stop q d pc ls st h F :=
  zl_T.go (by unfold zx_o; simp only [ha, e0, e]; rw [if_pos trivial]) hs ht
theorem zl_T.t {i : Instr} {k : Nat} {ls' : zx_L} {st' : List Value} (ha : zx_at (zx_mi q) pc = some (i, k)) (e0 : zx_s i st = none) (e1 : zx_l i ls = none) (e : zx_t i (zx_ml q) ls st = some (k, ls', st')) (hs : ¬ pc + k = stop) (ht : zl_T P P2 stop q d (pc + k) ls' st' h F) : zl_T P P2 stop q d pc ls st h F :=
  zl_T.go (by unfold zx_o; simp only [ha, e0, e1, e]; rw [if_pos trivial]) hs ht
theorem zl_T.j {i : Instr} {k pc' : Nat} {st' : List Value} (ha : zx_at (zx_mi q) pc = some (i, k)) (e0 : zx_s i st = none) (e1 : zx_l i ls = none) (e2 : zx_t i (zx_ml q) ls st = none) (e : zx_j i k pc st = some (pc', st')) (hs : ¬ pc' = stop) (ht : zl_T P P2 stop q d pc' ls st' h F) : zl_T P P2 stop q d pc ls st h F :=
  zl_T.go (by unfold zx_o; simp only [ha, e0, e1, e2, e]) hs ht
theorem zl_T.js {i : Instr} {k : Nat} {st' : List Value} (ha : zx_at (zx_mi q) pc = some (i, k)) (e0 : zx_s i st = none) (e1 : zx_l i ls = none) (e2 : zx_t i (zx_ml q) ls st = none) (e : zx_j i k pc st = some (stop, st')) (hf : F ls st' h) : zl_T P P2 stop q d pc ls st h F :=
  zl_T.en (by unfold zx_o; simp only [ha, e0, e1, e2, e]) hf
theorem zl_T.g {i : Instr} {k : Nat} {st' : List Value} {h' : zx_H} (ha : zx_at (zx_mi q) pc = some (i, k)) (e0 : zx_s i st = none) (e1 : zx_l i ls = none) (e2 : zx_t i (zx_ml q) ls st = none) (e3 : zx_j i k pc st = none) (e : zx_g P2 (zx_mo q) i st h = some (k, st', h')) (hs : ¬ pc + k = stop) (ht : zl_T P P2 stop q d (pc + k) ls st' h' F) : zl_T P P2 stop q d pc ls st h F :=
  zl_T.go (by unfold zx_o; simp only [ha, e0, e1, e2, e3, e]; rw [if_pos trivial]) hs ht
theorem zl_T.c {i : Instr} {k cj : Nat} {as rest : List Value} {q' : zx_M} {Fc : Option Value → zx_H → Prop} (ha : zx_at (zx_mi q) pc = some (i, k)) (e0 : zx_s i st = none) (e1 : zx_l i ls = none) (e2 : zx_t i (zx_ml q) ls st = none) (e3 : zx_j i k pc st = none) (e4 : zx_g P2 (zx_mo q) i st h = none) (e5 : zx_r i k (zx_mr q) st = none) (e6 : zx_n P2 (zx_mo q) i k st = none) (e : zx_k P2 (zx_mo q) i k st h = some (cj, as, rest)) (hq : (zx_pm P)[cj]? = some q') (hc : zx_T P d q' 0 (lv_args 0 as) [] h Fc) (ht : ∀ r1 h1, Fc r1 h1 → zl_T P P2 stop q d (pc + 3) ls (r1.toList ++ rest) h1 F) : zl_T P P2 stop q d pc ls st h F :=
  zl_T.cl (by unfold zx_o; simp only [ha, e0, e1, e2, e3, e4, e5, e6, e]) hq hc ht
end ZLT
end
section
/-! ===== 42: the law's table; the program with the script as a row (number 2000000) ===== -/
def zl_t0 : List (Nat × Instr × Nat) := [(0, .new 8, 3), (3, .dup, 1), (4, .invokespecial 15, 3), (7, .astore_n 1, 1), (8, .new 16, 3), (11, .dup, 1), (12, .invokespecial 18, 3), (15, .astore_n 2, 1), (16, .iconst 1, 1), (17, .newarray .long, 2), (19, .astore_n 3, 1), (20, .iconst 0, 1), (21, .istore 4, 2), (23, .iload 4, 2), (25, .aload_n 0, 1), (26, .arraylength, 1), (27, .iconst 5, 1), (28, .isub, 1), (29, .if_icmp .gt 618, 3), (32, .aload_n 0, 1), (33, .iload 4, 2), (35, .iaload, 1), (36, .bipush 31, 2), (38, .iand, 1), (39, .tableswitch 602 0 16 #[81, 106, 155, 216, 229, 242, 279, 304, 341, 390, 403, 416, 444, 514, 539, 564, 589], 81), (120, .aload_n 1, 1), (121, .aload_n 0, 1), (122, .iload 4, 2), (124, .iconst 1, 1), (125, .iadd, 1), (126, .iaload, 1), (127, .invokevirtual 19, 3), (130, .pop, 1), (131, .aload_n 2, 1), (132, .aload_n 0, 1), (133, .iload 4, 2), (135, .iconst 1, 1), (136, .iadd, 1), (137, .iaload, 1), (138, .invokevirtual 22, 3)]
def zl_t1 : List (Nat × Instr × Nat) := [(141, .pop, 1), (142, .goto 499, 3), (145, .aload_n 1, 1), (146, .aload_n 0, 1), (147, .iload 4, 2), (149, .iconst 1, 1), (150, .iadd, 1), (151, .iaload, 1), (152, .aload_n 0, 1), (153, .iload 4, 2), (155, .iconst 2, 1), (156, .iadd, 1), (157, .iaload, 1), (158, .aload_n 0, 1), (159, .iload 4, 2), (161, .iconst 3, 1), (162, .iadd, 1), (163, .iaload, 1), (164, .invokevirtual 23, 3), (167, .pop, 1), (168, .aload_n 2, 1), (169, .aload_n 0, 1), (170, .iload 4, 2), (172, .iconst 1, 1), (173, .iadd, 1), (174, .iaload, 1), (175, .aload_n 0, 1), (176, .iload 4, 2), (178, .iconst 2, 1), (179, .iadd, 1), (180, .iaload, 1), (181, .aload_n 0, 1), (182, .iload 4, 2), (184, .iconst 3, 1), (185, .iadd, 1), (186, .iaload, 1), (187, .invokevirtual 27, 3), (190, .pop, 1), (191, .goto 450, 3), (194, .aload_n 1, 1)]
def zl_t2 : List (Nat × Instr × Nat) := [(195, .aload_n 0, 1), (196, .iload 4, 2), (198, .iconst 1, 1), (199, .iadd, 1), (200, .iaload, 1), (201, .aload_n 0, 1), (202, .iload 4, 2), (204, .iconst 2, 1), (205, .iadd, 1), (206, .iaload, 1), (207, .aload_n 0, 1), (208, .iload 4, 2), (210, .iconst 3, 1), (211, .iadd, 1), (212, .iaload, 1), (213, .aload_n 0, 1), (214, .iload 4, 2), (216, .iconst 4, 1), (217, .iadd, 1), (218, .iaload, 1), (219, .invokevirtual 28, 3), (222, .pop, 1), (223, .aload_n 2, 1), (224, .aload_n 0, 1), (225, .iload 4, 2), (227, .iconst 1, 1), (228, .iadd, 1), (229, .iaload, 1), (230, .aload_n 0, 1), (231, .iload 4, 2), (233, .iconst 2, 1), (234, .iadd, 1), (235, .iaload, 1), (236, .aload_n 0, 1), (237, .iload 4, 2), (239, .iconst 3, 1), (240, .iadd, 1), (241, .iaload, 1), (242, .aload_n 0, 1), (243, .iload 4, 2)]
def zl_t3 : List (Nat × Instr × Nat) := [(245, .iconst 4, 1), (246, .iadd, 1), (247, .iaload, 1), (248, .invokevirtual 32, 3), (251, .pop, 1), (252, .goto 389, 3), (255, .aload_n 1, 1), (256, .invokevirtual 33, 3), (259, .pop, 1), (260, .aload_n 2, 1), (261, .invokevirtual 37, 3), (264, .pop, 1), (265, .goto 376, 3), (268, .aload_n 1, 1), (269, .invokevirtual 38, 3), (272, .pop, 1), (273, .aload_n 2, 1), (274, .invokevirtual 41, 3), (277, .pop, 1), (278, .goto 363, 3), (281, .aload_n 1, 1), (282, .aload_n 0, 1), (283, .iload 4, 2), (285, .iconst 1, 1), (286, .iadd, 1), (287, .iaload, 1), (288, .aload_n 0, 1), (289, .iload 4, 2), (291, .iconst 2, 1), (292, .iadd, 1), (293, .iaload, 1), (294, .invokevirtual 42, 3), (297, .pop, 1), (298, .aload_n 2, 1), (299, .aload_n 0, 1), (300, .iload 4, 2), (302, .iconst 1, 1), (303, .iadd, 1), (304, .iaload, 1), (305, .aload_n 0, 1)]
def zl_t4 : List (Nat × Instr × Nat) := [(306, .iload 4, 2), (308, .iconst 2, 1), (309, .iadd, 1), (310, .iaload, 1), (311, .invokevirtual 46, 3), (314, .pop, 1), (315, .goto 326, 3), (318, .aload_n 1, 1), (319, .aload_n 0, 1), (320, .iload 4, 2), (322, .iconst 1, 1), (323, .iadd, 1), (324, .iaload, 1), (325, .invokevirtual 47, 3), (328, .pop, 1), (329, .aload_n 2, 1), (330, .aload_n 0, 1), (331, .iload 4, 2), (333, .iconst 1, 1), (334, .iadd, 1), (335, .iaload, 1), (336, .invokevirtual 50, 3), (339, .pop, 1), (340, .goto 301, 3), (343, .aload_n 1, 1), (344, .aload_n 0, 1), (345, .iload 4, 2), (347, .iconst 1, 1), (348, .iadd, 1), (349, .iaload, 1), (350, .aload_n 0, 1), (351, .iload 4, 2), (353, .iconst 2, 1), (354, .iadd, 1), (355, .iaload, 1), (356, .invokevirtual 51, 3), (359, .pop, 1), (360, .aload_n 2, 1), (361, .aload_n 0, 1), (362, .iload 4, 2)]
def zl_t5 : List (Nat × Instr × Nat) := [(364, .iconst 1, 1), (365, .iadd, 1), (366, .iaload, 1), (367, .aload_n 0, 1), (368, .iload 4, 2), (370, .iconst 2, 1), (371, .iadd, 1), (372, .iaload, 1), (373, .invokevirtual 54, 3), (376, .pop, 1), (377, .goto 264, 3), (380, .aload_n 1, 1), (381, .aload_n 0, 1), (382, .iload 4, 2), (384, .iconst 1, 1), (385, .iadd, 1), (386, .iaload, 1), (387, .aload_n 0, 1), (388, .iload 4, 2), (390, .iconst 2, 1), (391, .iadd, 1), (392, .iaload, 1), (393, .aload_n 0, 1), (394, .iload 4, 2), (396, .iconst 3, 1), (397, .iadd, 1), (398, .iaload, 1), (399, .invokevirtual 55, 3), (402, .pop, 1), (403, .aload_n 2, 1), (404, .aload_n 0, 1), (405, .iload 4, 2), (407, .iconst 1, 1), (408, .iadd, 1), (409, .iaload, 1), (410, .aload_n 0, 1), (411, .iload 4, 2), (413, .iconst 2, 1), (414, .iadd, 1), (415, .iaload, 1)]
def zl_t6 : List (Nat × Instr × Nat) := [(416, .aload_n 0, 1), (417, .iload 4, 2), (419, .iconst 3, 1), (420, .iadd, 1), (421, .iaload, 1), (422, .invokevirtual 58, 3), (425, .pop, 1), (426, .goto 215, 3), (429, .aload_n 1, 1), (430, .invokevirtual 59, 3), (433, .pop, 1), (434, .aload_n 2, 1), (435, .invokevirtual 62, 3), (438, .pop, 1), (439, .goto 202, 3), (442, .aload_n 1, 1), (443, .invokevirtual 63, 3), (446, .pop, 1), (447, .aload_n 2, 1), (448, .invokevirtual 66, 3), (451, .pop, 1), (452, .goto 189, 3), (455, .aload_n 1, 1), (456, .aload_n 0, 1), (457, .iload 4, 2), (459, .iconst 1, 1), (460, .iadd, 1), (461, .iaload, 1), (462, .aload_n 3, 1), (463, .invokestatic 67, 3), (466, .istore 5, 2), (468, .aload_n 2, 1), (469, .aload_n 0, 1), (470, .iload 4, 2), (472, .iconst 1, 1), (473, .iadd, 1), (474, .iaload, 1), (475, .invokevirtual 72, 3), (478, .istore 6, 2), (480, .goto 161, 3)]
def zl_t7 : List (Nat × Instr × Nat) := [(483, .aload_n 1, 1), (484, .aload_n 0, 1), (485, .iload 4, 2), (487, .iconst 1, 1), (488, .iadd, 1), (489, .iaload, 1), (490, .aload_n 0, 1), (491, .iload 4, 2), (493, .iconst 2, 1), (494, .iadd, 1), (495, .iaload, 1), (496, .i2l, 1), (497, .bipush 32, 2), (499, .lshl, 1), (500, .aload_n 0, 1), (501, .iload 4, 2), (503, .iconst 3, 1), (504, .iadd, 1), (505, .iaload, 1), (506, .i2l, 1), (507, .ldc2_w 73, 3), (510, .land, 1), (511, .lor, 1), (512, .invokevirtual 75, 3), (515, .aload_n 2, 1), (516, .aload_n 0, 1), (517, .iload 4, 2), (519, .iconst 1, 1), (520, .iadd, 1), (521, .iaload, 1), (522, .aload_n 0, 1), (523, .iload 4, 2), (525, .iconst 2, 1), (526, .iadd, 1), (527, .iaload, 1), (528, .i2l, 1), (529, .bipush 32, 2), (531, .lshl, 1), (532, .aload_n 0, 1), (533, .iload 4, 2)]
def zl_t8 : List (Nat × Instr × Nat) := [(535, .iconst 3, 1), (536, .iadd, 1), (537, .iaload, 1), (538, .i2l, 1), (539, .ldc2_w 73, 3), (542, .land, 1), (543, .lor, 1), (544, .invokevirtual 79, 3), (547, .lcmp, 1), (548, .ifCond .eq 93, 3), (551, .iconst 0, 1), (552, .ireturn, 1), (553, .aload_n 1, 1), (554, .aload_n 0, 1), (555, .iload 4, 2), (557, .iconst 1, 1), (558, .iadd, 1), (559, .iaload, 1), (560, .invokevirtual 80, 3), (563, .pop, 1), (564, .aload_n 2, 1), (565, .aload_n 0, 1), (566, .iload 4, 2), (568, .iconst 1, 1), (569, .iadd, 1), (570, .iaload, 1), (571, .invokevirtual 83, 3), (574, .pop, 1), (575, .goto 66, 3), (578, .aload_n 1, 1), (579, .aload_n 0, 1), (580, .iload 4, 2), (582, .iconst 1, 1), (583, .iadd, 1), (584, .iaload, 1), (585, .invokevirtual 84, 3), (588, .pop2, 1), (589, .aload_n 2, 1), (590, .aload_n 0, 1), (591, .iload 4, 2)]
def zl_t9 : List (Nat × Instr × Nat) := [(593, .iconst 1, 1), (594, .iadd, 1), (595, .iaload, 1), (596, .invokevirtual 88, 3), (599, .pop2, 1), (600, .goto 41, 3), (603, .aload_n 1, 1), (604, .aload_n 0, 1), (605, .iload 4, 2), (607, .iconst 1, 1), (608, .iadd, 1), (609, .iaload, 1), (610, .invokevirtual 89, 3), (613, .pop, 1), (614, .aload_n 2, 1), (615, .aload_n 0, 1), (616, .iload 4, 2), (618, .iconst 1, 1), (619, .iadd, 1), (620, .iaload, 1), (621, .invokevirtual 92, 3), (624, .pop, 1), (625, .goto 16, 3), (628, .aload_n 1, 1), (629, .invokevirtual 93, 3), (632, .pop, 1), (633, .aload_n 2, 1), (634, .invokevirtual 96, 3), (637, .pop, 1), (638, .goto 3, 3), (641, .iinc 4 5, 3), (644, .goto (-621), 3), (647, .iconst 1, 1), (648, .ireturn, 1)]
def zl_q : zx_M := (⟨RL, "law", "([I)Z"⟩, code, 7, some .boolean, none, 1, 15, zl_t0 ++ (zl_t1 ++ (zl_t2 ++ (zl_t3 ++ (zl_t4 ++ (zl_t5 ++ (zl_t6 ++ (zl_t7 ++ (zl_t8 ++ (zl_t9))))))))))
set_option maxRecDepth 100000 in
theorem zl_d0 : zp_db code zl_t0 = true := by decide +kernel
set_option maxRecDepth 100000 in
theorem zl_d1 : zp_db code zl_t1 = true := by decide +kernel
set_option maxRecDepth 100000 in
theorem zl_d2 : zp_db code zl_t2 = true := by decide +kernel
set_option maxRecDepth 100000 in
theorem zl_d3 : zp_db code zl_t3 = true := by decide +kernel
set_option maxRecDepth 100000 in
theorem zl_d4 : zp_db code zl_t4 = true := by decide +kernel
set_option maxRecDepth 100000 in
theorem zl_d5 : zp_db code zl_t5 = true := by decide +kernel
set_option maxRecDepth 100000 in
theorem zl_d6 : zp_db code zl_t6 = true := by decide +kernel
set_option maxRecDepth 100000 in
theorem zl_d7 : zp_db code zl_t7 = true := by decide +kernel
set_option maxRecDepth 100000 in
theorem zl_d8 : zp_db code zl_t8 = true := by decide +kernel
set_option maxRecDepth 100000 in
theorem zl_d9 : zp_db code zl_t9 = true := by decide +kernel
def zl_P (L : Nat) (xs : Nat → Int32) : zx_P := (zp_ms, zp_po, fun o i => (zp_lk zp_ft o i).map (fun q => (q.1, q.2.1)), fun o i => (zp_lk zp_mt o i).map (fun q => q.1), fun o i => (zp_lk zp_st o i).map (fun q => q.1), (fun k => if k = 2000000 then some (L, xs) else zp_pa k), fun o i => (zp_lk zp_lt o i).map (fun q => q.1), zp_pt, fun o i => (zp_lk zp_nt o i).isSome)
theorem zl_ok (L : Nat) (xs : Nat → Int32) : zx_ok (zl_P L xs) zp_G zp_cl := zp_ok
theorem zl_qok (L : Nat) (xs : Nat → Int32) : zl_mok (zl_P L xs) zl_q := ⟨rfl, zp_db_app (zp_db_ok zl_d0) (zp_db_app (zp_db_ok zl_d1) (zp_db_app (zp_db_ok zl_d2) (zp_db_app (zp_db_ok zl_d3) (zp_db_app (zp_db_ok zl_d4) (zp_db_app (zp_db_ok zl_d5) (zp_db_app (zp_db_ok zl_d6) (zp_db_app (zp_db_ok zl_d7) (zp_db_app (zp_db_ok zl_d8) (zp_db_ok zl_d9)))))))))⟩
theorem zl_a0 : zx_at (zx_mi zl_q) 0 = some (.new 8, 3) := by decide +kernel
theorem zl_a3 : zx_at (zx_mi zl_q) 3 = some (.dup, 1) := by decide +kernel
theorem zl_a4 : zx_at (zx_mi zl_q) 4 = some (.invokespecial 15, 3) := by decide +kernel
theorem zl_a7 : zx_at (zx_mi zl_q) 7 = some (.astore_n 1, 1) := by decide +kernel
theorem zl_a8 : zx_at (zx_mi zl_q) 8 = some (.new 16, 3) := by decide +kernel
theorem zl_a11 : zx_at (zx_mi zl_q) 11 = some (.dup, 1) := by decide +kernel
theorem zl_a12 : zx_at (zx_mi zl_q) 12 = some (.invokespecial 18, 3) := by decide +kernel
theorem zl_a15 : zx_at (zx_mi zl_q) 15 = some (.astore_n 2, 1) := by decide +kernel
theorem zl_a16 : zx_at (zx_mi zl_q) 16 = some (.iconst 1, 1) := by decide +kernel
theorem zl_a17 : zx_at (zx_mi zl_q) 17 = some (.newarray .long, 2) := by decide +kernel
theorem zl_a19 : zx_at (zx_mi zl_q) 19 = some (.astore_n 3, 1) := by decide +kernel
theorem zl_a20 : zx_at (zx_mi zl_q) 20 = some (.iconst 0, 1) := by decide +kernel
theorem zl_a21 : zx_at (zx_mi zl_q) 21 = some (.istore 4, 2) := by decide +kernel
theorem zl_a23 : zx_at (zx_mi zl_q) 23 = some (.iload 4, 2) := by decide +kernel
theorem zl_a25 : zx_at (zx_mi zl_q) 25 = some (.aload_n 0, 1) := by decide +kernel
theorem zl_a26 : zx_at (zx_mi zl_q) 26 = some (.arraylength, 1) := by decide +kernel
theorem zl_a27 : zx_at (zx_mi zl_q) 27 = some (.iconst 5, 1) := by decide +kernel
theorem zl_a28 : zx_at (zx_mi zl_q) 28 = some (.isub, 1) := by decide +kernel
theorem zl_a29 : zx_at (zx_mi zl_q) 29 = some (.if_icmp .gt 618, 3) := by decide +kernel
theorem zl_a32 : zx_at (zx_mi zl_q) 32 = some (.aload_n 0, 1) := by decide +kernel
theorem zl_a33 : zx_at (zx_mi zl_q) 33 = some (.iload 4, 2) := by decide +kernel
theorem zl_a35 : zx_at (zx_mi zl_q) 35 = some (.iaload, 1) := by decide +kernel
theorem zl_a36 : zx_at (zx_mi zl_q) 36 = some (.bipush 31, 2) := by decide +kernel
theorem zl_a38 : zx_at (zx_mi zl_q) 38 = some (.iand, 1) := by decide +kernel
theorem zl_a39 : zx_at (zx_mi zl_q) 39 = some (.tableswitch 602 0 16 #[81, 106, 155, 216, 229, 242, 279, 304, 341, 390, 403, 416, 444, 514, 539, 564, 589], 81) := by decide +kernel
theorem zl_a120 : zx_at (zx_mi zl_q) 120 = some (.aload_n 1, 1) := by decide +kernel
theorem zl_a121 : zx_at (zx_mi zl_q) 121 = some (.aload_n 0, 1) := by decide +kernel
theorem zl_a122 : zx_at (zx_mi zl_q) 122 = some (.iload 4, 2) := by decide +kernel
theorem zl_a124 : zx_at (zx_mi zl_q) 124 = some (.iconst 1, 1) := by decide +kernel
theorem zl_a125 : zx_at (zx_mi zl_q) 125 = some (.iadd, 1) := by decide +kernel
theorem zl_a126 : zx_at (zx_mi zl_q) 126 = some (.iaload, 1) := by decide +kernel
theorem zl_a127 : zx_at (zx_mi zl_q) 127 = some (.invokevirtual 19, 3) := by decide +kernel
theorem zl_a130 : zx_at (zx_mi zl_q) 130 = some (.pop, 1) := by decide +kernel
theorem zl_a131 : zx_at (zx_mi zl_q) 131 = some (.aload_n 2, 1) := by decide +kernel
theorem zl_a132 : zx_at (zx_mi zl_q) 132 = some (.aload_n 0, 1) := by decide +kernel
theorem zl_a133 : zx_at (zx_mi zl_q) 133 = some (.iload 4, 2) := by decide +kernel
theorem zl_a135 : zx_at (zx_mi zl_q) 135 = some (.iconst 1, 1) := by decide +kernel
theorem zl_a136 : zx_at (zx_mi zl_q) 136 = some (.iadd, 1) := by decide +kernel
theorem zl_a137 : zx_at (zx_mi zl_q) 137 = some (.iaload, 1) := by decide +kernel
theorem zl_a138 : zx_at (zx_mi zl_q) 138 = some (.invokevirtual 22, 3) := by decide +kernel
theorem zl_a141 : zx_at (zx_mi zl_q) 141 = some (.pop, 1) := by decide +kernel
theorem zl_a142 : zx_at (zx_mi zl_q) 142 = some (.goto 499, 3) := by decide +kernel
theorem zl_a145 : zx_at (zx_mi zl_q) 145 = some (.aload_n 1, 1) := by decide +kernel
theorem zl_a146 : zx_at (zx_mi zl_q) 146 = some (.aload_n 0, 1) := by decide +kernel
theorem zl_a147 : zx_at (zx_mi zl_q) 147 = some (.iload 4, 2) := by decide +kernel
theorem zl_a149 : zx_at (zx_mi zl_q) 149 = some (.iconst 1, 1) := by decide +kernel
theorem zl_a150 : zx_at (zx_mi zl_q) 150 = some (.iadd, 1) := by decide +kernel
theorem zl_a151 : zx_at (zx_mi zl_q) 151 = some (.iaload, 1) := by decide +kernel
theorem zl_a152 : zx_at (zx_mi zl_q) 152 = some (.aload_n 0, 1) := by decide +kernel
theorem zl_a153 : zx_at (zx_mi zl_q) 153 = some (.iload 4, 2) := by decide +kernel
theorem zl_a155 : zx_at (zx_mi zl_q) 155 = some (.iconst 2, 1) := by decide +kernel
theorem zl_a156 : zx_at (zx_mi zl_q) 156 = some (.iadd, 1) := by decide +kernel
theorem zl_a157 : zx_at (zx_mi zl_q) 157 = some (.iaload, 1) := by decide +kernel
theorem zl_a158 : zx_at (zx_mi zl_q) 158 = some (.aload_n 0, 1) := by decide +kernel
theorem zl_a159 : zx_at (zx_mi zl_q) 159 = some (.iload 4, 2) := by decide +kernel
theorem zl_a161 : zx_at (zx_mi zl_q) 161 = some (.iconst 3, 1) := by decide +kernel
theorem zl_a162 : zx_at (zx_mi zl_q) 162 = some (.iadd, 1) := by decide +kernel
theorem zl_a163 : zx_at (zx_mi zl_q) 163 = some (.iaload, 1) := by decide +kernel
theorem zl_a164 : zx_at (zx_mi zl_q) 164 = some (.invokevirtual 23, 3) := by decide +kernel
theorem zl_a167 : zx_at (zx_mi zl_q) 167 = some (.pop, 1) := by decide +kernel
theorem zl_a168 : zx_at (zx_mi zl_q) 168 = some (.aload_n 2, 1) := by decide +kernel
theorem zl_a169 : zx_at (zx_mi zl_q) 169 = some (.aload_n 0, 1) := by decide +kernel
theorem zl_a170 : zx_at (zx_mi zl_q) 170 = some (.iload 4, 2) := by decide +kernel
theorem zl_a172 : zx_at (zx_mi zl_q) 172 = some (.iconst 1, 1) := by decide +kernel
theorem zl_a173 : zx_at (zx_mi zl_q) 173 = some (.iadd, 1) := by decide +kernel
theorem zl_a174 : zx_at (zx_mi zl_q) 174 = some (.iaload, 1) := by decide +kernel
theorem zl_a175 : zx_at (zx_mi zl_q) 175 = some (.aload_n 0, 1) := by decide +kernel
theorem zl_a176 : zx_at (zx_mi zl_q) 176 = some (.iload 4, 2) := by decide +kernel
theorem zl_a178 : zx_at (zx_mi zl_q) 178 = some (.iconst 2, 1) := by decide +kernel
theorem zl_a179 : zx_at (zx_mi zl_q) 179 = some (.iadd, 1) := by decide +kernel
theorem zl_a180 : zx_at (zx_mi zl_q) 180 = some (.iaload, 1) := by decide +kernel
theorem zl_a181 : zx_at (zx_mi zl_q) 181 = some (.aload_n 0, 1) := by decide +kernel
theorem zl_a182 : zx_at (zx_mi zl_q) 182 = some (.iload 4, 2) := by decide +kernel
theorem zl_a184 : zx_at (zx_mi zl_q) 184 = some (.iconst 3, 1) := by decide +kernel
theorem zl_a185 : zx_at (zx_mi zl_q) 185 = some (.iadd, 1) := by decide +kernel
theorem zl_a186 : zx_at (zx_mi zl_q) 186 = some (.iaload, 1) := by decide +kernel
theorem zl_a187 : zx_at (zx_mi zl_q) 187 = some (.invokevirtual 27, 3) := by decide +kernel
theorem zl_a190 : zx_at (zx_mi zl_q) 190 = some (.pop, 1) := by decide +kernel
theorem zl_a191 : zx_at (zx_mi zl_q) 191 = some (.goto 450, 3) := by decide +kernel
theorem zl_a194 : zx_at (zx_mi zl_q) 194 = some (.aload_n 1, 1) := by decide +kernel
theorem zl_a195 : zx_at (zx_mi zl_q) 195 = some (.aload_n 0, 1) := by decide +kernel
theorem zl_a196 : zx_at (zx_mi zl_q) 196 = some (.iload 4, 2) := by decide +kernel
theorem zl_a198 : zx_at (zx_mi zl_q) 198 = some (.iconst 1, 1) := by decide +kernel
theorem zl_a199 : zx_at (zx_mi zl_q) 199 = some (.iadd, 1) := by decide +kernel
theorem zl_a200 : zx_at (zx_mi zl_q) 200 = some (.iaload, 1) := by decide +kernel
theorem zl_a201 : zx_at (zx_mi zl_q) 201 = some (.aload_n 0, 1) := by decide +kernel
theorem zl_a202 : zx_at (zx_mi zl_q) 202 = some (.iload 4, 2) := by decide +kernel
theorem zl_a204 : zx_at (zx_mi zl_q) 204 = some (.iconst 2, 1) := by decide +kernel
theorem zl_a205 : zx_at (zx_mi zl_q) 205 = some (.iadd, 1) := by decide +kernel
theorem zl_a206 : zx_at (zx_mi zl_q) 206 = some (.iaload, 1) := by decide +kernel
theorem zl_a207 : zx_at (zx_mi zl_q) 207 = some (.aload_n 0, 1) := by decide +kernel
theorem zl_a208 : zx_at (zx_mi zl_q) 208 = some (.iload 4, 2) := by decide +kernel
theorem zl_a210 : zx_at (zx_mi zl_q) 210 = some (.iconst 3, 1) := by decide +kernel
theorem zl_a211 : zx_at (zx_mi zl_q) 211 = some (.iadd, 1) := by decide +kernel
theorem zl_a212 : zx_at (zx_mi zl_q) 212 = some (.iaload, 1) := by decide +kernel
theorem zl_a213 : zx_at (zx_mi zl_q) 213 = some (.aload_n 0, 1) := by decide +kernel
theorem zl_a214 : zx_at (zx_mi zl_q) 214 = some (.iload 4, 2) := by decide +kernel
theorem zl_a216 : zx_at (zx_mi zl_q) 216 = some (.iconst 4, 1) := by decide +kernel
theorem zl_a217 : zx_at (zx_mi zl_q) 217 = some (.iadd, 1) := by decide +kernel
theorem zl_a218 : zx_at (zx_mi zl_q) 218 = some (.iaload, 1) := by decide +kernel
theorem zl_a219 : zx_at (zx_mi zl_q) 219 = some (.invokevirtual 28, 3) := by decide +kernel
theorem zl_a222 : zx_at (zx_mi zl_q) 222 = some (.pop, 1) := by decide +kernel
theorem zl_a223 : zx_at (zx_mi zl_q) 223 = some (.aload_n 2, 1) := by decide +kernel
theorem zl_a224 : zx_at (zx_mi zl_q) 224 = some (.aload_n 0, 1) := by decide +kernel
theorem zl_a225 : zx_at (zx_mi zl_q) 225 = some (.iload 4, 2) := by decide +kernel
theorem zl_a227 : zx_at (zx_mi zl_q) 227 = some (.iconst 1, 1) := by decide +kernel
theorem zl_a228 : zx_at (zx_mi zl_q) 228 = some (.iadd, 1) := by decide +kernel
theorem zl_a229 : zx_at (zx_mi zl_q) 229 = some (.iaload, 1) := by decide +kernel
theorem zl_a230 : zx_at (zx_mi zl_q) 230 = some (.aload_n 0, 1) := by decide +kernel
theorem zl_a231 : zx_at (zx_mi zl_q) 231 = some (.iload 4, 2) := by decide +kernel
theorem zl_a233 : zx_at (zx_mi zl_q) 233 = some (.iconst 2, 1) := by decide +kernel
theorem zl_a234 : zx_at (zx_mi zl_q) 234 = some (.iadd, 1) := by decide +kernel
theorem zl_a235 : zx_at (zx_mi zl_q) 235 = some (.iaload, 1) := by decide +kernel
theorem zl_a236 : zx_at (zx_mi zl_q) 236 = some (.aload_n 0, 1) := by decide +kernel
theorem zl_a237 : zx_at (zx_mi zl_q) 237 = some (.iload 4, 2) := by decide +kernel
theorem zl_a239 : zx_at (zx_mi zl_q) 239 = some (.iconst 3, 1) := by decide +kernel
theorem zl_a240 : zx_at (zx_mi zl_q) 240 = some (.iadd, 1) := by decide +kernel
theorem zl_a241 : zx_at (zx_mi zl_q) 241 = some (.iaload, 1) := by decide +kernel
theorem zl_a242 : zx_at (zx_mi zl_q) 242 = some (.aload_n 0, 1) := by decide +kernel
theorem zl_a243 : zx_at (zx_mi zl_q) 243 = some (.iload 4, 2) := by decide +kernel
theorem zl_a245 : zx_at (zx_mi zl_q) 245 = some (.iconst 4, 1) := by decide +kernel
theorem zl_a246 : zx_at (zx_mi zl_q) 246 = some (.iadd, 1) := by decide +kernel
theorem zl_a247 : zx_at (zx_mi zl_q) 247 = some (.iaload, 1) := by decide +kernel
theorem zl_a248 : zx_at (zx_mi zl_q) 248 = some (.invokevirtual 32, 3) := by decide +kernel
theorem zl_a251 : zx_at (zx_mi zl_q) 251 = some (.pop, 1) := by decide +kernel
theorem zl_a252 : zx_at (zx_mi zl_q) 252 = some (.goto 389, 3) := by decide +kernel
theorem zl_a255 : zx_at (zx_mi zl_q) 255 = some (.aload_n 1, 1) := by decide +kernel
theorem zl_a256 : zx_at (zx_mi zl_q) 256 = some (.invokevirtual 33, 3) := by decide +kernel
theorem zl_a259 : zx_at (zx_mi zl_q) 259 = some (.pop, 1) := by decide +kernel
theorem zl_a260 : zx_at (zx_mi zl_q) 260 = some (.aload_n 2, 1) := by decide +kernel
theorem zl_a261 : zx_at (zx_mi zl_q) 261 = some (.invokevirtual 37, 3) := by decide +kernel
theorem zl_a264 : zx_at (zx_mi zl_q) 264 = some (.pop, 1) := by decide +kernel
theorem zl_a265 : zx_at (zx_mi zl_q) 265 = some (.goto 376, 3) := by decide +kernel
theorem zl_a268 : zx_at (zx_mi zl_q) 268 = some (.aload_n 1, 1) := by decide +kernel
theorem zl_a269 : zx_at (zx_mi zl_q) 269 = some (.invokevirtual 38, 3) := by decide +kernel
theorem zl_a272 : zx_at (zx_mi zl_q) 272 = some (.pop, 1) := by decide +kernel
theorem zl_a273 : zx_at (zx_mi zl_q) 273 = some (.aload_n 2, 1) := by decide +kernel
theorem zl_a274 : zx_at (zx_mi zl_q) 274 = some (.invokevirtual 41, 3) := by decide +kernel
theorem zl_a277 : zx_at (zx_mi zl_q) 277 = some (.pop, 1) := by decide +kernel
theorem zl_a278 : zx_at (zx_mi zl_q) 278 = some (.goto 363, 3) := by decide +kernel
theorem zl_a281 : zx_at (zx_mi zl_q) 281 = some (.aload_n 1, 1) := by decide +kernel
theorem zl_a282 : zx_at (zx_mi zl_q) 282 = some (.aload_n 0, 1) := by decide +kernel
theorem zl_a283 : zx_at (zx_mi zl_q) 283 = some (.iload 4, 2) := by decide +kernel
theorem zl_a285 : zx_at (zx_mi zl_q) 285 = some (.iconst 1, 1) := by decide +kernel
theorem zl_a286 : zx_at (zx_mi zl_q) 286 = some (.iadd, 1) := by decide +kernel
theorem zl_a287 : zx_at (zx_mi zl_q) 287 = some (.iaload, 1) := by decide +kernel
theorem zl_a288 : zx_at (zx_mi zl_q) 288 = some (.aload_n 0, 1) := by decide +kernel
theorem zl_a289 : zx_at (zx_mi zl_q) 289 = some (.iload 4, 2) := by decide +kernel
theorem zl_a291 : zx_at (zx_mi zl_q) 291 = some (.iconst 2, 1) := by decide +kernel
theorem zl_a292 : zx_at (zx_mi zl_q) 292 = some (.iadd, 1) := by decide +kernel
theorem zl_a293 : zx_at (zx_mi zl_q) 293 = some (.iaload, 1) := by decide +kernel
theorem zl_a294 : zx_at (zx_mi zl_q) 294 = some (.invokevirtual 42, 3) := by decide +kernel
theorem zl_a297 : zx_at (zx_mi zl_q) 297 = some (.pop, 1) := by decide +kernel
theorem zl_a298 : zx_at (zx_mi zl_q) 298 = some (.aload_n 2, 1) := by decide +kernel
theorem zl_a299 : zx_at (zx_mi zl_q) 299 = some (.aload_n 0, 1) := by decide +kernel
theorem zl_a300 : zx_at (zx_mi zl_q) 300 = some (.iload 4, 2) := by decide +kernel
theorem zl_a302 : zx_at (zx_mi zl_q) 302 = some (.iconst 1, 1) := by decide +kernel
theorem zl_a303 : zx_at (zx_mi zl_q) 303 = some (.iadd, 1) := by decide +kernel
theorem zl_a304 : zx_at (zx_mi zl_q) 304 = some (.iaload, 1) := by decide +kernel
theorem zl_a305 : zx_at (zx_mi zl_q) 305 = some (.aload_n 0, 1) := by decide +kernel
theorem zl_a306 : zx_at (zx_mi zl_q) 306 = some (.iload 4, 2) := by decide +kernel
theorem zl_a308 : zx_at (zx_mi zl_q) 308 = some (.iconst 2, 1) := by decide +kernel
theorem zl_a309 : zx_at (zx_mi zl_q) 309 = some (.iadd, 1) := by decide +kernel
theorem zl_a310 : zx_at (zx_mi zl_q) 310 = some (.iaload, 1) := by decide +kernel
theorem zl_a311 : zx_at (zx_mi zl_q) 311 = some (.invokevirtual 46, 3) := by decide +kernel
theorem zl_a314 : zx_at (zx_mi zl_q) 314 = some (.pop, 1) := by decide +kernel
theorem zl_a315 : zx_at (zx_mi zl_q) 315 = some (.goto 326, 3) := by decide +kernel
theorem zl_a318 : zx_at (zx_mi zl_q) 318 = some (.aload_n 1, 1) := by decide +kernel
theorem zl_a319 : zx_at (zx_mi zl_q) 319 = some (.aload_n 0, 1) := by decide +kernel
theorem zl_a320 : zx_at (zx_mi zl_q) 320 = some (.iload 4, 2) := by decide +kernel
theorem zl_a322 : zx_at (zx_mi zl_q) 322 = some (.iconst 1, 1) := by decide +kernel
theorem zl_a323 : zx_at (zx_mi zl_q) 323 = some (.iadd, 1) := by decide +kernel
theorem zl_a324 : zx_at (zx_mi zl_q) 324 = some (.iaload, 1) := by decide +kernel
theorem zl_a325 : zx_at (zx_mi zl_q) 325 = some (.invokevirtual 47, 3) := by decide +kernel
theorem zl_a328 : zx_at (zx_mi zl_q) 328 = some (.pop, 1) := by decide +kernel
theorem zl_a329 : zx_at (zx_mi zl_q) 329 = some (.aload_n 2, 1) := by decide +kernel
theorem zl_a330 : zx_at (zx_mi zl_q) 330 = some (.aload_n 0, 1) := by decide +kernel
theorem zl_a331 : zx_at (zx_mi zl_q) 331 = some (.iload 4, 2) := by decide +kernel
theorem zl_a333 : zx_at (zx_mi zl_q) 333 = some (.iconst 1, 1) := by decide +kernel
theorem zl_a334 : zx_at (zx_mi zl_q) 334 = some (.iadd, 1) := by decide +kernel
theorem zl_a335 : zx_at (zx_mi zl_q) 335 = some (.iaload, 1) := by decide +kernel
theorem zl_a336 : zx_at (zx_mi zl_q) 336 = some (.invokevirtual 50, 3) := by decide +kernel
theorem zl_a339 : zx_at (zx_mi zl_q) 339 = some (.pop, 1) := by decide +kernel
theorem zl_a340 : zx_at (zx_mi zl_q) 340 = some (.goto 301, 3) := by decide +kernel
theorem zl_a343 : zx_at (zx_mi zl_q) 343 = some (.aload_n 1, 1) := by decide +kernel
theorem zl_a344 : zx_at (zx_mi zl_q) 344 = some (.aload_n 0, 1) := by decide +kernel
theorem zl_a345 : zx_at (zx_mi zl_q) 345 = some (.iload 4, 2) := by decide +kernel
theorem zl_a347 : zx_at (zx_mi zl_q) 347 = some (.iconst 1, 1) := by decide +kernel
theorem zl_a348 : zx_at (zx_mi zl_q) 348 = some (.iadd, 1) := by decide +kernel
theorem zl_a349 : zx_at (zx_mi zl_q) 349 = some (.iaload, 1) := by decide +kernel
theorem zl_a350 : zx_at (zx_mi zl_q) 350 = some (.aload_n 0, 1) := by decide +kernel
theorem zl_a351 : zx_at (zx_mi zl_q) 351 = some (.iload 4, 2) := by decide +kernel
theorem zl_a353 : zx_at (zx_mi zl_q) 353 = some (.iconst 2, 1) := by decide +kernel
theorem zl_a354 : zx_at (zx_mi zl_q) 354 = some (.iadd, 1) := by decide +kernel
theorem zl_a355 : zx_at (zx_mi zl_q) 355 = some (.iaload, 1) := by decide +kernel
theorem zl_a356 : zx_at (zx_mi zl_q) 356 = some (.invokevirtual 51, 3) := by decide +kernel
theorem zl_a359 : zx_at (zx_mi zl_q) 359 = some (.pop, 1) := by decide +kernel
theorem zl_a360 : zx_at (zx_mi zl_q) 360 = some (.aload_n 2, 1) := by decide +kernel
theorem zl_a361 : zx_at (zx_mi zl_q) 361 = some (.aload_n 0, 1) := by decide +kernel
theorem zl_a362 : zx_at (zx_mi zl_q) 362 = some (.iload 4, 2) := by decide +kernel
theorem zl_a364 : zx_at (zx_mi zl_q) 364 = some (.iconst 1, 1) := by decide +kernel
theorem zl_a365 : zx_at (zx_mi zl_q) 365 = some (.iadd, 1) := by decide +kernel
theorem zl_a366 : zx_at (zx_mi zl_q) 366 = some (.iaload, 1) := by decide +kernel
theorem zl_a367 : zx_at (zx_mi zl_q) 367 = some (.aload_n 0, 1) := by decide +kernel
theorem zl_a368 : zx_at (zx_mi zl_q) 368 = some (.iload 4, 2) := by decide +kernel
theorem zl_a370 : zx_at (zx_mi zl_q) 370 = some (.iconst 2, 1) := by decide +kernel
theorem zl_a371 : zx_at (zx_mi zl_q) 371 = some (.iadd, 1) := by decide +kernel
theorem zl_a372 : zx_at (zx_mi zl_q) 372 = some (.iaload, 1) := by decide +kernel
theorem zl_a373 : zx_at (zx_mi zl_q) 373 = some (.invokevirtual 54, 3) := by decide +kernel
theorem zl_a376 : zx_at (zx_mi zl_q) 376 = some (.pop, 1) := by decide +kernel
theorem zl_a377 : zx_at (zx_mi zl_q) 377 = some (.goto 264, 3) := by decide +kernel
theorem zl_a380 : zx_at (zx_mi zl_q) 380 = some (.aload_n 1, 1) := by decide +kernel
theorem zl_a381 : zx_at (zx_mi zl_q) 381 = some (.aload_n 0, 1) := by decide +kernel
theorem zl_a382 : zx_at (zx_mi zl_q) 382 = some (.iload 4, 2) := by decide +kernel
theorem zl_a384 : zx_at (zx_mi zl_q) 384 = some (.iconst 1, 1) := by decide +kernel
theorem zl_a385 : zx_at (zx_mi zl_q) 385 = some (.iadd, 1) := by decide +kernel
theorem zl_a386 : zx_at (zx_mi zl_q) 386 = some (.iaload, 1) := by decide +kernel
theorem zl_a387 : zx_at (zx_mi zl_q) 387 = some (.aload_n 0, 1) := by decide +kernel
theorem zl_a388 : zx_at (zx_mi zl_q) 388 = some (.iload 4, 2) := by decide +kernel
theorem zl_a390 : zx_at (zx_mi zl_q) 390 = some (.iconst 2, 1) := by decide +kernel
theorem zl_a391 : zx_at (zx_mi zl_q) 391 = some (.iadd, 1) := by decide +kernel
theorem zl_a392 : zx_at (zx_mi zl_q) 392 = some (.iaload, 1) := by decide +kernel
theorem zl_a393 : zx_at (zx_mi zl_q) 393 = some (.aload_n 0, 1) := by decide +kernel
theorem zl_a394 : zx_at (zx_mi zl_q) 394 = some (.iload 4, 2) := by decide +kernel
theorem zl_a396 : zx_at (zx_mi zl_q) 396 = some (.iconst 3, 1) := by decide +kernel
theorem zl_a397 : zx_at (zx_mi zl_q) 397 = some (.iadd, 1) := by decide +kernel
theorem zl_a398 : zx_at (zx_mi zl_q) 398 = some (.iaload, 1) := by decide +kernel
theorem zl_a399 : zx_at (zx_mi zl_q) 399 = some (.invokevirtual 55, 3) := by decide +kernel
theorem zl_a402 : zx_at (zx_mi zl_q) 402 = some (.pop, 1) := by decide +kernel
theorem zl_a403 : zx_at (zx_mi zl_q) 403 = some (.aload_n 2, 1) := by decide +kernel
theorem zl_a404 : zx_at (zx_mi zl_q) 404 = some (.aload_n 0, 1) := by decide +kernel
theorem zl_a405 : zx_at (zx_mi zl_q) 405 = some (.iload 4, 2) := by decide +kernel
theorem zl_a407 : zx_at (zx_mi zl_q) 407 = some (.iconst 1, 1) := by decide +kernel
theorem zl_a408 : zx_at (zx_mi zl_q) 408 = some (.iadd, 1) := by decide +kernel
theorem zl_a409 : zx_at (zx_mi zl_q) 409 = some (.iaload, 1) := by decide +kernel
theorem zl_a410 : zx_at (zx_mi zl_q) 410 = some (.aload_n 0, 1) := by decide +kernel
theorem zl_a411 : zx_at (zx_mi zl_q) 411 = some (.iload 4, 2) := by decide +kernel
theorem zl_a413 : zx_at (zx_mi zl_q) 413 = some (.iconst 2, 1) := by decide +kernel
theorem zl_a414 : zx_at (zx_mi zl_q) 414 = some (.iadd, 1) := by decide +kernel
theorem zl_a415 : zx_at (zx_mi zl_q) 415 = some (.iaload, 1) := by decide +kernel
theorem zl_a416 : zx_at (zx_mi zl_q) 416 = some (.aload_n 0, 1) := by decide +kernel
theorem zl_a417 : zx_at (zx_mi zl_q) 417 = some (.iload 4, 2) := by decide +kernel
theorem zl_a419 : zx_at (zx_mi zl_q) 419 = some (.iconst 3, 1) := by decide +kernel
theorem zl_a420 : zx_at (zx_mi zl_q) 420 = some (.iadd, 1) := by decide +kernel
theorem zl_a421 : zx_at (zx_mi zl_q) 421 = some (.iaload, 1) := by decide +kernel
theorem zl_a422 : zx_at (zx_mi zl_q) 422 = some (.invokevirtual 58, 3) := by decide +kernel
theorem zl_a425 : zx_at (zx_mi zl_q) 425 = some (.pop, 1) := by decide +kernel
theorem zl_a426 : zx_at (zx_mi zl_q) 426 = some (.goto 215, 3) := by decide +kernel
theorem zl_a429 : zx_at (zx_mi zl_q) 429 = some (.aload_n 1, 1) := by decide +kernel
theorem zl_a430 : zx_at (zx_mi zl_q) 430 = some (.invokevirtual 59, 3) := by decide +kernel
theorem zl_a433 : zx_at (zx_mi zl_q) 433 = some (.pop, 1) := by decide +kernel
theorem zl_a434 : zx_at (zx_mi zl_q) 434 = some (.aload_n 2, 1) := by decide +kernel
theorem zl_a435 : zx_at (zx_mi zl_q) 435 = some (.invokevirtual 62, 3) := by decide +kernel
theorem zl_a438 : zx_at (zx_mi zl_q) 438 = some (.pop, 1) := by decide +kernel
theorem zl_a439 : zx_at (zx_mi zl_q) 439 = some (.goto 202, 3) := by decide +kernel
theorem zl_a442 : zx_at (zx_mi zl_q) 442 = some (.aload_n 1, 1) := by decide +kernel
theorem zl_a443 : zx_at (zx_mi zl_q) 443 = some (.invokevirtual 63, 3) := by decide +kernel
theorem zl_a446 : zx_at (zx_mi zl_q) 446 = some (.pop, 1) := by decide +kernel
theorem zl_a447 : zx_at (zx_mi zl_q) 447 = some (.aload_n 2, 1) := by decide +kernel
theorem zl_a448 : zx_at (zx_mi zl_q) 448 = some (.invokevirtual 66, 3) := by decide +kernel
theorem zl_a451 : zx_at (zx_mi zl_q) 451 = some (.pop, 1) := by decide +kernel
theorem zl_a452 : zx_at (zx_mi zl_q) 452 = some (.goto 189, 3) := by decide +kernel
theorem zl_a455 : zx_at (zx_mi zl_q) 455 = some (.aload_n 1, 1) := by decide +kernel
theorem zl_a456 : zx_at (zx_mi zl_q) 456 = some (.aload_n 0, 1) := by decide +kernel
theorem zl_a457 : zx_at (zx_mi zl_q) 457 = some (.iload 4, 2) := by decide +kernel
theorem zl_a459 : zx_at (zx_mi zl_q) 459 = some (.iconst 1, 1) := by decide +kernel
theorem zl_a460 : zx_at (zx_mi zl_q) 460 = some (.iadd, 1) := by decide +kernel
theorem zl_a461 : zx_at (zx_mi zl_q) 461 = some (.iaload, 1) := by decide +kernel
theorem zl_a462 : zx_at (zx_mi zl_q) 462 = some (.aload_n 3, 1) := by decide +kernel
theorem zl_a463 : zx_at (zx_mi zl_q) 463 = some (.invokestatic 67, 3) := by decide +kernel
theorem zl_a466 : zx_at (zx_mi zl_q) 466 = some (.istore 5, 2) := by decide +kernel
theorem zl_a468 : zx_at (zx_mi zl_q) 468 = some (.aload_n 2, 1) := by decide +kernel
theorem zl_a469 : zx_at (zx_mi zl_q) 469 = some (.aload_n 0, 1) := by decide +kernel
theorem zl_a470 : zx_at (zx_mi zl_q) 470 = some (.iload 4, 2) := by decide +kernel
theorem zl_a472 : zx_at (zx_mi zl_q) 472 = some (.iconst 1, 1) := by decide +kernel
theorem zl_a473 : zx_at (zx_mi zl_q) 473 = some (.iadd, 1) := by decide +kernel
theorem zl_a474 : zx_at (zx_mi zl_q) 474 = some (.iaload, 1) := by decide +kernel
theorem zl_a475 : zx_at (zx_mi zl_q) 475 = some (.invokevirtual 72, 3) := by decide +kernel
theorem zl_a478 : zx_at (zx_mi zl_q) 478 = some (.istore 6, 2) := by decide +kernel
theorem zl_a480 : zx_at (zx_mi zl_q) 480 = some (.goto 161, 3) := by decide +kernel
theorem zl_a483 : zx_at (zx_mi zl_q) 483 = some (.aload_n 1, 1) := by decide +kernel
theorem zl_a484 : zx_at (zx_mi zl_q) 484 = some (.aload_n 0, 1) := by decide +kernel
theorem zl_a485 : zx_at (zx_mi zl_q) 485 = some (.iload 4, 2) := by decide +kernel
theorem zl_a487 : zx_at (zx_mi zl_q) 487 = some (.iconst 1, 1) := by decide +kernel
theorem zl_a488 : zx_at (zx_mi zl_q) 488 = some (.iadd, 1) := by decide +kernel
theorem zl_a489 : zx_at (zx_mi zl_q) 489 = some (.iaload, 1) := by decide +kernel
theorem zl_a490 : zx_at (zx_mi zl_q) 490 = some (.aload_n 0, 1) := by decide +kernel
theorem zl_a491 : zx_at (zx_mi zl_q) 491 = some (.iload 4, 2) := by decide +kernel
theorem zl_a493 : zx_at (zx_mi zl_q) 493 = some (.iconst 2, 1) := by decide +kernel
theorem zl_a494 : zx_at (zx_mi zl_q) 494 = some (.iadd, 1) := by decide +kernel
theorem zl_a495 : zx_at (zx_mi zl_q) 495 = some (.iaload, 1) := by decide +kernel
theorem zl_a496 : zx_at (zx_mi zl_q) 496 = some (.i2l, 1) := by decide +kernel
theorem zl_a497 : zx_at (zx_mi zl_q) 497 = some (.bipush 32, 2) := by decide +kernel
theorem zl_a499 : zx_at (zx_mi zl_q) 499 = some (.lshl, 1) := by decide +kernel
theorem zl_a500 : zx_at (zx_mi zl_q) 500 = some (.aload_n 0, 1) := by decide +kernel
theorem zl_a501 : zx_at (zx_mi zl_q) 501 = some (.iload 4, 2) := by decide +kernel
theorem zl_a503 : zx_at (zx_mi zl_q) 503 = some (.iconst 3, 1) := by decide +kernel
theorem zl_a504 : zx_at (zx_mi zl_q) 504 = some (.iadd, 1) := by decide +kernel
theorem zl_a505 : zx_at (zx_mi zl_q) 505 = some (.iaload, 1) := by decide +kernel
theorem zl_a506 : zx_at (zx_mi zl_q) 506 = some (.i2l, 1) := by decide +kernel
theorem zl_a507 : zx_at (zx_mi zl_q) 507 = some (.ldc2_w 73, 3) := by decide +kernel
theorem zl_a510 : zx_at (zx_mi zl_q) 510 = some (.land, 1) := by decide +kernel
theorem zl_a511 : zx_at (zx_mi zl_q) 511 = some (.lor, 1) := by decide +kernel
theorem zl_a512 : zx_at (zx_mi zl_q) 512 = some (.invokevirtual 75, 3) := by decide +kernel
theorem zl_a515 : zx_at (zx_mi zl_q) 515 = some (.aload_n 2, 1) := by decide +kernel
theorem zl_a516 : zx_at (zx_mi zl_q) 516 = some (.aload_n 0, 1) := by decide +kernel
theorem zl_a517 : zx_at (zx_mi zl_q) 517 = some (.iload 4, 2) := by decide +kernel
theorem zl_a519 : zx_at (zx_mi zl_q) 519 = some (.iconst 1, 1) := by decide +kernel
theorem zl_a520 : zx_at (zx_mi zl_q) 520 = some (.iadd, 1) := by decide +kernel
theorem zl_a521 : zx_at (zx_mi zl_q) 521 = some (.iaload, 1) := by decide +kernel
theorem zl_a522 : zx_at (zx_mi zl_q) 522 = some (.aload_n 0, 1) := by decide +kernel
theorem zl_a523 : zx_at (zx_mi zl_q) 523 = some (.iload 4, 2) := by decide +kernel
theorem zl_a525 : zx_at (zx_mi zl_q) 525 = some (.iconst 2, 1) := by decide +kernel
theorem zl_a526 : zx_at (zx_mi zl_q) 526 = some (.iadd, 1) := by decide +kernel
theorem zl_a527 : zx_at (zx_mi zl_q) 527 = some (.iaload, 1) := by decide +kernel
theorem zl_a528 : zx_at (zx_mi zl_q) 528 = some (.i2l, 1) := by decide +kernel
theorem zl_a529 : zx_at (zx_mi zl_q) 529 = some (.bipush 32, 2) := by decide +kernel
theorem zl_a531 : zx_at (zx_mi zl_q) 531 = some (.lshl, 1) := by decide +kernel
theorem zl_a532 : zx_at (zx_mi zl_q) 532 = some (.aload_n 0, 1) := by decide +kernel
theorem zl_a533 : zx_at (zx_mi zl_q) 533 = some (.iload 4, 2) := by decide +kernel
theorem zl_a535 : zx_at (zx_mi zl_q) 535 = some (.iconst 3, 1) := by decide +kernel
theorem zl_a536 : zx_at (zx_mi zl_q) 536 = some (.iadd, 1) := by decide +kernel
theorem zl_a537 : zx_at (zx_mi zl_q) 537 = some (.iaload, 1) := by decide +kernel
theorem zl_a538 : zx_at (zx_mi zl_q) 538 = some (.i2l, 1) := by decide +kernel
theorem zl_a539 : zx_at (zx_mi zl_q) 539 = some (.ldc2_w 73, 3) := by decide +kernel
theorem zl_a542 : zx_at (zx_mi zl_q) 542 = some (.land, 1) := by decide +kernel
theorem zl_a543 : zx_at (zx_mi zl_q) 543 = some (.lor, 1) := by decide +kernel
theorem zl_a544 : zx_at (zx_mi zl_q) 544 = some (.invokevirtual 79, 3) := by decide +kernel
theorem zl_a547 : zx_at (zx_mi zl_q) 547 = some (.lcmp, 1) := by decide +kernel
theorem zl_a548 : zx_at (zx_mi zl_q) 548 = some (.ifCond .eq 93, 3) := by decide +kernel
theorem zl_a551 : zx_at (zx_mi zl_q) 551 = some (.iconst 0, 1) := by decide +kernel
theorem zl_a552 : zx_at (zx_mi zl_q) 552 = some (.ireturn, 1) := by decide +kernel
theorem zl_a553 : zx_at (zx_mi zl_q) 553 = some (.aload_n 1, 1) := by decide +kernel
theorem zl_a554 : zx_at (zx_mi zl_q) 554 = some (.aload_n 0, 1) := by decide +kernel
theorem zl_a555 : zx_at (zx_mi zl_q) 555 = some (.iload 4, 2) := by decide +kernel
theorem zl_a557 : zx_at (zx_mi zl_q) 557 = some (.iconst 1, 1) := by decide +kernel
theorem zl_a558 : zx_at (zx_mi zl_q) 558 = some (.iadd, 1) := by decide +kernel
theorem zl_a559 : zx_at (zx_mi zl_q) 559 = some (.iaload, 1) := by decide +kernel
theorem zl_a560 : zx_at (zx_mi zl_q) 560 = some (.invokevirtual 80, 3) := by decide +kernel
theorem zl_a563 : zx_at (zx_mi zl_q) 563 = some (.pop, 1) := by decide +kernel
theorem zl_a564 : zx_at (zx_mi zl_q) 564 = some (.aload_n 2, 1) := by decide +kernel
theorem zl_a565 : zx_at (zx_mi zl_q) 565 = some (.aload_n 0, 1) := by decide +kernel
theorem zl_a566 : zx_at (zx_mi zl_q) 566 = some (.iload 4, 2) := by decide +kernel
theorem zl_a568 : zx_at (zx_mi zl_q) 568 = some (.iconst 1, 1) := by decide +kernel
theorem zl_a569 : zx_at (zx_mi zl_q) 569 = some (.iadd, 1) := by decide +kernel
theorem zl_a570 : zx_at (zx_mi zl_q) 570 = some (.iaload, 1) := by decide +kernel
theorem zl_a571 : zx_at (zx_mi zl_q) 571 = some (.invokevirtual 83, 3) := by decide +kernel
theorem zl_a574 : zx_at (zx_mi zl_q) 574 = some (.pop, 1) := by decide +kernel
theorem zl_a575 : zx_at (zx_mi zl_q) 575 = some (.goto 66, 3) := by decide +kernel
theorem zl_a578 : zx_at (zx_mi zl_q) 578 = some (.aload_n 1, 1) := by decide +kernel
theorem zl_a579 : zx_at (zx_mi zl_q) 579 = some (.aload_n 0, 1) := by decide +kernel
theorem zl_a580 : zx_at (zx_mi zl_q) 580 = some (.iload 4, 2) := by decide +kernel
theorem zl_a582 : zx_at (zx_mi zl_q) 582 = some (.iconst 1, 1) := by decide +kernel
theorem zl_a583 : zx_at (zx_mi zl_q) 583 = some (.iadd, 1) := by decide +kernel
theorem zl_a584 : zx_at (zx_mi zl_q) 584 = some (.iaload, 1) := by decide +kernel
theorem zl_a585 : zx_at (zx_mi zl_q) 585 = some (.invokevirtual 84, 3) := by decide +kernel
theorem zl_a588 : zx_at (zx_mi zl_q) 588 = some (.pop2, 1) := by decide +kernel
theorem zl_a589 : zx_at (zx_mi zl_q) 589 = some (.aload_n 2, 1) := by decide +kernel
theorem zl_a590 : zx_at (zx_mi zl_q) 590 = some (.aload_n 0, 1) := by decide +kernel
theorem zl_a591 : zx_at (zx_mi zl_q) 591 = some (.iload 4, 2) := by decide +kernel
theorem zl_a593 : zx_at (zx_mi zl_q) 593 = some (.iconst 1, 1) := by decide +kernel
theorem zl_a594 : zx_at (zx_mi zl_q) 594 = some (.iadd, 1) := by decide +kernel
theorem zl_a595 : zx_at (zx_mi zl_q) 595 = some (.iaload, 1) := by decide +kernel
theorem zl_a596 : zx_at (zx_mi zl_q) 596 = some (.invokevirtual 88, 3) := by decide +kernel
theorem zl_a599 : zx_at (zx_mi zl_q) 599 = some (.pop2, 1) := by decide +kernel
theorem zl_a600 : zx_at (zx_mi zl_q) 600 = some (.goto 41, 3) := by decide +kernel
theorem zl_a603 : zx_at (zx_mi zl_q) 603 = some (.aload_n 1, 1) := by decide +kernel
theorem zl_a604 : zx_at (zx_mi zl_q) 604 = some (.aload_n 0, 1) := by decide +kernel
theorem zl_a605 : zx_at (zx_mi zl_q) 605 = some (.iload 4, 2) := by decide +kernel
theorem zl_a607 : zx_at (zx_mi zl_q) 607 = some (.iconst 1, 1) := by decide +kernel
theorem zl_a608 : zx_at (zx_mi zl_q) 608 = some (.iadd, 1) := by decide +kernel
theorem zl_a609 : zx_at (zx_mi zl_q) 609 = some (.iaload, 1) := by decide +kernel
theorem zl_a610 : zx_at (zx_mi zl_q) 610 = some (.invokevirtual 89, 3) := by decide +kernel
theorem zl_a613 : zx_at (zx_mi zl_q) 613 = some (.pop, 1) := by decide +kernel
theorem zl_a614 : zx_at (zx_mi zl_q) 614 = some (.aload_n 2, 1) := by decide +kernel
theorem zl_a615 : zx_at (zx_mi zl_q) 615 = some (.aload_n 0, 1) := by decide +kernel
theorem zl_a616 : zx_at (zx_mi zl_q) 616 = some (.iload 4, 2) := by decide +kernel
theorem zl_a618 : zx_at (zx_mi zl_q) 618 = some (.iconst 1, 1) := by decide +kernel
theorem zl_a619 : zx_at (zx_mi zl_q) 619 = some (.iadd, 1) := by decide +kernel
theorem zl_a620 : zx_at (zx_mi zl_q) 620 = some (.iaload, 1) := by decide +kernel
theorem zl_a621 : zx_at (zx_mi zl_q) 621 = some (.invokevirtual 92, 3) := by decide +kernel
theorem zl_a624 : zx_at (zx_mi zl_q) 624 = some (.pop, 1) := by decide +kernel
theorem zl_a625 : zx_at (zx_mi zl_q) 625 = some (.goto 16, 3) := by decide +kernel
theorem zl_a628 : zx_at (zx_mi zl_q) 628 = some (.aload_n 1, 1) := by decide +kernel
theorem zl_a629 : zx_at (zx_mi zl_q) 629 = some (.invokevirtual 93, 3) := by decide +kernel
theorem zl_a632 : zx_at (zx_mi zl_q) 632 = some (.pop, 1) := by decide +kernel
theorem zl_a633 : zx_at (zx_mi zl_q) 633 = some (.aload_n 2, 1) := by decide +kernel
theorem zl_a634 : zx_at (zx_mi zl_q) 634 = some (.invokevirtual 96, 3) := by decide +kernel
theorem zl_a637 : zx_at (zx_mi zl_q) 637 = some (.pop, 1) := by decide +kernel
theorem zl_a638 : zx_at (zx_mi zl_q) 638 = some (.goto 3, 3) := by decide +kernel
theorem zl_a641 : zx_at (zx_mi zl_q) 641 = some (.iinc 4 5, 3) := by decide +kernel
theorem zl_a644 : zx_at (zx_mi zl_q) 644 = some (.goto (-621), 3) := by decide +kernel
theorem zl_a647 : zx_at (zx_mi zl_q) 647 = some (.iconst 1, 1) := by decide +kernel
theorem zl_a648 : zx_at (zx_mi zl_q) 648 = some (.ireturn, 1) := by decide +kernel
end
section
/-! ===== 43: the law's calls by contract; its script ===== -/
theorem zx_T.up {P : zx_P} {d e : Nat} {q : zx_M} {pc : Nat} {ls : zx_L} {st : List Value} {h : zx_H} {F : Option Value → zx_H → Prop} (hd : d ≤ e) (ht : zx_T P d q pc ls st h F) : zx_T P e q pc ls st h F := by
  obtain ⟨n, r, h', hx, hf⟩ := ht
  exact ⟨n, r, h', zx_mono n n d e _ _ _ _ _ _ (Nat.le_refl _) hd hx, hf⟩
section ZLR
variable {HT : List za_D} {P P2 : zx_P} {stop d pc : Nat} {q : zx_M} {ls : zx_L} {st : List Value} {h : zx_H} {F : zx_L → List Value → zx_H → Prop}
theorem zl_inv {k : za_K} (hK : zb_K P HT k) {idx b ci : Nat} {q' : zx_M} {As rest : List Value} (ha : zx_at (zx_mi q) pc = some (.invokevirtual idx, 3)) (hpc : zx_pc P2 (zx_mo q) idx = some k.1) (hpm : (zx_pm P2)[k.1]? = some q') (hq : (zx_pm P)[k.1]? = some q') (hmc : zx_mc q' = some ci) (hoc : za_oc HT b ci = true) (hst : st = As.reverse ++ .ref b :: rest) (hlen : As.length = zx_mp q') (hcat : (rest.map fun v => v.category).sum ≤ 8) (hml : zx_ml q' ≤ 21) (hsl : (lg_sl (.ref b :: As)).length ≤ zx_ml q') (hargs : zb_A zb_T (.ref b :: As) k.2.2.1) (hd : k.2.1 ≤ d) (hI : zb_I HT h)
    (ht : ∀ r1 h1, zb_I HT h1 → zb_W k.2.2.2.2 h h1 → (∃ c ∈ k.2.2.2.1, zb_R r1 c.1 ∧ zb_ca (.ref b :: As) k.2.2.1 c.2) → zl_T P P2 stop q d (pc + 3) ls (r1.toList ++ rest) h1 F) : zl_T P P2 stop q d pc ls st h F := by
  have hdrop : st.drop (zx_mp q') = .ref b :: rest := by rw [hst, ← hlen, ← List.length_reverse, List.drop_left]
  have htake : st.take (zx_mp q') = As.reverse := by rw [hst, ← hlen, ← List.length_reverse, List.take_left]
  obtain ⟨fs, hfs⟩ : ∃ fs, h[b]? = some (.inr (ci, fs)) := by
    unfold za_oc at hoc
    split at hoc
    · next cj9 fd9 e9 =>
      obtain ⟨fs, e8, _⟩ := hI.obj e9
      rw [← Nat.eq_of_beq_eq_true hoc]
      exact ⟨fs, e8⟩
    · cases hoc
  refine zl_T.c (cj := k.1) (as := .ref b :: As) (rest := rest) (q' := q') ha rfl rfl rfl rfl rfl rfl rfl ?_ hq ((hK q' hq (.ref b :: As) h hargs hI).up hd) (fun r1 h1 hf => ht r1 h1 hf.1 hf.2.1 hf.2.2.2)
  unfold zx_k
  simp only [hpc, hpm, hdrop, hfs, htake, List.reverse_reverse]
  rw [if_pos ⟨trivial, hmc, by rw [List.length_reverse]; exact hlen, hcat, hml, hsl⟩]
end ZLR
section ZLS
variable {P : zx_P} {L : Nat} {xs : Nat → Int32} {HT : List za_D} {stop d pc : Nat} {q : zx_M} {ls : zx_L} {st : List Value} {h : zx_H} {F : zx_L → List Value → zx_H → Prop}
theorem zl_none (hI : zb_I HT h) (hH : HT.length ≤ 2000000) : h[2000000]? = none := by
  rw [List.getElem?_eq_none_iff, zb_A.len hI]; exact hH
/-- a word of the script -/
theorem zl_sld {i : Nat} {r : List Value} (ha : zx_at (zx_mi q) pc = some (.iaload, 1)) (hI : zb_I HT h) (hH : HT.length ≤ 2000000) (hi : i < L) (hL : L ≤ 2560) (hs : ¬ pc + 1 = stop) (ht : zl_T P (zl_P L xs) stop q d (pc + 1) ls (.int (xs i) :: r) h F) : zl_T P (zl_P L xs) stop q d pc ls (.int (nI i) :: .ref 2000000 :: r) h F := by
  refine zl_T.g ha rfl rfl rfl rfl ?_ hs ht
  unfold zx_g
  have hc : (nI i).toNatClampNeg = i := nI_clamp (by omega)
  have h0 : ¬ (nI i < 0 ∨ L ≤ (nI i).toNatClampNeg) := by
    rw [hc]
    rintro (z | z)
    · exact nI_pos (by omega) z
    · omega
  simp only [zl_none hI hH]
  show (match (if (2000000 : Nat) = 2000000 then some (L, xs) else zp_pa 2000000) with
    | some (n, f) => if nI i < 0 ∨ n ≤ (nI i).toNatClampNeg then none else some (1, Value.int (f (nI i).toNatClampNeg) :: r, h)
    | none => none) = _
  rw [if_pos rfl]
  dsimp only
  rw [if_neg h0, hc]
theorem zl_slen {r : List Value} (ha : zx_at (zx_mi q) pc = some (.arraylength, 1)) (hI : zb_I HT h) (hH : HT.length ≤ 2000000) (hs : ¬ pc + 1 = stop) (ht : zl_T P (zl_P L xs) stop q d (pc + 1) ls (.int (nI L) :: r) h F) : zl_T P (zl_P L xs) stop q d pc ls (.ref 2000000 :: r) h F := by
  refine zl_T.g ha rfl rfl rfl rfl ?_ hs ht
  unfold zx_g
  simp only [zl_none hI hH]
  show (match (if (2000000 : Nat) = 2000000 then some (L, xs) else zp_pa 2000000) with
    | some (n, _) => some (1, Value.int (Int32.ofNat n) :: r, h)
    | none => none) = _
  rw [if_pos rfl]
  rfl
/-- script[i + c], five instructions -/
theorem zl_arg {i c : Nat} {r : List Value} (h1 : zx_at (zx_mi q) pc = some (.aload_n 0, 1)) (h2 : zx_at (zx_mi q) (pc + 1) = some (.iload 4, 2)) (h3 : zx_at (zx_mi q) (pc + 3) = some (.iconst (c : Int), 1)) (h4 : zx_at (zx_mi q) (pc + 4) = some (.iadd, 1)) (h5 : zx_at (zx_mi q) (pc + 5) = some (.iaload, 1)) (l0 : zx_lk ls 0 = some (.ref 2000000)) (l4 : zx_lk ls 4 = some (.int (nI i))) (hI : zb_I HT h) (hH : HT.length ≤ 2000000) (hc : c ≤ 4) (hi : i + 5 ≤ L) (hL : L ≤ 2560) (hs : stop < pc) (ht : zl_T P (zl_P L xs) stop q d (pc + 6) ls (.int (xs (i + c)) :: r) h F) : zl_T P (zl_P L xs) stop q d pc ls r h F := by
  refine zl_T.l (v := .ref 2000000) h1 rfl (by show zx_gr ls 0 1 = _; unfold zx_gr; rw [l0]) (by omega) ?_
  refine zl_T.l (v := .int (nI i)) h2 rfl (by show zx_gi ls 4 2 = _; unfold zx_gi; rw [l4]) (by omega) ?_
  refine zl_T.s (st' := .int (nI c) :: .int (nI i) :: .ref 2000000 :: r) h3 rfl (by omega) ?_
  refine zl_T.s (st' := .int (nI (i + c)) :: .ref 2000000 :: r) h4 (by show some (1, Value.int (nI i + nI c) :: .ref 2000000 :: r) = _; rw [nI_add]) (by omega) ?_
  exact zl_sld h5 hI hH (by omega) hL (by omega) ht
end ZLS
end
section
/-! ===== 44: rules for a method's own run, instruction by instruction ===== -/
section ZXT
variable {P : zx_P} {d pc : Nat} {q : zx_M} {ls : zx_L} {st : List Value} {h : zx_H} {F : Option Value → zx_H → Prop}
theorem zx_T.s {i : Instr} {k : Nat} {st' : List Value} (ha : zx_at (zx_mi q) pc = some (i, k)) (e : zx_s i st = some (k, st')) (ht : zx_T P d q (pc + k) ls st' h F) : zx_T P d q pc ls st h F :=
  zx_T.go (by unfold zx_o; simp only [ha, e]; rw [if_pos trivial]) ht
theorem zx_T.l {i : Instr} {k : Nat} {v : Value} (ha : zx_at (zx_mi q) pc = some (i, k)) (e0 : zx_s i st = none) (e : zx_l i ls = some (k, v)) (ht : zx_T P d q (pc + k) ls (v :: st) h F) : zx_T P d q pc ls st h F :=
  zx_T.go (by unfold zx_o; simp only [ha, e0, e]; rw [if_pos trivial]) ht
theorem zx_T.t {i : Instr} {k : Nat} {ls' : zx_L} {st' : List Value} (ha : zx_at (zx_mi q) pc = some (i, k)) (e0 : zx_s i st = none) (e1 : zx_l i ls = none) (e : zx_t i (zx_ml q) ls st = some (k, ls', st')) (ht : zx_T P d q (pc + k) ls' st' h F) : zx_T P d q pc ls st h F :=
  zx_T.go (by unfold zx_o; simp only [ha, e0, e1, e]; rw [if_pos trivial]) ht
theorem zx_T.j {i : Instr} {k pc' : Nat} {st' : List Value} (ha : zx_at (zx_mi q) pc = some (i, k)) (e0 : zx_s i st = none) (e1 : zx_l i ls = none) (e2 : zx_t i (zx_ml q) ls st = none) (e : zx_j i k pc st = some (pc', st')) (ht : zx_T P d q pc' ls st' h F) : zx_T P d q pc ls st h F :=
  zx_T.go (by unfold zx_o; simp only [ha, e0, e1, e2, e]) ht
theorem zx_T.g {i : Instr} {k : Nat} {st' : List Value} {h' : zx_H} (ha : zx_at (zx_mi q) pc = some (i, k)) (e0 : zx_s i st = none) (e1 : zx_l i ls = none) (e2 : zx_t i (zx_ml q) ls st = none) (e3 : zx_j i k pc st = none) (e : zx_g P (zx_mo q) i st h = some (k, st', h')) (ht : zx_T P d q (pc + k) ls st' h' F) : zx_T P d q pc ls st h F :=
  zx_T.go (by unfold zx_o; simp only [ha, e0, e1, e2, e3, e]; rw [if_pos trivial]) ht
theorem zx_T.r {i : Instr} {k : Nat} {r : Option Value} (ha : zx_at (zx_mi q) pc = some (i, k)) (e0 : zx_s i st = none) (e1 : zx_l i ls = none) (e2 : zx_t i (zx_ml q) ls st = none) (e3 : zx_j i k pc st = none) (e4 : zx_g P (zx_mo q) i st h = none) (e : zx_r i k (zx_mr q) st = some r) (hf : F r h) : zx_T P d q pc ls st h F :=
  zx_T.rt (by unfold zx_o; simp only [ha, e0, e1, e2, e3, e4, e]) hf
theorem zx_T.c {i : Instr} {k cj : Nat} {as rest : List Value} {q' : zx_M} {Fc : Option Value → zx_H → Prop} (ha : zx_at (zx_mi q) pc = some (i, k)) (e0 : zx_s i st = none) (e1 : zx_l i ls = none) (e2 : zx_t i (zx_ml q) ls st = none) (e3 : zx_j i k pc st = none) (e4 : zx_g P (zx_mo q) i st h = none) (e5 : zx_r i k (zx_mr q) st = none) (e6 : zx_n P (zx_mo q) i k st = none) (e : zx_k P (zx_mo q) i k st h = some (cj, as, rest)) (hq : (zx_pm P)[cj]? = some q') (hc : zx_T P d q' 0 (lv_args 0 as) [] h Fc) (ht : ∀ r1 h1, Fc r1 h1 → zx_T P (d + 1) q (pc + 3) ls (r1.toList ++ rest) h1 F) : zx_T P (d + 1) q pc ls st h F := by
  obtain ⟨n, r1, h1, hx, hf⟩ := hc
  exact zx_T.cl (by unfold zx_o; simp only [ha, e0, e1, e2, e3, e4, e5, e6, e]) hq hx (ht r1 h1 hf)
end ZXT
end
section
/-! ===== 45: what ClassFrames.argument answers ===== -/
def zs_argP (f : Nat → Int64) (i : Int32) (v : Int64) (h : zx_H) (a : Nat) (r : Option Value) (h' : zx_H) : Prop :=
  (i < 0 ∨ ¬ i < 8 → r = some (.long (-2)) ∧ h' = h) ∧ (¬ i < 0 → i < 8 → r = some (.long (f i.toNatClampNeg)) ∧ h' = h.set a (.inl (1, 8, .inr (.inl (vp_updL f i.toNatClampNeg v)))))
theorem zs_idx {i : Int32} (h1 : ¬ i < 0) (h2 : i < 8) : ¬ (i < 0 ∨ 8 ≤ i.toNatClampNeg) := by
  have e8 : (8 : Int32).toInt = 8 := by decide +kernel
  rw [Int32.lt_iff_toInt_lt, Int32.toInt_zero] at h1
  rw [Int32.lt_iff_toInt_lt, e8] at h2
  exact zb_idx (m := 8) (by omega) (by omega)
set_option maxRecDepth 100000 in
theorem zs_change {h : zx_H} {fs : List Value} {f : Nat → Int64} (hm : h[34]? = some (.inr (3, fs))) (hf : fs[1]? = some (.ref 35)) (ha : h[35]? = some (.inl (1, 8, .inr (.inl f)))) (i : Int32) (v : Int64) (d : Nat) : zx_T zp_P d zp_m51 0 [(0, .ref 34), (1, .int i), (2, .long v)] [] h (zs_argP f i v h 35) := by
  have bad : ∀ (st : List Value), st = [] → (i < 0 ∨ ¬ i < 8) → zx_T zp_P d zp_m51 10 [(0, .ref 34), (1, .int i), (2, .long v)] st h (zs_argP f i v h 35) := by
    intro st hst hc
    subst hst
    refine zx_T.g (i := .ldc2_w 43) (k := 3) (st' := [.long (-2)]) (h' := h) rfl rfl rfl rfl rfl rfl ?_
    refine zx_T.r (i := .lreturn) (k := 1) (r := some (.long (-2))) rfl rfl rfl rfl rfl rfl rfl ⟨fun _ => ⟨rfl, rfl⟩, fun a b => ?_⟩
    exact (hc.elim (fun z => a z) (fun z => z b)).elim
  refine zx_T.l (i := .iload_n 1) (k := 1) (v := .int i) rfl rfl rfl ?_
  by_cases c1 : i < 0
  · refine zx_T.j (i := .ifCond .lt 9) (k := 3) (pc' := 10) (st' := []) rfl rfl rfl rfl ?_ (bad [] rfl (Or.inl c1))
    show (if (3 : Nat) = 3 then (match zx_tg 1 9 with
      | some t => some (if zx_cmp .lt i 0 then t else 1 + 3, [])
      | none => none) else none) = some (10, ([] : List Value))
    rw [if_pos rfl, show zx_tg 1 9 = some 10 from rfl]
    dsimp only
    rw [if_pos (by show decide (i < 0) = true; rw [decide_eq_true_eq]; exact c1)]
  · refine zx_T.j (i := .ifCond .lt 9) (k := 3) (pc' := 4) (st' := []) rfl rfl rfl rfl ?_ ?_
    · show (if (3 : Nat) = 3 then (match zx_tg 1 9 with
        | some t => some (if zx_cmp .lt i 0 then t else 1 + 3, [])
        | none => none) else none) = some (4, ([] : List Value))
      rw [if_pos rfl, show zx_tg 1 9 = some 10 from rfl]
      dsimp only
      rw [if_neg (by show ¬ decide (i < 0) = true; rw [decide_eq_true_eq]; exact c1)]
    · refine zx_T.l (i := .iload_n 1) (k := 1) (v := .int i) rfl rfl rfl ?_
      refine zx_T.s (i := .bipush 8) (k := 2) (st' := [.int 8, .int i]) rfl rfl ?_
      by_cases c2 : i < 8
      · refine zx_T.j (i := .if_icmp .lt 7) (k := 3) (pc' := 14) (st' := []) rfl rfl rfl rfl ?_ ?_
        · show (if (3 : Nat) = 3 then (match zx_tg 7 7 with
            | some t => some (if zx_cmp .lt i 8 then t else 7 + 3, [])
            | none => none) else none) = some (14, ([] : List Value))
          rw [if_pos rfl, show zx_tg 7 7 = some 14 from rfl]
          dsimp only
          rw [if_pos (by show decide (i < 8) = true; rw [decide_eq_true_eq]; exact c2)]
        · have hg : zx_gf zp_P 5 9 34 h = some (.ref 35) := by rw [zb_gfx (ci := 3) (k := 1) rfl hm]; exact hf
          have hi := zs_idx c1 c2
          refine zx_T.l (i := .aload_n 0) (k := 1) (v := .ref 34) rfl rfl rfl ?_
          refine zx_T.g (i := .getfield 9) (k := 3) (st' := [.ref 35]) (h' := h) rfl rfl rfl rfl rfl (by show (zx_gf zp_P 5 9 34 h).map _ = _; rw [hg]; rfl) ?_
          refine zx_T.l (i := .iload_n 1) (k := 1) (v := .int i) rfl rfl rfl ?_
          refine zx_T.g (i := .laload) (k := 1) (st' := [.long (f i.toNatClampNeg)]) (h' := h) rfl rfl rfl rfl rfl (by simp only [zx_g, ha]; rw [if_neg hi]) ?_
          refine zx_T.t (i := .lstore 4) (k := 2) (ls' := [(4, .long (f i.toNatClampNeg)), (0, .ref 34), (1, .int i), (2, .long v)]) (st' := []) rfl rfl rfl rfl ?_
          refine zx_T.l (i := .aload_n 0) (k := 1) (v := .ref 34) rfl rfl rfl ?_
          refine zx_T.g (i := .getfield 9) (k := 3) (st' := [.ref 35]) (h' := h) rfl rfl rfl rfl rfl (by show (zx_gf zp_P 5 9 34 h).map _ = _; rw [hg]; rfl) ?_
          refine zx_T.l (i := .iload_n 1) (k := 1) (v := .int i) rfl rfl rfl ?_
          refine zx_T.l (i := .lload_n 2) (k := 1) (v := .long v) rfl rfl rfl ?_
          refine zx_T.g (i := .lastore) (k := 1) (st' := []) (h' := h.set 35 (.inl (1, 8, .inr (.inl (vp_updL f i.toNatClampNeg v))))) rfl rfl rfl rfl rfl (by simp only [zx_g, ha]; rw [if_neg hi]) ?_
          refine zx_T.l (i := .lload 4) (k := 2) (v := .long (f i.toNatClampNeg)) rfl rfl rfl ?_
          refine zx_T.r (i := .lreturn) (k := 1) (r := some (.long (f i.toNatClampNeg))) rfl rfl rfl rfl rfl rfl rfl ⟨fun z => ?_, fun _ _ => ⟨rfl, rfl⟩⟩
          exact (z.elim (fun w => c1 w) (fun w => w c2)).elim
      · refine zx_T.j (i := .if_icmp .lt 7) (k := 3) (pc' := 10) (st' := []) rfl rfl rfl rfl ?_ (bad [] rfl (Or.inr c2))
        show (if (3 : Nat) = 3 then (match zx_tg 7 7 with
          | some t => some (if zx_cmp .lt i 8 then t else 7 + 3, [])
          | none => none) else none) = some (10, ([] : List Value))
        rw [if_pos rfl, show zx_tg 7 7 = some 14 from rfl]
        dsimp only
        rw [if_neg (by show ¬ decide (i < 8) = true; rw [decide_eq_true_eq]; exact c2)]
/-- a field that holds a known cell -/
theorem zs_ref {HT : List za_D} {h : zx_H} (hI : zb_I HT h) {a ci k b : Nat} {fd : List za_T} (e : HT[a]? = some (.inr (ci, fd))) (e2 : fd[k]? = some (.inr (.inr b))) : ∃ fs, h[a]? = some (.inr (ci, fs)) ∧ fs[k]? = some (.ref b) := by
  obtain ⟨fs, h1, h2⟩ := hI.obj e
  obtain ⟨v, h3, h4⟩ := h2.at1 k e2
  have h5 : v = .ref b := h4
  rw [h5] at h3
  exact ⟨fs, h1, h3⟩
set_option maxRecDepth 100000 in
theorem zs_argument {h : zx_H} (hI : zb_I zc_H h) {f : Nat → Int64} (ha : h[35]? = some (.inl (1, 8, .inr (.inl f)))) (i : Int32) (v : Int64) (d : Nat) : zx_T zp_P (d + 1) zp_m148 0 [(0, .ref 0), (1, .int i), (2, .long v)] [] h (zs_argP f i v h 35) := by
  obtain ⟨fs0, h01, h02⟩ := zs_ref (a := 0) (k := 5) hI rfl rfl
  obtain ⟨fs1, h11, h12⟩ := zs_ref (a := 34) (k := 1) hI rfl rfl
  have hg : zx_gf zp_P 11 53 0 h = some (.ref 34) := by rw [zb_gfx (ci := 9) (k := 5) rfl h01]; exact h02
  refine zx_T.l (i := .aload_n 0) (k := 1) (v := .ref 0) rfl rfl rfl ?_
  refine zx_T.g (i := .getfield 53) (k := 3) (st' := [.ref 34]) (h' := h) rfl rfl rfl rfl rfl (by show (zx_gf zp_P 11 53 0 h).map _ = _; rw [hg]; rfl) ?_
  refine zx_T.l (i := .iload_n 1) (k := 1) (v := .int i) rfl rfl rfl ?_
  refine zx_T.l (i := .lload_n 2) (k := 1) (v := .long v) rfl rfl rfl ?_
  refine zx_T.c (i := .invokevirtual 130) (k := 3) (cj := 51) (as := [.ref 34, .int i, .long v]) (rest := []) (q' := zp_m51) rfl rfl rfl rfl rfl rfl rfl rfl ?_ rfl (zs_change h11 h12 ha i v d) (fun r1 h1 hf => ?_)
  · unfold zx_k
    simp only [show zx_pc zp_P (zx_mo zp_m148) 130 = some 51 from rfl, show (zx_pm zp_P)[51]? = some zp_m51 from rfl, show List.drop (zx_mp zp_m51) [Value.long v, Value.int i, Value.ref 34] = [.ref 34] from rfl, h11]
    rw [if_pos ⟨trivial, rfl, rfl, by decide, by decide, Nat.le_of_ble_eq_true rfl⟩]
    rfl
  · by_cases c : i < 0 ∨ ¬ i < 8
    · obtain ⟨rfl, e2⟩ := hf.1 c
      exact zx_T.r (i := .lreturn) (k := 1) (r := some (.long (-2))) rfl rfl rfl rfl rfl rfl rfl ⟨fun _ => ⟨rfl, e2⟩, fun a b => (c.elim (fun z => a z) (fun z => z b)).elim⟩
    · have c1 : ¬ i < 0 := fun z => c (Or.inl z)
      have c2 : i < 8 := Classical.byContradiction fun z => c (Or.inr z)
      obtain ⟨rfl, e2⟩ := hf.2 c1 c2
      exact zx_T.r (i := .lreturn) (k := 1) (r := some (.long (f i.toNatClampNeg))) rfl rfl rfl rfl rfl rfl rfl ⟨fun z => (c z).elim, fun _ _ => ⟨rfl, e2⟩⟩
end
section
/-! ===== 46: the static rows TAKES and GIVES, out of what the Statement gives of the start ===== -/
def zt_C : Cond := Jvm.Cond.and given_1 narrow_1
def zt_S (nm : String) : Term := Jvm.Term.static "ClassFrames$Effect" nm "[I"
def zt_b (nm : String) (a : List Int32) : Bool := decide (Cond.arrayOf (zt_S nm) .int ∈ flatC zt_C) && decide (Cond.eq (.length (zt_S nm)) (.int (Int32.ofNat 29)) ∈ flatC zt_C) && (List.range 29).all (fun j => decide (Cond.eq (.elem (zt_S nm) (.int (Int32.ofNat j))) (.int (a.getD j 0)) ∈ flatC zt_C)) && decide (Cond.laysStatic "ClassFrames$Effect" nm "[I" ∈ lw_tbl) && decide (Cond.initialized "ClassFrames$Effect" ∈ lw_tbl)
set_option maxRecDepth 100000 in
theorem zt_b0 : zt_b "TAKES" zp_a0 = true := by decide +kernel
set_option maxRecDepth 100000 in
theorem zt_b1 : zt_b "GIVES" zp_a1 = true := by decide +kernel
theorem zt_one {nm : String} {a : List Int32} (hb : zt_b nm a = true) {args : Array Value} {s : State} {A : Nat → Prop} (hts : ∀ w ∈ lw_tbl, w.before args s = true) (hg : zt_C.before args s = true) (hA : ∀ q : Nat, q < s.heap.size → ¬ A q) : ∃ t : Nat, va_T .int t 29 (fun j => .int (a.getD j 0)) A s s.heap ∧ va_Z "ClassFrames$Effect" nm "[I" (.ref t) A s s.heap := by
  unfold zt_b at hb
  simp only [Bool.and_eq_true, decide_eq_true_eq] at hb
  obtain ⟨⟨⟨⟨h1, h2⟩, h3⟩, h4⟩, h5⟩ := hb
  have hf := flat_of_before zt_C hg
  obtain ⟨t, e1, e2⟩ := va_Tof (args := args) (s := s) (tm := zt_S nm) (ty := .int) (N := 29) (f := fun j => .int (a.getD j 0)) (A := A) (by decide) (hf _ h1) (va_eqt (hf _ h2)) (fun j hj => va_eqt (hf _ (of_decide_eq_true (List.all_eq_true.mp h3 j (List.mem_range.mpr hj))))) hA
  exact ⟨t, e2, va_Zref (hts _ h4) (hts _ h5) e1 hA⟩
def zt_sb (o idx : Nat) (q : Nat × Nat) : Bool := (decide (q.1 = 1000000) && zp_in q.2 (Cond.fieldLink (zp_po o) idx "ClassFrames$Effect" "TAKES" "[I")) || (decide (q.1 = 1000001) && zp_in q.2 (Cond.fieldLink (zp_po o) idx "ClassFrames$Effect" "GIVES" "[I"))
set_option maxRecDepth 100000 in
theorem zt_st_ok : zp_all zt_sb 0 zp_st = true := by decide +kernel
theorem zt_Z2 {ad : Nat → Nat} {A : Nat → Prop} {s : State} (z0 : va_Z "ClassFrames$Effect" "TAKES" "[I" (.ref (ad 1000000)) A s s.heap) (z1 : va_Z "ClassFrames$Effect" "GIVES" "[I" (.ref (ad 1000001)) A s s.heap) : ∀ (o idx k : Nat), (zp_lk zp_st o idx).map (fun q => q.1) = some k → ∃ C nm d, va_Z C nm d (.ref (ad k)) A s s.heap ∧ Cond.fieldLink (zp_po o) idx C nm d ∈ zp_G := by
  intro o idx k h
  obtain ⟨q, hq, e⟩ := Option.map_eq_some_iff.mp h
  have h1 := zp_all_ok _ 0 zt_st_ok _ _ _ hq
  rw [Nat.zero_add] at h1
  unfold zt_sb at h1
  rw [Bool.or_eq_true, Bool.and_eq_true, Bool.and_eq_true, decide_eq_true_eq, decide_eq_true_eq] at h1
  rcases h1 with ⟨a, b⟩ | ⟨a, b⟩
  · have : k = 1000000 := e.symm.trans a
    rw [this]; exact ⟨_, _, _, z0, zp_in_ok b⟩
  · have : k = 1000001 := e.symm.trans a
    rw [this]; exact ⟨_, _, _, z1, zp_in_ok b⟩
theorem zt_Zp {ad : Nat → Nat} {A : Nat → Prop} {s : State} (t0 : va_T .int (ad 1000000) 29 (fun j => .int (zp_a0.getD j 0)) A s s.heap) (t1 : va_T .int (ad 1000001) 29 (fun j => .int (zp_a1.getD j 0)) A s s.heap) (z0 : va_Z "ClassFrames$Effect" "TAKES" "[I" (.ref (ad 1000000)) A s s.heap) (z1 : va_Z "ClassFrames$Effect" "GIVES" "[I" (.ref (ad 1000001)) A s s.heap) : zx_Z zp_P zp_G ad A s s.heap := by
  refine ⟨fun k n f h => ?_, zt_Z2 z0 z1⟩
  have h : zp_pa k = some (n, f) := h
  unfold zp_pa at h
  split at h
  · next e => subst e; cases h; exact t0
  · split at h
    · next e => subst e; cases h; exact t1
    · cases h
theorem zt_Zl {ad : Nat → Nat} {A : Nat → Prop} {s : State} {L : Nat} {xs : Nat → Int32} (hZ : zx_Z zp_P zp_G ad A s s.heap) (tb : va_T .int (ad 2000000) L (fun j => .int (xs j)) A s s.heap) : zx_Z (zl_P L xs) zp_G ad A s s.heap := by
  refine ⟨fun k n f h => ?_, hZ.2⟩
  have h : (if k = 2000000 then some (L, xs) else zp_pa k) = some (n, f) := h
  split at h
  · next e => subst e; cases h; exact tb
  · exact hZ.1 k n f h
/-- the script is such a row -/
theorem zt_X {b L : Nat} {xs : Nat → Int32} {A : Nat → Prop} {s : State} (hX : va_X b L xs s s.heap) (hA : ¬ A b) : va_T .int b L (fun j => .int (xs j)) A s s.heap := by
  obtain ⟨scr, h1, h2, h3, h4, h5⟩ := hX
  exact ⟨scr, h1, h2, h3, by omega, by rw [h4], h5, hA⟩
end
section
/-! ===== 47: fewer locals, in another order, do as well ===== -/
def zx_in (ls : zx_L) : zx_L → Prop
  | [] => True
  | q :: r => zx_lk ls q.1 = some q.2 ∧ zx_in ls r
def zx_nd : zx_L → Bool
  | [] => true
  | q :: r => r.all (fun p => !(Nat.beq p.1 q.1)) && zx_nd r
theorem zx_lkm {ls : zx_L} {j : Nat} {w : Value} (h : zx_lk ls j = some w) : (j, w) ∈ ls := by
  induction ls with
  | nil => cases h
  | cons q r ih =>
    rw [zx_lk] at h
    split at h
    · next e => rw [← Nat.eq_of_beq_eq_true e, ← Option.some.inj h]; exact List.mem_cons_self
    · exact List.mem_cons_of_mem _ (ih h)
theorem zx_lk_nd {ls : zx_L} (hn : zx_nd ls = true) {j : Nat} {w : Value} (h : (j, w) ∈ ls) : zx_lk ls j = some w := by
  induction ls with
  | nil => cases h
  | cons q r ih =>
    rw [zx_nd, Bool.and_eq_true] at hn
    rw [zx_lk]
    rcases List.mem_cons.mp h with e | e
    · subst e
      rw [show Nat.beq j j = true from Nat.beq_refl j]
    · have h1 := List.all_eq_true.mp hn.1 (j, w) e
      split
      · next e2 => have := Nat.eq_of_beq_eq_true e2; subst this; simp [Nat.beq_refl] at h1
      · exact ih hn.2 e
theorem zx_nd_filter {ls : zx_L} {p : Nat × Value → Bool} (hn : zx_nd ls = true) : zx_nd (ls.filter p) = true := by
  induction ls with
  | nil => rfl
  | cons q r ih =>
    rw [zx_nd, Bool.and_eq_true] at hn
    rw [List.filter_cons]
    split
    · rw [zx_nd, Bool.and_eq_true]
      refine ⟨List.all_eq_true.mpr fun x hx => ?_, ih hn.2⟩
      exact List.all_eq_true.mp hn.1 x (List.mem_filter.mp hx).1
    · exact ih hn.2
theorem zx_lkf {ls : zx_L} {p : Nat × Value → Bool} {j : Nat} {w : Value} (h : zx_lk ls j = some w) (hp : p (j, w) = true) : zx_lk (ls.filter p) j = some w := by
  induction ls with
  | nil => cases h
  | cons q r ih =>
    rw [zx_lk] at h
    split at h
    · next e =>
      have e1 := Nat.eq_of_beq_eq_true e
      have e2 := Option.some.inj h
      have e3 : q = (j, w) := by rw [← e1, ← e2]
      subst e3
      rw [List.filter_cons, if_pos hp, zx_lk, e]
    · next e =>
      rw [List.filter_cons]
      split
      · rw [zx_lk, e]; exact ih h
      · exact ih h
def zx_sb (ls' ls : zx_L) : Prop := zx_nd ls' = true ∧ ∀ j w, zx_lk ls' j = some w → zx_lk ls j = some w
theorem zx_sb_fl {ls' ls : zx_L} {i : Nat} {v : Value} {p : Nat × Value → Bool} (h : zx_sb ls' ls) (hp : ∀ q, p q = true → Nat.beq q.1 i = false) : zx_sb ((i, v) :: ls'.filter p) ((i, v) :: ls.filter p) := by
  refine ⟨?_, fun j w e => ?_⟩
  · rw [zx_nd, Bool.and_eq_true]
    refine ⟨List.all_eq_true.mpr fun x hx => ?_, zx_nd_filter h.1⟩
    rw [hp x (List.mem_filter.mp hx).2]; rfl
  · rw [zx_lk] at e ⊢
    split at e
    · next e2 => exact e
    · have h1 := List.mem_filter.mp (zx_lkm e)
      exact zx_lkf (h.2 j w (zx_lk_nd h.1 h1.1)) h1.2
theorem zx_beq_f {a b : Nat} (h : (!(a == b)) = true) : Nat.beq a b = false := by
  cases e : Nat.beq a b with
  | false => rfl
  | true => rw [Nat.eq_of_beq_eq_true e] at h; simp at h
theorem zx_sb1 {ls' ls : zx_L} {i : Nat} {v : Value} (h : zx_sb ls' ls) : zx_sb (zx_set1 ls' i v) (zx_set1 ls i v) :=
  zx_sb_fl h fun q hq => zx_beq_f (zb_and hq).1
theorem zx_sb2 {ls' ls : zx_L} {i : Nat} {v : Value} (h : zx_sb ls' ls) : zx_sb (zx_set2 ls' i v) (zx_set2 ls i v) :=
  zx_sb_fl h fun q hq => zx_beq_f (zb_and hq).1
theorem zx_sb_gi {ls' ls : zx_L} (h : zx_sb ls' ls) {k n : Nat} {z : Nat × Value} (e : zx_gi ls' k n = some z) : zx_gi ls k n = some z := by
  unfold zx_gi at e ⊢
  split at e
  · next e9 => rw [h.2 _ _ e9]; exact e
  · cases e
theorem zx_sb_gl {ls' ls : zx_L} (h : zx_sb ls' ls) {k n : Nat} {z : Nat × Value} (e : zx_gl ls' k n = some z) : zx_gl ls k n = some z := by
  unfold zx_gl at e ⊢
  split at e
  · next e9 => rw [h.2 _ _ e9]; exact e
  · cases e
theorem zx_sb_gr {ls' ls : zx_L} (h : zx_sb ls' ls) {k n : Nat} {z : Nat × Value} (e : zx_gr ls' k n = some z) : zx_gr ls k n = some z := by
  unfold zx_gr at e ⊢
  split at e
  · next e9 => rw [h.2 _ _ e9]; exact e
  · cases e
theorem zx_sb_l {ls' ls : zx_L} (h : zx_sb ls' ls) {i : Instr} {z : Nat × Value} (e : zx_l i ls' = some z) : zx_l i ls = some z := by
  unfold zx_l at e ⊢
  split at e
  · exact zx_sb_gi h e
  · exact zx_sb_gi h e
  · exact zx_sb_gl h e
  · exact zx_sb_gl h e
  · exact zx_sb_gr h e
  · exact zx_sb_gr h e
  · cases e
/-- a load is nothing else -/
theorem zx_l_only {P : zx_P} {o nL n pc : Nat} {ls' ls : zx_L} {i : Instr} {z : Nat × Value} (e : zx_l i ls = some z) (st : List Value) (h : zx_H) (r : Option FieldType) : zx_t i nL ls' st = none ∧ zx_j i n pc st = none ∧ zx_g P o i st h = none ∧ zx_r i n r st = none ∧ zx_n P o i n st = none ∧ zx_k P o i n st h = none := by
  unfold zx_l at e
  split at e
  all_goals first | (cases e; done) | exact ⟨rfl, rfl, rfl, rfl, rfl, rfl⟩
theorem zx_sb_t {ls' ls : zx_L} (h : zx_sb ls' ls) {i : Instr} {nL k : Nat} {st st' : List Value} {l1 : zx_L} (e : zx_t i nL ls' st = some (k, l1, st')) : ∃ l2, zx_t i nL ls st = some (k, l2, st') ∧ zx_sb l1 l2 := by
  unfold zx_t at e ⊢
  split at e
  · split at e
    · next hc => cases e; exact ⟨_, by rw [if_pos hc], zx_sb1 h⟩
    · cases e
  · split at e
    · next hc => cases e; exact ⟨_, by rw [if_pos hc], zx_sb1 h⟩
    · cases e
  · split at e
    · next hc => cases e; exact ⟨_, by rw [if_pos hc], zx_sb2 h⟩
    · cases e
  · split at e
    · next hc => cases e; exact ⟨_, by rw [if_pos hc], zx_sb2 h⟩
    · cases e
  · split at e
    · next hc => cases e; exact ⟨_, by rw [if_pos hc], zx_sb1 h⟩
    · cases e
  · split at e
    · next hc => cases e; exact ⟨_, by rw [if_pos hc], zx_sb1 h⟩
    · cases e
  · split at e
    · next x e9 =>
      split at e
      · next hc => cases e; exact ⟨_, by simp only [h.2 _ _ e9]; rw [if_pos hc], zx_sb1 h⟩
      · cases e
    · cases e
  · cases e
/-- a store is no other thing, whatever the locals -/
theorem zx_t_none {ls' ls : zx_L} (h : zx_sb ls' ls) {P : zx_P} {o nL n pc : Nat} {i : Instr} {st : List Value} {hp : zx_H} {r : Option FieldType} (e : zx_t i nL ls' st = none) (e2 : ¬ zx_t i nL ls st = none) : zx_j i n pc st = none ∧ zx_g P o i st hp = none ∧ zx_r i n r st = none ∧ zx_n P o i n st = none ∧ zx_k P o i n st hp = none := by
  unfold zx_t at e2
  split at e2
  all_goals first | exact absurd rfl e2 | exact ⟨rfl, rfl, rfl, rfl, rfl⟩
theorem zx_sb_o {P : zx_P} {q : zx_M} {pc : Nat} {ls' ls : zx_L} {st : List Value} {h : zx_H} (hs : zx_sb ls' ls) {R : zx_R} (e : zx_o P q pc ls' st h = some R) :
    (∃ pc' l1 l2 st' h', R = .inl (pc', l1, st', h') ∧ zx_o P q pc ls st h = some (.inl (pc', l2, st', h')) ∧ zx_sb l1 l2) ∨ (∃ z, R = .inr z ∧ zx_o P q pc ls st h = some (.inr z)) := by
  unfold zx_o at e ⊢
  cases ea : zx_at (zx_mi q) pc with
  | none => simp only [ea] at e; cases e
  | some il =>
  obtain ⟨i, len⟩ := il
  simp only [ea] at e ⊢
  cases e1 : zx_s i st with
  | some z =>
    obtain ⟨k, st'⟩ := z
    simp only [e1] at e ⊢
    by_cases hc : len = k
    · rw [if_pos hc] at e ⊢; cases e; exact Or.inl ⟨_, _, _, _, _, rfl, rfl, hs⟩
    · rw [if_neg hc] at e; cases e
  | none =>
  simp only [e1] at e ⊢
  cases e2 : zx_l i ls' with
  | some z =>
    obtain ⟨k, v⟩ := z
    simp only [e2] at e
    simp only [zx_sb_l hs e2]
    by_cases hc : len = k
    · rw [if_pos hc] at e ⊢; cases e; exact Or.inl ⟨_, _, _, _, _, rfl, rfl, hs⟩
    · rw [if_neg hc] at e; cases e
  | none =>
  simp only [e2] at e
  cases e2' : zx_l i ls with
  | some z =>
    obtain ⟨a1, a2, a3, a4, a5, a6⟩ := zx_l_only (P := P) (o := zx_mo q) (nL := zx_ml q) (n := len) (pc := pc) (ls' := ls') e2' st h (zx_mr q)
    simp only [a1, a2, a3, a4, a5, a6] at e
    cases e
  | none =>
  cases e3 : zx_t i (zx_ml q) ls' st with
  | some z =>
    obtain ⟨k, l1, st'⟩ := z
    obtain ⟨l2, e4, e5⟩ := zx_sb_t hs e3
    simp only [e3] at e
    simp only [e4]
    by_cases hc : len = k
    · rw [if_pos hc] at e ⊢; cases e; exact Or.inl ⟨_, _, _, _, _, rfl, rfl, e5⟩
    · rw [if_neg hc] at e; cases e
  | none =>
  by_cases e3' : zx_t i (zx_ml q) ls st = none
  · simp only [e3] at e
    simp only [e3']
    cases e4 : zx_j i len pc st with
    | some z => obtain ⟨pc', st'⟩ := z; simp only [e4] at e ⊢; cases e; exact Or.inl ⟨_, _, _, _, _, rfl, rfl, hs⟩
    | none =>
    simp only [e4] at e ⊢
    cases e5 : zx_g P (zx_mo q) i st h with
    | some z =>
      obtain ⟨k, st', h'⟩ := z
      simp only [e5] at e ⊢
      by_cases hc : len = k
      · rw [if_pos hc] at e ⊢; cases e; exact Or.inl ⟨_, _, _, _, _, rfl, rfl, hs⟩
      · rw [if_neg hc] at e; cases e
    | none =>
    simp only [e5] at e ⊢
    refine Or.inr ?_
    cases e6 : zx_r i len (zx_mr q) st with
    | some z => simp only [e6] at e ⊢; cases e; exact ⟨_, rfl, rfl⟩
    | none =>
    simp only [e6] at e ⊢
    cases e7 : zx_n P (zx_mo q) i len st with
    | some z => simp only [e7] at e ⊢; cases e; exact ⟨_, rfl, rfl⟩
    | none =>
    simp only [e7] at e ⊢
    cases e8 : zx_k P (zx_mo q) i len st h with
    | some z => simp only [e8] at e ⊢; cases e; exact ⟨_, rfl, rfl⟩
    | none => simp only [e8] at e; cases e
  · obtain ⟨a2, a3, a4, a5, a6⟩ := zx_t_none (P := P) (o := zx_mo q) (n := len) (pc := pc) (hp := h) (r := zx_mr q) hs e3 e3'
    simp only [e3, a2, a3, a4, a5, a6] at e
    cases e
theorem zx_sb_x {P : zx_P} : ∀ (n d : Nat) (q : zx_M) (pc : Nat) (ls' ls : zx_L) (st : List Value) (h : zx_H) (R : Option Value × zx_H), zx_sb ls' ls → zx_x P n d q pc ls' st h = some R → zx_x P n d q pc ls st h = some R := by
  intro n
  induction n with
  | zero => intro d q pc ls' ls st h R _ hx; simp [zx_x] at hx
  | succ n ih =>
    intro d q pc ls' ls st h R hs hx
    rw [zx_x_succ] at hx ⊢
    cases e : zx_o P q pc ls' st h with
    | none => rw [e] at hx; cases hx
    | some z =>
      rw [e] at hx
      rcases zx_sb_o hs e with ⟨pc', l1, l2, st', h', rfl, e2, e3⟩ | ⟨z, rfl, e2⟩
      · rw [e2]; exact ih _ _ _ _ _ _ _ _ e3 hx
      · rw [e2]
        unfold zx_nx at hx ⊢
        rcases z with r | st' | ⟨cj, as, rest⟩
        · exact hx
        · dsimp only at hx ⊢
          split at hx
          · cases hx
          · exact ih _ _ _ _ _ _ _ _ hs hx
        · dsimp only at hx ⊢
          split at hx
          · cases hx
          · split at hx
            · cases hx
            · next q' hq' =>
              split at hx
              · cases hx
              · next r h' hr => exact ih _ _ _ _ _ _ _ _ hs hx
theorem zx_in_lk {ls : zx_L} : ∀ {ls' : zx_L}, zx_in ls ls' → ∀ j w, zx_lk ls' j = some w → zx_lk ls j = some w
  | [], _, _, _, e => by cases e
  | q :: r, h, j, w, e => by
    rw [zx_lk] at e
    split at e
    · next e2 => rw [← Nat.eq_of_beq_eq_true e2, ← Option.some.inj e]; exact h.1
    · exact zx_in_lk h.2 j w e
theorem zx_T.lk {P : zx_P} {d : Nat} {q : zx_M} {pc : Nat} {ls ls' : zx_L} {st : List Value} {h : zx_H} {F : Option Value → zx_H → Prop} (hn : zx_nd ls' = true) (hl : zx_in ls ls') (ht : zx_T P d q pc ls' st h F) : zx_T P d q pc ls st h F := by
  obtain ⟨n, r, h', hx, hf⟩ := ht
  exact ⟨n, r, h', zx_sb_x n d q pc ls' ls st h _ ⟨hn, zx_in_lk hl⟩ hx, hf⟩
theorem zx_T.im {P : zx_P} {d : Nat} {q : zx_M} {pc : Nat} {ls : zx_L} {st : List Value} {h : zx_H} {F G : Option Value → zx_H → Prop} (ht : zx_T P d q pc ls st h F) (hi : ∀ r h', F r h' → G r h') : zx_T P d q pc ls st h G := by
  obtain ⟨n, r, h', hx, hf⟩ := ht
  exact ⟨n, r, h', hx, hi r h' hf⟩
end
section
/-! ===== 48: the reference's fields and rows as whole numbers; rules for its methods ===== -/
abbrev zI (x : Int) : Int32 := Int32.ofInt x
abbrev zL (x : Int) : Int64 := Int64.ofInt x
theorem zI_i {x : Int} (h1 : -2147483648 ≤ x) (h2 : x ≤ 2147483647) : (zI x).toInt = x := Int32.toInt_ofInt_of_le (by omega) (by omega)
theorem zL_i {x : Int} (h1 : -9223372036854775808 ≤ x) (h2 : x ≤ 9223372036854775807) : (zL x).toInt = x := Int64.toInt_ofInt_of_le (by omega) (by omega)
theorem zI_c {x : Int} (h1 : 0 ≤ x) (h2 : x ≤ 2147483647) : (zI x).toNatClampNeg = x.toNat := by rw [← Int32.toNat_toInt, zI_i (by omega) h2]
def zv_i (h : zx_H) (k : Nat) : Int := match zx_fld h 44 k with
  | some (.int x) => x.toInt
  | _ => 0
def zv_l (h : zx_H) (k : Nat) : Int := match zx_fld h 44 k with
  | some (.long x) => x.toInt
  | _ => 0
def zv_a (h : zx_H) (a : Nat) (i : Int) : Int := match zx_arr h a with
  | some (_, _, .inl f) => (f i.toNat).toInt
  | _ => 0
def zv_b (h : zx_H) (a : Nat) (i : Int) : Int := match zx_arr h a with
  | some (_, _, .inr (.inl f)) => (f i.toNat).toInt
  | _ => 0
section ZVW
variable {W : List (Nat × Nat)} {h h' : zx_H} {a k : Nat}
theorem zv_wi (w : zb_W W h h') (e : za_in W 44 k = false) : zv_i h' k = zv_i h k := by unfold zv_i; rw [w.1 44 k e]
theorem zv_wl (w : zb_W W h h') (e : za_in W 44 k = false) : zv_l h' k = zv_l h k := by unfold zv_l; rw [w.1 44 k e]
theorem zv_wa (w : zb_W W h h') (e : za_in W a 0 = false) (i : Int) : zv_a h' a i = zv_a h a i := by unfold zv_a; rw [w.2 a e]
theorem zv_wb (w : zb_W W h h') (e : za_in W a 0 = false) (i : Int) : zv_b h' a i = zv_b h a i := by unfold zv_b; rw [w.2 a e]
end ZVW
/-- more may be written -/
theorem zb_W.wd {W V : List (Nat × Nat)} {h h' : zx_H} (a : zb_W V h h') (hs : V.all (fun q => za_in W q.1 q.2) = true) : zb_W W h h' :=
  a.sub fun x k hx => by
    have := List.all_eq_true.mp hs (x, k) (za_in_iff.mp hx)
    exact this
def zr_f (k : Nat) : Option za_T := match (zc_H[44]? : Option za_D) with
  | some (.inr (_, fd)) => fd[k]?
  | _ => none
theorem zr_o {h : zx_H} (hI : zb_I zc_H h) : ∃ fs, h[44]? = some (.inr (10, fs)) ∧ ∀ k t, zr_f k = some t → ∃ v, fs[k]? = some v ∧ zb_T v t := by
  obtain ⟨fd, hfd⟩ : ∃ fd, zc_H[44]? = some (.inr (10, fd)) := ⟨_, rfl⟩
  obtain ⟨fs, e1, e2⟩ := hI.obj hfd
  refine ⟨fs, e1, fun k t ht => ?_⟩
  have ht' : fd[k]? = some t := by unfold zr_f at ht; rw [hfd] at ht; exact ht
  exact e2.at1 k ht'
theorem zr_fi {h : zx_H} (hI : zb_I zc_H h) {k : Nat} {lo hi : Int} (e : zr_f k = some (.inl (lo, hi))) : zx_fld h 44 k = some (.int (zI (zv_i h k))) ∧ lo ≤ zv_i h k ∧ zv_i h k ≤ hi := by
  obtain ⟨fs, e1, e2⟩ := zr_o hI
  obtain ⟨v, e3, x, rfl, e5, e6⟩ := e2 k _ e
  have e7 : zx_fld h 44 k = some (.int x) := by unfold zx_fld; rw [e1]; exact e3
  have e8 : zv_i h k = x.toInt := by unfold zv_i; rw [e7]
  rw [e8, e7, zI, Int32.ofInt_toInt]
  exact ⟨rfl, e5, e6⟩
theorem zv_ri {h : zx_H} (hI : zb_I zc_H h) {k : Nat} {lo hi : Int} (e : zr_f k = some (.inl (lo, hi))) : lo ≤ zv_i h k ∧ zv_i h k ≤ hi := (zr_fi hI e).2
theorem zr_fa {h : zx_H} (hI : zb_I zc_H h) {a t n : Nat} {lo hi : Int} (e : zc_H[a]? = some (.inl (t, n, lo, hi))) (ht : ¬ t = 1) : ∃ f : Nat → Int32, h[a]? = some (.inl (t, n, .inl f)) ∧ (∀ i : Int, zv_a h a i = (f i.toNat).toInt) ∧ ∀ i : Int, lo ≤ zv_a h a i ∧ zv_a h a i ≤ hi := by
  obtain ⟨f, e1, e2⟩ := hI.arr e ht
  have e3 : ∀ i : Int, zv_a h a i = (f i.toNat).toInt := fun i => by unfold zv_a zx_arr; rw [e1]
  exact ⟨f, e1, e3, fun i => by rw [e3]; exact e2 _⟩
theorem zv_ra {h : zx_H} (hI : zb_I zc_H h) {a t n : Nat} {lo hi : Int} (e : zc_H[a]? = some (.inl (t, n, lo, hi))) (ht : Nat.beq t 1 = false) (i : Int) : lo ≤ zv_a h a i ∧ zv_a h a i ≤ hi := by
  obtain ⟨f, _, _, e3⟩ := zr_fa hI e (fun z => by rw [z] at ht; cases ht)
  exact e3 i
theorem zr_fb {h : zx_H} (hI : zb_I zc_H h) {a n : Nat} {lo hi : Int} (e : zc_H[a]? = some (.inl (1, n, lo, hi))) : ∃ f : Nat → Int64, h[a]? = some (.inl (1, n, .inr (.inl f))) ∧ ∀ i : Int, zv_b h a i = (f i.toNat).toInt := by
  obtain ⟨f, e1⟩ := hI.lng e
  exact ⟨f, e1, fun i => by unfold zv_b zx_arr; rw [e1]⟩
theorem zv_rb {h : zx_H} (a : Nat) (i : Int) : -9223372036854775808 ≤ zv_b h a i ∧ zv_b h a i ≤ 9223372036854775807 := by
  unfold zv_b
  split
  · next f e =>
    have h1 := Int64.le_toInt (f i.toNat)
    have h2 := Int64.toInt_lt (f i.toNat)
    omega
  · omega
section ZR
variable {d pc : Nat} {q : zx_M} {ls : zx_L} {r : List Value} {h : zx_H} {F : Option Value → zx_H → Prop}
theorem zr_gi {idx k : Nat} {lo hi e : Int} (ha : zx_at (zx_mi q) pc = some (.getfield idx, 3)) (hp : zx_pf zp_P (zx_mo q) idx = some (10, k)) (hk : zr_f k = some (.inl (lo, hi))) (hI : zb_I zc_H h) (he : zv_i h k = e) (ht : lo ≤ e → e ≤ hi → zx_T zp_P d q (pc + 3) ls (.int (zI e) :: r) h F) : zx_T zp_P d q pc ls (.ref 44 :: r) h F := by
  obtain ⟨fs, e1, _⟩ := zr_o hI
  obtain ⟨e3, e4, e5⟩ := zr_fi hI hk
  rw [he] at e3 e4 e5
  refine zx_T.g (st' := .int (zI e) :: r) (h' := h) ha rfl rfl rfl rfl ?_ (ht e4 e5)
  show (zx_gf zp_P (zx_mo q) idx 44 h).map _ = _
  rw [zb_gfx hp e1]
  unfold zx_fld at e3
  rw [e1] at e3
  dsimp only at e3
  rw [e3]; rfl
theorem zr_gl {idx k : Nat} {e : Int} (ha : zx_at (zx_mi q) pc = some (.getfield idx, 3)) (hp : zx_pf zp_P (zx_mo q) idx = some (10, k)) (hk : zr_f k = some (.inr (.inl ()))) (hI : zb_I zc_H h) (he : zv_l h k = e) (ht : zx_T zp_P d q (pc + 3) ls (.long (zL e) :: r) h F) : zx_T zp_P d q pc ls (.ref 44 :: r) h F := by
  obtain ⟨fs, e1, e2⟩ := zr_o hI
  obtain ⟨v, e3, x, rfl⟩ := e2 k _ hk
  have e7 : zx_fld h 44 k = some (.long x) := by unfold zx_fld; rw [e1]; exact e3
  have e8 : zv_l h k = x.toInt := by unfold zv_l; rw [e7]
  refine zx_T.g (st' := .long (zL e) :: r) (h' := h) ha rfl rfl rfl rfl ?_ ht
  show (zx_gf zp_P (zx_mo q) idx 44 h).map _ = _
  rw [zb_gfx hp e1, e3, ← he, e8, zL, Int64.ofInt_toInt]; rfl
theorem zr_gr {idx k b : Nat} (ha : zx_at (zx_mi q) pc = some (.getfield idx, 3)) (hp : zx_pf zp_P (zx_mo q) idx = some (10, k)) (hk : zr_f k = some (.inr (.inr b))) (hI : zb_I zc_H h) (ht : zx_T zp_P d q (pc + 3) ls (.ref b :: r) h F) : zx_T zp_P d q pc ls (.ref 44 :: r) h F := by
  obtain ⟨fs, e1, e2⟩ := zr_o hI
  obtain ⟨v, e3, e4⟩ := e2 k _ hk
  have e5 : v = .ref b := e4
  subst e5
  refine zx_T.g (st' := .ref b :: r) (h' := h) ha rfl rfl rfl rfl ?_ ht
  show (zx_gf zp_P (zx_mo q) idx 44 h).map _ = _
  rw [zb_gfx hp e1, e3]; rfl
theorem zr_put {k : Nat} {t : za_T} {idx o : Nat} {ty : FieldType} {v : Value} (hp : zx_pf zp_P o idx = some (10, k)) (hk : zr_f k = some t) (hty : za_pty zp_P o idx = some ty) (hn : narrow ty v = v ∧ fits ty v = true) (hv : zb_T v t) (hI : zb_I zc_H h) : ∃ h', zx_pu zp_P o idx 44 v h = some h' ∧ zb_I zc_H h' ∧ zb_W [(44, k)] h h' ∧ zx_fld h' 44 k = some v := by
  obtain ⟨fd, hfd⟩ : ∃ fd, zc_H[44]? = some (.inr (10, fd)) := ⟨_, rfl⟩
  obtain ⟨fs, e1, e2⟩ := hI.obj hfd
  have hk' : fd[k]? = some t := by unfold zr_f at hk; rw [hfd] at hk; exact hk
  obtain ⟨p1, p2, p3, _, p5⟩ := zb_put hI hp hfd hk' e1 e2 hty hn hv (W := [(44, k)]) (za_in_iff.mpr List.mem_cons_self)
  exact ⟨_, p1, p2, p5, by rw [zb_fld_set e1 p3, if_pos ⟨rfl, rfl⟩]⟩
theorem zr_pi {idx k : Nat} {ty : FieldType} {lo hi e : Int} (ha : zx_at (zx_mi q) pc = some (.putfield idx, 3)) (hp : zx_pf zp_P (zx_mo q) idx = some (10, k)) (hk : zr_f k = some (.inl (lo, hi))) (hty : za_pty zp_P (zx_mo q) idx = some ty) (hf : za_fty ty (lo, hi) = true) (hr : za_inr lo hi = true) (hI : zb_I zc_H h) (h1 : lo ≤ e) (h2 : e ≤ hi) (ht : ∀ h', zb_I zc_H h' → zb_W [(44, k)] h h' → zv_i h' k = e → zx_T zp_P d q (pc + 3) ls r h' F) : zx_T zp_P d q pc ls (.int (zI e) :: .ref 44 :: r) h F := by
  have hr := zb_inr hr
  have e0 : (zI e).toInt = e := zI_i (by omega) (by omega)
  obtain ⟨h', p1, p2, p3, p4⟩ := zr_put hp hk hty (zb_fty (x := zI e) hf (by rw [e0]; exact h1) (by rw [e0]; exact h2)) ⟨zI e, rfl, by rw [e0]; exact h1, by rw [e0]; exact h2⟩ hI
  refine zx_T.g (st' := r) (h' := h') ha rfl rfl rfl rfl ?_ (ht h' p2 p3 (by unfold zv_i; rw [p4]; exact e0))
  show (zx_pu zp_P (zx_mo q) idx 44 (.int (zI e)) h).map _ = _
  rw [p1]; rfl
theorem zr_pl {idx k : Nat} {e : Int} (ha : zx_at (zx_mi q) pc = some (.putfield idx, 3)) (hp : zx_pf zp_P (zx_mo q) idx = some (10, k)) (hk : zr_f k = some (.inr (.inl ()))) (hty : za_pty zp_P (zx_mo q) idx = some .long) (hI : zb_I zc_H h) (ht : ∀ h', zb_I zc_H h' → zb_W [(44, k)] h h' → zx_T zp_P d q (pc + 3) ls r h' F) : zx_T zp_P d q pc ls (.long (zL e) :: .ref 44 :: r) h F := by
  obtain ⟨h', p1, p2, p3, p4⟩ := zr_put hp hk hty (v := .long (zL e)) ⟨rfl, rfl⟩ ⟨zL e, rfl⟩ hI
  refine zx_T.g (st' := r) (h' := h') ha rfl rfl rfl rfl ?_ (ht h' p2 p3)
  show (zx_pu zp_P (zx_mo q) idx 44 (.long (zL e)) h).map _ = _
  rw [p1]; rfl
theorem zr_ix {n : Nat} {i : Int} (h1 : 0 ≤ i) (h2 : i < n) (hn : n ≤ 100000) : ¬ (zI i < 0 ∨ n ≤ (zI i).toNatClampNeg) ∧ (zI i).toNatClampNeg = i.toNat := by
  have e0 : (zI i).toInt = i := zI_i (by omega) (by omega)
  exact ⟨zb_idx (by omega) (by omega), zI_c h1 (by omega)⟩
theorem zr_al {a n : Nat} {lo hi i e : Int} (ha : zx_at (zx_mi q) pc = some (.iaload, 1)) (hc : zc_H[a]? = some (.inl (0, n, lo, hi))) (hn : Nat.ble n 100000 = true) (hI : zb_I zc_H h) (h1 : 0 ≤ i) (h2 : i < n) (he : zv_a h a i = e) (ht : lo ≤ e → e ≤ hi → zx_T zp_P d q (pc + 1) ls (.int (zI e) :: r) h F) : zx_T zp_P d q pc ls (.int (zI i) :: .ref a :: r) h F := by
  obtain ⟨f, e1, e2, e3⟩ := zr_fa hI hc (by omega)
  obtain ⟨x1, x2⟩ := zr_ix h1 h2 (Nat.le_of_ble_eq_true hn)
  have e4 := e3 i
  rw [he] at e4
  refine zx_T.g (st' := .int (zI e) :: r) (h' := h) ha rfl rfl rfl rfl ?_ (ht e4.1 e4.2)
  simp only [zx_g, e1]
  rw [if_neg x1, x2, ← he, e2, zI, Int32.ofInt_toInt]
theorem zr_bl {a n : Nat} {lo hi i e : Int} (ha : zx_at (zx_mi q) pc = some (.baload, 1)) (hc : zc_H[a]? = some (.inl (2, n, lo, hi))) (hn : Nat.ble n 100000 = true) (hI : zb_I zc_H h) (h1 : 0 ≤ i) (h2 : i < n) (he : zv_a h a i = e) (ht : lo ≤ e → e ≤ hi → zx_T zp_P d q (pc + 1) ls (.int (zI e) :: r) h F) : zx_T zp_P d q pc ls (.int (zI i) :: .ref a :: r) h F := by
  obtain ⟨f, e1, e2, e3⟩ := zr_fa hI hc (by omega)
  obtain ⟨x1, x2⟩ := zr_ix h1 h2 (Nat.le_of_ble_eq_true hn)
  have e4 := e3 i
  rw [he] at e4
  refine zx_T.g (st' := .int (zI e) :: r) (h' := h) ha rfl rfl rfl rfl ?_ (ht e4.1 e4.2)
  simp only [zx_g, e1]
  rw [if_neg x1, x2, ← he, e2, zI, Int32.ofInt_toInt]
theorem zr_ll {a n : Nat} {lo hi i e : Int} (ha : zx_at (zx_mi q) pc = some (.laload, 1)) (hc : zc_H[a]? = some (.inl (1, n, lo, hi))) (hn : Nat.ble n 100000 = true) (hI : zb_I zc_H h) (h1 : 0 ≤ i) (h2 : i < n) (he : zv_b h a i = e) (ht : zx_T zp_P d q (pc + 1) ls (.long (zL e) :: r) h F) : zx_T zp_P d q pc ls (.int (zI i) :: .ref a :: r) h F := by
  obtain ⟨f, e1, e2⟩ := zr_fb hI hc
  obtain ⟨x1, x2⟩ := zr_ix h1 h2 (Nat.le_of_ble_eq_true hn)
  refine zx_T.g (st' := .long (zL e) :: r) (h' := h) ha rfl rfl rfl rfl ?_ ht
  simp only [zx_g, e1]
  rw [if_neg x1, x2, ← he, e2, zL, Int64.ofInt_toInt]
theorem zr_upd {f : Nat → Int32} {i j : Int} {x : Int32} (h1 : 0 ≤ i) (hj : 0 ≤ j) : (upd f i.toNat x j.toNat).toInt = if j = i then x.toInt else (f j.toNat).toInt := by
  unfold upd
  by_cases e : j = i
  · rw [if_pos e, if_pos (by rw [e])]
  · rw [if_neg e, if_neg (by omega)]
theorem zr_as {a n : Nat} {lo hi i e : Int} (ha : zx_at (zx_mi q) pc = some (.iastore, 1)) (hc : zc_H[a]? = some (.inl (0, n, lo, hi))) (hn : Nat.ble n 100000 = true) (hr : za_inr lo hi = true) (hI : zb_I zc_H h) (h1 : 0 ≤ i) (h2 : i < n) (h3 : lo ≤ e) (h4 : e ≤ hi) (ht : ∀ h', zb_I zc_H h' → zb_W [(a, 0)] h h' → (∀ j, 0 ≤ j → zv_a h' a j = if j = i then e else zv_a h a j) → zx_T zp_P d q (pc + 1) ls r h' F) : zx_T zp_P d q pc ls (.int (zI e) :: .int (zI i) :: .ref a :: r) h F := by
  have hr := zb_inr hr
  have e0 : (zI e).toInt = e := zI_i (by omega) (by omega)
  obtain ⟨f, e1, e2⟩ := hI.arr hc (by omega)
  obtain ⟨x1, x2⟩ := zr_ix h1 h2 (Nat.le_of_ble_eq_true hn)
  have hl : a < h.length := (List.getElem?_eq_some_iff.mp e1).1
  obtain ⟨p1, p2⟩ := zb_arrw (x' := (0, n, .inl (upd f i.toNat (zI e)))) hI hc e1 ⟨rfl, rfl, by omega, fun j => by
    unfold upd; split
    · omega
    · exact e2 j⟩ (W := [(a, 0)]) (za_in_iff.mpr List.mem_cons_self)
  refine zx_T.g (st' := r) (h' := h.set a (.inl (0, n, .inl (upd f i.toNat (zI e))))) ha rfl rfl rfl rfl ?_ (ht _ p1 p2 fun j hj => ?_)
  · simp only [zx_g, e1]
    rw [if_neg x1, x2]
  · have q1 : zv_a (h.set a (.inl (0, n, .inl (upd f i.toNat (zI e))))) a j = (upd f i.toNat (zI e) j.toNat).toInt := by
      unfold zv_a zx_arr
      rw [List.getElem?_set, if_pos rfl, if_pos hl]
    have q2 : zv_a h a j = (f j.toNat).toInt := by unfold zv_a zx_arr; rw [e1]
    rw [q1, q2, zr_upd h1 hj, e0]
theorem zr_bs {a n : Nat} {i e : Int} (ha : zx_at (zx_mi q) pc = some (.bastore, 1)) (hc : zc_H[a]? = some (.inl (2, n, 0, 1))) (hn : Nat.ble n 100000 = true) (hI : zb_I zc_H h) (h1 : 0 ≤ i) (h2 : i < n) (h3 : 0 ≤ e) (h4 : e ≤ 1) (ht : ∀ h', zb_I zc_H h' → zb_W [(a, 0)] h h' → (∀ j, 0 ≤ j → zv_a h' a j = if j = i then e else zv_a h a j) → zx_T zp_P d q (pc + 1) ls r h' F) : zx_T zp_P d q pc ls (.int (zI e) :: .int (zI i) :: .ref a :: r) h F := by
  have e0 : (zI e).toInt = e := zI_i (by omega) (by omega)
  have e9 : (vp_nar .boolean (zI e)).toInt = e := by
    rcases zb_01 (x := zI e) (by omega) (by omega) with z | z
    · rw [z, show (vp_nar .boolean 0).toInt = 0 by decide +kernel, ← e0, z]; rfl
    · rw [z, show (vp_nar .boolean 1).toInt = 1 by decide +kernel, ← e0, z]; decide +kernel
  obtain ⟨f, e1, e2⟩ := hI.arr hc (by omega)
  obtain ⟨x1, x2⟩ := zr_ix h1 h2 (Nat.le_of_ble_eq_true hn)
  have hl : a < h.length := (List.getElem?_eq_some_iff.mp e1).1
  obtain ⟨p1, p2⟩ := zb_arrw (x' := (2, n, .inl (upd f i.toNat (vp_nar .boolean (zI e))))) hI hc e1 ⟨rfl, rfl, by omega, fun j => by
    unfold upd; split
    · omega
    · exact e2 j⟩ (W := [(a, 0)]) (za_in_iff.mpr List.mem_cons_self)
  refine zx_T.g (st' := r) (h' := h.set a (.inl (2, n, .inl (upd f i.toNat (vp_nar .boolean (zI e)))))) ha rfl rfl rfl rfl ?_ (ht _ p1 p2 fun j hj => ?_)
  · simp only [zx_g, e1]
    rw [if_neg x1, x2]
  · have q1 : zv_a (h.set a (.inl (2, n, .inl (upd f i.toNat (vp_nar .boolean (zI e)))))) a j = (upd f i.toNat (vp_nar .boolean (zI e)) j.toNat).toInt := by
      unfold zv_a zx_arr
      rw [List.getElem?_set, if_pos rfl, if_pos hl]
    have q2 : zv_a h a j = (f j.toNat).toInt := by unfold zv_a zx_arr; rw [e1]
    rw [q1, q2, zr_upd h1 hj, e9]
theorem zr_ls {a n : Nat} {lo hi i e : Int} (ha : zx_at (zx_mi q) pc = some (.lastore, 1)) (hc : zc_H[a]? = some (.inl (1, n, lo, hi))) (hn : Nat.ble n 100000 = true) (hI : zb_I zc_H h) (h1 : 0 ≤ i) (h2 : i < n) (ht : ∀ h', zb_I zc_H h' → zb_W [(a, 0)] h h' → (∀ j, 0 ≤ j → zv_b h' a j = if j = i then (zL e).toInt else zv_b h a j) → zx_T zp_P d q (pc + 1) ls r h' F) : zx_T zp_P d q pc ls (.long (zL e) :: .int (zI i) :: .ref a :: r) h F := by
  obtain ⟨f, e1⟩ := hI.lng hc
  obtain ⟨x1, x2⟩ := zr_ix h1 h2 (Nat.le_of_ble_eq_true hn)
  have hl : a < h.length := (List.getElem?_eq_some_iff.mp e1).1
  obtain ⟨p1, p2⟩ := zb_arrw (x' := (1, n, .inr (.inl (vp_updL f i.toNat (zL e))))) hI hc e1 ⟨rfl, rfl, rfl⟩ (W := [(a, 0)]) (za_in_iff.mpr List.mem_cons_self)
  refine zx_T.g (st' := r) (h' := h.set a (.inl (1, n, .inr (.inl (vp_updL f i.toNat (zL e)))))) ha rfl rfl rfl rfl ?_ (ht _ p1 p2 fun j hj => ?_)
  · simp only [zx_g, e1]
    rw [if_neg x1, x2]
  · have q1 : zv_b (h.set a (.inl (1, n, .inr (.inl (vp_updL f i.toNat (zL e)))))) a j = (vp_updL f i.toNat (zL e) j.toNat).toInt := by
      unfold zv_b zx_arr
      rw [List.getElem?_set, if_pos rfl, if_pos hl]
    have q2 : zv_b h a j = (f j.toNat).toInt := by unfold zv_b zx_arr; rw [e1]
    rw [q1, q2]
    unfold vp_updL
    by_cases e : j = i
    · rw [if_pos e, if_pos (by rw [e])]
    · rw [if_neg e, if_neg (by omega)]
/-- numbers on the stack -/
theorem zr_add {x y e : Int} (ha : zx_at (zx_mi q) pc = some (.iadd, 1)) (he : x + y = e) (ht : zx_T zp_P d q (pc + 1) ls (.int (zI e) :: r) h F) : zx_T zp_P d q pc ls (.int (zI y) :: .int (zI x) :: r) h F :=
  zx_T.s ha (by show some (1, Value.int (zI x + zI y) :: r) = _; rw [zI, zI, ← Int32.ofInt_add, he]) ht
theorem zr_sub {x y e : Int} (ha : zx_at (zx_mi q) pc = some (.isub, 1)) (he : x - y = e) (ht : zx_T zp_P d q (pc + 1) ls (.int (zI e) :: r) h F) : zx_T zp_P d q pc ls (.int (zI y) :: .int (zI x) :: r) h F :=
  zx_T.s ha (by show some (1, Value.int (zI x - zI y) :: r) = _; rw [zI, zI, ← Int32.ofInt_sub, he]) ht
theorem zr_mul {x y e : Int} (ha : zx_at (zx_mi q) pc = some (.imul, 1)) (he : x * y = e) (ht : zx_T zp_P d q (pc + 1) ls (.int (zI e) :: r) h F) : zx_T zp_P d q pc ls (.int (zI y) :: .int (zI x) :: r) h F :=
  zx_T.s ha (by show some (1, Value.int (zI x * zI y) :: r) = _; rw [zI, zI, ← Int32.ofInt_mul, he]) ht
theorem zr_ladd {x y e : Int} (ha : zx_at (zx_mi q) pc = some (.ladd, 1)) (he : x + y = e) (ht : zx_T zp_P d q (pc + 1) ls (.long (zL e) :: r) h F) : zx_T zp_P d q pc ls (.long (zL y) :: .long (zL x) :: r) h F :=
  zx_T.s ha (by show some (1, Value.long (zL x + zL y) :: r) = _; rw [zL, zL, ← Int64.ofInt_add, he]) ht
theorem zr_ldiv {x y : Int} (ha : zx_at (zx_mi q) pc = some (.ldiv, 1)) (h1 : -9223372036854775808 ≤ y) (h2 : y ≤ 9223372036854775807) (h3 : ¬ y = 0) (ht : ∀ z, zx_T zp_P d q (pc + 1) ls (.long (zL z) :: r) h F) : zx_T zp_P d q pc ls (.long (zL y) :: .long (zL x) :: r) h F := by
  have hy : ¬ zL y = 0 := fun e => h3 (by have := zL_i h1 h2; rw [e] at this; exact this.symm)
  refine zx_T.s (st' := .long (zL (zL x / zL y).toInt) :: r) ha ?_ (ht _)
  show (if zL y = 0 then none else some (1, Value.long (zL x / zL y) :: r)) = _
  rw [if_neg hy, show zL (zL x / zL y).toInt = zL x / zL y from Int64.ofInt_toInt _]
theorem zr_i2l {x : Int} (ha : zx_at (zx_mi q) pc = some (.i2l, 1)) (h1 : -2147483648 ≤ x) (h2 : x ≤ 2147483647) (ht : zx_T zp_P d q (pc + 1) ls (.long (zL x) :: r) h F) : zx_T zp_P d q pc ls (.int (zI x) :: r) h F :=
  zx_T.s ha (by
    show some (1, Value.long (zI x).toInt64 :: r) = _
    rw [show (zI x).toInt64 = zL x from Int64.toInt_inj.mp (by rw [Int32.toInt_toInt64, zI_i h1 h2, zL_i (by omega) (by omega)])]) ht
theorem zr_l2i {x : Int} (ha : zx_at (zx_mi q) pc = some (.l2i, 1)) (ht : zx_T zp_P d q (pc + 1) ls (.int (zI x) :: r) h F) : zx_T zp_P d q pc ls (.long (zL x) :: r) h F :=
  zx_T.s ha (by show some (1, Value.int (zL x).toInt32 :: r) = _; rw [zL, Int64.toInt32_ofInt]) ht
/-- some number, of the ints -/
theorem zr_any {x : Int} (ht : ∀ y, -2147483648 ≤ y → y ≤ 2147483647 → zx_T zp_P d q pc ls (.int (zI y) :: r) h F) : zx_T zp_P d q pc ls (.int (zI x) :: r) h F := by
  have := ht (zI x).toInt (by have := Int32.le_toInt (zI x); omega) (by have := Int32.toInt_lt (zI x); omega)
  rwa [zI, Int32.ofInt_toInt] at this
theorem zr_and7 {x : Int} (ha : zx_at (zx_mi q) pc = some (.land, 1)) (ht : ∀ z, 0 ≤ z → z ≤ 7 → zx_T zp_P d q (pc + 1) ls (.long (zL z) :: r) h F) : zx_T zp_P d q pc ls (.long 7 :: .long (zL x) :: r) h F := by
  have hb : 0 ≤ (zL x &&& 7).toInt ∧ (zL x &&& 7).toInt ≤ 7 := by
    have e1 : (zL x &&& 7).toInt = ((zL x).toBitVec &&& 7#64).toInt := rfl
    have e2 : ((zL x).toBitVec &&& 7#64).toNat ≤ 7 := by
      rw [BitVec.toNat_and]; exact Nat.and_le_right
    rw [e1, BitVec.toInt_eq_toNat_of_lt (by omega)]
    omega
  refine zx_T.s (st' := .long (zL (zL x &&& 7).toInt) :: r) ha ?_ (ht _ hb.1 hb.2)
  show some (1, Value.long (zL x &&& 7) :: r) = _
  rw [show zL (zL x &&& 7).toInt = zL x &&& 7 from Int64.ofInt_toInt _]
def zr_sg (x y : Int) : Int := if y < x then 1 else if x = y then 0 else -1
theorem zr_lcmp {x y : Int} (ha : zx_at (zx_mi q) pc = some (.lcmp, 1)) (h1 : -9223372036854775808 ≤ x) (h2 : x ≤ 9223372036854775807) (h3 : -9223372036854775808 ≤ y) (h4 : y ≤ 9223372036854775807) (ht : ∀ z, (z = 1 ∧ y < x) ∨ (z = 0 ∧ x = y) ∨ (z = -1 ∧ x < y) → zx_T zp_P d q (pc + 1) ls (.int (zI z) :: r) h F) : zx_T zp_P d q pc ls (.long (zL y) :: .long (zL x) :: r) h F := by
  have hx := zL_i h1 h2
  have hy := zL_i h3 h4
  have key : ∃ z, lg_cmp (zL x) (zL y) = zI z ∧ ((z = 1 ∧ y < x) ∨ (z = 0 ∧ x = y) ∨ (z = -1 ∧ x < y)) := by
    unfold lg_cmp
    split
    · next e => rw [gt_iff_lt, Int64.lt_iff_toInt_lt, hx, hy] at e; exact ⟨1, rfl, Or.inl ⟨rfl, e⟩⟩
    · next e =>
      rw [gt_iff_lt, Int64.lt_iff_toInt_lt, hx, hy] at e
      split
      · next e2 => exact ⟨0, rfl, Or.inr (Or.inl ⟨rfl, by rw [← hx, ← hy, e2]⟩)⟩
      · next e2 =>
        have : ¬ x = y := fun z => e2 (by rw [z])
        exact ⟨-1, rfl, Or.inr (Or.inr ⟨rfl, by omega⟩)⟩
  obtain ⟨z, e, hz⟩ := key
  exact zx_T.s (st' := .int (zI z) :: r) ha (by show some (1, Value.int (lg_cmp (zL x) (zL y)) :: r) = _; rw [e]) (ht z hz)
theorem zr_inc {k : Nat} {n x y : Int} {ls' : zx_L} (ha : zx_at (zx_mi q) pc = some (.iinc k n, 3)) (hk : zx_lk ls k = some (.int (zI x))) (hl : Nat.blt k (zx_ml q) = true) (hy : x + n = y) (e : zx_set1 ls k (.int (zI y)) = ls') (ht : zx_T zp_P d q (pc + 3) ls' r h F) : zx_T zp_P d q pc ls r h F := by
  refine zx_T.t (ls' := ls') (st' := r) ha rfl rfl ?_ ht
  unfold zx_t
  simp only [hk]
  rw [if_pos (by rw [← Nat.blt_eq]; exact hl), ← e, ← hy, zI, zI, Int32.ofInt_add]
/-- branches -/
def zr_c (k : Jvm.ClassFile.Cond) (x y : Int) : Prop := match k with
  | .eq => x = y
  | .ne => ¬ x = y
  | .lt => x < y
  | .ge => y ≤ x
  | .gt => y < x
  | .le => x ≤ y
theorem zr_cm {k : Jvm.ClassFile.Cond} {x y : Int} (h1 : -2147483648 ≤ x) (h2 : x ≤ 2147483647) (h3 : -2147483648 ≤ y) (h4 : y ≤ 2147483647) : zx_cmp k (zI x) (zI y) = true ↔ zr_c k x y := by
  have hx := zI_i h1 h2
  have hy := zI_i h3 h4
  have he : zI x = zI y ↔ x = y := ⟨fun z => by rw [← hx, ← hy, z], fun z => by rw [z]⟩
  unfold zx_cmp zr_c
  cases k <;> simp only [decide_eq_true_eq, Int32.lt_iff_toInt_lt, Int32.le_iff_toInt_le, hx, hy, he]
theorem zr_i1 {k : Jvm.ClassFile.Cond} {off x : Int} {t : Nat} (ha : zx_at (zx_mi q) pc = some (.ifCond k off, 3)) (hg : zx_tg pc off = some t) (h1 : -2147483648 ≤ x) (h2 : x ≤ 2147483647) (ht : zr_c k x 0 → zx_T zp_P d q t ls r h F) (hf : ¬ zr_c k x 0 → zx_T zp_P d q (pc + 3) ls r h F) : zx_T zp_P d q pc ls (.int (zI x) :: r) h F := by
  have hc : zx_cmp k (zI x) 0 = true ↔ zr_c k x 0 := zr_cm (k := k) (y := 0) h1 h2 (by omega) (by omega)
  by_cases c : zr_c k x 0
  · refine zx_T.j (pc' := t) (st' := r) ha rfl rfl rfl ?_ (ht c)
    show (if (3 : Nat) = 3 then (match zx_tg pc off with
      | some t => some (if zx_cmp k (zI x) 0 then t else pc + 3, r)
      | none => none) else none) = _
    rw [if_pos rfl, hg]
    dsimp only
    rw [if_pos (hc.mpr c)]
  · refine zx_T.j (pc' := pc + 3) (st' := r) ha rfl rfl rfl ?_ (hf c)
    show (if (3 : Nat) = 3 then (match zx_tg pc off with
      | some t => some (if zx_cmp k (zI x) 0 then t else pc + 3, r)
      | none => none) else none) = _
    rw [if_pos rfl, hg]
    dsimp only
    rw [if_neg (fun z => c (hc.mp z))]
theorem zr_i2 {k : Jvm.ClassFile.Cond} {off x y : Int} {t : Nat} (ha : zx_at (zx_mi q) pc = some (.if_icmp k off, 3)) (hg : zx_tg pc off = some t) (h1 : -2147483648 ≤ x) (h2 : x ≤ 2147483647) (h3 : -2147483648 ≤ y) (h4 : y ≤ 2147483647) (ht : zr_c k x y → zx_T zp_P d q t ls r h F) (hf : ¬ zr_c k x y → zx_T zp_P d q (pc + 3) ls r h F) : zx_T zp_P d q pc ls (.int (zI y) :: .int (zI x) :: r) h F := by
  have hc := zr_cm (k := k) h1 h2 h3 h4
  by_cases c : zr_c k x y
  · refine zx_T.j (pc' := t) (st' := r) ha rfl rfl rfl ?_ (ht c)
    show (if (3 : Nat) = 3 then (match zx_tg pc off with
      | some t => some (if zx_cmp k (zI x) (zI y) then t else pc + 3, r)
      | none => none) else none) = _
    rw [if_pos rfl, hg]
    dsimp only
    rw [if_pos (hc.mpr c)]
  · refine zx_T.j (pc' := pc + 3) (st' := r) ha rfl rfl rfl ?_ (hf c)
    show (if (3 : Nat) = 3 then (match zx_tg pc off with
      | some t => some (if zx_cmp k (zI x) (zI y) then t else pc + 3, r)
      | none => none) else none) = _
    rw [if_pos rfl, hg]
    dsimp only
    rw [if_neg (fun z => c (hc.mp z))]
/-- a switch at a known number -/
theorem zr_sw {i : Instr} {len t : Nat} {x k : Int} (ha : zx_at (zx_mi q) pc = some (i, len)) (hx : x = k) (e0 : zx_s i (.int (zI k) :: r) = none) (e1 : zx_l i ls = none) (e2 : zx_t i (zx_ml q) ls (.int (zI k) :: r) = none) (e : zx_j i len pc (.int (zI k) :: r) = some (t, r)) (ht : zx_T zp_P d q t ls r h F) : zx_T zp_P d q pc ls (.int (zI x) :: r) h F := by
  subst hx
  exact zx_T.j ha e0 e1 e2 e ht
/-- calls of the reference's own methods -/
theorem zr_iv {idx cj : Nat} {q' : zx_M} {As rest st : List Value} {Fc : Option Value → zx_H → Prop} (ha : zx_at (zx_mi q) pc = some (.invokevirtual idx, 3)) (hp : zx_pc zp_P (zx_mo q) idx = some cj) (hq : (zx_pm zp_P)[cj]? = some q') (hm : zx_mc q' = some 10) (hst : st = As.reverse ++ .ref 44 :: rest) (hl : As.length = zx_mp q') (hcat : (rest.map fun v => v.category).sum ≤ 8) (hml : Nat.ble (zx_ml q') 21 = true) (hsl : (lg_sl (.ref 44 :: As)).length ≤ zx_ml q') (hI : zb_I zc_H h) (hc : zx_T zp_P d q' 0 (lv_args 0 (.ref 44 :: As)) [] h Fc) (ht : ∀ r1 h1, Fc r1 h1 → zx_T zp_P (d + 1) q (pc + 3) ls (r1.toList ++ rest) h1 F) : zx_T zp_P (d + 1) q pc ls st h F := by
  obtain ⟨fs, hfs, _⟩ := zr_o hI
  have hdrop : st.drop (zx_mp q') = .ref 44 :: rest := by rw [hst, ← hl, ← List.length_reverse, List.drop_left]
  have htake : st.take (zx_mp q') = As.reverse := by rw [hst, ← hl, ← List.length_reverse, List.take_left]
  refine zx_T.c (cj := cj) (as := .ref 44 :: As) (rest := rest) (q' := q') ha rfl rfl rfl rfl rfl rfl rfl ?_ hq hc ht
  unfold zx_k
  simp only [hp, hq, hdrop, hfs, htake, List.reverse_reverse]
  rw [if_pos ⟨trivial, hm, by rw [List.length_reverse]; exact hl, hcat, Nat.le_of_ble_eq_true hml, hsl⟩]
theorem zr_is {idx cj : Nat} {q' : zx_M} {As rest st : List Value} {Fc : Option Value → zx_H → Prop} (ha : zx_at (zx_mi q) pc = some (.invokestatic idx, 3)) (hp : zx_pc zp_P (zx_mo q) idx = some cj) (hq : (zx_pm zp_P)[cj]? = some q') (hm : zx_mc q' = none) (hst : st = As.reverse ++ rest) (hl : As.length = zx_mp q') (hcat : (rest.map fun v => v.category).sum ≤ 8) (hml : Nat.ble (zx_ml q') 21 = true) (hsl : (lg_sl As).length ≤ zx_ml q') (e6 : zx_n zp_P (zx_mo q) (.invokestatic idx) 3 st = none) (hc : zx_T zp_P d q' 0 (lv_args 0 As) [] h Fc) (ht : ∀ r1 h1, Fc r1 h1 → zx_T zp_P (d + 1) q (pc + 3) ls (r1.toList ++ rest) h1 F) : zx_T zp_P (d + 1) q pc ls st h F := by
  have hdrop : st.drop (zx_mp q') = rest := by rw [hst, ← hl, ← List.length_reverse, List.drop_left]
  have htake : st.take (zx_mp q') = As.reverse := by rw [hst, ← hl, ← List.length_reverse, List.take_left]
  refine zx_T.c (cj := cj) (as := As) (rest := rest) (q' := q') ha rfl rfl rfl rfl rfl rfl e6 ?_ hq hc ht
  unfold zx_k
  simp only [hp, hq, hdrop, htake, List.reverse_reverse]
  rw [if_pos ⟨trivial, hm, by rw [List.length_reverse]; exact hl, hcat, Nat.le_of_ble_eq_true hml, hsl⟩]
theorem zr_ir {x : Int} {ty : FieldType} (ha : zx_at (zx_mi q) pc = some (.ireturn, 1)) (hr : zx_mr q = some ty) (hn : narrow ty (.int (zI x)) = .int (zI x)) (hf : F (some (.int (zI x))) h) : zx_T zp_P d q pc ls [.int (zI x)] h F :=
  zx_T.r (r := some (.int (zI x))) ha rfl rfl rfl rfl rfl (by unfold zx_r; simp only [hr]; rw [if_pos ⟨trivial, hn⟩]) hf
theorem zr_nb {x : Int} (h1 : 0 ≤ x) (h2 : x ≤ 1) : narrow .boolean (.int (zI x)) = .int (zI x) := by
  rcases (show x = 0 ∨ x = 1 by omega) with rfl | rfl <;> decide +kernel
theorem zr_vr (ha : zx_at (zx_mi q) pc = some (.return_, 1)) (hr : zx_mr q = none) (hf : F none h) : zx_T zp_P d q pc ls [] h F :=
  zx_T.r (r := none) ha rfl rfl rfl rfl rfl (by unfold zx_r; simp only [hr]; rfl) hf
end ZR
/-- what methods leave: pure; with an int; with nothing -/
def zr_P (h : zx_H) (E : Int → Prop) : Option Value → zx_H → Prop := fun r h' => h' = h ∧ ∃ e, r = some (.int (zI e)) ∧ E e
def zr_R (W : List (Nat × Nat)) (h : zx_H) (E : Int → zx_H → Prop) : Option Value → zx_H → Prop := fun r h' => zb_I zc_H h' ∧ zb_W W h h' ∧ ∃ e, r = some (.int (zI e)) ∧ E e h'
def zr_V (W : List (Nat × Nat)) (h : zx_H) (E : zx_H → Prop) : Option Value → zx_H → Prop := fun r h' => zb_I zc_H h' ∧ zb_W W h h' ∧ r = none ∧ E h'
end
section
/-! ===== 49: contracts in the words of 48; the reference's small pure methods ===== -/
def zr_hull (cs : List (Option za_T × List (Int × Int))) (lo hi : Int) : Bool := cs.all (fun c => match c.1 with
  | some (.inl q) => za_sub2 q (lo, hi)
  | _ => false)
theorem zr_kr {cs : List (Option za_T × List (Int × Int))} {lo hi : Int} {r : Option Value} (hc : zr_hull cs lo hi = true) {c : Option za_T × List (Int × Int)} (hm : c ∈ cs) (hr : zb_R r c.1) : ∃ e, r = some (.int (zI e)) ∧ lo ≤ e ∧ e ≤ hi := by
  have h1 := List.all_eq_true.mp hc c hm
  split at h1
  · next q e =>
    rw [e] at hr
    have h2 := zb_sub2 h1
    dsimp only at h2
    unfold zb_R at hr
    split at hr
    · next e9 => cases e9
    · next v t e9 =>
      cases e9
      obtain ⟨x, rfl, x1, x2⟩ := hr
      exact ⟨x.toInt, by rw [zI, Int32.ofInt_toInt], by omega, by omega⟩
    · exact hr.elim
  · cases h1
theorem zr_kP {k : za_K} (hK : zb_K zp_P zc_H k) {lo hi : Int} (hw : k.2.2.2.2 = []) (hc : zr_hull k.2.2.2.1 lo hi = true) {q : zx_M} (hq : (zx_pm zp_P)[k.1]? = some q) {vs : List Value} {h : zx_H} (hI : zb_I zc_H h) (ha : zb_A zb_T vs k.2.2.1) : zx_T zp_P k.2.1 q 0 (lv_args 0 vs) [] h (zr_P h (fun e => lo ≤ e ∧ e ≤ hi)) :=
  (hK q hq vs h ha hI).im fun r h' ⟨_, _, h3, c, h4, h5, _⟩ => by
    obtain ⟨e, e1, e2⟩ := zr_kr hc h4 h5
    exact ⟨h3 hw, e, e1, e2⟩
theorem zr_kR {k : za_K} (hK : zb_K zp_P zc_H k) {lo hi : Int} (hc : zr_hull k.2.2.2.1 lo hi = true) {q : zx_M} (hq : (zx_pm zp_P)[k.1]? = some q) {vs : List Value} {h : zx_H} (hI : zb_I zc_H h) (ha : zb_A zb_T vs k.2.2.1) : zx_T zp_P k.2.1 q 0 (lv_args 0 vs) [] h (zr_R k.2.2.2.2 h (fun e _ => lo ≤ e ∧ e ≤ hi)) :=
  (hK q hq vs h ha hI).im fun r h' ⟨h1, h2, _, c, h4, h5, _⟩ => by
    obtain ⟨e, e1, e2⟩ := zr_kr hc h4 h5
    exact ⟨h1, h2, e, e1, e2⟩
theorem zr_kV {k : za_K} (hK : zb_K zp_P zc_H k) (hc : k.2.2.2.1.all (fun c => c.1.isNone) = true) {q : zx_M} (hq : (zx_pm zp_P)[k.1]? = some q) {vs : List Value} {h : zx_H} (hI : zb_I zc_H h) (ha : zb_A zb_T vs k.2.2.1) : zx_T zp_P k.2.1 q 0 (lv_args 0 vs) [] h (zr_V k.2.2.2.2 h (fun _ => True)) :=
  (hK q hq vs h ha hI).im fun r h' ⟨h1, h2, _, c, h4, h5, _⟩ => by
    refine ⟨h1, h2, ?_, trivial⟩
    have h6 := List.all_eq_true.mp hc c h4
    cases e : c.1 with
    | some z => rw [e] at h6; cases h6
    | none =>
      rw [e] at h5
      cases r with
      | none => rfl
      | some v => exact h5.elim
theorem zr_ti {x lo hi : Int} (h1 : lo ≤ x) (h2 : x ≤ hi) (hr : za_inr lo hi = true) : zb_T (.int (zI x)) (.inl (lo, hi)) := by
  have hr := zb_inr hr
  exact ⟨zI x, rfl, by rw [zI_i (by omega) (by omega)]; exact h1, by rw [zI_i (by omega) (by omega)]; exact h2⟩
end
section
/-! ===== 50: the reference, method by method (by program) ===== -/
set_option maxRecDepth 100000 in
set_option maxHeartbeats 4000000 in
theorem zm_in {h : zx_H} (hI : zb_I zc_H h) {v : Int} {l : Int} {u : Int} (v1 : -2147483648 ≤ v) (v2 : v ≤ 2147483647) (l1 : -2147483648 ≤ l) (l2 : l ≤ 2147483647) (u1 : -2147483648 ≤ u) (u2 : u ≤ 2147483647) : zx_T zp_P 0 zp_m155 0 [(0, .int (zI (v))), (1, .int (zI (l))), (2, .int (zI (u)))] [] h (zr_P h (fun e => (e = 1 ∧ l ≤ v ∧ v ≤ u) ∨ (e = 0 ∧ ¬ (l ≤ v ∧ v ≤ u)))) := by
  refine zx_T.l (i := .iload_n 0) (k := 1) (v := .int (zI (v))) (pc := 0) rfl rfl rfl ?_
  refine zx_T.l (i := .iload_n 1) (k := 1) (v := .int (zI (l))) (pc := 1) rfl rfl rfl ?_
  refine zr_i2 (x := v) (y := l) (t := 14) (pc := 2) rfl rfl (by omega) (by omega) (by omega) (by omega) (fun (c1 : v < l) => ?_) (fun (c1 : ¬ (v < l)) => ?_)
  · refine zx_T.s (i := .iconst 0) (k := 1) (st' := [.int (zI (0))]) (pc := 14) rfl rfl ?_
    exact zr_ir (x := 0) (pc := 15) rfl rfl (zr_nb (by omega) (by omega)) ⟨rfl, _, rfl, by dsimp only; omega⟩
  · refine zx_T.l (i := .iload_n 0) (k := 1) (v := .int (zI (v))) (pc := 5) rfl rfl rfl ?_
    refine zx_T.l (i := .iload_n 2) (k := 1) (v := .int (zI (u))) (pc := 6) rfl rfl rfl ?_
    refine zr_i2 (x := v) (y := u) (t := 14) (pc := 7) rfl rfl (by omega) (by omega) (by omega) (by omega) (fun (c2 : u < v) => ?_) (fun (c2 : ¬ (u < v)) => ?_)
    · refine zx_T.s (i := .iconst 0) (k := 1) (st' := [.int (zI (0))]) (pc := 14) rfl rfl ?_
      exact zr_ir (x := 0) (pc := 15) rfl rfl (zr_nb (by omega) (by omega)) ⟨rfl, _, rfl, by dsimp only; omega⟩
    · refine zx_T.s (i := .iconst 1) (k := 1) (st' := [.int (zI (1))]) (pc := 10) rfl rfl ?_
      refine zx_T.j (i := .goto 4) (k := 3) (pc' := 15) (st' := [.int (zI (1))]) (pc := 11) rfl rfl rfl rfl rfl ?_
      exact zr_ir (x := 1) (pc := 15) rfl rfl (zr_nb (by omega) (by omega)) ⟨rfl, _, rfl, by dsimp only; omega⟩

set_option maxRecDepth 100000 in
set_option maxHeartbeats 4000000 in
theorem zm_goesAs {h : zx_H} (hI : zb_I zc_H h) {a : Int} {b : Int} (a1 : 0 ≤ a) (a2 : a ≤ 8) (b1 : 0 ≤ b) (b2 : b ≤ 8) : zx_T zp_P 0 zp_m156 0 [(0, .int (zI (a))), (1, .int (zI (b)))] [] h (zr_P h (fun e => (e = 1 ∧ (a = b ∨ b = 0 ∨ (a = 4 ∧ 5 ≤ b) ∨ ((a = 6 ∨ a = 7) ∧ b = 5) ∨ (a = 8 ∧ (b = 7 ∨ b = 5)))) ∨ (e = 0 ∧ ¬ (a = b ∨ b = 0 ∨ (a = 4 ∧ 5 ≤ b) ∨ ((a = 6 ∨ a = 7) ∧ b = 5) ∨ (a = 8 ∧ (b = 7 ∨ b = 5)))))) := by
  refine zx_T.l (i := .iload_n 0) (k := 1) (v := .int (zI (a))) (pc := 0) rfl rfl rfl ?_
  refine zx_T.l (i := .iload_n 1) (k := 1) (v := .int (zI (b))) (pc := 1) rfl rfl rfl ?_
  refine zr_i2 (x := a) (y := b) (t := 53) (pc := 2) rfl rfl (by omega) (by omega) (by omega) (by omega) (fun (c1 : a = b) => ?_) (fun (c1 : ¬ (a = b)) => ?_)
  · refine zx_T.s (i := .iconst 1) (k := 1) (st' := [.int (zI (1))]) (pc := 53) rfl rfl ?_
    refine zx_T.j (i := .goto 4) (k := 3) (pc' := 58) (st' := [.int (zI (1))]) (pc := 54) rfl rfl rfl rfl rfl ?_
    exact zr_ir (x := 1) (pc := 58) rfl rfl (zr_nb (by omega) (by omega)) ⟨rfl, _, rfl, by dsimp only; omega⟩
  · refine zx_T.l (i := .iload_n 1) (k := 1) (v := .int (zI (b))) (pc := 5) rfl rfl rfl ?_
    refine zr_i1 (x := b) (t := 53) (pc := 6) rfl rfl (by omega) (by omega) (fun (c2 : b = 0) => ?_) (fun (c2 : ¬ (b = 0)) => ?_)
    · refine zx_T.s (i := .iconst 1) (k := 1) (st' := [.int (zI (1))]) (pc := 53) rfl rfl ?_
      refine zx_T.j (i := .goto 4) (k := 3) (pc' := 58) (st' := [.int (zI (1))]) (pc := 54) rfl rfl rfl rfl rfl ?_
      exact zr_ir (x := 1) (pc := 58) rfl rfl (zr_nb (by omega) (by omega)) ⟨rfl, _, rfl, by dsimp only; omega⟩
    · refine zx_T.l (i := .iload_n 0) (k := 1) (v := .int (zI (a))) (pc := 9) rfl rfl rfl ?_
      refine zx_T.s (i := .iconst 4) (k := 1) (st' := [.int (zI (4)), .int (zI (a))]) (pc := 10) rfl rfl ?_
      refine zr_i2 (x := a) (y := 4) (t := 19) (pc := 11) rfl rfl (by omega) (by omega) (by omega) (by omega) (fun (c3 : ¬ a = 4) => ?_) (fun (c3 : ¬ (¬ a = 4)) => ?_)
      · refine zx_T.l (i := .iload_n 0) (k := 1) (v := .int (zI (a))) (pc := 19) rfl rfl rfl ?_
        refine zx_T.s (i := .bipush 6) (k := 2) (st' := [.int (zI (6)), .int (zI (a))]) (pc := 20) rfl rfl ?_
        refine zr_i2 (x := a) (y := 6) (t := 31) (pc := 22) rfl rfl (by omega) (by omega) (by omega) (by omega) (fun (c4 : a = 6) => ?_) (fun (c4 : ¬ (a = 6)) => ?_)
        · refine zx_T.l (i := .iload_n 1) (k := 1) (v := .int (zI (b))) (pc := 31) rfl rfl rfl ?_
          refine zx_T.s (i := .iconst 5) (k := 1) (st' := [.int (zI (5)), .int (zI (b))]) (pc := 32) rfl rfl ?_
          refine zr_i2 (x := b) (y := 5) (t := 53) (pc := 33) rfl rfl (by omega) (by omega) (by omega) (by omega) (fun (c5 : b = 5) => ?_) (fun (c5 : ¬ (b = 5)) => ?_)
          · refine zx_T.s (i := .iconst 1) (k := 1) (st' := [.int (zI (1))]) (pc := 53) rfl rfl ?_
            refine zx_T.j (i := .goto 4) (k := 3) (pc' := 58) (st' := [.int (zI (1))]) (pc := 54) rfl rfl rfl rfl rfl ?_
            exact zr_ir (x := 1) (pc := 58) rfl rfl (zr_nb (by omega) (by omega)) ⟨rfl, _, rfl, by dsimp only; omega⟩
          · refine zx_T.l (i := .iload_n 0) (k := 1) (v := .int (zI (a))) (pc := 36) rfl rfl rfl ?_
            refine zx_T.s (i := .bipush 8) (k := 2) (st' := [.int (zI (8)), .int (zI (a))]) (pc := 37) rfl rfl ?_
            refine zr_i2 (x := a) (y := 8) (t := 57) (pc := 39) rfl rfl (by omega) (by omega) (by omega) (by omega) (fun (c6 : ¬ a = 8) => ?_) (fun (c6 : ¬ (¬ a = 8)) => False.elim (by omega))
            refine zx_T.s (i := .iconst 0) (k := 1) (st' := [.int (zI (0))]) (pc := 57) rfl rfl ?_
            exact zr_ir (x := 0) (pc := 58) rfl rfl (zr_nb (by omega) (by omega)) ⟨rfl, _, rfl, by dsimp only; omega⟩
        · refine zx_T.l (i := .iload_n 0) (k := 1) (v := .int (zI (a))) (pc := 25) rfl rfl rfl ?_
          refine zx_T.s (i := .bipush 7) (k := 2) (st' := [.int (zI (7)), .int (zI (a))]) (pc := 26) rfl rfl ?_
          refine zr_i2 (x := a) (y := 7) (t := 36) (pc := 28) rfl rfl (by omega) (by omega) (by omega) (by omega) (fun (c7 : ¬ a = 7) => ?_) (fun (c7 : ¬ (¬ a = 7)) => ?_)
          · refine zx_T.l (i := .iload_n 0) (k := 1) (v := .int (zI (a))) (pc := 36) rfl rfl rfl ?_
            refine zx_T.s (i := .bipush 8) (k := 2) (st' := [.int (zI (8)), .int (zI (a))]) (pc := 37) rfl rfl ?_
            refine zr_i2 (x := a) (y := 8) (t := 57) (pc := 39) rfl rfl (by omega) (by omega) (by omega) (by omega) (fun (c8 : ¬ a = 8) => ?_) (fun (c8 : ¬ (¬ a = 8)) => ?_)
            · refine zx_T.s (i := .iconst 0) (k := 1) (st' := [.int (zI (0))]) (pc := 57) rfl rfl ?_
              exact zr_ir (x := 0) (pc := 58) rfl rfl (zr_nb (by omega) (by omega)) ⟨rfl, _, rfl, by dsimp only; omega⟩
            · refine zx_T.l (i := .iload_n 1) (k := 1) (v := .int (zI (b))) (pc := 42) rfl rfl rfl ?_
              refine zx_T.s (i := .bipush 7) (k := 2) (st' := [.int (zI (7)), .int (zI (b))]) (pc := 43) rfl rfl ?_
              refine zr_i2 (x := b) (y := 7) (t := 53) (pc := 45) rfl rfl (by omega) (by omega) (by omega) (by omega) (fun (c9 : b = 7) => ?_) (fun (c9 : ¬ (b = 7)) => ?_)
              · refine zx_T.s (i := .iconst 1) (k := 1) (st' := [.int (zI (1))]) (pc := 53) rfl rfl ?_
                refine zx_T.j (i := .goto 4) (k := 3) (pc' := 58) (st' := [.int (zI (1))]) (pc := 54) rfl rfl rfl rfl rfl ?_
                exact zr_ir (x := 1) (pc := 58) rfl rfl (zr_nb (by omega) (by omega)) ⟨rfl, _, rfl, by dsimp only; omega⟩
              · refine zx_T.l (i := .iload_n 1) (k := 1) (v := .int (zI (b))) (pc := 48) rfl rfl rfl ?_
                refine zx_T.s (i := .iconst 5) (k := 1) (st' := [.int (zI (5)), .int (zI (b))]) (pc := 49) rfl rfl ?_
                refine zr_i2 (x := b) (y := 5) (t := 57) (pc := 50) rfl rfl (by omega) (by omega) (by omega) (by omega) (fun (c10 : ¬ b = 5) => ?_) (fun (c10 : ¬ (¬ b = 5)) => ?_)
                · refine zx_T.s (i := .iconst 0) (k := 1) (st' := [.int (zI (0))]) (pc := 57) rfl rfl ?_
                  exact zr_ir (x := 0) (pc := 58) rfl rfl (zr_nb (by omega) (by omega)) ⟨rfl, _, rfl, by dsimp only; omega⟩
                · refine zx_T.s (i := .iconst 1) (k := 1) (st' := [.int (zI (1))]) (pc := 53) rfl rfl ?_
                  refine zx_T.j (i := .goto 4) (k := 3) (pc' := 58) (st' := [.int (zI (1))]) (pc := 54) rfl rfl rfl rfl rfl ?_
                  exact zr_ir (x := 1) (pc := 58) rfl rfl (zr_nb (by omega) (by omega)) ⟨rfl, _, rfl, by dsimp only; omega⟩
          · refine zx_T.l (i := .iload_n 1) (k := 1) (v := .int (zI (b))) (pc := 31) rfl rfl rfl ?_
            refine zx_T.s (i := .iconst 5) (k := 1) (st' := [.int (zI (5)), .int (zI (b))]) (pc := 32) rfl rfl ?_
            refine zr_i2 (x := b) (y := 5) (t := 53) (pc := 33) rfl rfl (by omega) (by omega) (by omega) (by omega) (fun (c11 : b = 5) => ?_) (fun (c11 : ¬ (b = 5)) => ?_)
            · refine zx_T.s (i := .iconst 1) (k := 1) (st' := [.int (zI (1))]) (pc := 53) rfl rfl ?_
              refine zx_T.j (i := .goto 4) (k := 3) (pc' := 58) (st' := [.int (zI (1))]) (pc := 54) rfl rfl rfl rfl rfl ?_
              exact zr_ir (x := 1) (pc := 58) rfl rfl (zr_nb (by omega) (by omega)) ⟨rfl, _, rfl, by dsimp only; omega⟩
            · refine zx_T.l (i := .iload_n 0) (k := 1) (v := .int (zI (a))) (pc := 36) rfl rfl rfl ?_
              refine zx_T.s (i := .bipush 8) (k := 2) (st' := [.int (zI (8)), .int (zI (a))]) (pc := 37) rfl rfl ?_
              refine zr_i2 (x := a) (y := 8) (t := 57) (pc := 39) rfl rfl (by omega) (by omega) (by omega) (by omega) (fun (c12 : ¬ a = 8) => ?_) (fun (c12 : ¬ (¬ a = 8)) => False.elim (by omega))
              refine zx_T.s (i := .iconst 0) (k := 1) (st' := [.int (zI (0))]) (pc := 57) rfl rfl ?_
              exact zr_ir (x := 0) (pc := 58) rfl rfl (zr_nb (by omega) (by omega)) ⟨rfl, _, rfl, by dsimp only; omega⟩
      · refine zx_T.l (i := .iload_n 1) (k := 1) (v := .int (zI (b))) (pc := 14) rfl rfl rfl ?_
        refine zx_T.s (i := .iconst 5) (k := 1) (st' := [.int (zI (5)), .int (zI (b))]) (pc := 15) rfl rfl ?_
        refine zr_i2 (x := b) (y := 5) (t := 53) (pc := 16) rfl rfl (by omega) (by omega) (by omega) (by omega) (fun (c13 : 5 ≤ b) => ?_) (fun (c13 : ¬ (5 ≤ b)) => ?_)
        · refine zx_T.s (i := .iconst 1) (k := 1) (st' := [.int (zI (1))]) (pc := 53) rfl rfl ?_
          refine zx_T.j (i := .goto 4) (k := 3) (pc' := 58) (st' := [.int (zI (1))]) (pc := 54) rfl rfl rfl rfl rfl ?_
          exact zr_ir (x := 1) (pc := 58) rfl rfl (zr_nb (by omega) (by omega)) ⟨rfl, _, rfl, by dsimp only; omega⟩
        · refine zx_T.l (i := .iload_n 0) (k := 1) (v := .int (zI (a))) (pc := 19) rfl rfl rfl ?_
          refine zx_T.s (i := .bipush 6) (k := 2) (st' := [.int (zI (6)), .int (zI (a))]) (pc := 20) rfl rfl ?_
          refine zr_i2 (x := a) (y := 6) (t := 31) (pc := 22) rfl rfl (by omega) (by omega) (by omega) (by omega) (fun (c14 : a = 6) => False.elim (by omega)) (fun (c14 : ¬ (a = 6)) => ?_)
          refine zx_T.l (i := .iload_n 0) (k := 1) (v := .int (zI (a))) (pc := 25) rfl rfl rfl ?_
          refine zx_T.s (i := .bipush 7) (k := 2) (st' := [.int (zI (7)), .int (zI (a))]) (pc := 26) rfl rfl ?_
          refine zr_i2 (x := a) (y := 7) (t := 36) (pc := 28) rfl rfl (by omega) (by omega) (by omega) (by omega) (fun (c15 : ¬ a = 7) => ?_) (fun (c15 : ¬ (¬ a = 7)) => False.elim (by omega))
          refine zx_T.l (i := .iload_n 0) (k := 1) (v := .int (zI (a))) (pc := 36) rfl rfl rfl ?_
          refine zx_T.s (i := .bipush 8) (k := 2) (st' := [.int (zI (8)), .int (zI (a))]) (pc := 37) rfl rfl ?_
          refine zr_i2 (x := a) (y := 8) (t := 57) (pc := 39) rfl rfl (by omega) (by omega) (by omega) (by omega) (fun (c16 : ¬ a = 8) => ?_) (fun (c16 : ¬ (¬ a = 8)) => False.elim (by omega))
          refine zx_T.s (i := .iconst 0) (k := 1) (st' := [.int (zI (0))]) (pc := 57) rfl rfl ?_
          exact zr_ir (x := 0) (pc := 58) rfl rfl (zr_nb (by omega) (by omega)) ⟨rfl, _, rfl, by dsimp only; omega⟩

/-- how far a kind is from TOP -/
def zg_r (x : Int) : Int := if x = 0 then 0 else if x ≤ 3 then 1 else if x = 4 then 4 else if x = 5 then 1 else if x ≤ 7 then 2 else 3
theorem zg_r_b (x : Int) : 0 ≤ zg_r x ∧ zg_r x ≤ 4 := by unfold zg_r; repeat' split
                                                          all_goals omega

set_option maxRecDepth 100000 in
set_option maxHeartbeats 4000000 in
theorem zm_joined {h : zx_H} (hI : zb_I zc_H h) {a : Int} {b : Int} (a1 : 0 ≤ a) (a2 : a ≤ 8) (b1 : 0 ≤ b) (b2 : b ≤ 8) : zx_T zp_P 1 zp_m157 0 [(0, .int (zI (a))), (1, .int (zI (b)))] [] h (zr_P h (fun e => 0 ≤ e ∧ e ≤ 8 ∧ (e = a ∨ zg_r e < zg_r a) ∧ (e = 3 → a = 3 ∧ b = 3))) := by
  refine zx_T.l (i := .iload_n 0) (k := 1) (v := .int (zI (a))) (pc := 0) rfl rfl rfl ?_
  refine zx_T.l (i := .iload_n 1) (k := 1) (v := .int (zI (b))) (pc := 1) rfl rfl rfl ?_
  refine zr_is (cj := 156) (q' := zp_m156) (As := [.int (zI (a)), .int (zI (b))]) (rest := []) (pc := 2) rfl rfl rfl rfl rfl rfl (Nat.le_of_ble_eq_true rfl) rfl (Nat.le_of_ble_eq_true rfl) rfl ((zm_goesAs (h := h) hI (a := a) (b := b) (by omega) (by omega) (by omega) (by omega)).up (Nat.le_of_ble_eq_true rfl)) ?_
  rintro r1 h4 ⟨h4q, v2, r1q, x3⟩
  subst h4q r1q
  show zx_T zp_P 1 zp_m157 5 [(0, .int (zI (a))), (1, .int (zI (b)))] [.int (zI (v2))] h _
  refine zr_i1 (x := v2) (t := 10) (pc := 5) rfl rfl (by omega) (by omega) (fun (c5 : v2 = 0) => ?_) (fun (c5 : ¬ (v2 = 0)) => ?_)
  · refine zx_T.l (i := .iload_n 1) (k := 1) (v := .int (zI (b))) (pc := 10) rfl rfl rfl ?_
    refine zx_T.l (i := .iload_n 0) (k := 1) (v := .int (zI (a))) (pc := 11) rfl rfl rfl ?_
    refine zr_is (cj := 156) (q' := zp_m156) (As := [.int (zI (b)), .int (zI (a))]) (rest := []) (pc := 12) rfl rfl rfl rfl rfl rfl (Nat.le_of_ble_eq_true rfl) rfl (Nat.le_of_ble_eq_true rfl) rfl ((zm_goesAs (h := h) hI (a := b) (b := a) (by omega) (by omega) (by omega) (by omega)).up (Nat.le_of_ble_eq_true rfl)) ?_
    rintro r6 h9 ⟨h9q, v7, r6q, x8⟩
    subst h9q r6q
    show zx_T zp_P 1 zp_m157 15 [(0, .int (zI (a))), (1, .int (zI (b)))] [.int (zI (v7))] h _
    refine zr_i1 (x := v7) (t := 20) (pc := 15) rfl rfl (by omega) (by omega) (fun (c10 : v7 = 0) => ?_) (fun (c10 : ¬ (v7 = 0)) => ?_)
    · refine zx_T.l (i := .iload_n 0) (k := 1) (v := .int (zI (a))) (pc := 20) rfl rfl rfl ?_
      refine zx_T.s (i := .iconst 5) (k := 1) (st' := [.int (zI (5)), .int (zI (a))]) (pc := 21) rfl rfl ?_
      refine zr_i2 (x := a) (y := 5) (t := 34) (pc := 22) rfl rfl (by omega) (by omega) (by omega) (by omega) (fun (c11 : a < 5) => ?_) (fun (c11 : ¬ (a < 5)) => ?_)
      · refine zx_T.s (i := .iconst 0) (k := 1) (st' := [.int (zI (0))]) (pc := 34) rfl rfl ?_
        exact zr_ir (x := 0) (pc := 35) rfl rfl rfl ⟨rfl, _, rfl, by dsimp only; refine ⟨by omega, by omega, ?_, by omega⟩; unfold zg_r; repeat' split; all_goals omega⟩
      · refine zx_T.l (i := .iload_n 1) (k := 1) (v := .int (zI (b))) (pc := 25) rfl rfl rfl ?_
        refine zx_T.s (i := .iconst 5) (k := 1) (st' := [.int (zI (5)), .int (zI (b))]) (pc := 26) rfl rfl ?_
        refine zr_i2 (x := b) (y := 5) (t := 34) (pc := 27) rfl rfl (by omega) (by omega) (by omega) (by omega) (fun (c12 : b < 5) => ?_) (fun (c12 : ¬ (b < 5)) => ?_)
        · refine zx_T.s (i := .iconst 0) (k := 1) (st' := [.int (zI (0))]) (pc := 34) rfl rfl ?_
          exact zr_ir (x := 0) (pc := 35) rfl rfl rfl ⟨rfl, _, rfl, by dsimp only; refine ⟨by omega, by omega, ?_, by omega⟩; unfold zg_r; repeat' split; all_goals omega⟩
        · refine zx_T.s (i := .iconst 5) (k := 1) (st' := [.int (zI (5))]) (pc := 30) rfl rfl ?_
          refine zx_T.j (i := .goto 4) (k := 3) (pc' := 35) (st' := [.int (zI (5))]) (pc := 31) rfl rfl rfl rfl rfl ?_
          exact zr_ir (x := 5) (pc := 35) rfl rfl rfl ⟨rfl, _, rfl, by dsimp only; refine ⟨by omega, by omega, ?_, by omega⟩; unfold zg_r; repeat' split; all_goals omega⟩
    · refine zx_T.l (i := .iload_n 0) (k := 1) (v := .int (zI (a))) (pc := 18) rfl rfl rfl ?_
      exact zr_ir (x := a) (pc := 19) rfl rfl rfl ⟨rfl, _, rfl, by dsimp only; refine ⟨by omega, by omega, ?_, by omega⟩; unfold zg_r; repeat' split; all_goals omega⟩
  · refine zx_T.l (i := .iload_n 1) (k := 1) (v := .int (zI (b))) (pc := 8) rfl rfl rfl ?_
    exact zr_ir (x := b) (pc := 9) rfl rfl rfl ⟨rfl, _, rfl, by dsimp only; refine ⟨by omega, by omega, ?_, by omega⟩; unfold zg_r; repeat' split; all_goals omega⟩

set_option maxRecDepth 100000 in
set_option maxHeartbeats 4000000 in
theorem zm_fits {h : zx_H} (hI : zb_I zc_H h) {k : Int} {w : Int} (k1 : 0 ≤ k) (k2 : k ≤ 8) (w1 : 1 ≤ w) (w2 : w ≤ 7) : zx_T zp_P 0 zp_m161 0 [(0, .int (zI (k))), (1, .int (zI (w)))] [] h (zr_P h (fun e => (e = 0 ∨ e = 1) ∧ (e = 1 → (w = 1 → k = 1) ∧ (w = 2 → k = 3) ∧ (w = 5 → 4 ≤ k) ∧ (w = 6 → k = 6 ∨ k = 4) ∧ (w = 7 → k = 7 ∨ k = 8 ∨ k = 4)))) := by
  refine zx_T.l (i := .iload_n 1) (k := 1) (v := .int (zI (w))) (pc := 0) rfl rfl rfl ?_
  have c1 : w = 1 ∨ w = 2 ∨ w = 3 ∨ w = 4 ∨ w = 5 ∨ w = 6 ∨ w = 7 := by omega
  rcases c1 with c1 | c1 | c1 | c1 | c1 | c1 | c1
  · refine zr_sw (i := .tableswitch 89 1 6 #[39, 50, 89, 89, 61, 72]) (len := 39) (t := 40) (x := w) (k := 1) (pc := 1) rfl c1 rfl rfl rfl rfl ?_
    refine zx_T.l (i := .iload_n 0) (k := 1) (v := .int (zI (k))) (pc := 40) rfl rfl rfl ?_
    refine zx_T.s (i := .iconst 1) (k := 1) (st' := [.int (zI (1)), .int (zI (k))]) (pc := 41) rfl rfl ?_
    refine zr_i2 (x := k) (y := 1) (t := 49) (pc := 42) rfl rfl (by omega) (by omega) (by omega) (by omega) (fun (c2 : ¬ k = 1) => ?_) (fun (c2 : ¬ (¬ k = 1)) => ?_)
    · refine zx_T.s (i := .iconst 0) (k := 1) (st' := [.int (zI (0))]) (pc := 49) rfl rfl ?_
      exact zr_ir (x := 0) (pc := 50) rfl rfl (zr_nb (by omega) (by omega)) ⟨rfl, _, rfl, by dsimp only; omega⟩
    · refine zx_T.s (i := .iconst 1) (k := 1) (st' := [.int (zI (1))]) (pc := 45) rfl rfl ?_
      refine zx_T.j (i := .goto 4) (k := 3) (pc' := 50) (st' := [.int (zI (1))]) (pc := 46) rfl rfl rfl rfl rfl ?_
      exact zr_ir (x := 1) (pc := 50) rfl rfl (zr_nb (by omega) (by omega)) ⟨rfl, _, rfl, by dsimp only; omega⟩
  · refine zr_sw (i := .tableswitch 89 1 6 #[39, 50, 89, 89, 61, 72]) (len := 39) (t := 51) (x := w) (k := 2) (pc := 1) rfl c1 rfl rfl rfl rfl ?_
    refine zx_T.l (i := .iload_n 0) (k := 1) (v := .int (zI (k))) (pc := 51) rfl rfl rfl ?_
    refine zx_T.s (i := .iconst 3) (k := 1) (st' := [.int (zI (3)), .int (zI (k))]) (pc := 52) rfl rfl ?_
    refine zr_i2 (x := k) (y := 3) (t := 60) (pc := 53) rfl rfl (by omega) (by omega) (by omega) (by omega) (fun (c3 : ¬ k = 3) => ?_) (fun (c3 : ¬ (¬ k = 3)) => ?_)
    · refine zx_T.s (i := .iconst 0) (k := 1) (st' := [.int (zI (0))]) (pc := 60) rfl rfl ?_
      exact zr_ir (x := 0) (pc := 61) rfl rfl (zr_nb (by omega) (by omega)) ⟨rfl, _, rfl, by dsimp only; omega⟩
    · refine zx_T.s (i := .iconst 1) (k := 1) (st' := [.int (zI (1))]) (pc := 56) rfl rfl ?_
      refine zx_T.j (i := .goto 4) (k := 3) (pc' := 61) (st' := [.int (zI (1))]) (pc := 57) rfl rfl rfl rfl rfl ?_
      exact zr_ir (x := 1) (pc := 61) rfl rfl (zr_nb (by omega) (by omega)) ⟨rfl, _, rfl, by dsimp only; omega⟩
  · refine zr_sw (i := .tableswitch 89 1 6 #[39, 50, 89, 89, 61, 72]) (len := 39) (t := 90) (x := w) (k := 3) (pc := 1) rfl c1 rfl rfl rfl rfl ?_
    refine zx_T.l (i := .iload_n 0) (k := 1) (v := .int (zI (k))) (pc := 90) rfl rfl rfl ?_
    refine zx_T.s (i := .bipush 7) (k := 2) (st' := [.int (zI (7)), .int (zI (k))]) (pc := 91) rfl rfl ?_
    refine zr_i2 (x := k) (y := 7) (t := 107) (pc := 93) rfl rfl (by omega) (by omega) (by omega) (by omega) (fun (c4 : k = 7) => ?_) (fun (c4 : ¬ (k = 7)) => ?_)
    · refine zx_T.s (i := .iconst 1) (k := 1) (st' := [.int (zI (1))]) (pc := 107) rfl rfl ?_
      refine zx_T.j (i := .goto 4) (k := 3) (pc' := 112) (st' := [.int (zI (1))]) (pc := 108) rfl rfl rfl rfl rfl ?_
      exact zr_ir (x := 1) (pc := 112) rfl rfl (zr_nb (by omega) (by omega)) ⟨rfl, _, rfl, by dsimp only; omega⟩
    · refine zx_T.l (i := .iload_n 0) (k := 1) (v := .int (zI (k))) (pc := 96) rfl rfl rfl ?_
      refine zx_T.s (i := .bipush 8) (k := 2) (st' := [.int (zI (8)), .int (zI (k))]) (pc := 97) rfl rfl ?_
      refine zr_i2 (x := k) (y := 8) (t := 107) (pc := 99) rfl rfl (by omega) (by omega) (by omega) (by omega) (fun (c5 : k = 8) => ?_) (fun (c5 : ¬ (k = 8)) => ?_)
      · refine zx_T.s (i := .iconst 1) (k := 1) (st' := [.int (zI (1))]) (pc := 107) rfl rfl ?_
        refine zx_T.j (i := .goto 4) (k := 3) (pc' := 112) (st' := [.int (zI (1))]) (pc := 108) rfl rfl rfl rfl rfl ?_
        exact zr_ir (x := 1) (pc := 112) rfl rfl (zr_nb (by omega) (by omega)) ⟨rfl, _, rfl, by dsimp only; omega⟩
      · refine zx_T.l (i := .iload_n 0) (k := 1) (v := .int (zI (k))) (pc := 102) rfl rfl rfl ?_
        refine zx_T.s (i := .iconst 4) (k := 1) (st' := [.int (zI (4)), .int (zI (k))]) (pc := 103) rfl rfl ?_
        refine zr_i2 (x := k) (y := 4) (t := 111) (pc := 104) rfl rfl (by omega) (by omega) (by omega) (by omega) (fun (c6 : ¬ k = 4) => ?_) (fun (c6 : ¬ (¬ k = 4)) => ?_)
        · refine zx_T.s (i := .iconst 0) (k := 1) (st' := [.int (zI (0))]) (pc := 111) rfl rfl ?_
          exact zr_ir (x := 0) (pc := 112) rfl rfl (zr_nb (by omega) (by omega)) ⟨rfl, _, rfl, by dsimp only; omega⟩
        · refine zx_T.s (i := .iconst 1) (k := 1) (st' := [.int (zI (1))]) (pc := 107) rfl rfl ?_
          refine zx_T.j (i := .goto 4) (k := 3) (pc' := 112) (st' := [.int (zI (1))]) (pc := 108) rfl rfl rfl rfl rfl ?_
          exact zr_ir (x := 1) (pc := 112) rfl rfl (zr_nb (by omega) (by omega)) ⟨rfl, _, rfl, by dsimp only; omega⟩
  · refine zr_sw (i := .tableswitch 89 1 6 #[39, 50, 89, 89, 61, 72]) (len := 39) (t := 90) (x := w) (k := 4) (pc := 1) rfl c1 rfl rfl rfl rfl ?_
    refine zx_T.l (i := .iload_n 0) (k := 1) (v := .int (zI (k))) (pc := 90) rfl rfl rfl ?_
    refine zx_T.s (i := .bipush 7) (k := 2) (st' := [.int (zI (7)), .int (zI (k))]) (pc := 91) rfl rfl ?_
    refine zr_i2 (x := k) (y := 7) (t := 107) (pc := 93) rfl rfl (by omega) (by omega) (by omega) (by omega) (fun (c7 : k = 7) => ?_) (fun (c7 : ¬ (k = 7)) => ?_)
    · refine zx_T.s (i := .iconst 1) (k := 1) (st' := [.int (zI (1))]) (pc := 107) rfl rfl ?_
      refine zx_T.j (i := .goto 4) (k := 3) (pc' := 112) (st' := [.int (zI (1))]) (pc := 108) rfl rfl rfl rfl rfl ?_
      exact zr_ir (x := 1) (pc := 112) rfl rfl (zr_nb (by omega) (by omega)) ⟨rfl, _, rfl, by dsimp only; omega⟩
    · refine zx_T.l (i := .iload_n 0) (k := 1) (v := .int (zI (k))) (pc := 96) rfl rfl rfl ?_
      refine zx_T.s (i := .bipush 8) (k := 2) (st' := [.int (zI (8)), .int (zI (k))]) (pc := 97) rfl rfl ?_
      refine zr_i2 (x := k) (y := 8) (t := 107) (pc := 99) rfl rfl (by omega) (by omega) (by omega) (by omega) (fun (c8 : k = 8) => ?_) (fun (c8 : ¬ (k = 8)) => ?_)
      · refine zx_T.s (i := .iconst 1) (k := 1) (st' := [.int (zI (1))]) (pc := 107) rfl rfl ?_
        refine zx_T.j (i := .goto 4) (k := 3) (pc' := 112) (st' := [.int (zI (1))]) (pc := 108) rfl rfl rfl rfl rfl ?_
        exact zr_ir (x := 1) (pc := 112) rfl rfl (zr_nb (by omega) (by omega)) ⟨rfl, _, rfl, by dsimp only; omega⟩
      · refine zx_T.l (i := .iload_n 0) (k := 1) (v := .int (zI (k))) (pc := 102) rfl rfl rfl ?_
        refine zx_T.s (i := .iconst 4) (k := 1) (st' := [.int (zI (4)), .int (zI (k))]) (pc := 103) rfl rfl ?_
        refine zr_i2 (x := k) (y := 4) (t := 111) (pc := 104) rfl rfl (by omega) (by omega) (by omega) (by omega) (fun (c9 : ¬ k = 4) => ?_) (fun (c9 : ¬ (¬ k = 4)) => ?_)
        · refine zx_T.s (i := .iconst 0) (k := 1) (st' := [.int (zI (0))]) (pc := 111) rfl rfl ?_
          exact zr_ir (x := 0) (pc := 112) rfl rfl (zr_nb (by omega) (by omega)) ⟨rfl, _, rfl, by dsimp only; omega⟩
        · refine zx_T.s (i := .iconst 1) (k := 1) (st' := [.int (zI (1))]) (pc := 107) rfl rfl ?_
          refine zx_T.j (i := .goto 4) (k := 3) (pc' := 112) (st' := [.int (zI (1))]) (pc := 108) rfl rfl rfl rfl rfl ?_
          exact zr_ir (x := 1) (pc := 112) rfl rfl (zr_nb (by omega) (by omega)) ⟨rfl, _, rfl, by dsimp only; omega⟩
  · refine zr_sw (i := .tableswitch 89 1 6 #[39, 50, 89, 89, 61, 72]) (len := 39) (t := 62) (x := w) (k := 5) (pc := 1) rfl c1 rfl rfl rfl rfl ?_
    refine zx_T.l (i := .iload_n 0) (k := 1) (v := .int (zI (k))) (pc := 62) rfl rfl rfl ?_
    refine zx_T.s (i := .iconst 4) (k := 1) (st' := [.int (zI (4)), .int (zI (k))]) (pc := 63) rfl rfl ?_
    refine zr_i2 (x := k) (y := 4) (t := 71) (pc := 64) rfl rfl (by omega) (by omega) (by omega) (by omega) (fun (c10 : k < 4) => ?_) (fun (c10 : ¬ (k < 4)) => ?_)
    · refine zx_T.s (i := .iconst 0) (k := 1) (st' := [.int (zI (0))]) (pc := 71) rfl rfl ?_
      exact zr_ir (x := 0) (pc := 72) rfl rfl (zr_nb (by omega) (by omega)) ⟨rfl, _, rfl, by dsimp only; omega⟩
    · refine zx_T.s (i := .iconst 1) (k := 1) (st' := [.int (zI (1))]) (pc := 67) rfl rfl ?_
      refine zx_T.j (i := .goto 4) (k := 3) (pc' := 72) (st' := [.int (zI (1))]) (pc := 68) rfl rfl rfl rfl rfl ?_
      exact zr_ir (x := 1) (pc := 72) rfl rfl (zr_nb (by omega) (by omega)) ⟨rfl, _, rfl, by dsimp only; omega⟩
  · refine zr_sw (i := .tableswitch 89 1 6 #[39, 50, 89, 89, 61, 72]) (len := 39) (t := 73) (x := w) (k := 6) (pc := 1) rfl c1 rfl rfl rfl rfl ?_
    refine zx_T.l (i := .iload_n 0) (k := 1) (v := .int (zI (k))) (pc := 73) rfl rfl rfl ?_
    refine zx_T.s (i := .bipush 6) (k := 2) (st' := [.int (zI (6)), .int (zI (k))]) (pc := 74) rfl rfl ?_
    refine zr_i2 (x := k) (y := 6) (t := 84) (pc := 76) rfl rfl (by omega) (by omega) (by omega) (by omega) (fun (c11 : k = 6) => ?_) (fun (c11 : ¬ (k = 6)) => ?_)
    · refine zx_T.s (i := .iconst 1) (k := 1) (st' := [.int (zI (1))]) (pc := 84) rfl rfl ?_
      refine zx_T.j (i := .goto 4) (k := 3) (pc' := 89) (st' := [.int (zI (1))]) (pc := 85) rfl rfl rfl rfl rfl ?_
      exact zr_ir (x := 1) (pc := 89) rfl rfl (zr_nb (by omega) (by omega)) ⟨rfl, _, rfl, by dsimp only; omega⟩
    · refine zx_T.l (i := .iload_n 0) (k := 1) (v := .int (zI (k))) (pc := 79) rfl rfl rfl ?_
      refine zx_T.s (i := .iconst 4) (k := 1) (st' := [.int (zI (4)), .int (zI (k))]) (pc := 80) rfl rfl ?_
      refine zr_i2 (x := k) (y := 4) (t := 88) (pc := 81) rfl rfl (by omega) (by omega) (by omega) (by omega) (fun (c12 : ¬ k = 4) => ?_) (fun (c12 : ¬ (¬ k = 4)) => ?_)
      · refine zx_T.s (i := .iconst 0) (k := 1) (st' := [.int (zI (0))]) (pc := 88) rfl rfl ?_
        exact zr_ir (x := 0) (pc := 89) rfl rfl (zr_nb (by omega) (by omega)) ⟨rfl, _, rfl, by dsimp only; omega⟩
      · refine zx_T.s (i := .iconst 1) (k := 1) (st' := [.int (zI (1))]) (pc := 84) rfl rfl ?_
        refine zx_T.j (i := .goto 4) (k := 3) (pc' := 89) (st' := [.int (zI (1))]) (pc := 85) rfl rfl rfl rfl rfl ?_
        exact zr_ir (x := 1) (pc := 89) rfl rfl (zr_nb (by omega) (by omega)) ⟨rfl, _, rfl, by dsimp only; omega⟩
  · refine zr_sw (i := .tableswitch 89 1 6 #[39, 50, 89, 89, 61, 72]) (len := 39) (t := 90) (x := w) (k := 7) (pc := 1) rfl c1 rfl rfl rfl rfl ?_
    refine zx_T.l (i := .iload_n 0) (k := 1) (v := .int (zI (k))) (pc := 90) rfl rfl rfl ?_
    refine zx_T.s (i := .bipush 7) (k := 2) (st' := [.int (zI (7)), .int (zI (k))]) (pc := 91) rfl rfl ?_
    refine zr_i2 (x := k) (y := 7) (t := 107) (pc := 93) rfl rfl (by omega) (by omega) (by omega) (by omega) (fun (c13 : k = 7) => ?_) (fun (c13 : ¬ (k = 7)) => ?_)
    · refine zx_T.s (i := .iconst 1) (k := 1) (st' := [.int (zI (1))]) (pc := 107) rfl rfl ?_
      refine zx_T.j (i := .goto 4) (k := 3) (pc' := 112) (st' := [.int (zI (1))]) (pc := 108) rfl rfl rfl rfl rfl ?_
      exact zr_ir (x := 1) (pc := 112) rfl rfl (zr_nb (by omega) (by omega)) ⟨rfl, _, rfl, by dsimp only; omega⟩
    · refine zx_T.l (i := .iload_n 0) (k := 1) (v := .int (zI (k))) (pc := 96) rfl rfl rfl ?_
      refine zx_T.s (i := .bipush 8) (k := 2) (st' := [.int (zI (8)), .int (zI (k))]) (pc := 97) rfl rfl ?_
      refine zr_i2 (x := k) (y := 8) (t := 107) (pc := 99) rfl rfl (by omega) (by omega) (by omega) (by omega) (fun (c14 : k = 8) => ?_) (fun (c14 : ¬ (k = 8)) => ?_)
      · refine zx_T.s (i := .iconst 1) (k := 1) (st' := [.int (zI (1))]) (pc := 107) rfl rfl ?_
        refine zx_T.j (i := .goto 4) (k := 3) (pc' := 112) (st' := [.int (zI (1))]) (pc := 108) rfl rfl rfl rfl rfl ?_
        exact zr_ir (x := 1) (pc := 112) rfl rfl (zr_nb (by omega) (by omega)) ⟨rfl, _, rfl, by dsimp only; omega⟩
      · refine zx_T.l (i := .iload_n 0) (k := 1) (v := .int (zI (k))) (pc := 102) rfl rfl rfl ?_
        refine zx_T.s (i := .iconst 4) (k := 1) (st' := [.int (zI (4)), .int (zI (k))]) (pc := 103) rfl rfl ?_
        refine zr_i2 (x := k) (y := 4) (t := 111) (pc := 104) rfl rfl (by omega) (by omega) (by omega) (by omega) (fun (c15 : ¬ k = 4) => ?_) (fun (c15 : ¬ (¬ k = 4)) => ?_)
        · refine zx_T.s (i := .iconst 0) (k := 1) (st' := [.int (zI (0))]) (pc := 111) rfl rfl ?_
          exact zr_ir (x := 0) (pc := 112) rfl rfl (zr_nb (by omega) (by omega)) ⟨rfl, _, rfl, by dsimp only; omega⟩
        · refine zx_T.s (i := .iconst 1) (k := 1) (st' := [.int (zI (1))]) (pc := 107) rfl rfl ?_
          refine zx_T.j (i := .goto 4) (k := 3) (pc' := 112) (st' := [.int (zI (1))]) (pc := 108) rfl rfl rfl rfl rfl ?_
          exact zr_ir (x := 1) (pc := 112) rfl rfl (zr_nb (by omega) (by omega)) ⟨rfl, _, rfl, by dsimp only; omega⟩

set_option maxRecDepth 100000 in
set_option maxHeartbeats 4000000 in
theorem zm_top {h : zx_H} (hI : zb_I zc_H h)   : zx_T zp_P 0 zp_m160 0 [(0, .ref 44)] [] h (zr_P h (fun e => 0 ≤ e ∧ e ≤ 8 ∧ e = zv_a h 61 (zv_i h 25 + 7))) := by
  refine zx_T.l (i := .aload_n 0) (k := 1) (v := .ref 44) (pc := 0) rfl rfl rfl ?_
  refine zr_gr (b := 61) (pc := 1) rfl rfl rfl hI ?_
  refine zx_T.s (i := .bipush 8) (k := 2) (st' := [.int (zI (8)), .ref 61]) (pc := 4) rfl rfl ?_
  refine zx_T.l (i := .aload_n 0) (k := 1) (v := .ref 44) (pc := 6) rfl rfl rfl ?_
  refine zr_gi (e := zv_i h 25) (pc := 7) rfl rfl rfl hI rfl (fun g1a g1b => ?_)
  refine zr_add (x := 8) (y := zv_i h 25) (e := zv_i h 25 + 8) (pc := 10) rfl (by omega) ?_
  refine zx_T.s (i := .iconst 1) (k := 1) (st' := [.int (zI (1)), .int (zI (zv_i h 25 + 8)), .ref 61]) (pc := 11) rfl rfl ?_
  refine zr_sub (x := zv_i h 25 + 8) (y := 1) (e := zv_i h 25 + 7) (pc := 12) rfl (by omega) ?_
  refine zr_al (e := zv_a h 61 (zv_i h 25 + 7)) (pc := 13) rfl rfl rfl hI (by omega) (by omega) rfl (fun g2a g2b => ?_)
  exact zr_ir (x := zv_a h 61 (zv_i h 25 + 7)) (pc := 14) rfl rfl rfl ⟨rfl, _, rfl, by dsimp only; exact ⟨by omega, by omega, rfl⟩⟩

set_option maxRecDepth 100000 in
set_option maxHeartbeats 4000000 in
theorem zm_fails {h : zx_H} (hI : zb_I zc_H h) {w : Int} (w1 : 1 ≤ w) (w2 : w ≤ 7) : zx_T zp_P 0 zp_m159 0 [(0, .ref 44), (1, .int (zI (w)))] [] h (zr_V [(44, 26)] h (fun h' => ¬ zv_i h' 26 = 0 ∧ (zv_i h 26 = 0 → zv_i h' 26 = w) ∧ (¬ zv_i h 26 = 0 → zv_i h' 26 = zv_i h 26))) := by
  refine zx_T.l (i := .aload_n 0) (k := 1) (v := .ref 44) (pc := 0) rfl rfl rfl ?_
  refine zx_T.l (i := .aload_n 0) (k := 1) (v := .ref 44) (pc := 1) rfl rfl rfl ?_
  refine zr_gi (e := zv_i h 26) (pc := 2) rfl rfl rfl hI rfl (fun g1a g1b => ?_)
  refine zr_i1 (x := zv_i h 26) (t := 12) (pc := 5) rfl rfl (by omega) (by omega) (fun (c2 : ¬ (zv_i h 26) = 0) => ?_) (fun (c2 : ¬ (¬ (zv_i h 26) = 0)) => ?_)
  · refine zx_T.l (i := .aload_n 0) (k := 1) (v := .ref 44) (pc := 12) rfl rfl rfl ?_
    refine zr_gi (e := zv_i h 26) (pc := 13) rfl rfl rfl hI rfl (fun g3a g3b => ?_)
    refine zr_pi (e := zv_i h 26) (pc := 16) rfl rfl rfl rfl rfl rfl hI (by omega) (by omega) (fun h4 ih4 w5 e6 => ?_)
    have y7 : zv_i h4 26 = zv_i h 26 := e6
    exact zr_vr (pc := 19) rfl rfl ⟨ih4, (w5.wd rfl : zb_W [(44, 26)] h _), rfl, by dsimp only; omega⟩
  · refine zx_T.l (i := .iload_n 1) (k := 1) (v := .int (zI (w))) (pc := 8) rfl rfl rfl ?_
    refine zx_T.j (i := .goto 7) (k := 3) (pc' := 16) (st' := [.int (zI (w)), .ref 44]) (pc := 9) rfl rfl rfl rfl rfl ?_
    refine zr_pi (e := w) (pc := 16) rfl rfl rfl rfl rfl rfl hI (by omega) (by omega) (fun h8 ih8 w9 e10 => ?_)
    have y11 : zv_i h8 26 = w := e10
    exact zr_vr (pc := 19) rfl rfl ⟨ih8, (w9.wd rfl : zb_W [(44, 26)] h _), rfl, by dsimp only; omega⟩
end
section
theorem i_vc : Claimed_1_1 ∧ Claimed_1_2 := sorry
end
